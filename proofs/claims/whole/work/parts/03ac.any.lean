set_option maxHeartbeats 40000000 in
set_option maxRecDepth 100000 in
theorem g_X13_isPlain (l : Launch) (hlt : l.stackTraces = false) (dC : Nat → ClassId) (dI : Nat → Nat → Nat) (v0 : Int32) (sz : Nat) : Met l yX13_isPlain ow_g_X13_isPlain ({ frames := 1, cells := 0, slots := 0, locals := 20 }) (va_Pc [.int v0] (fun U => U.heap.size = sz ∧ va_P (dC, dI) vwCl [] U.heap ∧ va_K (dC, dI) vwCl [] U ∧ va_D (fun _ => True) [] ∧ nv_E (va_A [] sz) U)) (va_Qi (fun r _ => ((v0 < 48) ∧ (v0 < 97) ∧ (v0 < 65) ∧ (v0 = 95) ∧ r = 1) ∨ ((v0 < 48) ∧ (v0 < 97) ∧ (v0 < 65) ∧ (¬ v0 = 95) ∧ (v0 = 46) ∧ r = 1) ∨ ((v0 < 48) ∧ (v0 < 97) ∧ (v0 < 65) ∧ (¬ v0 = 95) ∧ (¬ v0 = 46) ∧ (¬ v0 = 36) ∧ r = 0) ∨ ((v0 < 48) ∧ (v0 < 97) ∧ (v0 < 65) ∧ (¬ v0 = 95) ∧ (¬ v0 = 46) ∧ (v0 = 36) ∧ r = 1) ∨ ((¬ v0 < 48) ∧ (57 < v0) ∧ (v0 < 97) ∧ (v0 < 65) ∧ (v0 = 95) ∧ r = 1) ∨ ((¬ v0 < 48) ∧ (57 < v0) ∧ (v0 < 97) ∧ (v0 < 65) ∧ (¬ v0 = 95) ∧ (v0 = 46) ∧ r = 1) ∨ ((¬ v0 < 48) ∧ (57 < v0) ∧ (v0 < 97) ∧ (v0 < 65) ∧ (¬ v0 = 95) ∧ (¬ v0 = 46) ∧ (¬ v0 = 36) ∧ r = 0) ∨ ((¬ v0 < 48) ∧ (57 < v0) ∧ (v0 < 97) ∧ (v0 < 65) ∧ (¬ v0 = 95) ∧ (¬ v0 = 46) ∧ (v0 = 36) ∧ r = 1) ∨ ((¬ v0 < 48) ∧ (57 < v0) ∧ (v0 < 97) ∧ (¬ v0 < 65) ∧ (90 < v0) ∧ (v0 = 95) ∧ r = 1) ∨ ((¬ v0 < 48) ∧ (57 < v0) ∧ (v0 < 97) ∧ (¬ v0 < 65) ∧ (90 < v0) ∧ (¬ v0 = 95) ∧ (v0 = 46) ∧ r = 1) ∨ ((¬ v0 < 48) ∧ (57 < v0) ∧ (v0 < 97) ∧ (¬ v0 < 65) ∧ (90 < v0) ∧ (¬ v0 = 95) ∧ (¬ v0 = 46) ∧ (¬ v0 = 36) ∧ r = 0) ∨ ((¬ v0 < 48) ∧ (57 < v0) ∧ (v0 < 97) ∧ (¬ v0 < 65) ∧ (90 < v0) ∧ (¬ v0 = 95) ∧ (¬ v0 = 46) ∧ (v0 = 36) ∧ r = 1) ∨ ((¬ v0 < 48) ∧ (57 < v0) ∧ (v0 < 97) ∧ (¬ v0 < 65) ∧ (¬ 90 < v0) ∧ r = 1) ∨ ((¬ v0 < 48) ∧ (57 < v0) ∧ (¬ v0 < 97) ∧ (v0 ≤ 122) ∧ r = 1) ∨ ((¬ v0 < 48) ∧ (57 < v0) ∧ (¬ v0 < 97) ∧ (¬ v0 ≤ 122) ∧ (¬ v0 < 65) ∧ (90 < v0) ∧ (v0 = 95) ∧ r = 1) ∨ ((¬ v0 < 48) ∧ (57 < v0) ∧ (¬ v0 < 97) ∧ (¬ v0 ≤ 122) ∧ (¬ v0 < 65) ∧ (90 < v0) ∧ (¬ v0 = 95) ∧ (v0 = 46) ∧ r = 1) ∨ ((¬ v0 < 48) ∧ (57 < v0) ∧ (¬ v0 < 97) ∧ (¬ v0 ≤ 122) ∧ (¬ v0 < 65) ∧ (90 < v0) ∧ (¬ v0 = 95) ∧ (¬ v0 = 46) ∧ (¬ v0 = 36) ∧ r = 0) ∨ ((¬ v0 < 48) ∧ (57 < v0) ∧ (¬ v0 < 97) ∧ (¬ v0 ≤ 122) ∧ (¬ v0 < 65) ∧ (90 < v0) ∧ (¬ v0 = 95) ∧ (¬ v0 = 46) ∧ (v0 = 36) ∧ r = 1) ∨ ((¬ v0 < 48) ∧ (¬ 57 < v0) ∧ r = 1) ∨ False) (fun (_ : Unit) t => va_P (dC, dI) vwCl [] t.heap ∧ va_K (dC, dI) vwCl [] t ∧ va_D (va_A [] sz) []) (va_A [] sz)) 0 0 (va_A [] sz) := by
  refine Met.ofW (cc := cX13_isPlain) (maxL := 1) (ret := (some .boolean)) (by decide) rfl ?_
  intro p e s m args below meth c s₁ B hml hv
  obtain ⟨rfl, hsz, hP, hK, hD0, hN⟩ := hv
  have hx := B.exec
  have hb := B.bytes
  have hr := B.returns
  have hts := atoms_spec (ws := ow_g_X13_isPlain) B.pre
  have hown : s.vm.findClass RX13 = some m.cls := findClass_of_methodNamed B.named
  have hlocks := B.notSynchronized
  subst hsz
  have hD := hD0.self (sz := s.heap.size)
  generalize hAe : va_A [] s.heap.size = A at hD hN ⊢
  have hA : ∀ q : Nat, s.heap.size ≤ q → A q := fun q h => by rw [← hAe]; exact Or.inr h
  have hS : va_S A s.heap s.heap [] := va_S.rf
  have hl := lv_entry ([.int v0]) (n := 1) (Nat.le_of_ble_eq_true rfl)
  rw [lg_entry_eq]
  generalize (lg_sl ([.int v0]) ++ List.replicate (1 - (lg_sl ([.int v0])).length) Slot.unset).toArray = ls at hl ⊢
  have hl : lv_has ls 1 [(0, .int v0)] := hl
  refine lv_iload_n hx hb dX13_isPlain_0 rfl (lv_at hl 0 rfl) ?_
  have hPc := hP.sub (ws' := []) [] rfl
  have hDc := hD.sub (ws' := []) [] (by decide) rfl
  have hKc := hK.sub (tys' := []) [] rfl
  have hFc := va_free (wc := []) hD hS hA [] rfl
  refine va_calli (va_runS (As := [.int v0]) (rest := []) ⟨hx, hb, hml, hown, hts⟩ (k_X13_isDigit l hlt dC dI v0  s.heap.size) (cwS 1 hts gi_g_X13_isPlain_0 rfl rfl rfl (by decide +kernel) ⟨Nat.le_of_ble_eq_true rfl, Nat.le_of_ble_eq_true rfl⟩) ⟨fun a U g mk q => by obtain ⟨q0, q1, qP, qK, qD, qN⟩ := q; exact ⟨q0, q1, qP, va_K.moved (u := U) (U := U.calling g mk a) (Vm.Alike.refl U.vm) qK, qD, nv_same rfl rfl qN⟩, fun U hU hW => ⟨rfl, by rw [hU], by rw [hU]; exact hPc, va_K.moved hW.alike hKc, hDc.weaken (fun _ _ _ _ => trivial), nv_call hS hFc hU hW hN⟩⟩ rfl rfl hl.1 rfl (lv_room (Nat.le_of_ble_eq_true rfl)) dX13_isPlain_1 ⟨by decide +kernel, by decide +kernel⟩) hS (fun q _ h => hFc q h) hFc (fun r1 u t H1 locs ht hvm hw hB hz1 hk1 hS => ?_)
  obtain ⟨hP1, hK1, hD1⟩ := hB
  rw [ht] at hP1
  have hK1 := va_K.moved hvm.symm hK1
  obtain ⟨hP, hD⟩ := va_join (wr := []) (w1 := []) hP hD [] [] rfl rfl (by decide) (by decide) hk1 hFc hP1 hD1
  have hK := (hK.sub (tys' := []) [] rfl).app hK1
  generalize H1 = H at hP hS ⊢
  have hP : va_P (dC, dI) vwCl [] H := hP
  have hD : va_D A [] := hD
  have hK : va_K (dC, dI) vwCl [] s := hK
  refine W.widen (k := 0) (n := 0) (by decide +kernel) (by decide +kernel) ?_
  rcases hw with ⟨c_1_0, h9⟩ | ⟨c_1_0, c_1_1, h9⟩ | ⟨c_1_0, c_1_1, h9⟩ | h9
  · subst h9
    refine lv_if_ne (tgt := 32) hx hb dX13_isPlain_4 (by decide) (fun h9 => absurd h9 (by decide)) (fun _ => ?_)
    refine lv_iload_n hx hb dX13_isPlain_7 rfl (lv_at hl 0 rfl) ?_
    have hPc := hP.sub (ws' := []) [] rfl
    have hDc := hD.sub (ws' := []) [] (by decide) rfl
    have hKc := hK.sub (tys' := []) [] rfl
    have hFc := va_free (wc := []) hD hS hA [] rfl
    refine va_calli (va_runS (As := [.int v0]) (rest := []) ⟨hx, hb, hml, hown, hts⟩ (k_X13_isLetter l hlt dC dI v0  H.size) (cwS 1 hts gi_g_X13_isPlain_1 rfl rfl rfl (by decide +kernel) ⟨Nat.le_of_ble_eq_true rfl, Nat.le_of_ble_eq_true rfl⟩) ⟨fun a U g mk q => by obtain ⟨q0, q1, qP, qK, qD, qN⟩ := q; exact ⟨q0, q1, qP, va_K.moved (u := U) (U := U.calling g mk a) (Vm.Alike.refl U.vm) qK, qD, nv_same rfl rfl qN⟩, fun U hU hW => ⟨rfl, by rw [hU], by rw [hU]; exact hPc, va_K.moved hW.alike hKc, hDc.weaken (fun _ _ _ _ => trivial), nv_call hS hFc hU hW hN⟩⟩ rfl rfl hl.1 rfl (lv_room (Nat.le_of_ble_eq_true rfl)) dX13_isPlain_8 ⟨by decide +kernel, by decide +kernel⟩) hS (fun q _ h => hFc q h) hFc (fun r2 u t H1 locs ht hvm hw hB hz1 hk1 hS => ?_)
    obtain ⟨hP1, hK1, hD1⟩ := hB
    rw [ht] at hP1
    have hK1 := va_K.moved hvm.symm hK1
    obtain ⟨hP, hD⟩ := va_join (wr := []) (w1 := []) hP hD [] [] rfl rfl (by decide) (by decide) hk1 hFc hP1 hD1
    have hK := (hK.sub (tys' := []) [] rfl).app hK1
    generalize H1 = H at hP hS ⊢
    have hP : va_P (dC, dI) vwCl [] H := hP
    have hD : va_D A [] := hD
    have hK : va_K (dC, dI) vwCl [] s := hK
    refine W.widen (k := 0) (n := 0) (by decide +kernel) (by decide +kernel) ?_
    rcases hw with ⟨c_2_0, c_2_1, h9⟩ | ⟨c_2_0, c_2_1, c_2_2, h9⟩ | ⟨c_2_0, c_2_1, c_2_2, h9⟩ | ⟨c_2_0, c_2_1, h9⟩ | ⟨c_2_0, c_2_1, c_2_2, h9⟩ | ⟨c_2_0, c_2_1, c_2_2, c_2_3, h9⟩ | ⟨c_2_0, c_2_1, c_2_2, c_2_3, h9⟩ | h9
    · subst h9
      refine lv_if_ne (tgt := 32) hx hb dX13_isPlain_11 (by decide) (fun h9 => absurd h9 (by decide)) (fun _ => ?_)
      refine lv_iload_n hx hb dX13_isPlain_14 rfl (lv_at hl 0 rfl) ?_
      refine lv_bipush (v := 95) hx hb dX13_isPlain_15 (by decide) ?_
      refine lv_icmp_eq (tgt := 32) hx hb dX13_isPlain_17 (by decide) (fun c_3 => ?_) (fun c_3 => ?_)
      · refine lv_iconst (v := 1) hx hb dX13_isPlain_32 (by decide) ?_
        refine lv_goto (tgt := 37) hx hb dX13_isPlain_33 (by decide) ?_
        refine W.widen (k := 0) (n := 0) (by decide +kernel) (by decide +kernel) ?_
        exact W.zret (v := 1) hx hb hr (by first | rfl | decide) (fun t ht hW => ⟨⟨1, (), rfl, Or.inl ⟨c_1_0, c_2_0, c_2_1, c_3, rfl⟩, by rw [ht]; exact hP, va_K.moved hW.alike hK, hD⟩, hS.F ht⟩) hS.2.2 dX13_isPlain_37
      · refine lv_iload_n hx hb dX13_isPlain_20 rfl (lv_at hl 0 rfl) ?_
        refine lv_bipush (v := 46) hx hb dX13_isPlain_21 (by decide) ?_
        refine lv_icmp_eq (tgt := 32) hx hb dX13_isPlain_23 (by decide) (fun c_4 => ?_) (fun c_4 => ?_)
        · refine lv_iconst (v := 1) hx hb dX13_isPlain_32 (by decide) ?_
          refine lv_goto (tgt := 37) hx hb dX13_isPlain_33 (by decide) ?_
          refine W.widen (k := 0) (n := 0) (by decide +kernel) (by decide +kernel) ?_
          exact W.zret (v := 1) hx hb hr (by first | rfl | decide) (fun t ht hW => ⟨⟨1, (), rfl, Or.inr (Or.inl ⟨c_1_0, c_2_0, c_2_1, c_3, c_4, rfl⟩), by rw [ht]; exact hP, va_K.moved hW.alike hK, hD⟩, hS.F ht⟩) hS.2.2 dX13_isPlain_37
        · refine lv_iload_n hx hb dX13_isPlain_26 rfl (lv_at hl 0 rfl) ?_
          refine lv_bipush (v := 36) hx hb dX13_isPlain_27 (by decide) ?_
          refine lv_icmp_ne (tgt := 36) hx hb dX13_isPlain_29 (by decide) (fun c_5 => ?_) (fun c_5 => ?_)
          · refine lv_iconst (v := 0) hx hb dX13_isPlain_36 (by decide) ?_
            refine W.widen (k := 0) (n := 0) (by decide +kernel) (by decide +kernel) ?_
            exact W.zret (v := 0) hx hb hr (by first | rfl | decide) (fun t ht hW => ⟨⟨0, (), rfl, Or.inr (Or.inr (Or.inl ⟨c_1_0, c_2_0, c_2_1, c_3, c_4, c_5, rfl⟩)), by rw [ht]; exact hP, va_K.moved hW.alike hK, hD⟩, hS.F ht⟩) hS.2.2 dX13_isPlain_37
          · refine lv_iconst (v := 1) hx hb dX13_isPlain_32 (by decide) ?_
            refine lv_goto (tgt := 37) hx hb dX13_isPlain_33 (by decide) ?_
            refine W.widen (k := 0) (n := 0) (by decide +kernel) (by decide +kernel) ?_
            exact W.zret (v := 1) hx hb hr (by first | rfl | decide) (fun t ht hW => ⟨⟨1, (), rfl, Or.inr (Or.inr (Or.inr (Or.inl ⟨c_1_0, c_2_0, c_2_1, c_3, c_4, c_5, rfl⟩))), by rw [ht]; exact hP, va_K.moved hW.alike hK, hD⟩, hS.F ht⟩) hS.2.2 dX13_isPlain_37
    · exact (cz_0 v0 c_1_0 c_2_0 c_2_1 c_2_2).elim
    · exact (cz_1 v0 c_1_0 c_2_0 c_2_1 c_2_2).elim
    · exact (cz_2 v0 c_1_0 c_2_0 c_2_1).elim
    · exact (cz_3 v0 c_1_0 c_2_0 c_2_1 c_2_2).elim
    · exact (cz_4 v0 c_1_0 c_2_0 c_2_1 c_2_2 c_2_3).elim
    · exact (cz_5 v0 c_1_0 c_2_0 c_2_1 c_2_2 c_2_3).elim
    · exact h9.elim
  · subst h9
    refine lv_if_ne (tgt := 32) hx hb dX13_isPlain_4 (by decide) (fun h9 => absurd h9 (by decide)) (fun _ => ?_)
    refine lv_iload_n hx hb dX13_isPlain_7 rfl (lv_at hl 0 rfl) ?_
    have hPc := hP.sub (ws' := []) [] rfl
    have hDc := hD.sub (ws' := []) [] (by decide) rfl
    have hKc := hK.sub (tys' := []) [] rfl
    have hFc := va_free (wc := []) hD hS hA [] rfl
    refine va_calli (va_runS (As := [.int v0]) (rest := []) ⟨hx, hb, hml, hown, hts⟩ (k_X13_isLetter l hlt dC dI v0  H.size) (cwS 1 hts gi_g_X13_isPlain_1 rfl rfl rfl (by decide +kernel) ⟨Nat.le_of_ble_eq_true rfl, Nat.le_of_ble_eq_true rfl⟩) ⟨fun a U g mk q => by obtain ⟨q0, q1, qP, qK, qD, qN⟩ := q; exact ⟨q0, q1, qP, va_K.moved (u := U) (U := U.calling g mk a) (Vm.Alike.refl U.vm) qK, qD, nv_same rfl rfl qN⟩, fun U hU hW => ⟨rfl, by rw [hU], by rw [hU]; exact hPc, va_K.moved hW.alike hKc, hDc.weaken (fun _ _ _ _ => trivial), nv_call hS hFc hU hW hN⟩⟩ rfl rfl hl.1 rfl (lv_room (Nat.le_of_ble_eq_true rfl)) dX13_isPlain_8 ⟨by decide +kernel, by decide +kernel⟩) hS (fun q _ h => hFc q h) hFc (fun r3 u t H1 locs ht hvm hw hB hz1 hk1 hS => ?_)
    obtain ⟨hP1, hK1, hD1⟩ := hB
    rw [ht] at hP1
    have hK1 := va_K.moved hvm.symm hK1
    obtain ⟨hP, hD⟩ := va_join (wr := []) (w1 := []) hP hD [] [] rfl rfl (by decide) (by decide) hk1 hFc hP1 hD1
    have hK := (hK.sub (tys' := []) [] rfl).app hK1
    generalize H1 = H at hP hS ⊢
    have hP : va_P (dC, dI) vwCl [] H := hP
    have hD : va_D A [] := hD
    have hK : va_K (dC, dI) vwCl [] s := hK
    refine W.widen (k := 0) (n := 0) (by decide +kernel) (by decide +kernel) ?_
    rcases hw with ⟨c_6_0, c_6_1, h9⟩ | ⟨c_6_0, c_6_1, c_6_2, h9⟩ | ⟨c_6_0, c_6_1, c_6_2, h9⟩ | ⟨c_6_0, c_6_1, h9⟩ | ⟨c_6_0, c_6_1, c_6_2, h9⟩ | ⟨c_6_0, c_6_1, c_6_2, c_6_3, h9⟩ | ⟨c_6_0, c_6_1, c_6_2, c_6_3, h9⟩ | h9
    · subst h9
      refine lv_if_ne (tgt := 32) hx hb dX13_isPlain_11 (by decide) (fun h9 => absurd h9 (by decide)) (fun _ => ?_)
      refine lv_iload_n hx hb dX13_isPlain_14 rfl (lv_at hl 0 rfl) ?_
      refine lv_bipush (v := 95) hx hb dX13_isPlain_15 (by decide) ?_
      refine lv_icmp_eq (tgt := 32) hx hb dX13_isPlain_17 (by decide) (fun c_7 => ?_) (fun c_7 => ?_)
      · refine lv_iconst (v := 1) hx hb dX13_isPlain_32 (by decide) ?_
        refine lv_goto (tgt := 37) hx hb dX13_isPlain_33 (by decide) ?_
        refine W.widen (k := 0) (n := 0) (by decide +kernel) (by decide +kernel) ?_
        exact W.zret (v := 1) hx hb hr (by first | rfl | decide) (fun t ht hW => ⟨⟨1, (), rfl, Or.inr (Or.inr (Or.inr (Or.inr (Or.inl ⟨c_1_0, c_1_1, c_6_0, c_6_1, c_7, rfl⟩)))), by rw [ht]; exact hP, va_K.moved hW.alike hK, hD⟩, hS.F ht⟩) hS.2.2 dX13_isPlain_37
      · refine lv_iload_n hx hb dX13_isPlain_20 rfl (lv_at hl 0 rfl) ?_
        refine lv_bipush (v := 46) hx hb dX13_isPlain_21 (by decide) ?_
        refine lv_icmp_eq (tgt := 32) hx hb dX13_isPlain_23 (by decide) (fun c_8 => ?_) (fun c_8 => ?_)
        · refine lv_iconst (v := 1) hx hb dX13_isPlain_32 (by decide) ?_
          refine lv_goto (tgt := 37) hx hb dX13_isPlain_33 (by decide) ?_
          refine W.widen (k := 0) (n := 0) (by decide +kernel) (by decide +kernel) ?_
          exact W.zret (v := 1) hx hb hr (by first | rfl | decide) (fun t ht hW => ⟨⟨1, (), rfl, Or.inr (Or.inr (Or.inr (Or.inr (Or.inr (Or.inl ⟨c_1_0, c_1_1, c_6_0, c_6_1, c_7, c_8, rfl⟩))))), by rw [ht]; exact hP, va_K.moved hW.alike hK, hD⟩, hS.F ht⟩) hS.2.2 dX13_isPlain_37
        · refine lv_iload_n hx hb dX13_isPlain_26 rfl (lv_at hl 0 rfl) ?_
          refine lv_bipush (v := 36) hx hb dX13_isPlain_27 (by decide) ?_
          refine lv_icmp_ne (tgt := 36) hx hb dX13_isPlain_29 (by decide) (fun c_9 => ?_) (fun c_9 => ?_)
          · refine lv_iconst (v := 0) hx hb dX13_isPlain_36 (by decide) ?_
            refine W.widen (k := 0) (n := 0) (by decide +kernel) (by decide +kernel) ?_
            exact W.zret (v := 0) hx hb hr (by first | rfl | decide) (fun t ht hW => ⟨⟨0, (), rfl, Or.inr (Or.inr (Or.inr (Or.inr (Or.inr (Or.inr (Or.inl ⟨c_1_0, c_1_1, c_6_0, c_6_1, c_7, c_8, c_9, rfl⟩)))))), by rw [ht]; exact hP, va_K.moved hW.alike hK, hD⟩, hS.F ht⟩) hS.2.2 dX13_isPlain_37
          · refine lv_iconst (v := 1) hx hb dX13_isPlain_32 (by decide) ?_
            refine lv_goto (tgt := 37) hx hb dX13_isPlain_33 (by decide) ?_
            refine W.widen (k := 0) (n := 0) (by decide +kernel) (by decide +kernel) ?_
            exact W.zret (v := 1) hx hb hr (by first | rfl | decide) (fun t ht hW => ⟨⟨1, (), rfl, Or.inr (Or.inr (Or.inr (Or.inr (Or.inr (Or.inr (Or.inr (Or.inl ⟨c_1_0, c_1_1, c_6_0, c_6_1, c_7, c_8, c_9, rfl⟩))))))), by rw [ht]; exact hP, va_K.moved hW.alike hK, hD⟩, hS.F ht⟩) hS.2.2 dX13_isPlain_37
    · subst h9
      refine lv_if_ne (tgt := 32) hx hb dX13_isPlain_11 (by decide) (fun h9 => absurd h9 (by decide)) (fun _ => ?_)
      refine lv_iload_n hx hb dX13_isPlain_14 rfl (lv_at hl 0 rfl) ?_
      refine lv_bipush (v := 95) hx hb dX13_isPlain_15 (by decide) ?_
      refine lv_icmp_eq (tgt := 32) hx hb dX13_isPlain_17 (by decide) (fun c_10 => ?_) (fun c_10 => ?_)
      · refine lv_iconst (v := 1) hx hb dX13_isPlain_32 (by decide) ?_
        refine lv_goto (tgt := 37) hx hb dX13_isPlain_33 (by decide) ?_
        refine W.widen (k := 0) (n := 0) (by decide +kernel) (by decide +kernel) ?_
        exact W.zret (v := 1) hx hb hr (by first | rfl | decide) (fun t ht hW => ⟨⟨1, (), rfl, Or.inr (Or.inr (Or.inr (Or.inr (Or.inr (Or.inr (Or.inr (Or.inr (Or.inl ⟨c_1_0, c_1_1, c_6_0, c_6_1, c_6_2, c_10, rfl⟩)))))))), by rw [ht]; exact hP, va_K.moved hW.alike hK, hD⟩, hS.F ht⟩) hS.2.2 dX13_isPlain_37
      · refine lv_iload_n hx hb dX13_isPlain_20 rfl (lv_at hl 0 rfl) ?_
        refine lv_bipush (v := 46) hx hb dX13_isPlain_21 (by decide) ?_
        refine lv_icmp_eq (tgt := 32) hx hb dX13_isPlain_23 (by decide) (fun c_11 => ?_) (fun c_11 => ?_)
        · refine lv_iconst (v := 1) hx hb dX13_isPlain_32 (by decide) ?_
          refine lv_goto (tgt := 37) hx hb dX13_isPlain_33 (by decide) ?_
          refine W.widen (k := 0) (n := 0) (by decide +kernel) (by decide +kernel) ?_
          exact W.zret (v := 1) hx hb hr (by first | rfl | decide) (fun t ht hW => ⟨⟨1, (), rfl, Or.inr (Or.inr (Or.inr (Or.inr (Or.inr (Or.inr (Or.inr (Or.inr (Or.inr (Or.inl ⟨c_1_0, c_1_1, c_6_0, c_6_1, c_6_2, c_10, c_11, rfl⟩))))))))), by rw [ht]; exact hP, va_K.moved hW.alike hK, hD⟩, hS.F ht⟩) hS.2.2 dX13_isPlain_37
        · refine lv_iload_n hx hb dX13_isPlain_26 rfl (lv_at hl 0 rfl) ?_
          refine lv_bipush (v := 36) hx hb dX13_isPlain_27 (by decide) ?_
          refine lv_icmp_ne (tgt := 36) hx hb dX13_isPlain_29 (by decide) (fun c_12 => ?_) (fun c_12 => ?_)
          · refine lv_iconst (v := 0) hx hb dX13_isPlain_36 (by decide) ?_
            refine W.widen (k := 0) (n := 0) (by decide +kernel) (by decide +kernel) ?_
            exact W.zret (v := 0) hx hb hr (by first | rfl | decide) (fun t ht hW => ⟨⟨0, (), rfl, Or.inr (Or.inr (Or.inr (Or.inr (Or.inr (Or.inr (Or.inr (Or.inr (Or.inr (Or.inr (Or.inl ⟨c_1_0, c_1_1, c_6_0, c_6_1, c_6_2, c_10, c_11, c_12, rfl⟩)))))))))), by rw [ht]; exact hP, va_K.moved hW.alike hK, hD⟩, hS.F ht⟩) hS.2.2 dX13_isPlain_37
          · refine lv_iconst (v := 1) hx hb dX13_isPlain_32 (by decide) ?_
            refine lv_goto (tgt := 37) hx hb dX13_isPlain_33 (by decide) ?_
            refine W.widen (k := 0) (n := 0) (by decide +kernel) (by decide +kernel) ?_
            exact W.zret (v := 1) hx hb hr (by first | rfl | decide) (fun t ht hW => ⟨⟨1, (), rfl, Or.inr (Or.inr (Or.inr (Or.inr (Or.inr (Or.inr (Or.inr (Or.inr (Or.inr (Or.inr (Or.inr (Or.inl ⟨c_1_0, c_1_1, c_6_0, c_6_1, c_6_2, c_10, c_11, c_12, rfl⟩))))))))))), by rw [ht]; exact hP, va_K.moved hW.alike hK, hD⟩, hS.F ht⟩) hS.2.2 dX13_isPlain_37
    · subst h9
      refine lv_if_ne (tgt := 32) hx hb dX13_isPlain_11 (by decide) (fun _ => ?_) (fun h9 => absurd h9 (by decide))
      refine lv_iconst (v := 1) hx hb dX13_isPlain_32 (by decide) ?_
      refine lv_goto (tgt := 37) hx hb dX13_isPlain_33 (by decide) ?_
      refine W.widen (k := 0) (n := 0) (by decide +kernel) (by decide +kernel) ?_
      exact W.zret (v := 1) hx hb hr (by first | rfl | decide) (fun t ht hW => ⟨⟨1, (), rfl, Or.inr (Or.inr (Or.inr (Or.inr (Or.inr (Or.inr (Or.inr (Or.inr (Or.inr (Or.inr (Or.inr (Or.inr (Or.inl ⟨c_1_0, c_1_1, c_6_0, c_6_1, c_6_2, rfl⟩)))))))))))), by rw [ht]; exact hP, va_K.moved hW.alike hK, hD⟩, hS.F ht⟩) hS.2.2 dX13_isPlain_37
    · subst h9
      refine lv_if_ne (tgt := 32) hx hb dX13_isPlain_11 (by decide) (fun _ => ?_) (fun h9 => absurd h9 (by decide))
      refine lv_iconst (v := 1) hx hb dX13_isPlain_32 (by decide) ?_
      refine lv_goto (tgt := 37) hx hb dX13_isPlain_33 (by decide) ?_
      refine W.widen (k := 0) (n := 0) (by decide +kernel) (by decide +kernel) ?_
      exact W.zret (v := 1) hx hb hr (by first | rfl | decide) (fun t ht hW => ⟨⟨1, (), rfl, Or.inr (Or.inr (Or.inr (Or.inr (Or.inr (Or.inr (Or.inr (Or.inr (Or.inr (Or.inr (Or.inr (Or.inr (Or.inr (Or.inl ⟨c_1_0, c_1_1, c_6_0, c_6_1, rfl⟩))))))))))))), by rw [ht]; exact hP, va_K.moved hW.alike hK, hD⟩, hS.F ht⟩) hS.2.2 dX13_isPlain_37
    · exact (cz_6 v0 c_1_0 c_1_1 c_6_0 c_6_1 c_6_2).elim
    · subst h9
      refine lv_if_ne (tgt := 32) hx hb dX13_isPlain_11 (by decide) (fun h9 => absurd h9 (by decide)) (fun _ => ?_)
      refine lv_iload_n hx hb dX13_isPlain_14 rfl (lv_at hl 0 rfl) ?_
      refine lv_bipush (v := 95) hx hb dX13_isPlain_15 (by decide) ?_
      refine lv_icmp_eq (tgt := 32) hx hb dX13_isPlain_17 (by decide) (fun c_13 => ?_) (fun c_13 => ?_)
      · refine lv_iconst (v := 1) hx hb dX13_isPlain_32 (by decide) ?_
        refine lv_goto (tgt := 37) hx hb dX13_isPlain_33 (by decide) ?_
        refine W.widen (k := 0) (n := 0) (by decide +kernel) (by decide +kernel) ?_
        exact W.zret (v := 1) hx hb hr (by first | rfl | decide) (fun t ht hW => ⟨⟨1, (), rfl, Or.inr (Or.inr (Or.inr (Or.inr (Or.inr (Or.inr (Or.inr (Or.inr (Or.inr (Or.inr (Or.inr (Or.inr (Or.inr (Or.inr (Or.inl ⟨c_1_0, c_1_1, c_6_0, c_6_1, c_6_2, c_6_3, c_13, rfl⟩)))))))))))))), by rw [ht]; exact hP, va_K.moved hW.alike hK, hD⟩, hS.F ht⟩) hS.2.2 dX13_isPlain_37
      · refine lv_iload_n hx hb dX13_isPlain_20 rfl (lv_at hl 0 rfl) ?_
        refine lv_bipush (v := 46) hx hb dX13_isPlain_21 (by decide) ?_
        refine lv_icmp_eq (tgt := 32) hx hb dX13_isPlain_23 (by decide) (fun c_14 => ?_) (fun c_14 => ?_)
        · refine lv_iconst (v := 1) hx hb dX13_isPlain_32 (by decide) ?_
          refine lv_goto (tgt := 37) hx hb dX13_isPlain_33 (by decide) ?_
          refine W.widen (k := 0) (n := 0) (by decide +kernel) (by decide +kernel) ?_
          exact W.zret (v := 1) hx hb hr (by first | rfl | decide) (fun t ht hW => ⟨⟨1, (), rfl, Or.inr (Or.inr (Or.inr (Or.inr (Or.inr (Or.inr (Or.inr (Or.inr (Or.inr (Or.inr (Or.inr (Or.inr (Or.inr (Or.inr (Or.inr (Or.inl ⟨c_1_0, c_1_1, c_6_0, c_6_1, c_6_2, c_6_3, c_13, c_14, rfl⟩))))))))))))))), by rw [ht]; exact hP, va_K.moved hW.alike hK, hD⟩, hS.F ht⟩) hS.2.2 dX13_isPlain_37
        · refine lv_iload_n hx hb dX13_isPlain_26 rfl (lv_at hl 0 rfl) ?_
          refine lv_bipush (v := 36) hx hb dX13_isPlain_27 (by decide) ?_
          refine lv_icmp_ne (tgt := 36) hx hb dX13_isPlain_29 (by decide) (fun c_15 => ?_) (fun c_15 => ?_)
          · refine lv_iconst (v := 0) hx hb dX13_isPlain_36 (by decide) ?_
            refine W.widen (k := 0) (n := 0) (by decide +kernel) (by decide +kernel) ?_
            exact W.zret (v := 0) hx hb hr (by first | rfl | decide) (fun t ht hW => ⟨⟨0, (), rfl, Or.inr (Or.inr (Or.inr (Or.inr (Or.inr (Or.inr (Or.inr (Or.inr (Or.inr (Or.inr (Or.inr (Or.inr (Or.inr (Or.inr (Or.inr (Or.inr (Or.inl ⟨c_1_0, c_1_1, c_6_0, c_6_1, c_6_2, c_6_3, c_13, c_14, c_15, rfl⟩)))))))))))))))), by rw [ht]; exact hP, va_K.moved hW.alike hK, hD⟩, hS.F ht⟩) hS.2.2 dX13_isPlain_37
          · refine lv_iconst (v := 1) hx hb dX13_isPlain_32 (by decide) ?_
            refine lv_goto (tgt := 37) hx hb dX13_isPlain_33 (by decide) ?_
            refine W.widen (k := 0) (n := 0) (by decide +kernel) (by decide +kernel) ?_
            exact W.zret (v := 1) hx hb hr (by first | rfl | decide) (fun t ht hW => ⟨⟨1, (), rfl, Or.inr (Or.inr (Or.inr (Or.inr (Or.inr (Or.inr (Or.inr (Or.inr (Or.inr (Or.inr (Or.inr (Or.inr (Or.inr (Or.inr (Or.inr (Or.inr (Or.inr (Or.inl ⟨c_1_0, c_1_1, c_6_0, c_6_1, c_6_2, c_6_3, c_13, c_14, c_15, rfl⟩))))))))))))))))), by rw [ht]; exact hP, va_K.moved hW.alike hK, hD⟩, hS.F ht⟩) hS.2.2 dX13_isPlain_37
    · exact (cz_7 v0 c_1_0 c_1_1 c_6_0 c_6_1 c_6_2 c_6_3).elim
    · exact h9.elim
  · subst h9
    refine lv_if_ne (tgt := 32) hx hb dX13_isPlain_4 (by decide) (fun _ => ?_) (fun h9 => absurd h9 (by decide))
    refine lv_iconst (v := 1) hx hb dX13_isPlain_32 (by decide) ?_
    refine lv_goto (tgt := 37) hx hb dX13_isPlain_33 (by decide) ?_
    refine W.widen (k := 0) (n := 0) (by decide +kernel) (by decide +kernel) ?_
    exact W.zret (v := 1) hx hb hr (by first | rfl | decide) (fun t ht hW => ⟨⟨1, (), rfl, Or.inr (Or.inr (Or.inr (Or.inr (Or.inr (Or.inr (Or.inr (Or.inr (Or.inr (Or.inr (Or.inr (Or.inr (Or.inr (Or.inr (Or.inr (Or.inr (Or.inr (Or.inr (Or.inl ⟨c_1_0, c_1_1, rfl⟩)))))))))))))))))), by rw [ht]; exact hP, va_K.moved hW.alike hK, hD⟩, hS.F ht⟩) hS.2.2 dX13_isPlain_37
  · exact h9.elim
def ow_g_X13_worth : List Cond := .code yX13_worth cX13_worth 1 (some .int) :: ([.methodLink RX13 351 yX13_isDigit, .static yX13_isDigit, .initialized RX13] ++ (ow_k_X13_isDigit ++ []))
theorem gd_g_X13_worth : ∀ w ∈ ow_g_X13_worth, (w.onTables && w.keeps) = true ∨ ∃ ty, w = Cond.arrayClass ty := List.forall_mem_cons.mpr ⟨good_of_word rfl, List.forall_mem_append.mpr ⟨fun w h => good_of_word (List.all_eq_true.mp (by decide +kernel) w h), List.forall_mem_append.mpr ⟨gd_k_X13_isDigit, fun _ h => nomatch h⟩⟩⟩
theorem gi_g_X13_worth_0 : GoodIn ow_g_X13_worth (wsS RX13 351 yX13_isDigit ow_k_X13_isDigit) := goodIn_app (goodIn_of _ (by decide +kernel)) (fun w h => ⟨List.mem_cons_of_mem _ (List.mem_append_right _ (List.mem_append_left _ h)), gd_k_X13_isDigit w h⟩)
set_option maxHeartbeats 40000000 in
set_option maxRecDepth 100000 in
theorem g_X13_worth (l : Launch) (hlt : l.stackTraces = false) (dC : Nat → ClassId) (dI : Nat → Nat → Nat) (v0 : Int32) (sz : Nat) : Met l yX13_worth ow_g_X13_worth ({ frames := 1, cells := 0, slots := 0, locals := 20 }) (va_Pc [.int v0] (fun U => U.heap.size = sz ∧ va_P (dC, dI) vwCl [] U.heap ∧ va_K (dC, dI) vwCl [] U ∧ va_D (fun _ => True) [] ∧ nv_E (va_A [] sz) U)) (va_Qi (fun r _ => ((v0 < 48) ∧ (v0 < 97) ∧ (v0 < 65) ∧ r = 99) ∨ ((v0 < 48) ∧ (v0 < 97) ∧ (¬ v0 < 65) ∧ (70 < v0) ∧ r = 99) ∨ ((v0 < 48) ∧ (v0 < 97) ∧ (¬ v0 < 65) ∧ (¬ 70 < v0) ∧ r = ((v0 - 65) + 10)) ∨ ((v0 < 48) ∧ (¬ v0 < 97) ∧ (102 < v0) ∧ (v0 < 65) ∧ r = 99) ∨ ((v0 < 48) ∧ (¬ v0 < 97) ∧ (102 < v0) ∧ (¬ v0 < 65) ∧ (70 < v0) ∧ r = 99) ∨ ((v0 < 48) ∧ (¬ v0 < 97) ∧ (102 < v0) ∧ (¬ v0 < 65) ∧ (¬ 70 < v0) ∧ r = ((v0 - 65) + 10)) ∨ ((v0 < 48) ∧ (¬ v0 < 97) ∧ (¬ 102 < v0) ∧ r = ((v0 - 97) + 10)) ∨ ((¬ v0 < 48) ∧ (57 < v0) ∧ (v0 < 97) ∧ (v0 < 65) ∧ r = 99) ∨ ((¬ v0 < 48) ∧ (57 < v0) ∧ (v0 < 97) ∧ (¬ v0 < 65) ∧ (70 < v0) ∧ r = 99) ∨ ((¬ v0 < 48) ∧ (57 < v0) ∧ (v0 < 97) ∧ (¬ v0 < 65) ∧ (¬ 70 < v0) ∧ r = ((v0 - 65) + 10)) ∨ ((¬ v0 < 48) ∧ (57 < v0) ∧ (¬ v0 < 97) ∧ (102 < v0) ∧ (v0 < 65) ∧ r = 99) ∨ ((¬ v0 < 48) ∧ (57 < v0) ∧ (¬ v0 < 97) ∧ (102 < v0) ∧ (¬ v0 < 65) ∧ (70 < v0) ∧ r = 99) ∨ ((¬ v0 < 48) ∧ (57 < v0) ∧ (¬ v0 < 97) ∧ (102 < v0) ∧ (¬ v0 < 65) ∧ (¬ 70 < v0) ∧ r = ((v0 - 65) + 10)) ∨ ((¬ v0 < 48) ∧ (57 < v0) ∧ (¬ v0 < 97) ∧ (¬ 102 < v0) ∧ r = ((v0 - 97) + 10)) ∨ ((¬ v0 < 48) ∧ (¬ 57 < v0) ∧ r = (v0 - 48)) ∨ False) (fun (_ : Unit) t => va_P (dC, dI) vwCl [] t.heap ∧ va_K (dC, dI) vwCl [] t ∧ va_D (va_A [] sz) []) (va_A [] sz)) 0 0 (va_A [] sz) := by
  refine Met.ofW (cc := cX13_worth) (maxL := 1) (ret := (some .int)) (by decide) rfl ?_
  intro p e s m args below meth c s₁ B hml hv
  obtain ⟨rfl, hsz, hP, hK, hD0, hN⟩ := hv
  have hx := B.exec
  have hb := B.bytes
  have hr := B.returns
  have hts := atoms_spec (ws := ow_g_X13_worth) B.pre
  have hown : s.vm.findClass RX13 = some m.cls := findClass_of_methodNamed B.named
  have hlocks := B.notSynchronized
  subst hsz
  have hD := hD0.self (sz := s.heap.size)
  generalize hAe : va_A [] s.heap.size = A at hD hN ⊢
  have hA : ∀ q : Nat, s.heap.size ≤ q → A q := fun q h => by rw [← hAe]; exact Or.inr h
  have hS : va_S A s.heap s.heap [] := va_S.rf
  have hl := lv_entry ([.int v0]) (n := 1) (Nat.le_of_ble_eq_true rfl)
  rw [lg_entry_eq]
  generalize (lg_sl ([.int v0]) ++ List.replicate (1 - (lg_sl ([.int v0])).length) Slot.unset).toArray = ls at hl ⊢
  have hl : lv_has ls 1 [(0, .int v0)] := hl
  refine lv_iload_n hx hb dX13_worth_0 rfl (lv_at hl 0 rfl) ?_
  have hPc := hP.sub (ws' := []) [] rfl
  have hDc := hD.sub (ws' := []) [] (by decide) rfl
  have hKc := hK.sub (tys' := []) [] rfl
  have hFc := va_free (wc := []) hD hS hA [] rfl
  refine va_calli (va_runS (As := [.int v0]) (rest := []) ⟨hx, hb, hml, hown, hts⟩ (k_X13_isDigit l hlt dC dI v0  s.heap.size) (cwS 1 hts gi_g_X13_worth_0 rfl rfl rfl (by decide +kernel) ⟨Nat.le_of_ble_eq_true rfl, Nat.le_of_ble_eq_true rfl⟩) ⟨fun a U g mk q => by obtain ⟨q0, q1, qP, qK, qD, qN⟩ := q; exact ⟨q0, q1, qP, va_K.moved (u := U) (U := U.calling g mk a) (Vm.Alike.refl U.vm) qK, qD, nv_same rfl rfl qN⟩, fun U hU hW => ⟨rfl, by rw [hU], by rw [hU]; exact hPc, va_K.moved hW.alike hKc, hDc.weaken (fun _ _ _ _ => trivial), nv_call hS hFc hU hW hN⟩⟩ rfl rfl hl.1 rfl (lv_room (Nat.le_of_ble_eq_true rfl)) dX13_worth_1 ⟨by decide +kernel, by decide +kernel⟩) hS (fun q _ h => hFc q h) hFc (fun r1 u t H1 locs ht hvm hw hB hz1 hk1 hS => ?_)
  obtain ⟨hP1, hK1, hD1⟩ := hB
  rw [ht] at hP1
  have hK1 := va_K.moved hvm.symm hK1
  obtain ⟨hP, hD⟩ := va_join (wr := []) (w1 := []) hP hD [] [] rfl rfl (by decide) (by decide) hk1 hFc hP1 hD1
  have hK := (hK.sub (tys' := []) [] rfl).app hK1
  generalize H1 = H at hP hS ⊢
  have hP : va_P (dC, dI) vwCl [] H := hP
  have hD : va_D A [] := hD
  have hK : va_K (dC, dI) vwCl [] s := hK
  refine W.widen (k := 0) (n := 0) (by decide +kernel) (by decide +kernel) ?_
  rcases hw with ⟨c_1_0, h9⟩ | ⟨c_1_0, c_1_1, h9⟩ | ⟨c_1_0, c_1_1, h9⟩ | h9
  · subst h9
    refine lv_if_eq (tgt := 14) hx hb dX13_worth_4 (by decide) (fun _ => ?_) (fun h9 => absurd (by decide) h9)
    refine lv_iload_n hx hb dX13_worth_14 rfl (lv_at hl 0 rfl) ?_
    refine lv_bipush (v := 97) hx hb dX13_worth_15 (by decide) ?_
    refine lv_icmp_lt (tgt := 36) hx hb dX13_worth_17 (by decide) (fun c_2 => ?_) (fun c_2 => ?_)
    · refine lv_iload_n hx hb dX13_worth_36 rfl (lv_at hl 0 rfl) ?_
      refine lv_bipush (v := 65) hx hb dX13_worth_37 (by decide) ?_
      refine lv_icmp_lt (tgt := 58) hx hb dX13_worth_39 (by decide) (fun c_3 => ?_) (fun c_3 => ?_)
      · refine lv_bipush (v := 99) hx hb dX13_worth_58 (by decide) ?_
        refine W.widen (k := 0) (n := 0) (by decide +kernel) (by decide +kernel) ?_
        exact W.iret (v := 99) hx hb hr (fun t ht hW => ⟨⟨99, (), rfl, Or.inl ⟨c_1_0, c_2, c_3, rfl⟩, by rw [ht]; exact hP, va_K.moved hW.alike hK, hD⟩, hS.F ht⟩) hS.2.2 dX13_worth_60
      · refine lv_iload_n hx hb dX13_worth_42 rfl (lv_at hl 0 rfl) ?_
        refine lv_bipush (v := 70) hx hb dX13_worth_43 (by decide) ?_
        refine lv_icmp_gt (tgt := 58) hx hb dX13_worth_45 (by decide) (fun c_4 => ?_) (fun c_4 => ?_)
        · refine lv_bipush (v := 99) hx hb dX13_worth_58 (by decide) ?_
          refine W.widen (k := 0) (n := 0) (by decide +kernel) (by decide +kernel) ?_
          exact W.iret (v := 99) hx hb hr (fun t ht hW => ⟨⟨99, (), rfl, Or.inr (Or.inl ⟨c_1_0, c_2, c_3, c_4, rfl⟩), by rw [ht]; exact hP, va_K.moved hW.alike hK, hD⟩, hS.F ht⟩) hS.2.2 dX13_worth_60
        · refine lv_iload_n hx hb dX13_worth_48 rfl (lv_at hl 0 rfl) ?_
          refine lv_bipush (v := 65) hx hb dX13_worth_49 (by decide) ?_
          refine lv_isub hx hb dX13_worth_51 ?_
          refine lv_bipush (v := 10) hx hb dX13_worth_52 (by decide) ?_
          refine lv_iadd hx hb dX13_worth_54 ?_
          refine lv_goto (tgt := 60) hx hb dX13_worth_55 (by decide) ?_
          refine W.widen (k := 0) (n := 0) (by decide +kernel) (by decide +kernel) ?_
          exact W.iret (v := ((v0 - 65) + 10)) hx hb hr (fun t ht hW => ⟨⟨((v0 - 65) + 10), (), rfl, Or.inr (Or.inr (Or.inl ⟨c_1_0, c_2, c_3, c_4, rfl⟩)), by rw [ht]; exact hP, va_K.moved hW.alike hK, hD⟩, hS.F ht⟩) hS.2.2 dX13_worth_60
    · refine lv_iload_n hx hb dX13_worth_20 rfl (lv_at hl 0 rfl) ?_
      refine lv_bipush (v := 102) hx hb dX13_worth_21 (by decide) ?_
      refine lv_icmp_gt (tgt := 36) hx hb dX13_worth_23 (by decide) (fun c_5 => ?_) (fun c_5 => ?_)
      · refine lv_iload_n hx hb dX13_worth_36 rfl (lv_at hl 0 rfl) ?_
        refine lv_bipush (v := 65) hx hb dX13_worth_37 (by decide) ?_
        refine lv_icmp_lt (tgt := 58) hx hb dX13_worth_39 (by decide) (fun c_6 => ?_) (fun c_6 => ?_)
        · refine lv_bipush (v := 99) hx hb dX13_worth_58 (by decide) ?_
          refine W.widen (k := 0) (n := 0) (by decide +kernel) (by decide +kernel) ?_
          exact W.iret (v := 99) hx hb hr (fun t ht hW => ⟨⟨99, (), rfl, Or.inr (Or.inr (Or.inr (Or.inl ⟨c_1_0, c_2, c_5, c_6, rfl⟩))), by rw [ht]; exact hP, va_K.moved hW.alike hK, hD⟩, hS.F ht⟩) hS.2.2 dX13_worth_60
        · refine lv_iload_n hx hb dX13_worth_42 rfl (lv_at hl 0 rfl) ?_
          refine lv_bipush (v := 70) hx hb dX13_worth_43 (by decide) ?_
          refine lv_icmp_gt (tgt := 58) hx hb dX13_worth_45 (by decide) (fun c_7 => ?_) (fun c_7 => ?_)
          · refine lv_bipush (v := 99) hx hb dX13_worth_58 (by decide) ?_
            refine W.widen (k := 0) (n := 0) (by decide +kernel) (by decide +kernel) ?_
            exact W.iret (v := 99) hx hb hr (fun t ht hW => ⟨⟨99, (), rfl, Or.inr (Or.inr (Or.inr (Or.inr (Or.inl ⟨c_1_0, c_2, c_5, c_6, c_7, rfl⟩)))), by rw [ht]; exact hP, va_K.moved hW.alike hK, hD⟩, hS.F ht⟩) hS.2.2 dX13_worth_60
          · refine lv_iload_n hx hb dX13_worth_48 rfl (lv_at hl 0 rfl) ?_
            refine lv_bipush (v := 65) hx hb dX13_worth_49 (by decide) ?_
            refine lv_isub hx hb dX13_worth_51 ?_
            refine lv_bipush (v := 10) hx hb dX13_worth_52 (by decide) ?_
            refine lv_iadd hx hb dX13_worth_54 ?_
            refine lv_goto (tgt := 60) hx hb dX13_worth_55 (by decide) ?_
            refine W.widen (k := 0) (n := 0) (by decide +kernel) (by decide +kernel) ?_
            exact W.iret (v := ((v0 - 65) + 10)) hx hb hr (fun t ht hW => ⟨⟨((v0 - 65) + 10), (), rfl, Or.inr (Or.inr (Or.inr (Or.inr (Or.inr (Or.inl ⟨c_1_0, c_2, c_5, c_6, c_7, rfl⟩))))), by rw [ht]; exact hP, va_K.moved hW.alike hK, hD⟩, hS.F ht⟩) hS.2.2 dX13_worth_60
      · refine lv_iload_n hx hb dX13_worth_26 rfl (lv_at hl 0 rfl) ?_
        refine lv_bipush (v := 97) hx hb dX13_worth_27 (by decide) ?_
        refine lv_isub hx hb dX13_worth_29 ?_
        refine lv_bipush (v := 10) hx hb dX13_worth_30 (by decide) ?_
        refine lv_iadd hx hb dX13_worth_32 ?_
        refine lv_goto (tgt := 60) hx hb dX13_worth_33 (by decide) ?_
        refine W.widen (k := 0) (n := 0) (by decide +kernel) (by decide +kernel) ?_
        exact W.iret (v := ((v0 - 97) + 10)) hx hb hr (fun t ht hW => ⟨⟨((v0 - 97) + 10), (), rfl, Or.inr (Or.inr (Or.inr (Or.inr (Or.inr (Or.inr (Or.inl ⟨c_1_0, c_2, c_5, rfl⟩)))))), by rw [ht]; exact hP, va_K.moved hW.alike hK, hD⟩, hS.F ht⟩) hS.2.2 dX13_worth_60
  · subst h9
    refine lv_if_eq (tgt := 14) hx hb dX13_worth_4 (by decide) (fun _ => ?_) (fun h9 => absurd (by decide) h9)
    refine lv_iload_n hx hb dX13_worth_14 rfl (lv_at hl 0 rfl) ?_
    refine lv_bipush (v := 97) hx hb dX13_worth_15 (by decide) ?_
    refine lv_icmp_lt (tgt := 36) hx hb dX13_worth_17 (by decide) (fun c_8 => ?_) (fun c_8 => ?_)
    · refine lv_iload_n hx hb dX13_worth_36 rfl (lv_at hl 0 rfl) ?_
      refine lv_bipush (v := 65) hx hb dX13_worth_37 (by decide) ?_
      refine lv_icmp_lt (tgt := 58) hx hb dX13_worth_39 (by decide) (fun c_9 => ?_) (fun c_9 => ?_)
      · refine lv_bipush (v := 99) hx hb dX13_worth_58 (by decide) ?_
        refine W.widen (k := 0) (n := 0) (by decide +kernel) (by decide +kernel) ?_
        exact W.iret (v := 99) hx hb hr (fun t ht hW => ⟨⟨99, (), rfl, Or.inr (Or.inr (Or.inr (Or.inr (Or.inr (Or.inr (Or.inr (Or.inl ⟨c_1_0, c_1_1, c_8, c_9, rfl⟩))))))), by rw [ht]; exact hP, va_K.moved hW.alike hK, hD⟩, hS.F ht⟩) hS.2.2 dX13_worth_60
      · refine lv_iload_n hx hb dX13_worth_42 rfl (lv_at hl 0 rfl) ?_
        refine lv_bipush (v := 70) hx hb dX13_worth_43 (by decide) ?_
        refine lv_icmp_gt (tgt := 58) hx hb dX13_worth_45 (by decide) (fun c_10 => ?_) (fun c_10 => ?_)
        · refine lv_bipush (v := 99) hx hb dX13_worth_58 (by decide) ?_
          refine W.widen (k := 0) (n := 0) (by decide +kernel) (by decide +kernel) ?_
          exact W.iret (v := 99) hx hb hr (fun t ht hW => ⟨⟨99, (), rfl, Or.inr (Or.inr (Or.inr (Or.inr (Or.inr (Or.inr (Or.inr (Or.inr (Or.inl ⟨c_1_0, c_1_1, c_8, c_9, c_10, rfl⟩)))))))), by rw [ht]; exact hP, va_K.moved hW.alike hK, hD⟩, hS.F ht⟩) hS.2.2 dX13_worth_60
        · refine lv_iload_n hx hb dX13_worth_48 rfl (lv_at hl 0 rfl) ?_
          refine lv_bipush (v := 65) hx hb dX13_worth_49 (by decide) ?_
          refine lv_isub hx hb dX13_worth_51 ?_
          refine lv_bipush (v := 10) hx hb dX13_worth_52 (by decide) ?_
          refine lv_iadd hx hb dX13_worth_54 ?_
          refine lv_goto (tgt := 60) hx hb dX13_worth_55 (by decide) ?_
          refine W.widen (k := 0) (n := 0) (by decide +kernel) (by decide +kernel) ?_
          exact W.iret (v := ((v0 - 65) + 10)) hx hb hr (fun t ht hW => ⟨⟨((v0 - 65) + 10), (), rfl, Or.inr (Or.inr (Or.inr (Or.inr (Or.inr (Or.inr (Or.inr (Or.inr (Or.inr (Or.inl ⟨c_1_0, c_1_1, c_8, c_9, c_10, rfl⟩))))))))), by rw [ht]; exact hP, va_K.moved hW.alike hK, hD⟩, hS.F ht⟩) hS.2.2 dX13_worth_60
    · refine lv_iload_n hx hb dX13_worth_20 rfl (lv_at hl 0 rfl) ?_
      refine lv_bipush (v := 102) hx hb dX13_worth_21 (by decide) ?_
      refine lv_icmp_gt (tgt := 36) hx hb dX13_worth_23 (by decide) (fun c_11 => ?_) (fun c_11 => ?_)
      · refine lv_iload_n hx hb dX13_worth_36 rfl (lv_at hl 0 rfl) ?_
        refine lv_bipush (v := 65) hx hb dX13_worth_37 (by decide) ?_
        refine lv_icmp_lt (tgt := 58) hx hb dX13_worth_39 (by decide) (fun c_12 => ?_) (fun c_12 => ?_)
        · refine lv_bipush (v := 99) hx hb dX13_worth_58 (by decide) ?_
          refine W.widen (k := 0) (n := 0) (by decide +kernel) (by decide +kernel) ?_
          exact W.iret (v := 99) hx hb hr (fun t ht hW => ⟨⟨99, (), rfl, Or.inr (Or.inr (Or.inr (Or.inr (Or.inr (Or.inr (Or.inr (Or.inr (Or.inr (Or.inr (Or.inl ⟨c_1_0, c_1_1, c_8, c_11, c_12, rfl⟩)))))))))), by rw [ht]; exact hP, va_K.moved hW.alike hK, hD⟩, hS.F ht⟩) hS.2.2 dX13_worth_60
        · refine lv_iload_n hx hb dX13_worth_42 rfl (lv_at hl 0 rfl) ?_
          refine lv_bipush (v := 70) hx hb dX13_worth_43 (by decide) ?_
          refine lv_icmp_gt (tgt := 58) hx hb dX13_worth_45 (by decide) (fun c_13 => ?_) (fun c_13 => ?_)
          · refine lv_bipush (v := 99) hx hb dX13_worth_58 (by decide) ?_
            refine W.widen (k := 0) (n := 0) (by decide +kernel) (by decide +kernel) ?_
            exact W.iret (v := 99) hx hb hr (fun t ht hW => ⟨⟨99, (), rfl, Or.inr (Or.inr (Or.inr (Or.inr (Or.inr (Or.inr (Or.inr (Or.inr (Or.inr (Or.inr (Or.inr (Or.inl ⟨c_1_0, c_1_1, c_8, c_11, c_12, c_13, rfl⟩))))))))))), by rw [ht]; exact hP, va_K.moved hW.alike hK, hD⟩, hS.F ht⟩) hS.2.2 dX13_worth_60
          · refine lv_iload_n hx hb dX13_worth_48 rfl (lv_at hl 0 rfl) ?_
            refine lv_bipush (v := 65) hx hb dX13_worth_49 (by decide) ?_
            refine lv_isub hx hb dX13_worth_51 ?_
            refine lv_bipush (v := 10) hx hb dX13_worth_52 (by decide) ?_
            refine lv_iadd hx hb dX13_worth_54 ?_
            refine lv_goto (tgt := 60) hx hb dX13_worth_55 (by decide) ?_
            refine W.widen (k := 0) (n := 0) (by decide +kernel) (by decide +kernel) ?_
            exact W.iret (v := ((v0 - 65) + 10)) hx hb hr (fun t ht hW => ⟨⟨((v0 - 65) + 10), (), rfl, Or.inr (Or.inr (Or.inr (Or.inr (Or.inr (Or.inr (Or.inr (Or.inr (Or.inr (Or.inr (Or.inr (Or.inr (Or.inl ⟨c_1_0, c_1_1, c_8, c_11, c_12, c_13, rfl⟩)))))))))))), by rw [ht]; exact hP, va_K.moved hW.alike hK, hD⟩, hS.F ht⟩) hS.2.2 dX13_worth_60
      · refine lv_iload_n hx hb dX13_worth_26 rfl (lv_at hl 0 rfl) ?_
        refine lv_bipush (v := 97) hx hb dX13_worth_27 (by decide) ?_
        refine lv_isub hx hb dX13_worth_29 ?_
        refine lv_bipush (v := 10) hx hb dX13_worth_30 (by decide) ?_
        refine lv_iadd hx hb dX13_worth_32 ?_
        refine lv_goto (tgt := 60) hx hb dX13_worth_33 (by decide) ?_
        refine W.widen (k := 0) (n := 0) (by decide +kernel) (by decide +kernel) ?_
        exact W.iret (v := ((v0 - 97) + 10)) hx hb hr (fun t ht hW => ⟨⟨((v0 - 97) + 10), (), rfl, Or.inr (Or.inr (Or.inr (Or.inr (Or.inr (Or.inr (Or.inr (Or.inr (Or.inr (Or.inr (Or.inr (Or.inr (Or.inr (Or.inl ⟨c_1_0, c_1_1, c_8, c_11, rfl⟩))))))))))))), by rw [ht]; exact hP, va_K.moved hW.alike hK, hD⟩, hS.F ht⟩) hS.2.2 dX13_worth_60
  · subst h9
    refine lv_if_eq (tgt := 14) hx hb dX13_worth_4 (by decide) (fun h9 => absurd h9 (by decide)) (fun _ => ?_)
    refine lv_iload_n hx hb dX13_worth_7 rfl (lv_at hl 0 rfl) ?_
    refine lv_bipush (v := 48) hx hb dX13_worth_8 (by decide) ?_
    refine lv_isub hx hb dX13_worth_10 ?_
    refine lv_goto (tgt := 60) hx hb dX13_worth_11 (by decide) ?_
    refine W.widen (k := 0) (n := 0) (by decide +kernel) (by decide +kernel) ?_
    exact W.iret (v := (v0 - 48)) hx hb hr (fun t ht hW => ⟨⟨(v0 - 48), (), rfl, Or.inr (Or.inr (Or.inr (Or.inr (Or.inr (Or.inr (Or.inr (Or.inr (Or.inr (Or.inr (Or.inr (Or.inr (Or.inr (Or.inr (Or.inl ⟨c_1_0, c_1_1, rfl⟩)))))))))))))), by rw [ht]; exact hP, va_K.moved hW.alike hK, hD⟩, hS.F ht⟩) hS.2.2 dX13_worth_60
  · exact h9.elim
def ow_g_X13_rank : List Cond := .code yX13_rank cX13_rank 1 (some .int) :: ([] ++ [])
theorem gd_g_X13_rank : ∀ w ∈ ow_g_X13_rank, (w.onTables && w.keeps) = true ∨ ∃ ty, w = Cond.arrayClass ty := List.forall_mem_cons.mpr ⟨good_of_word rfl, List.forall_mem_append.mpr ⟨fun w h => good_of_word (List.all_eq_true.mp (by decide +kernel) w h), fun _ h => nomatch h⟩⟩
set_option maxHeartbeats 40000000 in
set_option maxRecDepth 100000 in
theorem g_X13_rank (l : Launch) (hlt : l.stackTraces = false) (dC : Nat → ClassId) (dI : Nat → Nat → Nat) (v0 : Int32) (sz : Nat) : Met l yX13_rank ow_g_X13_rank ({ frames := 0, cells := 0, slots := 0, locals := 0 }) (va_Pc [.int v0] (fun U => U.heap.size = sz ∧ va_P (dC, dI) vwCl [] U.heap ∧ va_K (dC, dI) vwCl [] U ∧ va_D (fun _ => True) [] ∧ nv_E (va_A [] sz) U)) (va_Qi (fun r _ => ((v0 = 42) ∧ r = 6) ∨ ((¬ v0 = 42) ∧ (v0 = 47) ∧ r = 6) ∨ ((¬ v0 = 42) ∧ (¬ v0 = 47) ∧ (¬ v0 = 37) ∧ (v0 = 43) ∧ r = 5) ∨ ((¬ v0 = 42) ∧ (¬ v0 = 47) ∧ (¬ v0 = 37) ∧ (¬ v0 = 43) ∧ (¬ v0 = 45) ∧ (v0 = 6) ∧ r = 4) ∨ ((¬ v0 = 42) ∧ (¬ v0 = 47) ∧ (¬ v0 = 37) ∧ (¬ v0 = 43) ∧ (¬ v0 = 45) ∧ (¬ v0 = 6) ∧ (¬ v0 = 7) ∧ (¬ v0 = 38) ∧ (¬ v0 = 94) ∧ (¬ v0 = 124) ∧ r = 0) ∨ ((¬ v0 = 42) ∧ (¬ v0 = 47) ∧ (¬ v0 = 37) ∧ (¬ v0 = 43) ∧ (¬ v0 = 45) ∧ (¬ v0 = 6) ∧ (¬ v0 = 7) ∧ (¬ v0 = 38) ∧ (¬ v0 = 94) ∧ (v0 = 124) ∧ r = 1) ∨ ((¬ v0 = 42) ∧ (¬ v0 = 47) ∧ (¬ v0 = 37) ∧ (¬ v0 = 43) ∧ (¬ v0 = 45) ∧ (¬ v0 = 6) ∧ (¬ v0 = 7) ∧ (¬ v0 = 38) ∧ (v0 = 94) ∧ r = 2) ∨ ((¬ v0 = 42) ∧ (¬ v0 = 47) ∧ (¬ v0 = 37) ∧ (¬ v0 = 43) ∧ (¬ v0 = 45) ∧ (¬ v0 = 6) ∧ (¬ v0 = 7) ∧ (v0 = 38) ∧ r = 3) ∨ ((¬ v0 = 42) ∧ (¬ v0 = 47) ∧ (¬ v0 = 37) ∧ (¬ v0 = 43) ∧ (¬ v0 = 45) ∧ (¬ v0 = 6) ∧ (v0 = 7) ∧ r = 4) ∨ ((¬ v0 = 42) ∧ (¬ v0 = 47) ∧ (¬ v0 = 37) ∧ (¬ v0 = 43) ∧ (v0 = 45) ∧ r = 5) ∨ ((¬ v0 = 42) ∧ (¬ v0 = 47) ∧ (v0 = 37) ∧ r = 6) ∨ False) (fun (_ : Unit) t => va_P (dC, dI) vwCl [] t.heap ∧ va_K (dC, dI) vwCl [] t ∧ va_D (va_A [] sz) []) (va_A [] sz)) 0 0 (va_A [] sz) := by
  refine Met.ofW (cc := cX13_rank) (maxL := 1) (ret := (some .int)) (by decide) rfl ?_
  intro p e s m args below meth c s₁ B hml hv
  obtain ⟨rfl, hsz, hP, hK, hD0, hN⟩ := hv
  have hx := B.exec
  have hb := B.bytes
  have hr := B.returns
  have hts := atoms_spec (ws := ow_g_X13_rank) B.pre
  have hown : s.vm.findClass RX13 = some m.cls := findClass_of_methodNamed B.named
  have hlocks := B.notSynchronized
  subst hsz
  have hD := hD0.self (sz := s.heap.size)
  generalize hAe : va_A [] s.heap.size = A at hD hN ⊢
  have hA : ∀ q : Nat, s.heap.size ≤ q → A q := fun q h => by rw [← hAe]; exact Or.inr h
  have hS : va_S A s.heap s.heap [] := va_S.rf
  have hl := lv_entry ([.int v0]) (n := 1) (Nat.le_of_ble_eq_true rfl)
  rw [lg_entry_eq]
  generalize (lg_sl ([.int v0]) ++ List.replicate (1 - (lg_sl ([.int v0])).length) Slot.unset).toArray = ls at hl ⊢
  have hl : lv_has ls 1 [(0, .int v0)] := hl
  refine lv_iload_n hx hb dX13_rank_0 rfl (lv_at hl 0 rfl) ?_
  refine lv_bipush (v := 42) hx hb dX13_rank_1 (by decide) ?_
  refine lv_icmp_eq (tgt := 18) hx hb dX13_rank_3 (by decide) (fun c_1 => ?_) (fun c_1 => ?_)
  · refine lv_bipush (v := 6) hx hb dX13_rank_18 (by decide) ?_
    refine lv_goto (tgt := 86) hx hb dX13_rank_20 (by decide) ?_
    refine W.widen (k := 0) (n := 0) (by decide +kernel) (by decide +kernel) ?_
    exact W.iret (v := 6) hx hb hr (fun t ht hW => ⟨⟨6, (), rfl, Or.inl ⟨c_1, rfl⟩, by rw [ht]; exact hP, va_K.moved hW.alike hK, hD⟩, hS.F ht⟩) hS.2.2 dX13_rank_86
  · refine lv_iload_n hx hb dX13_rank_6 rfl (lv_at hl 0 rfl) ?_
    refine lv_bipush (v := 47) hx hb dX13_rank_7 (by decide) ?_
    refine lv_icmp_eq (tgt := 18) hx hb dX13_rank_9 (by decide) (fun c_2 => ?_) (fun c_2 => ?_)
    · refine lv_bipush (v := 6) hx hb dX13_rank_18 (by decide) ?_
      refine lv_goto (tgt := 86) hx hb dX13_rank_20 (by decide) ?_
      refine W.widen (k := 0) (n := 0) (by decide +kernel) (by decide +kernel) ?_
      exact W.iret (v := 6) hx hb hr (fun t ht hW => ⟨⟨6, (), rfl, Or.inr (Or.inl ⟨c_1, c_2, rfl⟩), by rw [ht]; exact hP, va_K.moved hW.alike hK, hD⟩, hS.F ht⟩) hS.2.2 dX13_rank_86
    · refine lv_iload_n hx hb dX13_rank_12 rfl (lv_at hl 0 rfl) ?_
      refine lv_bipush (v := 37) hx hb dX13_rank_13 (by decide) ?_
      refine lv_icmp_ne (tgt := 23) hx hb dX13_rank_15 (by decide) (fun c_3 => ?_) (fun c_3 => ?_)
      · refine lv_iload_n hx hb dX13_rank_23 rfl (lv_at hl 0 rfl) ?_
        refine lv_bipush (v := 43) hx hb dX13_rank_24 (by decide) ?_
        refine lv_icmp_eq (tgt := 35) hx hb dX13_rank_26 (by decide) (fun c_4 => ?_) (fun c_4 => ?_)
        · refine lv_iconst (v := 5) hx hb dX13_rank_35 (by decide) ?_
          refine lv_goto (tgt := 86) hx hb dX13_rank_36 (by decide) ?_
          refine W.widen (k := 0) (n := 0) (by decide +kernel) (by decide +kernel) ?_
          exact W.iret (v := 5) hx hb hr (fun t ht hW => ⟨⟨5, (), rfl, Or.inr (Or.inr (Or.inl ⟨c_1, c_2, c_3, c_4, rfl⟩)), by rw [ht]; exact hP, va_K.moved hW.alike hK, hD⟩, hS.F ht⟩) hS.2.2 dX13_rank_86
        · refine lv_iload_n hx hb dX13_rank_29 rfl (lv_at hl 0 rfl) ?_
          refine lv_bipush (v := 45) hx hb dX13_rank_30 (by decide) ?_
          refine lv_icmp_ne (tgt := 39) hx hb dX13_rank_32 (by decide) (fun c_5 => ?_) (fun c_5 => ?_)
          · refine lv_iload_n hx hb dX13_rank_39 rfl (lv_at hl 0 rfl) ?_
            refine lv_bipush (v := 6) hx hb dX13_rank_40 (by decide) ?_
            refine lv_icmp_eq (tgt := 51) hx hb dX13_rank_42 (by decide) (fun c_6 => ?_) (fun c_6 => ?_)
            · refine lv_iconst (v := 4) hx hb dX13_rank_51 (by decide) ?_
              refine lv_goto (tgt := 86) hx hb dX13_rank_52 (by decide) ?_
              refine W.widen (k := 0) (n := 0) (by decide +kernel) (by decide +kernel) ?_
              exact W.iret (v := 4) hx hb hr (fun t ht hW => ⟨⟨4, (), rfl, Or.inr (Or.inr (Or.inr (Or.inl ⟨c_1, c_2, c_3, c_4, c_5, c_6, rfl⟩))), by rw [ht]; exact hP, va_K.moved hW.alike hK, hD⟩, hS.F ht⟩) hS.2.2 dX13_rank_86
            · refine lv_iload_n hx hb dX13_rank_45 rfl (lv_at hl 0 rfl) ?_
              refine lv_bipush (v := 7) hx hb dX13_rank_46 (by decide) ?_
              refine lv_icmp_ne (tgt := 55) hx hb dX13_rank_48 (by decide) (fun c_7 => ?_) (fun c_7 => ?_)
              · refine lv_iload_n hx hb dX13_rank_55 rfl (lv_at hl 0 rfl) ?_
                refine lv_bipush (v := 38) hx hb dX13_rank_56 (by decide) ?_
                refine lv_icmp_ne (tgt := 65) hx hb dX13_rank_58 (by decide) (fun c_8 => ?_) (fun c_8 => ?_)
                · refine lv_iload_n hx hb dX13_rank_65 rfl (lv_at hl 0 rfl) ?_
                  refine lv_bipush (v := 94) hx hb dX13_rank_66 (by decide) ?_
                  refine lv_icmp_ne (tgt := 75) hx hb dX13_rank_68 (by decide) (fun c_9 => ?_) (fun c_9 => ?_)
                  · refine lv_iload_n hx hb dX13_rank_75 rfl (lv_at hl 0 rfl) ?_
                    refine lv_bipush (v := 124) hx hb dX13_rank_76 (by decide) ?_
                    refine lv_icmp_ne (tgt := 85) hx hb dX13_rank_78 (by decide) (fun c_10 => ?_) (fun c_10 => ?_)
                    · refine lv_iconst (v := 0) hx hb dX13_rank_85 (by decide) ?_
                      refine W.widen (k := 0) (n := 0) (by decide +kernel) (by decide +kernel) ?_
                      exact W.iret (v := 0) hx hb hr (fun t ht hW => ⟨⟨0, (), rfl, Or.inr (Or.inr (Or.inr (Or.inr (Or.inl ⟨c_1, c_2, c_3, c_4, c_5, c_6, c_7, c_8, c_9, c_10, rfl⟩)))), by rw [ht]; exact hP, va_K.moved hW.alike hK, hD⟩, hS.F ht⟩) hS.2.2 dX13_rank_86
                    · refine lv_iconst (v := 1) hx hb dX13_rank_81 (by decide) ?_
                      refine lv_goto (tgt := 86) hx hb dX13_rank_82 (by decide) ?_
                      refine W.widen (k := 0) (n := 0) (by decide +kernel) (by decide +kernel) ?_
                      exact W.iret (v := 1) hx hb hr (fun t ht hW => ⟨⟨1, (), rfl, Or.inr (Or.inr (Or.inr (Or.inr (Or.inr (Or.inl ⟨c_1, c_2, c_3, c_4, c_5, c_6, c_7, c_8, c_9, c_10, rfl⟩))))), by rw [ht]; exact hP, va_K.moved hW.alike hK, hD⟩, hS.F ht⟩) hS.2.2 dX13_rank_86
                  · refine lv_iconst (v := 2) hx hb dX13_rank_71 (by decide) ?_
                    refine lv_goto (tgt := 86) hx hb dX13_rank_72 (by decide) ?_
                    refine W.widen (k := 0) (n := 0) (by decide +kernel) (by decide +kernel) ?_
                    exact W.iret (v := 2) hx hb hr (fun t ht hW => ⟨⟨2, (), rfl, Or.inr (Or.inr (Or.inr (Or.inr (Or.inr (Or.inr (Or.inl ⟨c_1, c_2, c_3, c_4, c_5, c_6, c_7, c_8, c_9, rfl⟩)))))), by rw [ht]; exact hP, va_K.moved hW.alike hK, hD⟩, hS.F ht⟩) hS.2.2 dX13_rank_86
                · refine lv_iconst (v := 3) hx hb dX13_rank_61 (by decide) ?_
                  refine lv_goto (tgt := 86) hx hb dX13_rank_62 (by decide) ?_
                  refine W.widen (k := 0) (n := 0) (by decide +kernel) (by decide +kernel) ?_
                  exact W.iret (v := 3) hx hb hr (fun t ht hW => ⟨⟨3, (), rfl, Or.inr (Or.inr (Or.inr (Or.inr (Or.inr (Or.inr (Or.inr (Or.inl ⟨c_1, c_2, c_3, c_4, c_5, c_6, c_7, c_8, rfl⟩))))))), by rw [ht]; exact hP, va_K.moved hW.alike hK, hD⟩, hS.F ht⟩) hS.2.2 dX13_rank_86
              · refine lv_iconst (v := 4) hx hb dX13_rank_51 (by decide) ?_
                refine lv_goto (tgt := 86) hx hb dX13_rank_52 (by decide) ?_
                refine W.widen (k := 0) (n := 0) (by decide +kernel) (by decide +kernel) ?_
                exact W.iret (v := 4) hx hb hr (fun t ht hW => ⟨⟨4, (), rfl, Or.inr (Or.inr (Or.inr (Or.inr (Or.inr (Or.inr (Or.inr (Or.inr (Or.inl ⟨c_1, c_2, c_3, c_4, c_5, c_6, c_7, rfl⟩)))))))), by rw [ht]; exact hP, va_K.moved hW.alike hK, hD⟩, hS.F ht⟩) hS.2.2 dX13_rank_86
          · refine lv_iconst (v := 5) hx hb dX13_rank_35 (by decide) ?_
            refine lv_goto (tgt := 86) hx hb dX13_rank_36 (by decide) ?_
            refine W.widen (k := 0) (n := 0) (by decide +kernel) (by decide +kernel) ?_
            exact W.iret (v := 5) hx hb hr (fun t ht hW => ⟨⟨5, (), rfl, Or.inr (Or.inr (Or.inr (Or.inr (Or.inr (Or.inr (Or.inr (Or.inr (Or.inr (Or.inl ⟨c_1, c_2, c_3, c_4, c_5, rfl⟩))))))))), by rw [ht]; exact hP, va_K.moved hW.alike hK, hD⟩, hS.F ht⟩) hS.2.2 dX13_rank_86
      · refine lv_bipush (v := 6) hx hb dX13_rank_18 (by decide) ?_
        refine lv_goto (tgt := 86) hx hb dX13_rank_20 (by decide) ?_
        refine W.widen (k := 0) (n := 0) (by decide +kernel) (by decide +kernel) ?_
        exact W.iret (v := 6) hx hb hr (fun t ht hW => ⟨⟨6, (), rfl, Or.inr (Or.inr (Or.inr (Or.inr (Or.inr (Or.inr (Or.inr (Or.inr (Or.inr (Or.inr (Or.inl ⟨c_1, c_2, c_3, rfl⟩)))))))))), by rw [ht]; exact hP, va_K.moved hW.alike hK, hD⟩, hS.F ht⟩) hS.2.2 dX13_rank_86
def ow_g_X13_bits : List Cond := .code yX13_bits cX13_bits 4 (some .int) :: ([] ++ [])
theorem gd_g_X13_bits : ∀ w ∈ ow_g_X13_bits, (w.onTables && w.keeps) = true ∨ ∃ ty, w = Cond.arrayClass ty := List.forall_mem_cons.mpr ⟨good_of_word rfl, List.forall_mem_append.mpr ⟨fun w h => good_of_word (List.all_eq_true.mp (by decide +kernel) w h), fun _ h => nomatch h⟩⟩
set_option maxHeartbeats 40000000 in
set_option maxRecDepth 100000 in
theorem g_X13_bits (l : Launch) (hlt : l.stackTraces = false) (dC : Nat → ClassId) (dI : Nat → Nat → Nat) (v0 : Int32) (v1 : Int32) (v2 : Int32) (v3 : Int32) (sz : Nat) : Met l yX13_bits ow_g_X13_bits ({ frames := 0, cells := 0, slots := 0, locals := 0 }) (va_Pc [.int v0, .int v1, .int v2, .int v3] (fun U => U.heap.size = sz ∧ va_P (dC, dI) vwCl [] U.heap ∧ va_K (dC, dI) vwCl [] U ∧ va_D (fun _ => True) [] ∧ nv_E (va_A [] sz) U)) (va_Qi (fun r _ => (r = ((((((v0 : Int32).toUInt32 >>> ((v2 : Int32).toUInt32 &&& Int32.toUInt32 31)).toInt32) &&& (((1 : Int32) <<< ((((v1 - v2) + 1) : Int32) &&& 31)) - 1)) : Int32) <<< ((v3 : Int32) &&& 31))) ∨ False) (fun (_ : Unit) t => va_P (dC, dI) vwCl [] t.heap ∧ va_K (dC, dI) vwCl [] t ∧ va_D (va_A [] sz) []) (va_A [] sz)) 0 0 (va_A [] sz) := by
  refine Met.ofW (cc := cX13_bits) (maxL := 4) (ret := (some .int)) (by decide) rfl ?_
  intro p e s m args below meth c s₁ B hml hv
  obtain ⟨rfl, hsz, hP, hK, hD0, hN⟩ := hv
  have hx := B.exec
  have hb := B.bytes
  have hr := B.returns
  have hts := atoms_spec (ws := ow_g_X13_bits) B.pre
  have hown : s.vm.findClass RX13 = some m.cls := findClass_of_methodNamed B.named
  have hlocks := B.notSynchronized
  subst hsz
  have hD := hD0.self (sz := s.heap.size)
  generalize hAe : va_A [] s.heap.size = A at hD hN ⊢
  have hA : ∀ q : Nat, s.heap.size ≤ q → A q := fun q h => by rw [← hAe]; exact Or.inr h
  have hS : va_S A s.heap s.heap [] := va_S.rf
  have hl := lv_entry ([.int v0, .int v1, .int v2, .int v3]) (n := 4) (Nat.le_of_ble_eq_true rfl)
  rw [lg_entry_eq]
  generalize (lg_sl ([.int v0, .int v1, .int v2, .int v3]) ++ List.replicate (4 - (lg_sl ([.int v0, .int v1, .int v2, .int v3])).length) Slot.unset).toArray = ls at hl ⊢
  have hl : lv_has ls 4 [(0, .int v0), (1, .int v1), (2, .int v2), (3, .int v3)] := hl
  refine lv_iload_n hx hb dX13_bits_0 rfl (lv_at hl 0 rfl) ?_
  refine lv_iload_n hx hb dX13_bits_1 rfl (lv_at hl 2 rfl) ?_
  refine lv_iushr hx hb dX13_bits_2 rfl ?_
  refine lv_iconst (v := 1) hx hb dX13_bits_3 (by decide) ?_
  refine lv_iload_n hx hb dX13_bits_4 rfl (lv_at hl 1 rfl) ?_
  refine lv_iload_n hx hb dX13_bits_5 rfl (lv_at hl 2 rfl) ?_
  refine lv_isub hx hb dX13_bits_6 ?_
  refine lv_iconst (v := 1) hx hb dX13_bits_7 (by decide) ?_
  refine lv_iadd hx hb dX13_bits_8 ?_
  refine lv_ishl hx hb dX13_bits_9 ?_
  refine lv_iconst (v := 1) hx hb dX13_bits_10 (by decide) ?_
  refine lv_isub hx hb dX13_bits_11 ?_
  refine lv_iand hx hb dX13_bits_12 ?_
  refine lv_iload_n hx hb dX13_bits_13 rfl (lv_at hl 3 rfl) ?_
  refine lv_ishl hx hb dX13_bits_14 ?_
  refine W.widen (k := 0) (n := 0) (by decide +kernel) (by decide +kernel) ?_
  exact W.iret (v := ((((((v0 : Int32).toUInt32 >>> ((v2 : Int32).toUInt32 &&& Int32.toUInt32 31)).toInt32) &&& (((1 : Int32) <<< ((((v1 - v2) + 1) : Int32) &&& 31)) - 1)) : Int32) <<< ((v3 : Int32) &&& 31))) hx hb hr (fun t ht hW => ⟨⟨((((((v0 : Int32).toUInt32 >>> ((v2 : Int32).toUInt32 &&& Int32.toUInt32 31)).toInt32) &&& (((1 : Int32) <<< ((((v1 - v2) + 1) : Int32) &&& 31)) - 1)) : Int32) <<< ((v3 : Int32) &&& 31)), (), rfl, Or.inl rfl, by rw [ht]; exact hP, va_K.moved hW.alike hK, hD⟩, hS.F ht⟩) hS.2.2 dX13_bits_15
def ow_k_X13_bits : List Cond := .code yX13_bits cX13_bits 4 (some .int) :: ([] ++ [])
theorem gd_k_X13_bits : ∀ w ∈ ow_k_X13_bits, (w.onTables && w.keeps) = true ∨ ∃ ty, w = Cond.arrayClass ty := List.forall_mem_cons.mpr ⟨good_of_word rfl, List.forall_mem_append.mpr ⟨fun w h => good_of_word (List.all_eq_true.mp (by decide +kernel) w h), fun _ h => nomatch h⟩⟩
set_option maxHeartbeats 40000000 in
set_option maxRecDepth 100000 in
theorem k_X13_bits (l : Launch) (hlt : l.stackTraces = false) (dC : Nat → ClassId) (dI : Nat → Nat → Nat) (c0 : Int32) (sz : Nat) : Met l yX13_bits ow_k_X13_bits ({ frames := 0, cells := 0, slots := 0, locals := 0 }) (va_Pc [.int c0, .int 12, .int 12, .int 31] (fun U => U.heap.size = sz ∧ va_P (dC, dI) vwCl [] U.heap ∧ va_K (dC, dI) vwCl [] U ∧ va_D (fun _ => True) [] ∧ nv_E (va_A [] sz) U)) (va_Qi (fun r _ => (r = ((((((c0 : Int32).toUInt32 >>> ((12 : Int32).toUInt32 &&& Int32.toUInt32 31)).toInt32) &&& 1) : Int32) <<< ((31 : Int32) &&& 31))) ∨ False) (fun (_ : Unit) t => va_P (dC, dI) vwCl [] t.heap ∧ va_K (dC, dI) vwCl [] t ∧ va_D (va_A [] sz) []) (va_A [] sz)) 0 0 (va_A [] sz) := by
  refine Met.ofW (cc := cX13_bits) (maxL := 4) (ret := (some .int)) (by decide) rfl ?_
  intro p e s m args below meth c s₁ B hml hv
  obtain ⟨rfl, hsz, hP, hK, hD0, hN⟩ := hv
  have hx := B.exec
  have hb := B.bytes
  have hr := B.returns
  have hts := atoms_spec (ws := ow_k_X13_bits) B.pre
  have hown : s.vm.findClass RX13 = some m.cls := findClass_of_methodNamed B.named
  have hlocks := B.notSynchronized
  subst hsz
  have hD := hD0.self (sz := s.heap.size)
  generalize hAe : va_A [] s.heap.size = A at hD hN ⊢
  have hA : ∀ q : Nat, s.heap.size ≤ q → A q := fun q h => by rw [← hAe]; exact Or.inr h
  have hS : va_S A s.heap s.heap [] := va_S.rf
  have hl := lv_entry ([.int c0, .int 12, .int 12, .int 31]) (n := 4) (Nat.le_of_ble_eq_true rfl)
  rw [lg_entry_eq]
  generalize (lg_sl ([.int c0, .int 12, .int 12, .int 31]) ++ List.replicate (4 - (lg_sl ([.int c0, .int 12, .int 12, .int 31])).length) Slot.unset).toArray = ls at hl ⊢
  have hl : lv_has ls 4 [(0, .int c0), (1, .int 12), (2, .int 12), (3, .int 31)] := hl
  refine lv_iload_n hx hb dX13_bits_0 rfl (lv_at hl 0 rfl) ?_
  refine lv_iload_n hx hb dX13_bits_1 rfl (lv_at hl 2 rfl) ?_
  refine lv_iushr hx hb dX13_bits_2 rfl ?_
  refine lv_iconst (v := 1) hx hb dX13_bits_3 (by decide) ?_
  refine lv_iload_n hx hb dX13_bits_4 rfl (lv_at hl 1 rfl) ?_
  refine lv_iload_n hx hb dX13_bits_5 rfl (lv_at hl 2 rfl) ?_
  refine lv_isub hx hb dX13_bits_6 ?_
  refine lv_topi (fun z1 ez1 => ?_)
  obtain rfl : z1 = 0 := ez1.trans (by decide)
  refine lv_iconst (v := 1) hx hb dX13_bits_7 (by decide) ?_
  refine lv_iadd hx hb dX13_bits_8 ?_
  refine lv_topi (fun z2 ez2 => ?_)
  obtain rfl : z2 = 1 := ez2.trans (by decide)
  refine lv_ishl hx hb dX13_bits_9 ?_
  refine lv_topi (fun z3 ez3 => ?_)
  obtain rfl : z3 = 2 := ez3.trans (by decide)
  refine lv_iconst (v := 1) hx hb dX13_bits_10 (by decide) ?_
  refine lv_isub hx hb dX13_bits_11 ?_
  refine lv_topi (fun z4 ez4 => ?_)
  obtain rfl : z4 = 1 := ez4.trans (by decide)
  refine lv_iand hx hb dX13_bits_12 ?_
  refine lv_iload_n hx hb dX13_bits_13 rfl (lv_at hl 3 rfl) ?_
  refine lv_ishl hx hb dX13_bits_14 ?_
  refine W.widen (k := 0) (n := 0) (by decide +kernel) (by decide +kernel) ?_
  exact W.iret (v := ((((((c0 : Int32).toUInt32 >>> ((12 : Int32).toUInt32 &&& Int32.toUInt32 31)).toInt32) &&& 1) : Int32) <<< ((31 : Int32) &&& 31))) hx hb hr (fun t ht hW => ⟨⟨((((((c0 : Int32).toUInt32 >>> ((12 : Int32).toUInt32 &&& Int32.toUInt32 31)).toInt32) &&& 1) : Int32) <<< ((31 : Int32) &&& 31)), (), rfl, Or.inl rfl, by rw [ht]; exact hP, va_K.moved hW.alike hK, hD⟩, hS.F ht⟩) hS.2.2 dX13_bits_15
def ow_k_X13_bits_v1 : List Cond := .code yX13_bits cX13_bits 4 (some .int) :: ([] ++ [])
theorem gd_k_X13_bits_v1 : ∀ w ∈ ow_k_X13_bits_v1, (w.onTables && w.keeps) = true ∨ ∃ ty, w = Cond.arrayClass ty := List.forall_mem_cons.mpr ⟨good_of_word rfl, List.forall_mem_append.mpr ⟨fun w h => good_of_word (List.all_eq_true.mp (by decide +kernel) w h), fun _ h => nomatch h⟩⟩
set_option maxHeartbeats 40000000 in
set_option maxRecDepth 100000 in
theorem k_X13_bits_v1 (l : Launch) (hlt : l.stackTraces = false) (dC : Nat → ClassId) (dI : Nat → Nat → Nat) (c0 : Int32) (sz : Nat) : Met l yX13_bits ow_k_X13_bits_v1 ({ frames := 0, cells := 0, slots := 0, locals := 0 }) (va_Pc [.int c0, .int 10, .int 5, .int 25] (fun U => U.heap.size = sz ∧ va_P (dC, dI) vwCl [] U.heap ∧ va_K (dC, dI) vwCl [] U ∧ va_D (fun _ => True) [] ∧ nv_E (va_A [] sz) U)) (va_Qi (fun r _ => (r = ((((((c0 : Int32).toUInt32 >>> ((5 : Int32).toUInt32 &&& Int32.toUInt32 31)).toInt32) &&& 63) : Int32) <<< ((25 : Int32) &&& 31))) ∨ False) (fun (_ : Unit) t => va_P (dC, dI) vwCl [] t.heap ∧ va_K (dC, dI) vwCl [] t ∧ va_D (va_A [] sz) []) (va_A [] sz)) 0 0 (va_A [] sz) := by
  refine Met.ofW (cc := cX13_bits) (maxL := 4) (ret := (some .int)) (by decide) rfl ?_
  intro p e s m args below meth c s₁ B hml hv
  obtain ⟨rfl, hsz, hP, hK, hD0, hN⟩ := hv
  have hx := B.exec
  have hb := B.bytes
  have hr := B.returns
  have hts := atoms_spec (ws := ow_k_X13_bits_v1) B.pre
  have hown : s.vm.findClass RX13 = some m.cls := findClass_of_methodNamed B.named
  have hlocks := B.notSynchronized
  subst hsz
  have hD := hD0.self (sz := s.heap.size)
  generalize hAe : va_A [] s.heap.size = A at hD hN ⊢
  have hA : ∀ q : Nat, s.heap.size ≤ q → A q := fun q h => by rw [← hAe]; exact Or.inr h
  have hS : va_S A s.heap s.heap [] := va_S.rf
  have hl := lv_entry ([.int c0, .int 10, .int 5, .int 25]) (n := 4) (Nat.le_of_ble_eq_true rfl)
  rw [lg_entry_eq]
  generalize (lg_sl ([.int c0, .int 10, .int 5, .int 25]) ++ List.replicate (4 - (lg_sl ([.int c0, .int 10, .int 5, .int 25])).length) Slot.unset).toArray = ls at hl ⊢
  have hl : lv_has ls 4 [(0, .int c0), (1, .int 10), (2, .int 5), (3, .int 25)] := hl
  refine lv_iload_n hx hb dX13_bits_0 rfl (lv_at hl 0 rfl) ?_
  refine lv_iload_n hx hb dX13_bits_1 rfl (lv_at hl 2 rfl) ?_
  refine lv_iushr hx hb dX13_bits_2 rfl ?_
  refine lv_iconst (v := 1) hx hb dX13_bits_3 (by decide) ?_
  refine lv_iload_n hx hb dX13_bits_4 rfl (lv_at hl 1 rfl) ?_
  refine lv_iload_n hx hb dX13_bits_5 rfl (lv_at hl 2 rfl) ?_
  refine lv_isub hx hb dX13_bits_6 ?_
  refine lv_topi (fun z1 ez1 => ?_)
  obtain rfl : z1 = 5 := ez1.trans (by decide)
  refine lv_iconst (v := 1) hx hb dX13_bits_7 (by decide) ?_
  refine lv_iadd hx hb dX13_bits_8 ?_
  refine lv_topi (fun z2 ez2 => ?_)
  obtain rfl : z2 = 6 := ez2.trans (by decide)
  refine lv_ishl hx hb dX13_bits_9 ?_
  refine lv_topi (fun z3 ez3 => ?_)
  obtain rfl : z3 = 64 := ez3.trans (by decide)
  refine lv_iconst (v := 1) hx hb dX13_bits_10 (by decide) ?_
  refine lv_isub hx hb dX13_bits_11 ?_
  refine lv_topi (fun z4 ez4 => ?_)
  obtain rfl : z4 = 63 := ez4.trans (by decide)
  refine lv_iand hx hb dX13_bits_12 ?_
  refine lv_iload_n hx hb dX13_bits_13 rfl (lv_at hl 3 rfl) ?_
  refine lv_ishl hx hb dX13_bits_14 ?_
  refine W.widen (k := 0) (n := 0) (by decide +kernel) (by decide +kernel) ?_
  exact W.iret (v := ((((((c0 : Int32).toUInt32 >>> ((5 : Int32).toUInt32 &&& Int32.toUInt32 31)).toInt32) &&& 63) : Int32) <<< ((25 : Int32) &&& 31))) hx hb hr (fun t ht hW => ⟨⟨((((((c0 : Int32).toUInt32 >>> ((5 : Int32).toUInt32 &&& Int32.toUInt32 31)).toInt32) &&& 63) : Int32) <<< ((25 : Int32) &&& 31)), (), rfl, Or.inl rfl, by rw [ht]; exact hP, va_K.moved hW.alike hK, hD⟩, hS.F ht⟩) hS.2.2 dX13_bits_15
def ow_k_X13_bits_v2 : List Cond := .code yX13_bits cX13_bits 4 (some .int) :: ([] ++ [])
theorem gd_k_X13_bits_v2 : ∀ w ∈ ow_k_X13_bits_v2, (w.onTables && w.keeps) = true ∨ ∃ ty, w = Cond.arrayClass ty := List.forall_mem_cons.mpr ⟨good_of_word rfl, List.forall_mem_append.mpr ⟨fun w h => good_of_word (List.all_eq_true.mp (by decide +kernel) w h), fun _ h => nomatch h⟩⟩
set_option maxHeartbeats 40000000 in
set_option maxRecDepth 100000 in
theorem k_X13_bits_v2 (l : Launch) (hlt : l.stackTraces = false) (dC : Nat → ClassId) (dI : Nat → Nat → Nat) (c0 : Int32) (sz : Nat) : Met l yX13_bits ow_k_X13_bits_v2 ({ frames := 0, cells := 0, slots := 0, locals := 0 }) (va_Pc [.int c0, .int 4, .int 1, .int 8] (fun U => U.heap.size = sz ∧ va_P (dC, dI) vwCl [] U.heap ∧ va_K (dC, dI) vwCl [] U ∧ va_D (fun _ => True) [] ∧ nv_E (va_A [] sz) U)) (va_Qi (fun r _ => (r = ((((((c0 : Int32).toUInt32 >>> ((1 : Int32).toUInt32 &&& Int32.toUInt32 31)).toInt32) &&& 15) : Int32) <<< ((8 : Int32) &&& 31))) ∨ False) (fun (_ : Unit) t => va_P (dC, dI) vwCl [] t.heap ∧ va_K (dC, dI) vwCl [] t ∧ va_D (va_A [] sz) []) (va_A [] sz)) 0 0 (va_A [] sz) := by
  refine Met.ofW (cc := cX13_bits) (maxL := 4) (ret := (some .int)) (by decide) rfl ?_
  intro p e s m args below meth c s₁ B hml hv
  obtain ⟨rfl, hsz, hP, hK, hD0, hN⟩ := hv
  have hx := B.exec
  have hb := B.bytes
  have hr := B.returns
  have hts := atoms_spec (ws := ow_k_X13_bits_v2) B.pre
  have hown : s.vm.findClass RX13 = some m.cls := findClass_of_methodNamed B.named
  have hlocks := B.notSynchronized
  subst hsz
  have hD := hD0.self (sz := s.heap.size)
  generalize hAe : va_A [] s.heap.size = A at hD hN ⊢
  have hA : ∀ q : Nat, s.heap.size ≤ q → A q := fun q h => by rw [← hAe]; exact Or.inr h
  have hS : va_S A s.heap s.heap [] := va_S.rf
  have hl := lv_entry ([.int c0, .int 4, .int 1, .int 8]) (n := 4) (Nat.le_of_ble_eq_true rfl)
  rw [lg_entry_eq]
  generalize (lg_sl ([.int c0, .int 4, .int 1, .int 8]) ++ List.replicate (4 - (lg_sl ([.int c0, .int 4, .int 1, .int 8])).length) Slot.unset).toArray = ls at hl ⊢
  have hl : lv_has ls 4 [(0, .int c0), (1, .int 4), (2, .int 1), (3, .int 8)] := hl
  refine lv_iload_n hx hb dX13_bits_0 rfl (lv_at hl 0 rfl) ?_
  refine lv_iload_n hx hb dX13_bits_1 rfl (lv_at hl 2 rfl) ?_
  refine lv_iushr hx hb dX13_bits_2 rfl ?_
  refine lv_iconst (v := 1) hx hb dX13_bits_3 (by decide) ?_
  refine lv_iload_n hx hb dX13_bits_4 rfl (lv_at hl 1 rfl) ?_
  refine lv_iload_n hx hb dX13_bits_5 rfl (lv_at hl 2 rfl) ?_
  refine lv_isub hx hb dX13_bits_6 ?_
  refine lv_topi (fun z1 ez1 => ?_)
  obtain rfl : z1 = 3 := ez1.trans (by decide)
  refine lv_iconst (v := 1) hx hb dX13_bits_7 (by decide) ?_
  refine lv_iadd hx hb dX13_bits_8 ?_
  refine lv_topi (fun z2 ez2 => ?_)
  obtain rfl : z2 = 4 := ez2.trans (by decide)
  refine lv_ishl hx hb dX13_bits_9 ?_
  refine lv_topi (fun z3 ez3 => ?_)
  obtain rfl : z3 = 16 := ez3.trans (by decide)
  refine lv_iconst (v := 1) hx hb dX13_bits_10 (by decide) ?_
  refine lv_isub hx hb dX13_bits_11 ?_
  refine lv_topi (fun z4 ez4 => ?_)
  obtain rfl : z4 = 15 := ez4.trans (by decide)
  refine lv_iand hx hb dX13_bits_12 ?_
  refine lv_iload_n hx hb dX13_bits_13 rfl (lv_at hl 3 rfl) ?_
  refine lv_ishl hx hb dX13_bits_14 ?_
  refine W.widen (k := 0) (n := 0) (by decide +kernel) (by decide +kernel) ?_
  exact W.iret (v := ((((((c0 : Int32).toUInt32 >>> ((1 : Int32).toUInt32 &&& Int32.toUInt32 31)).toInt32) &&& 15) : Int32) <<< ((8 : Int32) &&& 31))) hx hb hr (fun t ht hW => ⟨⟨((((((c0 : Int32).toUInt32 >>> ((1 : Int32).toUInt32 &&& Int32.toUInt32 31)).toInt32) &&& 15) : Int32) <<< ((8 : Int32) &&& 31)), (), rfl, Or.inl rfl, by rw [ht]; exact hP, va_K.moved hW.alike hK, hD⟩, hS.F ht⟩) hS.2.2 dX13_bits_15
def ow_k_X13_bits_v3 : List Cond := .code yX13_bits cX13_bits 4 (some .int) :: ([] ++ [])
theorem gd_k_X13_bits_v3 : ∀ w ∈ ow_k_X13_bits_v3, (w.onTables && w.keeps) = true ∨ ∃ ty, w = Cond.arrayClass ty := List.forall_mem_cons.mpr ⟨good_of_word rfl, List.forall_mem_append.mpr ⟨fun w h => good_of_word (List.all_eq_true.mp (by decide +kernel) w h), fun _ h => nomatch h⟩⟩
set_option maxHeartbeats 40000000 in
set_option maxRecDepth 100000 in
theorem k_X13_bits_v3 (l : Launch) (hlt : l.stackTraces = false) (dC : Nat → ClassId) (dI : Nat → Nat → Nat) (c0 : Int32) (sz : Nat) : Met l yX13_bits ow_k_X13_bits_v3 ({ frames := 0, cells := 0, slots := 0, locals := 0 }) (va_Pc [.int c0, .int 11, .int 11, .int 7] (fun U => U.heap.size = sz ∧ va_P (dC, dI) vwCl [] U.heap ∧ va_K (dC, dI) vwCl [] U ∧ va_D (fun _ => True) [] ∧ nv_E (va_A [] sz) U)) (va_Qi (fun r _ => (r = ((((((c0 : Int32).toUInt32 >>> ((11 : Int32).toUInt32 &&& Int32.toUInt32 31)).toInt32) &&& 1) : Int32) <<< ((7 : Int32) &&& 31))) ∨ False) (fun (_ : Unit) t => va_P (dC, dI) vwCl [] t.heap ∧ va_K (dC, dI) vwCl [] t ∧ va_D (va_A [] sz) []) (va_A [] sz)) 0 0 (va_A [] sz) := by
  refine Met.ofW (cc := cX13_bits) (maxL := 4) (ret := (some .int)) (by decide) rfl ?_
  intro p e s m args below meth c s₁ B hml hv
  obtain ⟨rfl, hsz, hP, hK, hD0, hN⟩ := hv
  have hx := B.exec
  have hb := B.bytes
  have hr := B.returns
  have hts := atoms_spec (ws := ow_k_X13_bits_v3) B.pre
  have hown : s.vm.findClass RX13 = some m.cls := findClass_of_methodNamed B.named
  have hlocks := B.notSynchronized
  subst hsz
  have hD := hD0.self (sz := s.heap.size)
  generalize hAe : va_A [] s.heap.size = A at hD hN ⊢
  have hA : ∀ q : Nat, s.heap.size ≤ q → A q := fun q h => by rw [← hAe]; exact Or.inr h
  have hS : va_S A s.heap s.heap [] := va_S.rf
  have hl := lv_entry ([.int c0, .int 11, .int 11, .int 7]) (n := 4) (Nat.le_of_ble_eq_true rfl)
  rw [lg_entry_eq]
  generalize (lg_sl ([.int c0, .int 11, .int 11, .int 7]) ++ List.replicate (4 - (lg_sl ([.int c0, .int 11, .int 11, .int 7])).length) Slot.unset).toArray = ls at hl ⊢
  have hl : lv_has ls 4 [(0, .int c0), (1, .int 11), (2, .int 11), (3, .int 7)] := hl
  refine lv_iload_n hx hb dX13_bits_0 rfl (lv_at hl 0 rfl) ?_
  refine lv_iload_n hx hb dX13_bits_1 rfl (lv_at hl 2 rfl) ?_
  refine lv_iushr hx hb dX13_bits_2 rfl ?_
  refine lv_iconst (v := 1) hx hb dX13_bits_3 (by decide) ?_
  refine lv_iload_n hx hb dX13_bits_4 rfl (lv_at hl 1 rfl) ?_
  refine lv_iload_n hx hb dX13_bits_5 rfl (lv_at hl 2 rfl) ?_
  refine lv_isub hx hb dX13_bits_6 ?_
  refine lv_topi (fun z1 ez1 => ?_)
  obtain rfl : z1 = 0 := ez1.trans (by decide)
  refine lv_iconst (v := 1) hx hb dX13_bits_7 (by decide) ?_
  refine lv_iadd hx hb dX13_bits_8 ?_
  refine lv_topi (fun z2 ez2 => ?_)
  obtain rfl : z2 = 1 := ez2.trans (by decide)
  refine lv_ishl hx hb dX13_bits_9 ?_
  refine lv_topi (fun z3 ez3 => ?_)
  obtain rfl : z3 = 2 := ez3.trans (by decide)
  refine lv_iconst (v := 1) hx hb dX13_bits_10 (by decide) ?_
  refine lv_isub hx hb dX13_bits_11 ?_
  refine lv_topi (fun z4 ez4 => ?_)
  obtain rfl : z4 = 1 := ez4.trans (by decide)
  refine lv_iand hx hb dX13_bits_12 ?_
  refine lv_iload_n hx hb dX13_bits_13 rfl (lv_at hl 3 rfl) ?_
  refine lv_ishl hx hb dX13_bits_14 ?_
  refine W.widen (k := 0) (n := 0) (by decide +kernel) (by decide +kernel) ?_
  exact W.iret (v := ((((((c0 : Int32).toUInt32 >>> ((11 : Int32).toUInt32 &&& Int32.toUInt32 31)).toInt32) &&& 1) : Int32) <<< ((7 : Int32) &&& 31))) hx hb hr (fun t ht hW => ⟨⟨((((((c0 : Int32).toUInt32 >>> ((11 : Int32).toUInt32 &&& Int32.toUInt32 31)).toInt32) &&& 1) : Int32) <<< ((7 : Int32) &&& 31)), (), rfl, Or.inl rfl, by rw [ht]; exact hP, va_K.moved hW.alike hK, hD⟩, hS.F ht⟩) hS.2.2 dX13_bits_15
def ow_g_X13_branchBits : List Cond := .code yX13_branchBits cX13_branchBits 1 (some .int) :: ([.methodLink RX13 550 yX13_bits, .static yX13_bits, .initialized RX13] ++ (ow_k_X13_bits ++ (ow_k_X13_bits_v1 ++ (ow_k_X13_bits_v2 ++ (ow_k_X13_bits_v3 ++ [])))))
theorem gd_g_X13_branchBits : ∀ w ∈ ow_g_X13_branchBits, (w.onTables && w.keeps) = true ∨ ∃ ty, w = Cond.arrayClass ty := List.forall_mem_cons.mpr ⟨good_of_word rfl, List.forall_mem_append.mpr ⟨fun w h => good_of_word (List.all_eq_true.mp (by decide +kernel) w h), List.forall_mem_append.mpr ⟨gd_k_X13_bits, List.forall_mem_append.mpr ⟨gd_k_X13_bits_v1, List.forall_mem_append.mpr ⟨gd_k_X13_bits_v2, List.forall_mem_append.mpr ⟨gd_k_X13_bits_v3, fun _ h => nomatch h⟩⟩⟩⟩⟩⟩
theorem gi_g_X13_branchBits_0 : GoodIn ow_g_X13_branchBits (wsS RX13 550 yX13_bits ow_k_X13_bits) := goodIn_app (goodIn_of _ (by decide +kernel)) (fun w h => ⟨List.mem_cons_of_mem _ (List.mem_append_right _ (List.mem_append_left _ h)), gd_k_X13_bits w h⟩)
theorem gi_g_X13_branchBits_1 : GoodIn ow_g_X13_branchBits (wsS RX13 550 yX13_bits ow_k_X13_bits_v1) := goodIn_app (goodIn_of _ (by decide +kernel)) (fun w h => ⟨List.mem_cons_of_mem _ (List.mem_append_right _ (List.mem_append_right _ (List.mem_append_left _ h))), gd_k_X13_bits_v1 w h⟩)
theorem gi_g_X13_branchBits_2 : GoodIn ow_g_X13_branchBits (wsS RX13 550 yX13_bits ow_k_X13_bits_v2) := goodIn_app (goodIn_of _ (by decide +kernel)) (fun w h => ⟨List.mem_cons_of_mem _ (List.mem_append_right _ (List.mem_append_right _ (List.mem_append_right _ (List.mem_append_left _ h)))), gd_k_X13_bits_v2 w h⟩)
theorem gi_g_X13_branchBits_3 : GoodIn ow_g_X13_branchBits (wsS RX13 550 yX13_bits ow_k_X13_bits_v3) := goodIn_app (goodIn_of _ (by decide +kernel)) (fun w h => ⟨List.mem_cons_of_mem _ (List.mem_append_right _ (List.mem_append_right _ (List.mem_append_right _ (List.mem_append_right _ (List.mem_append_left _ h))))), gd_k_X13_bits_v3 w h⟩)
set_option maxHeartbeats 40000000 in
set_option maxRecDepth 100000 in
theorem g_X13_branchBits (l : Launch) (hlt : l.stackTraces = false) (dC : Nat → ClassId) (dI : Nat → Nat → Nat) (v0 : Int32) (sz : Nat) : Met l yX13_branchBits ow_g_X13_branchBits ({ frames := 1, cells := 0, slots := 0, locals := 23 }) (va_Pc [.int v0] (fun U => U.heap.size = sz ∧ va_P (dC, dI) vwCl [] U.heap ∧ va_K (dC, dI) vwCl [] U ∧ va_D (fun _ => True) [] ∧ nv_E (va_A [] sz) U)) (va_Qi (fun r _ => (r = (((((((((v0 : Int32).toUInt32 >>> ((12 : Int32).toUInt32 &&& Int32.toUInt32 31)).toInt32) &&& 1) : Int32) <<< ((31 : Int32) &&& 31)) ||| ((((((v0 : Int32).toUInt32 >>> ((5 : Int32).toUInt32 &&& Int32.toUInt32 31)).toInt32) &&& 63) : Int32) <<< ((25 : Int32) &&& 31))) ||| ((((((v0 : Int32).toUInt32 >>> ((1 : Int32).toUInt32 &&& Int32.toUInt32 31)).toInt32) &&& 15) : Int32) <<< ((8 : Int32) &&& 31))) ||| ((((((v0 : Int32).toUInt32 >>> ((11 : Int32).toUInt32 &&& Int32.toUInt32 31)).toInt32) &&& 1) : Int32) <<< ((7 : Int32) &&& 31)))) ∨ False) (fun (_ : Unit) t => va_P (dC, dI) vwCl [] t.heap ∧ va_K (dC, dI) vwCl [] t ∧ va_D (va_A [] sz) []) (va_A [] sz)) 0 0 (va_A [] sz) := by
  refine Met.ofW (cc := cX13_branchBits) (maxL := 1) (ret := (some .int)) (by decide) rfl ?_
  intro p e s m args below meth c s₁ B hml hv
  obtain ⟨rfl, hsz, hP, hK, hD0, hN⟩ := hv
  have hx := B.exec
  have hb := B.bytes
  have hr := B.returns
  have hts := atoms_spec (ws := ow_g_X13_branchBits) B.pre
  have hown : s.vm.findClass RX13 = some m.cls := findClass_of_methodNamed B.named
  have hlocks := B.notSynchronized
  subst hsz
  have hD := hD0.self (sz := s.heap.size)
  generalize hAe : va_A [] s.heap.size = A at hD hN ⊢
  have hA : ∀ q : Nat, s.heap.size ≤ q → A q := fun q h => by rw [← hAe]; exact Or.inr h
  have hS : va_S A s.heap s.heap [] := va_S.rf
  have hl := lv_entry ([.int v0]) (n := 1) (Nat.le_of_ble_eq_true rfl)
  rw [lg_entry_eq]
  generalize (lg_sl ([.int v0]) ++ List.replicate (1 - (lg_sl ([.int v0])).length) Slot.unset).toArray = ls at hl ⊢
  have hl : lv_has ls 1 [(0, .int v0)] := hl
  refine lv_iload_n hx hb dX13_branchBits_0 rfl (lv_at hl 0 rfl) ?_
  refine lv_bipush (v := 12) hx hb dX13_branchBits_1 (by decide) ?_
  refine lv_bipush (v := 12) hx hb dX13_branchBits_3 (by decide) ?_
  refine lv_bipush (v := 31) hx hb dX13_branchBits_5 (by decide) ?_
  have hPc := hP.sub (ws' := []) [] rfl
  have hDc := hD.sub (ws' := []) [] (by decide) rfl
  have hKc := hK.sub (tys' := []) [] rfl
  have hFc := va_free (wc := []) hD hS hA [] rfl
  refine va_calli (va_runS (As := [.int v0, .int 12, .int 12, .int 31]) (rest := []) ⟨hx, hb, hml, hown, hts⟩ (k_X13_bits l hlt dC dI v0  s.heap.size) (cwS 4 hts gi_g_X13_branchBits_0 rfl rfl rfl (by decide +kernel) ⟨Nat.le_of_ble_eq_true rfl, Nat.le_of_ble_eq_true rfl⟩) ⟨fun a U g mk q => by obtain ⟨q0, q1, qP, qK, qD, qN⟩ := q; exact ⟨q0, q1, qP, va_K.moved (u := U) (U := U.calling g mk a) (Vm.Alike.refl U.vm) qK, qD, nv_same rfl rfl qN⟩, fun U hU hW => ⟨rfl, by rw [hU], by rw [hU]; exact hPc, va_K.moved hW.alike hKc, hDc.weaken (fun _ _ _ _ => trivial), nv_call hS hFc hU hW hN⟩⟩ rfl rfl hl.1 rfl (lv_room (Nat.le_of_ble_eq_true rfl)) dX13_branchBits_7 ⟨by decide +kernel, by decide +kernel⟩) hS (fun q _ h => hFc q h) hFc (fun r1 u t H1 locs ht hvm hw hB hz1 hk1 hS => ?_)
  obtain ⟨hP1, hK1, hD1⟩ := hB
  rw [ht] at hP1
  have hK1 := va_K.moved hvm.symm hK1
  obtain ⟨hP, hD⟩ := va_join (wr := []) (w1 := []) hP hD [] [] rfl rfl (by decide) (by decide) hk1 hFc hP1 hD1
  have hK := (hK.sub (tys' := []) [] rfl).app hK1
  generalize H1 = H at hP hS ⊢
  have hP : va_P (dC, dI) vwCl [] H := hP
  have hD : va_D A [] := hD
  have hK : va_K (dC, dI) vwCl [] s := hK
  refine W.widen (k := 0) (n := 0) (by decide +kernel) (by decide +kernel) ?_
  rcases hw with h9 | h9
  · subst h9
    refine lv_iload_n hx hb dX13_branchBits_10 rfl (lv_at hl 0 rfl) ?_
    refine lv_bipush (v := 10) hx hb dX13_branchBits_11 (by decide) ?_
    refine lv_iconst (v := 5) hx hb dX13_branchBits_13 (by decide) ?_
    refine lv_bipush (v := 25) hx hb dX13_branchBits_14 (by decide) ?_
    have hPc := hP.sub (ws' := []) [] rfl
    have hDc := hD.sub (ws' := []) [] (by decide) rfl
    have hKc := hK.sub (tys' := []) [] rfl
    have hFc := va_free (wc := []) hD hS hA [] rfl
    refine va_calli (va_runS (As := [.int v0, .int 10, .int 5, .int 25]) (rest := [.int ((((((v0 : Int32).toUInt32 >>> ((12 : Int32).toUInt32 &&& Int32.toUInt32 31)).toInt32) &&& 1) : Int32) <<< ((31 : Int32) &&& 31))]) ⟨hx, hb, hml, hown, hts⟩ (k_X13_bits_v1 l hlt dC dI v0  H.size) (cwS 4 hts gi_g_X13_branchBits_1 rfl rfl rfl (by decide +kernel) ⟨Nat.le_of_ble_eq_true rfl, Nat.le_of_ble_eq_true rfl⟩) ⟨fun a U g mk q => by obtain ⟨q0, q1, qP, qK, qD, qN⟩ := q; exact ⟨q0, q1, qP, va_K.moved (u := U) (U := U.calling g mk a) (Vm.Alike.refl U.vm) qK, qD, nv_same rfl rfl qN⟩, fun U hU hW => ⟨rfl, by rw [hU], by rw [hU]; exact hPc, va_K.moved hW.alike hKc, hDc.weaken (fun _ _ _ _ => trivial), nv_call hS hFc hU hW hN⟩⟩ rfl rfl hl.1 rfl (lv_room (Nat.le_of_ble_eq_true rfl)) dX13_branchBits_16 ⟨by decide +kernel, by decide +kernel⟩) hS (fun q _ h => hFc q h) hFc (fun r2 u t H1 locs ht hvm hw hB hz1 hk1 hS => ?_)
    obtain ⟨hP1, hK1, hD1⟩ := hB
    rw [ht] at hP1
    have hK1 := va_K.moved hvm.symm hK1
    obtain ⟨hP, hD⟩ := va_join (wr := []) (w1 := []) hP hD [] [] rfl rfl (by decide) (by decide) hk1 hFc hP1 hD1
    have hK := (hK.sub (tys' := []) [] rfl).app hK1
    generalize H1 = H at hP hS ⊢
    have hP : va_P (dC, dI) vwCl [] H := hP
    have hD : va_D A [] := hD
    have hK : va_K (dC, dI) vwCl [] s := hK
    refine W.widen (k := 0) (n := 0) (by decide +kernel) (by decide +kernel) ?_
    rcases hw with h9 | h9
    · subst h9
      refine lv_ior hx hb dX13_branchBits_19 ?_
      refine lv_iload_n hx hb dX13_branchBits_20 rfl (lv_at hl 0 rfl) ?_
      refine lv_iconst (v := 4) hx hb dX13_branchBits_21 (by decide) ?_
      refine lv_iconst (v := 1) hx hb dX13_branchBits_22 (by decide) ?_
      refine lv_bipush (v := 8) hx hb dX13_branchBits_23 (by decide) ?_
      have hPc := hP.sub (ws' := []) [] rfl
      have hDc := hD.sub (ws' := []) [] (by decide) rfl
      have hKc := hK.sub (tys' := []) [] rfl
      have hFc := va_free (wc := []) hD hS hA [] rfl
      refine va_calli (va_runS (As := [.int v0, .int 4, .int 1, .int 8]) (rest := [.int (((((((v0 : Int32).toUInt32 >>> ((12 : Int32).toUInt32 &&& Int32.toUInt32 31)).toInt32) &&& 1) : Int32) <<< ((31 : Int32) &&& 31)) ||| ((((((v0 : Int32).toUInt32 >>> ((5 : Int32).toUInt32 &&& Int32.toUInt32 31)).toInt32) &&& 63) : Int32) <<< ((25 : Int32) &&& 31)))]) ⟨hx, hb, hml, hown, hts⟩ (k_X13_bits_v2 l hlt dC dI v0  H.size) (cwS 4 hts gi_g_X13_branchBits_2 rfl rfl rfl (by decide +kernel) ⟨Nat.le_of_ble_eq_true rfl, Nat.le_of_ble_eq_true rfl⟩) ⟨fun a U g mk q => by obtain ⟨q0, q1, qP, qK, qD, qN⟩ := q; exact ⟨q0, q1, qP, va_K.moved (u := U) (U := U.calling g mk a) (Vm.Alike.refl U.vm) qK, qD, nv_same rfl rfl qN⟩, fun U hU hW => ⟨rfl, by rw [hU], by rw [hU]; exact hPc, va_K.moved hW.alike hKc, hDc.weaken (fun _ _ _ _ => trivial), nv_call hS hFc hU hW hN⟩⟩ rfl rfl hl.1 rfl (lv_room (Nat.le_of_ble_eq_true rfl)) dX13_branchBits_25 ⟨by decide +kernel, by decide +kernel⟩) hS (fun q _ h => hFc q h) hFc (fun r3 u t H1 locs ht hvm hw hB hz1 hk1 hS => ?_)
      obtain ⟨hP1, hK1, hD1⟩ := hB
      rw [ht] at hP1
      have hK1 := va_K.moved hvm.symm hK1
      obtain ⟨hP, hD⟩ := va_join (wr := []) (w1 := []) hP hD [] [] rfl rfl (by decide) (by decide) hk1 hFc hP1 hD1
      have hK := (hK.sub (tys' := []) [] rfl).app hK1
      generalize H1 = H at hP hS ⊢
      have hP : va_P (dC, dI) vwCl [] H := hP
      have hD : va_D A [] := hD
      have hK : va_K (dC, dI) vwCl [] s := hK
      refine W.widen (k := 0) (n := 0) (by decide +kernel) (by decide +kernel) ?_
      rcases hw with h9 | h9
      · subst h9
        refine lv_ior hx hb dX13_branchBits_28 ?_
        refine lv_iload_n hx hb dX13_branchBits_29 rfl (lv_at hl 0 rfl) ?_
        refine lv_bipush (v := 11) hx hb dX13_branchBits_30 (by decide) ?_
        refine lv_bipush (v := 11) hx hb dX13_branchBits_32 (by decide) ?_
        refine lv_bipush (v := 7) hx hb dX13_branchBits_34 (by decide) ?_
        have hPc := hP.sub (ws' := []) [] rfl
        have hDc := hD.sub (ws' := []) [] (by decide) rfl
        have hKc := hK.sub (tys' := []) [] rfl
        have hFc := va_free (wc := []) hD hS hA [] rfl
        refine va_calli (va_runS (As := [.int v0, .int 11, .int 11, .int 7]) (rest := [.int ((((((((v0 : Int32).toUInt32 >>> ((12 : Int32).toUInt32 &&& Int32.toUInt32 31)).toInt32) &&& 1) : Int32) <<< ((31 : Int32) &&& 31)) ||| ((((((v0 : Int32).toUInt32 >>> ((5 : Int32).toUInt32 &&& Int32.toUInt32 31)).toInt32) &&& 63) : Int32) <<< ((25 : Int32) &&& 31))) ||| ((((((v0 : Int32).toUInt32 >>> ((1 : Int32).toUInt32 &&& Int32.toUInt32 31)).toInt32) &&& 15) : Int32) <<< ((8 : Int32) &&& 31)))]) ⟨hx, hb, hml, hown, hts⟩ (k_X13_bits_v3 l hlt dC dI v0  H.size) (cwS 4 hts gi_g_X13_branchBits_3 rfl rfl rfl (by decide +kernel) ⟨Nat.le_of_ble_eq_true rfl, Nat.le_of_ble_eq_true rfl⟩) ⟨fun a U g mk q => by obtain ⟨q0, q1, qP, qK, qD, qN⟩ := q; exact ⟨q0, q1, qP, va_K.moved (u := U) (U := U.calling g mk a) (Vm.Alike.refl U.vm) qK, qD, nv_same rfl rfl qN⟩, fun U hU hW => ⟨rfl, by rw [hU], by rw [hU]; exact hPc, va_K.moved hW.alike hKc, hDc.weaken (fun _ _ _ _ => trivial), nv_call hS hFc hU hW hN⟩⟩ rfl rfl hl.1 rfl (lv_room (Nat.le_of_ble_eq_true rfl)) dX13_branchBits_36 ⟨by decide +kernel, by decide +kernel⟩) hS (fun q _ h => hFc q h) hFc (fun r4 u t H1 locs ht hvm hw hB hz1 hk1 hS => ?_)
        obtain ⟨hP1, hK1, hD1⟩ := hB
        rw [ht] at hP1
        have hK1 := va_K.moved hvm.symm hK1
        obtain ⟨hP, hD⟩ := va_join (wr := []) (w1 := []) hP hD [] [] rfl rfl (by decide) (by decide) hk1 hFc hP1 hD1
        have hK := (hK.sub (tys' := []) [] rfl).app hK1
        generalize H1 = H at hP hS ⊢
        have hP : va_P (dC, dI) vwCl [] H := hP
        have hD : va_D A [] := hD
        have hK : va_K (dC, dI) vwCl [] s := hK
        refine W.widen (k := 0) (n := 0) (by decide +kernel) (by decide +kernel) ?_
        rcases hw with h9 | h9
        · subst h9
          refine lv_ior hx hb dX13_branchBits_39 ?_
          refine W.widen (k := 0) (n := 0) (by decide +kernel) (by decide +kernel) ?_
          exact W.iret (v := (((((((((v0 : Int32).toUInt32 >>> ((12 : Int32).toUInt32 &&& Int32.toUInt32 31)).toInt32) &&& 1) : Int32) <<< ((31 : Int32) &&& 31)) ||| ((((((v0 : Int32).toUInt32 >>> ((5 : Int32).toUInt32 &&& Int32.toUInt32 31)).toInt32) &&& 63) : Int32) <<< ((25 : Int32) &&& 31))) ||| ((((((v0 : Int32).toUInt32 >>> ((1 : Int32).toUInt32 &&& Int32.toUInt32 31)).toInt32) &&& 15) : Int32) <<< ((8 : Int32) &&& 31))) ||| ((((((v0 : Int32).toUInt32 >>> ((11 : Int32).toUInt32 &&& Int32.toUInt32 31)).toInt32) &&& 1) : Int32) <<< ((7 : Int32) &&& 31)))) hx hb hr (fun t ht hW => ⟨⟨(((((((((v0 : Int32).toUInt32 >>> ((12 : Int32).toUInt32 &&& Int32.toUInt32 31)).toInt32) &&& 1) : Int32) <<< ((31 : Int32) &&& 31)) ||| ((((((v0 : Int32).toUInt32 >>> ((5 : Int32).toUInt32 &&& Int32.toUInt32 31)).toInt32) &&& 63) : Int32) <<< ((25 : Int32) &&& 31))) ||| ((((((v0 : Int32).toUInt32 >>> ((1 : Int32).toUInt32 &&& Int32.toUInt32 31)).toInt32) &&& 15) : Int32) <<< ((8 : Int32) &&& 31))) ||| ((((((v0 : Int32).toUInt32 >>> ((11 : Int32).toUInt32 &&& Int32.toUInt32 31)).toInt32) &&& 1) : Int32) <<< ((7 : Int32) &&& 31))), (), rfl, Or.inl rfl, by rw [ht]; exact hP, va_K.moved hW.alike hK, hD⟩, hS.F ht⟩) hS.2.2 dX13_branchBits_40
        · exact h9.elim
      · exact h9.elim
    · exact h9.elim
  · exact h9.elim
def ow_k_X13_bits_v4 : List Cond := .code yX13_bits cX13_bits 4 (some .int) :: ([] ++ [])
theorem gd_k_X13_bits_v4 : ∀ w ∈ ow_k_X13_bits_v4, (w.onTables && w.keeps) = true ∨ ∃ ty, w = Cond.arrayClass ty := List.forall_mem_cons.mpr ⟨good_of_word rfl, List.forall_mem_append.mpr ⟨fun w h => good_of_word (List.all_eq_true.mp (by decide +kernel) w h), fun _ h => nomatch h⟩⟩
set_option maxHeartbeats 40000000 in
set_option maxRecDepth 100000 in
theorem k_X13_bits_v4 (l : Launch) (hlt : l.stackTraces = false) (dC : Nat → ClassId) (dI : Nat → Nat → Nat) (c0 : Int32) (sz : Nat) : Met l yX13_bits ow_k_X13_bits_v4 ({ frames := 0, cells := 0, slots := 0, locals := 0 }) (va_Pc [.int c0, .int 20, .int 20, .int 31] (fun U => U.heap.size = sz ∧ va_P (dC, dI) vwCl [] U.heap ∧ va_K (dC, dI) vwCl [] U ∧ va_D (fun _ => True) [] ∧ nv_E (va_A [] sz) U)) (va_Qi (fun r _ => (r = ((((((c0 : Int32).toUInt32 >>> ((20 : Int32).toUInt32 &&& Int32.toUInt32 31)).toInt32) &&& 1) : Int32) <<< ((31 : Int32) &&& 31))) ∨ False) (fun (_ : Unit) t => va_P (dC, dI) vwCl [] t.heap ∧ va_K (dC, dI) vwCl [] t ∧ va_D (va_A [] sz) []) (va_A [] sz)) 0 0 (va_A [] sz) := by
  refine Met.ofW (cc := cX13_bits) (maxL := 4) (ret := (some .int)) (by decide) rfl ?_
  intro p e s m args below meth c s₁ B hml hv
  obtain ⟨rfl, hsz, hP, hK, hD0, hN⟩ := hv
  have hx := B.exec
  have hb := B.bytes
  have hr := B.returns
  have hts := atoms_spec (ws := ow_k_X13_bits_v4) B.pre
  have hown : s.vm.findClass RX13 = some m.cls := findClass_of_methodNamed B.named
  have hlocks := B.notSynchronized
  subst hsz
  have hD := hD0.self (sz := s.heap.size)
  generalize hAe : va_A [] s.heap.size = A at hD hN ⊢
  have hA : ∀ q : Nat, s.heap.size ≤ q → A q := fun q h => by rw [← hAe]; exact Or.inr h
  have hS : va_S A s.heap s.heap [] := va_S.rf
  have hl := lv_entry ([.int c0, .int 20, .int 20, .int 31]) (n := 4) (Nat.le_of_ble_eq_true rfl)
  rw [lg_entry_eq]
  generalize (lg_sl ([.int c0, .int 20, .int 20, .int 31]) ++ List.replicate (4 - (lg_sl ([.int c0, .int 20, .int 20, .int 31])).length) Slot.unset).toArray = ls at hl ⊢
  have hl : lv_has ls 4 [(0, .int c0), (1, .int 20), (2, .int 20), (3, .int 31)] := hl
  refine lv_iload_n hx hb dX13_bits_0 rfl (lv_at hl 0 rfl) ?_
  refine lv_iload_n hx hb dX13_bits_1 rfl (lv_at hl 2 rfl) ?_
  refine lv_iushr hx hb dX13_bits_2 rfl ?_
  refine lv_iconst (v := 1) hx hb dX13_bits_3 (by decide) ?_
  refine lv_iload_n hx hb dX13_bits_4 rfl (lv_at hl 1 rfl) ?_
  refine lv_iload_n hx hb dX13_bits_5 rfl (lv_at hl 2 rfl) ?_
  refine lv_isub hx hb dX13_bits_6 ?_
  refine lv_topi (fun z1 ez1 => ?_)
  obtain rfl : z1 = 0 := ez1.trans (by decide)
  refine lv_iconst (v := 1) hx hb dX13_bits_7 (by decide) ?_
  refine lv_iadd hx hb dX13_bits_8 ?_
  refine lv_topi (fun z2 ez2 => ?_)
  obtain rfl : z2 = 1 := ez2.trans (by decide)
  refine lv_ishl hx hb dX13_bits_9 ?_
  refine lv_topi (fun z3 ez3 => ?_)
  obtain rfl : z3 = 2 := ez3.trans (by decide)
  refine lv_iconst (v := 1) hx hb dX13_bits_10 (by decide) ?_
  refine lv_isub hx hb dX13_bits_11 ?_
  refine lv_topi (fun z4 ez4 => ?_)
  obtain rfl : z4 = 1 := ez4.trans (by decide)
  refine lv_iand hx hb dX13_bits_12 ?_
  refine lv_iload_n hx hb dX13_bits_13 rfl (lv_at hl 3 rfl) ?_
  refine lv_ishl hx hb dX13_bits_14 ?_
  refine W.widen (k := 0) (n := 0) (by decide +kernel) (by decide +kernel) ?_
  exact W.iret (v := ((((((c0 : Int32).toUInt32 >>> ((20 : Int32).toUInt32 &&& Int32.toUInt32 31)).toInt32) &&& 1) : Int32) <<< ((31 : Int32) &&& 31))) hx hb hr (fun t ht hW => ⟨⟨((((((c0 : Int32).toUInt32 >>> ((20 : Int32).toUInt32 &&& Int32.toUInt32 31)).toInt32) &&& 1) : Int32) <<< ((31 : Int32) &&& 31)), (), rfl, Or.inl rfl, by rw [ht]; exact hP, va_K.moved hW.alike hK, hD⟩, hS.F ht⟩) hS.2.2 dX13_bits_15
def ow_k_X13_bits_v5 : List Cond := .code yX13_bits cX13_bits 4 (some .int) :: ([] ++ [])
theorem gd_k_X13_bits_v5 : ∀ w ∈ ow_k_X13_bits_v5, (w.onTables && w.keeps) = true ∨ ∃ ty, w = Cond.arrayClass ty := List.forall_mem_cons.mpr ⟨good_of_word rfl, List.forall_mem_append.mpr ⟨fun w h => good_of_word (List.all_eq_true.mp (by decide +kernel) w h), fun _ h => nomatch h⟩⟩
set_option maxHeartbeats 40000000 in
set_option maxRecDepth 100000 in
theorem k_X13_bits_v5 (l : Launch) (hlt : l.stackTraces = false) (dC : Nat → ClassId) (dI : Nat → Nat → Nat) (c0 : Int32) (sz : Nat) : Met l yX13_bits ow_k_X13_bits_v5 ({ frames := 0, cells := 0, slots := 0, locals := 0 }) (va_Pc [.int c0, .int 10, .int 1, .int 21] (fun U => U.heap.size = sz ∧ va_P (dC, dI) vwCl [] U.heap ∧ va_K (dC, dI) vwCl [] U ∧ va_D (fun _ => True) [] ∧ nv_E (va_A [] sz) U)) (va_Qi (fun r _ => (r = ((((((c0 : Int32).toUInt32 >>> ((1 : Int32).toUInt32 &&& Int32.toUInt32 31)).toInt32) &&& 1023) : Int32) <<< ((21 : Int32) &&& 31))) ∨ False) (fun (_ : Unit) t => va_P (dC, dI) vwCl [] t.heap ∧ va_K (dC, dI) vwCl [] t ∧ va_D (va_A [] sz) []) (va_A [] sz)) 0 0 (va_A [] sz) := by
  refine Met.ofW (cc := cX13_bits) (maxL := 4) (ret := (some .int)) (by decide) rfl ?_
  intro p e s m args below meth c s₁ B hml hv
  obtain ⟨rfl, hsz, hP, hK, hD0, hN⟩ := hv
  have hx := B.exec
  have hb := B.bytes
  have hr := B.returns
  have hts := atoms_spec (ws := ow_k_X13_bits_v5) B.pre
  have hown : s.vm.findClass RX13 = some m.cls := findClass_of_methodNamed B.named
  have hlocks := B.notSynchronized
  subst hsz
  have hD := hD0.self (sz := s.heap.size)
  generalize hAe : va_A [] s.heap.size = A at hD hN ⊢
  have hA : ∀ q : Nat, s.heap.size ≤ q → A q := fun q h => by rw [← hAe]; exact Or.inr h
  have hS : va_S A s.heap s.heap [] := va_S.rf
  have hl := lv_entry ([.int c0, .int 10, .int 1, .int 21]) (n := 4) (Nat.le_of_ble_eq_true rfl)
  rw [lg_entry_eq]
  generalize (lg_sl ([.int c0, .int 10, .int 1, .int 21]) ++ List.replicate (4 - (lg_sl ([.int c0, .int 10, .int 1, .int 21])).length) Slot.unset).toArray = ls at hl ⊢
  have hl : lv_has ls 4 [(0, .int c0), (1, .int 10), (2, .int 1), (3, .int 21)] := hl
  refine lv_iload_n hx hb dX13_bits_0 rfl (lv_at hl 0 rfl) ?_
  refine lv_iload_n hx hb dX13_bits_1 rfl (lv_at hl 2 rfl) ?_
  refine lv_iushr hx hb dX13_bits_2 rfl ?_
  refine lv_iconst (v := 1) hx hb dX13_bits_3 (by decide) ?_
  refine lv_iload_n hx hb dX13_bits_4 rfl (lv_at hl 1 rfl) ?_
  refine lv_iload_n hx hb dX13_bits_5 rfl (lv_at hl 2 rfl) ?_
  refine lv_isub hx hb dX13_bits_6 ?_
  refine lv_topi (fun z1 ez1 => ?_)
  obtain rfl : z1 = 9 := ez1.trans (by decide)
  refine lv_iconst (v := 1) hx hb dX13_bits_7 (by decide) ?_
  refine lv_iadd hx hb dX13_bits_8 ?_
  refine lv_topi (fun z2 ez2 => ?_)
  obtain rfl : z2 = 10 := ez2.trans (by decide)
  refine lv_ishl hx hb dX13_bits_9 ?_
  refine lv_topi (fun z3 ez3 => ?_)
  obtain rfl : z3 = 1024 := ez3.trans (by decide)
  refine lv_iconst (v := 1) hx hb dX13_bits_10 (by decide) ?_
  refine lv_isub hx hb dX13_bits_11 ?_
  refine lv_topi (fun z4 ez4 => ?_)
  obtain rfl : z4 = 1023 := ez4.trans (by decide)
  refine lv_iand hx hb dX13_bits_12 ?_
  refine lv_iload_n hx hb dX13_bits_13 rfl (lv_at hl 3 rfl) ?_
  refine lv_ishl hx hb dX13_bits_14 ?_
  refine W.widen (k := 0) (n := 0) (by decide +kernel) (by decide +kernel) ?_
  exact W.iret (v := ((((((c0 : Int32).toUInt32 >>> ((1 : Int32).toUInt32 &&& Int32.toUInt32 31)).toInt32) &&& 1023) : Int32) <<< ((21 : Int32) &&& 31))) hx hb hr (fun t ht hW => ⟨⟨((((((c0 : Int32).toUInt32 >>> ((1 : Int32).toUInt32 &&& Int32.toUInt32 31)).toInt32) &&& 1023) : Int32) <<< ((21 : Int32) &&& 31)), (), rfl, Or.inl rfl, by rw [ht]; exact hP, va_K.moved hW.alike hK, hD⟩, hS.F ht⟩) hS.2.2 dX13_bits_15
def ow_k_X13_bits_v6 : List Cond := .code yX13_bits cX13_bits 4 (some .int) :: ([] ++ [])
theorem gd_k_X13_bits_v6 : ∀ w ∈ ow_k_X13_bits_v6, (w.onTables && w.keeps) = true ∨ ∃ ty, w = Cond.arrayClass ty := List.forall_mem_cons.mpr ⟨good_of_word rfl, List.forall_mem_append.mpr ⟨fun w h => good_of_word (List.all_eq_true.mp (by decide +kernel) w h), fun _ h => nomatch h⟩⟩
set_option maxHeartbeats 40000000 in
set_option maxRecDepth 100000 in
theorem k_X13_bits_v6 (l : Launch) (hlt : l.stackTraces = false) (dC : Nat → ClassId) (dI : Nat → Nat → Nat) (c0 : Int32) (sz : Nat) : Met l yX13_bits ow_k_X13_bits_v6 ({ frames := 0, cells := 0, slots := 0, locals := 0 }) (va_Pc [.int c0, .int 11, .int 11, .int 20] (fun U => U.heap.size = sz ∧ va_P (dC, dI) vwCl [] U.heap ∧ va_K (dC, dI) vwCl [] U ∧ va_D (fun _ => True) [] ∧ nv_E (va_A [] sz) U)) (va_Qi (fun r _ => (r = ((((((c0 : Int32).toUInt32 >>> ((11 : Int32).toUInt32 &&& Int32.toUInt32 31)).toInt32) &&& 1) : Int32) <<< ((20 : Int32) &&& 31))) ∨ False) (fun (_ : Unit) t => va_P (dC, dI) vwCl [] t.heap ∧ va_K (dC, dI) vwCl [] t ∧ va_D (va_A [] sz) []) (va_A [] sz)) 0 0 (va_A [] sz) := by
  refine Met.ofW (cc := cX13_bits) (maxL := 4) (ret := (some .int)) (by decide) rfl ?_
  intro p e s m args below meth c s₁ B hml hv
  obtain ⟨rfl, hsz, hP, hK, hD0, hN⟩ := hv
  have hx := B.exec
  have hb := B.bytes
  have hr := B.returns
  have hts := atoms_spec (ws := ow_k_X13_bits_v6) B.pre
  have hown : s.vm.findClass RX13 = some m.cls := findClass_of_methodNamed B.named
  have hlocks := B.notSynchronized
  subst hsz
  have hD := hD0.self (sz := s.heap.size)
  generalize hAe : va_A [] s.heap.size = A at hD hN ⊢
  have hA : ∀ q : Nat, s.heap.size ≤ q → A q := fun q h => by rw [← hAe]; exact Or.inr h
  have hS : va_S A s.heap s.heap [] := va_S.rf
  have hl := lv_entry ([.int c0, .int 11, .int 11, .int 20]) (n := 4) (Nat.le_of_ble_eq_true rfl)
  rw [lg_entry_eq]
  generalize (lg_sl ([.int c0, .int 11, .int 11, .int 20]) ++ List.replicate (4 - (lg_sl ([.int c0, .int 11, .int 11, .int 20])).length) Slot.unset).toArray = ls at hl ⊢
  have hl : lv_has ls 4 [(0, .int c0), (1, .int 11), (2, .int 11), (3, .int 20)] := hl
  refine lv_iload_n hx hb dX13_bits_0 rfl (lv_at hl 0 rfl) ?_
  refine lv_iload_n hx hb dX13_bits_1 rfl (lv_at hl 2 rfl) ?_
  refine lv_iushr hx hb dX13_bits_2 rfl ?_
  refine lv_iconst (v := 1) hx hb dX13_bits_3 (by decide) ?_
  refine lv_iload_n hx hb dX13_bits_4 rfl (lv_at hl 1 rfl) ?_
  refine lv_iload_n hx hb dX13_bits_5 rfl (lv_at hl 2 rfl) ?_
  refine lv_isub hx hb dX13_bits_6 ?_
  refine lv_topi (fun z1 ez1 => ?_)
  obtain rfl : z1 = 0 := ez1.trans (by decide)
  refine lv_iconst (v := 1) hx hb dX13_bits_7 (by decide) ?_
  refine lv_iadd hx hb dX13_bits_8 ?_
  refine lv_topi (fun z2 ez2 => ?_)
  obtain rfl : z2 = 1 := ez2.trans (by decide)
  refine lv_ishl hx hb dX13_bits_9 ?_
  refine lv_topi (fun z3 ez3 => ?_)
  obtain rfl : z3 = 2 := ez3.trans (by decide)
  refine lv_iconst (v := 1) hx hb dX13_bits_10 (by decide) ?_
  refine lv_isub hx hb dX13_bits_11 ?_
  refine lv_topi (fun z4 ez4 => ?_)
  obtain rfl : z4 = 1 := ez4.trans (by decide)
  refine lv_iand hx hb dX13_bits_12 ?_
  refine lv_iload_n hx hb dX13_bits_13 rfl (lv_at hl 3 rfl) ?_
  refine lv_ishl hx hb dX13_bits_14 ?_
  refine W.widen (k := 0) (n := 0) (by decide +kernel) (by decide +kernel) ?_
  exact W.iret (v := ((((((c0 : Int32).toUInt32 >>> ((11 : Int32).toUInt32 &&& Int32.toUInt32 31)).toInt32) &&& 1) : Int32) <<< ((20 : Int32) &&& 31))) hx hb hr (fun t ht hW => ⟨⟨((((((c0 : Int32).toUInt32 >>> ((11 : Int32).toUInt32 &&& Int32.toUInt32 31)).toInt32) &&& 1) : Int32) <<< ((20 : Int32) &&& 31)), (), rfl, Or.inl rfl, by rw [ht]; exact hP, va_K.moved hW.alike hK, hD⟩, hS.F ht⟩) hS.2.2 dX13_bits_15
def ow_k_X13_bits_v7 : List Cond := .code yX13_bits cX13_bits 4 (some .int) :: ([] ++ [])
theorem gd_k_X13_bits_v7 : ∀ w ∈ ow_k_X13_bits_v7, (w.onTables && w.keeps) = true ∨ ∃ ty, w = Cond.arrayClass ty := List.forall_mem_cons.mpr ⟨good_of_word rfl, List.forall_mem_append.mpr ⟨fun w h => good_of_word (List.all_eq_true.mp (by decide +kernel) w h), fun _ h => nomatch h⟩⟩
set_option maxHeartbeats 40000000 in
set_option maxRecDepth 100000 in
theorem k_X13_bits_v7 (l : Launch) (hlt : l.stackTraces = false) (dC : Nat → ClassId) (dI : Nat → Nat → Nat) (c0 : Int32) (sz : Nat) : Met l yX13_bits ow_k_X13_bits_v7 ({ frames := 0, cells := 0, slots := 0, locals := 0 }) (va_Pc [.int c0, .int 19, .int 12, .int 12] (fun U => U.heap.size = sz ∧ va_P (dC, dI) vwCl [] U.heap ∧ va_K (dC, dI) vwCl [] U ∧ va_D (fun _ => True) [] ∧ nv_E (va_A [] sz) U)) (va_Qi (fun r _ => (r = ((((((c0 : Int32).toUInt32 >>> ((12 : Int32).toUInt32 &&& Int32.toUInt32 31)).toInt32) &&& 255) : Int32) <<< ((12 : Int32) &&& 31))) ∨ False) (fun (_ : Unit) t => va_P (dC, dI) vwCl [] t.heap ∧ va_K (dC, dI) vwCl [] t ∧ va_D (va_A [] sz) []) (va_A [] sz)) 0 0 (va_A [] sz) := by
  refine Met.ofW (cc := cX13_bits) (maxL := 4) (ret := (some .int)) (by decide) rfl ?_
  intro p e s m args below meth c s₁ B hml hv
  obtain ⟨rfl, hsz, hP, hK, hD0, hN⟩ := hv
  have hx := B.exec
  have hb := B.bytes
  have hr := B.returns
  have hts := atoms_spec (ws := ow_k_X13_bits_v7) B.pre
  have hown : s.vm.findClass RX13 = some m.cls := findClass_of_methodNamed B.named
  have hlocks := B.notSynchronized
  subst hsz
  have hD := hD0.self (sz := s.heap.size)
  generalize hAe : va_A [] s.heap.size = A at hD hN ⊢
  have hA : ∀ q : Nat, s.heap.size ≤ q → A q := fun q h => by rw [← hAe]; exact Or.inr h
  have hS : va_S A s.heap s.heap [] := va_S.rf
  have hl := lv_entry ([.int c0, .int 19, .int 12, .int 12]) (n := 4) (Nat.le_of_ble_eq_true rfl)
  rw [lg_entry_eq]
  generalize (lg_sl ([.int c0, .int 19, .int 12, .int 12]) ++ List.replicate (4 - (lg_sl ([.int c0, .int 19, .int 12, .int 12])).length) Slot.unset).toArray = ls at hl ⊢
  have hl : lv_has ls 4 [(0, .int c0), (1, .int 19), (2, .int 12), (3, .int 12)] := hl
  refine lv_iload_n hx hb dX13_bits_0 rfl (lv_at hl 0 rfl) ?_
  refine lv_iload_n hx hb dX13_bits_1 rfl (lv_at hl 2 rfl) ?_
  refine lv_iushr hx hb dX13_bits_2 rfl ?_
  refine lv_iconst (v := 1) hx hb dX13_bits_3 (by decide) ?_
  refine lv_iload_n hx hb dX13_bits_4 rfl (lv_at hl 1 rfl) ?_
  refine lv_iload_n hx hb dX13_bits_5 rfl (lv_at hl 2 rfl) ?_
  refine lv_isub hx hb dX13_bits_6 ?_
  refine lv_topi (fun z1 ez1 => ?_)
  obtain rfl : z1 = 7 := ez1.trans (by decide)
  refine lv_iconst (v := 1) hx hb dX13_bits_7 (by decide) ?_
  refine lv_iadd hx hb dX13_bits_8 ?_
  refine lv_topi (fun z2 ez2 => ?_)
  obtain rfl : z2 = 8 := ez2.trans (by decide)
  refine lv_ishl hx hb dX13_bits_9 ?_
  refine lv_topi (fun z3 ez3 => ?_)
  obtain rfl : z3 = 256 := ez3.trans (by decide)
  refine lv_iconst (v := 1) hx hb dX13_bits_10 (by decide) ?_
  refine lv_isub hx hb dX13_bits_11 ?_
  refine lv_topi (fun z4 ez4 => ?_)
  obtain rfl : z4 = 255 := ez4.trans (by decide)
  refine lv_iand hx hb dX13_bits_12 ?_
  refine lv_iload_n hx hb dX13_bits_13 rfl (lv_at hl 3 rfl) ?_
  refine lv_ishl hx hb dX13_bits_14 ?_
  refine W.widen (k := 0) (n := 0) (by decide +kernel) (by decide +kernel) ?_
  exact W.iret (v := ((((((c0 : Int32).toUInt32 >>> ((12 : Int32).toUInt32 &&& Int32.toUInt32 31)).toInt32) &&& 255) : Int32) <<< ((12 : Int32) &&& 31))) hx hb hr (fun t ht hW => ⟨⟨((((((c0 : Int32).toUInt32 >>> ((12 : Int32).toUInt32 &&& Int32.toUInt32 31)).toInt32) &&& 255) : Int32) <<< ((12 : Int32) &&& 31)), (), rfl, Or.inl rfl, by rw [ht]; exact hP, va_K.moved hW.alike hK, hD⟩, hS.F ht⟩) hS.2.2 dX13_bits_15
def ow_g_X13_jumpBits : List Cond := .code yX13_jumpBits cX13_jumpBits 1 (some .int) :: ([.methodLink RX13 550 yX13_bits, .static yX13_bits, .initialized RX13] ++ (ow_k_X13_bits_v4 ++ (ow_k_X13_bits_v5 ++ (ow_k_X13_bits_v6 ++ (ow_k_X13_bits_v7 ++ [])))))
theorem gd_g_X13_jumpBits : ∀ w ∈ ow_g_X13_jumpBits, (w.onTables && w.keeps) = true ∨ ∃ ty, w = Cond.arrayClass ty := List.forall_mem_cons.mpr ⟨good_of_word rfl, List.forall_mem_append.mpr ⟨fun w h => good_of_word (List.all_eq_true.mp (by decide +kernel) w h), List.forall_mem_append.mpr ⟨gd_k_X13_bits_v4, List.forall_mem_append.mpr ⟨gd_k_X13_bits_v5, List.forall_mem_append.mpr ⟨gd_k_X13_bits_v6, List.forall_mem_append.mpr ⟨gd_k_X13_bits_v7, fun _ h => nomatch h⟩⟩⟩⟩⟩⟩
theorem gi_g_X13_jumpBits_0 : GoodIn ow_g_X13_jumpBits (wsS RX13 550 yX13_bits ow_k_X13_bits_v4) := goodIn_app (goodIn_of _ (by decide +kernel)) (fun w h => ⟨List.mem_cons_of_mem _ (List.mem_append_right _ (List.mem_append_left _ h)), gd_k_X13_bits_v4 w h⟩)
theorem gi_g_X13_jumpBits_1 : GoodIn ow_g_X13_jumpBits (wsS RX13 550 yX13_bits ow_k_X13_bits_v5) := goodIn_app (goodIn_of _ (by decide +kernel)) (fun w h => ⟨List.mem_cons_of_mem _ (List.mem_append_right _ (List.mem_append_right _ (List.mem_append_left _ h))), gd_k_X13_bits_v5 w h⟩)
theorem gi_g_X13_jumpBits_2 : GoodIn ow_g_X13_jumpBits (wsS RX13 550 yX13_bits ow_k_X13_bits_v6) := goodIn_app (goodIn_of _ (by decide +kernel)) (fun w h => ⟨List.mem_cons_of_mem _ (List.mem_append_right _ (List.mem_append_right _ (List.mem_append_right _ (List.mem_append_left _ h)))), gd_k_X13_bits_v6 w h⟩)
theorem gi_g_X13_jumpBits_3 : GoodIn ow_g_X13_jumpBits (wsS RX13 550 yX13_bits ow_k_X13_bits_v7) := goodIn_app (goodIn_of _ (by decide +kernel)) (fun w h => ⟨List.mem_cons_of_mem _ (List.mem_append_right _ (List.mem_append_right _ (List.mem_append_right _ (List.mem_append_right _ (List.mem_append_left _ h))))), gd_k_X13_bits_v7 w h⟩)
set_option maxHeartbeats 40000000 in
set_option maxRecDepth 100000 in
theorem g_X13_jumpBits (l : Launch) (hlt : l.stackTraces = false) (dC : Nat → ClassId) (dI : Nat → Nat → Nat) (v0 : Int32) (sz : Nat) : Met l yX13_jumpBits ow_g_X13_jumpBits ({ frames := 1, cells := 0, slots := 0, locals := 23 }) (va_Pc [.int v0] (fun U => U.heap.size = sz ∧ va_P (dC, dI) vwCl [] U.heap ∧ va_K (dC, dI) vwCl [] U ∧ va_D (fun _ => True) [] ∧ nv_E (va_A [] sz) U)) (va_Qi (fun r _ => (r = (((((((((v0 : Int32).toUInt32 >>> ((20 : Int32).toUInt32 &&& Int32.toUInt32 31)).toInt32) &&& 1) : Int32) <<< ((31 : Int32) &&& 31)) ||| ((((((v0 : Int32).toUInt32 >>> ((1 : Int32).toUInt32 &&& Int32.toUInt32 31)).toInt32) &&& 1023) : Int32) <<< ((21 : Int32) &&& 31))) ||| ((((((v0 : Int32).toUInt32 >>> ((11 : Int32).toUInt32 &&& Int32.toUInt32 31)).toInt32) &&& 1) : Int32) <<< ((20 : Int32) &&& 31))) ||| ((((((v0 : Int32).toUInt32 >>> ((12 : Int32).toUInt32 &&& Int32.toUInt32 31)).toInt32) &&& 255) : Int32) <<< ((12 : Int32) &&& 31)))) ∨ False) (fun (_ : Unit) t => va_P (dC, dI) vwCl [] t.heap ∧ va_K (dC, dI) vwCl [] t ∧ va_D (va_A [] sz) []) (va_A [] sz)) 0 0 (va_A [] sz) := by
  refine Met.ofW (cc := cX13_jumpBits) (maxL := 1) (ret := (some .int)) (by decide) rfl ?_
  intro p e s m args below meth c s₁ B hml hv
  obtain ⟨rfl, hsz, hP, hK, hD0, hN⟩ := hv
  have hx := B.exec
  have hb := B.bytes
  have hr := B.returns
  have hts := atoms_spec (ws := ow_g_X13_jumpBits) B.pre
  have hown : s.vm.findClass RX13 = some m.cls := findClass_of_methodNamed B.named
  have hlocks := B.notSynchronized
  subst hsz
  have hD := hD0.self (sz := s.heap.size)
  generalize hAe : va_A [] s.heap.size = A at hD hN ⊢
  have hA : ∀ q : Nat, s.heap.size ≤ q → A q := fun q h => by rw [← hAe]; exact Or.inr h
  have hS : va_S A s.heap s.heap [] := va_S.rf
  have hl := lv_entry ([.int v0]) (n := 1) (Nat.le_of_ble_eq_true rfl)
  rw [lg_entry_eq]
  generalize (lg_sl ([.int v0]) ++ List.replicate (1 - (lg_sl ([.int v0])).length) Slot.unset).toArray = ls at hl ⊢
  have hl : lv_has ls 1 [(0, .int v0)] := hl
  refine lv_iload_n hx hb dX13_jumpBits_0 rfl (lv_at hl 0 rfl) ?_
  refine lv_bipush (v := 20) hx hb dX13_jumpBits_1 (by decide) ?_
  refine lv_bipush (v := 20) hx hb dX13_jumpBits_3 (by decide) ?_
  refine lv_bipush (v := 31) hx hb dX13_jumpBits_5 (by decide) ?_
  have hPc := hP.sub (ws' := []) [] rfl
  have hDc := hD.sub (ws' := []) [] (by decide) rfl
  have hKc := hK.sub (tys' := []) [] rfl
  have hFc := va_free (wc := []) hD hS hA [] rfl
  refine va_calli (va_runS (As := [.int v0, .int 20, .int 20, .int 31]) (rest := []) ⟨hx, hb, hml, hown, hts⟩ (k_X13_bits_v4 l hlt dC dI v0  s.heap.size) (cwS 4 hts gi_g_X13_jumpBits_0 rfl rfl rfl (by decide +kernel) ⟨Nat.le_of_ble_eq_true rfl, Nat.le_of_ble_eq_true rfl⟩) ⟨fun a U g mk q => by obtain ⟨q0, q1, qP, qK, qD, qN⟩ := q; exact ⟨q0, q1, qP, va_K.moved (u := U) (U := U.calling g mk a) (Vm.Alike.refl U.vm) qK, qD, nv_same rfl rfl qN⟩, fun U hU hW => ⟨rfl, by rw [hU], by rw [hU]; exact hPc, va_K.moved hW.alike hKc, hDc.weaken (fun _ _ _ _ => trivial), nv_call hS hFc hU hW hN⟩⟩ rfl rfl hl.1 rfl (lv_room (Nat.le_of_ble_eq_true rfl)) dX13_jumpBits_7 ⟨by decide +kernel, by decide +kernel⟩) hS (fun q _ h => hFc q h) hFc (fun r1 u t H1 locs ht hvm hw hB hz1 hk1 hS => ?_)
  obtain ⟨hP1, hK1, hD1⟩ := hB
  rw [ht] at hP1
  have hK1 := va_K.moved hvm.symm hK1
  obtain ⟨hP, hD⟩ := va_join (wr := []) (w1 := []) hP hD [] [] rfl rfl (by decide) (by decide) hk1 hFc hP1 hD1
  have hK := (hK.sub (tys' := []) [] rfl).app hK1
  generalize H1 = H at hP hS ⊢
  have hP : va_P (dC, dI) vwCl [] H := hP
  have hD : va_D A [] := hD
  have hK : va_K (dC, dI) vwCl [] s := hK
  refine W.widen (k := 0) (n := 0) (by decide +kernel) (by decide +kernel) ?_
  rcases hw with h9 | h9
  · subst h9
    refine lv_iload_n hx hb dX13_jumpBits_10 rfl (lv_at hl 0 rfl) ?_
    refine lv_bipush (v := 10) hx hb dX13_jumpBits_11 (by decide) ?_
    refine lv_iconst (v := 1) hx hb dX13_jumpBits_13 (by decide) ?_
    refine lv_bipush (v := 21) hx hb dX13_jumpBits_14 (by decide) ?_
    have hPc := hP.sub (ws' := []) [] rfl
    have hDc := hD.sub (ws' := []) [] (by decide) rfl
    have hKc := hK.sub (tys' := []) [] rfl
    have hFc := va_free (wc := []) hD hS hA [] rfl
    refine va_calli (va_runS (As := [.int v0, .int 10, .int 1, .int 21]) (rest := [.int ((((((v0 : Int32).toUInt32 >>> ((20 : Int32).toUInt32 &&& Int32.toUInt32 31)).toInt32) &&& 1) : Int32) <<< ((31 : Int32) &&& 31))]) ⟨hx, hb, hml, hown, hts⟩ (k_X13_bits_v5 l hlt dC dI v0  H.size) (cwS 4 hts gi_g_X13_jumpBits_1 rfl rfl rfl (by decide +kernel) ⟨Nat.le_of_ble_eq_true rfl, Nat.le_of_ble_eq_true rfl⟩) ⟨fun a U g mk q => by obtain ⟨q0, q1, qP, qK, qD, qN⟩ := q; exact ⟨q0, q1, qP, va_K.moved (u := U) (U := U.calling g mk a) (Vm.Alike.refl U.vm) qK, qD, nv_same rfl rfl qN⟩, fun U hU hW => ⟨rfl, by rw [hU], by rw [hU]; exact hPc, va_K.moved hW.alike hKc, hDc.weaken (fun _ _ _ _ => trivial), nv_call hS hFc hU hW hN⟩⟩ rfl rfl hl.1 rfl (lv_room (Nat.le_of_ble_eq_true rfl)) dX13_jumpBits_16 ⟨by decide +kernel, by decide +kernel⟩) hS (fun q _ h => hFc q h) hFc (fun r2 u t H1 locs ht hvm hw hB hz1 hk1 hS => ?_)
    obtain ⟨hP1, hK1, hD1⟩ := hB
    rw [ht] at hP1
    have hK1 := va_K.moved hvm.symm hK1
    obtain ⟨hP, hD⟩ := va_join (wr := []) (w1 := []) hP hD [] [] rfl rfl (by decide) (by decide) hk1 hFc hP1 hD1
    have hK := (hK.sub (tys' := []) [] rfl).app hK1
    generalize H1 = H at hP hS ⊢
    have hP : va_P (dC, dI) vwCl [] H := hP
    have hD : va_D A [] := hD
    have hK : va_K (dC, dI) vwCl [] s := hK
    refine W.widen (k := 0) (n := 0) (by decide +kernel) (by decide +kernel) ?_
    rcases hw with h9 | h9
    · subst h9
      refine lv_ior hx hb dX13_jumpBits_19 ?_
      refine lv_iload_n hx hb dX13_jumpBits_20 rfl (lv_at hl 0 rfl) ?_
      refine lv_bipush (v := 11) hx hb dX13_jumpBits_21 (by decide) ?_
      refine lv_bipush (v := 11) hx hb dX13_jumpBits_23 (by decide) ?_
      refine lv_bipush (v := 20) hx hb dX13_jumpBits_25 (by decide) ?_
      have hPc := hP.sub (ws' := []) [] rfl
      have hDc := hD.sub (ws' := []) [] (by decide) rfl
      have hKc := hK.sub (tys' := []) [] rfl
      have hFc := va_free (wc := []) hD hS hA [] rfl
      refine va_calli (va_runS (As := [.int v0, .int 11, .int 11, .int 20]) (rest := [.int (((((((v0 : Int32).toUInt32 >>> ((20 : Int32).toUInt32 &&& Int32.toUInt32 31)).toInt32) &&& 1) : Int32) <<< ((31 : Int32) &&& 31)) ||| ((((((v0 : Int32).toUInt32 >>> ((1 : Int32).toUInt32 &&& Int32.toUInt32 31)).toInt32) &&& 1023) : Int32) <<< ((21 : Int32) &&& 31)))]) ⟨hx, hb, hml, hown, hts⟩ (k_X13_bits_v6 l hlt dC dI v0  H.size) (cwS 4 hts gi_g_X13_jumpBits_2 rfl rfl rfl (by decide +kernel) ⟨Nat.le_of_ble_eq_true rfl, Nat.le_of_ble_eq_true rfl⟩) ⟨fun a U g mk q => by obtain ⟨q0, q1, qP, qK, qD, qN⟩ := q; exact ⟨q0, q1, qP, va_K.moved (u := U) (U := U.calling g mk a) (Vm.Alike.refl U.vm) qK, qD, nv_same rfl rfl qN⟩, fun U hU hW => ⟨rfl, by rw [hU], by rw [hU]; exact hPc, va_K.moved hW.alike hKc, hDc.weaken (fun _ _ _ _ => trivial), nv_call hS hFc hU hW hN⟩⟩ rfl rfl hl.1 rfl (lv_room (Nat.le_of_ble_eq_true rfl)) dX13_jumpBits_27 ⟨by decide +kernel, by decide +kernel⟩) hS (fun q _ h => hFc q h) hFc (fun r3 u t H1 locs ht hvm hw hB hz1 hk1 hS => ?_)
      obtain ⟨hP1, hK1, hD1⟩ := hB
      rw [ht] at hP1
      have hK1 := va_K.moved hvm.symm hK1
      obtain ⟨hP, hD⟩ := va_join (wr := []) (w1 := []) hP hD [] [] rfl rfl (by decide) (by decide) hk1 hFc hP1 hD1
      have hK := (hK.sub (tys' := []) [] rfl).app hK1
      generalize H1 = H at hP hS ⊢
      have hP : va_P (dC, dI) vwCl [] H := hP
      have hD : va_D A [] := hD
      have hK : va_K (dC, dI) vwCl [] s := hK
      refine W.widen (k := 0) (n := 0) (by decide +kernel) (by decide +kernel) ?_
      rcases hw with h9 | h9
      · subst h9
        refine lv_ior hx hb dX13_jumpBits_30 ?_
        refine lv_iload_n hx hb dX13_jumpBits_31 rfl (lv_at hl 0 rfl) ?_
        refine lv_bipush (v := 19) hx hb dX13_jumpBits_32 (by decide) ?_
        refine lv_bipush (v := 12) hx hb dX13_jumpBits_34 (by decide) ?_
        refine lv_bipush (v := 12) hx hb dX13_jumpBits_36 (by decide) ?_
        have hPc := hP.sub (ws' := []) [] rfl
        have hDc := hD.sub (ws' := []) [] (by decide) rfl
        have hKc := hK.sub (tys' := []) [] rfl
        have hFc := va_free (wc := []) hD hS hA [] rfl
        refine va_calli (va_runS (As := [.int v0, .int 19, .int 12, .int 12]) (rest := [.int ((((((((v0 : Int32).toUInt32 >>> ((20 : Int32).toUInt32 &&& Int32.toUInt32 31)).toInt32) &&& 1) : Int32) <<< ((31 : Int32) &&& 31)) ||| ((((((v0 : Int32).toUInt32 >>> ((1 : Int32).toUInt32 &&& Int32.toUInt32 31)).toInt32) &&& 1023) : Int32) <<< ((21 : Int32) &&& 31))) ||| ((((((v0 : Int32).toUInt32 >>> ((11 : Int32).toUInt32 &&& Int32.toUInt32 31)).toInt32) &&& 1) : Int32) <<< ((20 : Int32) &&& 31)))]) ⟨hx, hb, hml, hown, hts⟩ (k_X13_bits_v7 l hlt dC dI v0  H.size) (cwS 4 hts gi_g_X13_jumpBits_3 rfl rfl rfl (by decide +kernel) ⟨Nat.le_of_ble_eq_true rfl, Nat.le_of_ble_eq_true rfl⟩) ⟨fun a U g mk q => by obtain ⟨q0, q1, qP, qK, qD, qN⟩ := q; exact ⟨q0, q1, qP, va_K.moved (u := U) (U := U.calling g mk a) (Vm.Alike.refl U.vm) qK, qD, nv_same rfl rfl qN⟩, fun U hU hW => ⟨rfl, by rw [hU], by rw [hU]; exact hPc, va_K.moved hW.alike hKc, hDc.weaken (fun _ _ _ _ => trivial), nv_call hS hFc hU hW hN⟩⟩ rfl rfl hl.1 rfl (lv_room (Nat.le_of_ble_eq_true rfl)) dX13_jumpBits_38 ⟨by decide +kernel, by decide +kernel⟩) hS (fun q _ h => hFc q h) hFc (fun r4 u t H1 locs ht hvm hw hB hz1 hk1 hS => ?_)
        obtain ⟨hP1, hK1, hD1⟩ := hB
        rw [ht] at hP1
        have hK1 := va_K.moved hvm.symm hK1
        obtain ⟨hP, hD⟩ := va_join (wr := []) (w1 := []) hP hD [] [] rfl rfl (by decide) (by decide) hk1 hFc hP1 hD1
        have hK := (hK.sub (tys' := []) [] rfl).app hK1
        generalize H1 = H at hP hS ⊢
        have hP : va_P (dC, dI) vwCl [] H := hP
        have hD : va_D A [] := hD
        have hK : va_K (dC, dI) vwCl [] s := hK
        refine W.widen (k := 0) (n := 0) (by decide +kernel) (by decide +kernel) ?_
        rcases hw with h9 | h9
        · subst h9
          refine lv_ior hx hb dX13_jumpBits_41 ?_
          refine W.widen (k := 0) (n := 0) (by decide +kernel) (by decide +kernel) ?_
          exact W.iret (v := (((((((((v0 : Int32).toUInt32 >>> ((20 : Int32).toUInt32 &&& Int32.toUInt32 31)).toInt32) &&& 1) : Int32) <<< ((31 : Int32) &&& 31)) ||| ((((((v0 : Int32).toUInt32 >>> ((1 : Int32).toUInt32 &&& Int32.toUInt32 31)).toInt32) &&& 1023) : Int32) <<< ((21 : Int32) &&& 31))) ||| ((((((v0 : Int32).toUInt32 >>> ((11 : Int32).toUInt32 &&& Int32.toUInt32 31)).toInt32) &&& 1) : Int32) <<< ((20 : Int32) &&& 31))) ||| ((((((v0 : Int32).toUInt32 >>> ((12 : Int32).toUInt32 &&& Int32.toUInt32 31)).toInt32) &&& 255) : Int32) <<< ((12 : Int32) &&& 31)))) hx hb hr (fun t ht hW => ⟨⟨(((((((((v0 : Int32).toUInt32 >>> ((20 : Int32).toUInt32 &&& Int32.toUInt32 31)).toInt32) &&& 1) : Int32) <<< ((31 : Int32) &&& 31)) ||| ((((((v0 : Int32).toUInt32 >>> ((1 : Int32).toUInt32 &&& Int32.toUInt32 31)).toInt32) &&& 1023) : Int32) <<< ((21 : Int32) &&& 31))) ||| ((((((v0 : Int32).toUInt32 >>> ((11 : Int32).toUInt32 &&& Int32.toUInt32 31)).toInt32) &&& 1) : Int32) <<< ((20 : Int32) &&& 31))) ||| ((((((v0 : Int32).toUInt32 >>> ((12 : Int32).toUInt32 &&& Int32.toUInt32 31)).toInt32) &&& 255) : Int32) <<< ((12 : Int32) &&& 31))), (), rfl, Or.inl rfl, by rw [ht]; exact hP, va_K.moved hW.alike hK, hD⟩, hS.F ht⟩) hS.2.2 dX13_jumpBits_42
        · exact h9.elim
      · exact h9.elim
    · exact h9.elim
  · exact h9.elim
def ow_k_X13_bits_v8 : List Cond := .code yX13_bits cX13_bits 4 (some .int) :: ([] ++ [])
theorem gd_k_X13_bits_v8 : ∀ w ∈ ow_k_X13_bits_v8, (w.onTables && w.keeps) = true ∨ ∃ ty, w = Cond.arrayClass ty := List.forall_mem_cons.mpr ⟨good_of_word rfl, List.forall_mem_append.mpr ⟨fun w h => good_of_word (List.all_eq_true.mp (by decide +kernel) w h), fun _ h => nomatch h⟩⟩
set_option maxHeartbeats 40000000 in
set_option maxRecDepth 100000 in
theorem k_X13_bits_v8 (l : Launch) (hlt : l.stackTraces = false) (dC : Nat → ClassId) (dI : Nat → Nat → Nat) (c0 : Int32) (sz : Nat) : Met l yX13_bits ow_k_X13_bits_v8 ({ frames := 0, cells := 0, slots := 0, locals := 0 }) (va_Pc [.int c0, .int 8, .int 8, .int 12] (fun U => U.heap.size = sz ∧ va_P (dC, dI) vwCl [] U.heap ∧ va_K (dC, dI) vwCl [] U ∧ va_D (fun _ => True) [] ∧ nv_E (va_A [] sz) U)) (va_Qi (fun r _ => (r = ((((((c0 : Int32).toUInt32 >>> ((8 : Int32).toUInt32 &&& Int32.toUInt32 31)).toInt32) &&& 1) : Int32) <<< ((12 : Int32) &&& 31))) ∨ False) (fun (_ : Unit) t => va_P (dC, dI) vwCl [] t.heap ∧ va_K (dC, dI) vwCl [] t ∧ va_D (va_A [] sz) []) (va_A [] sz)) 0 0 (va_A [] sz) := by
  refine Met.ofW (cc := cX13_bits) (maxL := 4) (ret := (some .int)) (by decide) rfl ?_
  intro p e s m args below meth c s₁ B hml hv
  obtain ⟨rfl, hsz, hP, hK, hD0, hN⟩ := hv
  have hx := B.exec
  have hb := B.bytes
  have hr := B.returns
  have hts := atoms_spec (ws := ow_k_X13_bits_v8) B.pre
  have hown : s.vm.findClass RX13 = some m.cls := findClass_of_methodNamed B.named
  have hlocks := B.notSynchronized
  subst hsz
  have hD := hD0.self (sz := s.heap.size)
  generalize hAe : va_A [] s.heap.size = A at hD hN ⊢
  have hA : ∀ q : Nat, s.heap.size ≤ q → A q := fun q h => by rw [← hAe]; exact Or.inr h
  have hS : va_S A s.heap s.heap [] := va_S.rf
  have hl := lv_entry ([.int c0, .int 8, .int 8, .int 12]) (n := 4) (Nat.le_of_ble_eq_true rfl)
  rw [lg_entry_eq]
  generalize (lg_sl ([.int c0, .int 8, .int 8, .int 12]) ++ List.replicate (4 - (lg_sl ([.int c0, .int 8, .int 8, .int 12])).length) Slot.unset).toArray = ls at hl ⊢
  have hl : lv_has ls 4 [(0, .int c0), (1, .int 8), (2, .int 8), (3, .int 12)] := hl
  refine lv_iload_n hx hb dX13_bits_0 rfl (lv_at hl 0 rfl) ?_
  refine lv_iload_n hx hb dX13_bits_1 rfl (lv_at hl 2 rfl) ?_
  refine lv_iushr hx hb dX13_bits_2 rfl ?_
  refine lv_iconst (v := 1) hx hb dX13_bits_3 (by decide) ?_
  refine lv_iload_n hx hb dX13_bits_4 rfl (lv_at hl 1 rfl) ?_
  refine lv_iload_n hx hb dX13_bits_5 rfl (lv_at hl 2 rfl) ?_
  refine lv_isub hx hb dX13_bits_6 ?_
  refine lv_topi (fun z1 ez1 => ?_)
  obtain rfl : z1 = 0 := ez1.trans (by decide)
  refine lv_iconst (v := 1) hx hb dX13_bits_7 (by decide) ?_
  refine lv_iadd hx hb dX13_bits_8 ?_
  refine lv_topi (fun z2 ez2 => ?_)
  obtain rfl : z2 = 1 := ez2.trans (by decide)
  refine lv_ishl hx hb dX13_bits_9 ?_
  refine lv_topi (fun z3 ez3 => ?_)
  obtain rfl : z3 = 2 := ez3.trans (by decide)
  refine lv_iconst (v := 1) hx hb dX13_bits_10 (by decide) ?_
  refine lv_isub hx hb dX13_bits_11 ?_
  refine lv_topi (fun z4 ez4 => ?_)
  obtain rfl : z4 = 1 := ez4.trans (by decide)
  refine lv_iand hx hb dX13_bits_12 ?_
  refine lv_iload_n hx hb dX13_bits_13 rfl (lv_at hl 3 rfl) ?_
  refine lv_ishl hx hb dX13_bits_14 ?_
  refine W.widen (k := 0) (n := 0) (by decide +kernel) (by decide +kernel) ?_
  exact W.iret (v := ((((((c0 : Int32).toUInt32 >>> ((8 : Int32).toUInt32 &&& Int32.toUInt32 31)).toInt32) &&& 1) : Int32) <<< ((12 : Int32) &&& 31))) hx hb hr (fun t ht hW => ⟨⟨((((((c0 : Int32).toUInt32 >>> ((8 : Int32).toUInt32 &&& Int32.toUInt32 31)).toInt32) &&& 1) : Int32) <<< ((12 : Int32) &&& 31)), (), rfl, Or.inl rfl, by rw [ht]; exact hP, va_K.moved hW.alike hK, hD⟩, hS.F ht⟩) hS.2.2 dX13_bits_15
def ow_k_X13_bits_v9 : List Cond := .code yX13_bits cX13_bits 4 (some .int) :: ([] ++ [])
theorem gd_k_X13_bits_v9 : ∀ w ∈ ow_k_X13_bits_v9, (w.onTables && w.keeps) = true ∨ ∃ ty, w = Cond.arrayClass ty := List.forall_mem_cons.mpr ⟨good_of_word rfl, List.forall_mem_append.mpr ⟨fun w h => good_of_word (List.all_eq_true.mp (by decide +kernel) w h), fun _ h => nomatch h⟩⟩
set_option maxHeartbeats 40000000 in
set_option maxRecDepth 100000 in
theorem k_X13_bits_v9 (l : Launch) (hlt : l.stackTraces = false) (dC : Nat → ClassId) (dI : Nat → Nat → Nat) (c0 : Int32) (sz : Nat) : Met l yX13_bits ow_k_X13_bits_v9 ({ frames := 0, cells := 0, slots := 0, locals := 0 }) (va_Pc [.int c0, .int 4, .int 3, .int 10] (fun U => U.heap.size = sz ∧ va_P (dC, dI) vwCl [] U.heap ∧ va_K (dC, dI) vwCl [] U ∧ va_D (fun _ => True) [] ∧ nv_E (va_A [] sz) U)) (va_Qi (fun r _ => (r = ((((((c0 : Int32).toUInt32 >>> ((3 : Int32).toUInt32 &&& Int32.toUInt32 31)).toInt32) &&& 3) : Int32) <<< ((10 : Int32) &&& 31))) ∨ False) (fun (_ : Unit) t => va_P (dC, dI) vwCl [] t.heap ∧ va_K (dC, dI) vwCl [] t ∧ va_D (va_A [] sz) []) (va_A [] sz)) 0 0 (va_A [] sz) := by
  refine Met.ofW (cc := cX13_bits) (maxL := 4) (ret := (some .int)) (by decide) rfl ?_
  intro p e s m args below meth c s₁ B hml hv
  obtain ⟨rfl, hsz, hP, hK, hD0, hN⟩ := hv
  have hx := B.exec
  have hb := B.bytes
  have hr := B.returns
  have hts := atoms_spec (ws := ow_k_X13_bits_v9) B.pre
  have hown : s.vm.findClass RX13 = some m.cls := findClass_of_methodNamed B.named
  have hlocks := B.notSynchronized
  subst hsz
  have hD := hD0.self (sz := s.heap.size)
  generalize hAe : va_A [] s.heap.size = A at hD hN ⊢
  have hA : ∀ q : Nat, s.heap.size ≤ q → A q := fun q h => by rw [← hAe]; exact Or.inr h
  have hS : va_S A s.heap s.heap [] := va_S.rf
  have hl := lv_entry ([.int c0, .int 4, .int 3, .int 10]) (n := 4) (Nat.le_of_ble_eq_true rfl)
  rw [lg_entry_eq]
  generalize (lg_sl ([.int c0, .int 4, .int 3, .int 10]) ++ List.replicate (4 - (lg_sl ([.int c0, .int 4, .int 3, .int 10])).length) Slot.unset).toArray = ls at hl ⊢
  have hl : lv_has ls 4 [(0, .int c0), (1, .int 4), (2, .int 3), (3, .int 10)] := hl
  refine lv_iload_n hx hb dX13_bits_0 rfl (lv_at hl 0 rfl) ?_
  refine lv_iload_n hx hb dX13_bits_1 rfl (lv_at hl 2 rfl) ?_
  refine lv_iushr hx hb dX13_bits_2 rfl ?_
  refine lv_iconst (v := 1) hx hb dX13_bits_3 (by decide) ?_
  refine lv_iload_n hx hb dX13_bits_4 rfl (lv_at hl 1 rfl) ?_
  refine lv_iload_n hx hb dX13_bits_5 rfl (lv_at hl 2 rfl) ?_
  refine lv_isub hx hb dX13_bits_6 ?_
  refine lv_topi (fun z1 ez1 => ?_)
  obtain rfl : z1 = 1 := ez1.trans (by decide)
  refine lv_iconst (v := 1) hx hb dX13_bits_7 (by decide) ?_
  refine lv_iadd hx hb dX13_bits_8 ?_
  refine lv_topi (fun z2 ez2 => ?_)
  obtain rfl : z2 = 2 := ez2.trans (by decide)
  refine lv_ishl hx hb dX13_bits_9 ?_
  refine lv_topi (fun z3 ez3 => ?_)
  obtain rfl : z3 = 4 := ez3.trans (by decide)
  refine lv_iconst (v := 1) hx hb dX13_bits_10 (by decide) ?_
  refine lv_isub hx hb dX13_bits_11 ?_
  refine lv_topi (fun z4 ez4 => ?_)
  obtain rfl : z4 = 3 := ez4.trans (by decide)
  refine lv_iand hx hb dX13_bits_12 ?_
  refine lv_iload_n hx hb dX13_bits_13 rfl (lv_at hl 3 rfl) ?_
  refine lv_ishl hx hb dX13_bits_14 ?_
  refine W.widen (k := 0) (n := 0) (by decide +kernel) (by decide +kernel) ?_
  exact W.iret (v := ((((((c0 : Int32).toUInt32 >>> ((3 : Int32).toUInt32 &&& Int32.toUInt32 31)).toInt32) &&& 3) : Int32) <<< ((10 : Int32) &&& 31))) hx hb hr (fun t ht hW => ⟨⟨((((((c0 : Int32).toUInt32 >>> ((3 : Int32).toUInt32 &&& Int32.toUInt32 31)).toInt32) &&& 3) : Int32) <<< ((10 : Int32) &&& 31)), (), rfl, Or.inl rfl, by rw [ht]; exact hP, va_K.moved hW.alike hK, hD⟩, hS.F ht⟩) hS.2.2 dX13_bits_15
def ow_k_X13_bits_v10 : List Cond := .code yX13_bits cX13_bits 4 (some .int) :: ([] ++ [])
theorem gd_k_X13_bits_v10 : ∀ w ∈ ow_k_X13_bits_v10, (w.onTables && w.keeps) = true ∨ ∃ ty, w = Cond.arrayClass ty := List.forall_mem_cons.mpr ⟨good_of_word rfl, List.forall_mem_append.mpr ⟨fun w h => good_of_word (List.all_eq_true.mp (by decide +kernel) w h), fun _ h => nomatch h⟩⟩
set_option maxHeartbeats 40000000 in
set_option maxRecDepth 100000 in
theorem k_X13_bits_v10 (l : Launch) (hlt : l.stackTraces = false) (dC : Nat → ClassId) (dI : Nat → Nat → Nat) (c0 : Int32) (sz : Nat) : Met l yX13_bits ow_k_X13_bits_v10 ({ frames := 0, cells := 0, slots := 0, locals := 0 }) (va_Pc [.int c0, .int 7, .int 6, .int 5] (fun U => U.heap.size = sz ∧ va_P (dC, dI) vwCl [] U.heap ∧ va_K (dC, dI) vwCl [] U ∧ va_D (fun _ => True) [] ∧ nv_E (va_A [] sz) U)) (va_Qi (fun r _ => (r = ((((((c0 : Int32).toUInt32 >>> ((6 : Int32).toUInt32 &&& Int32.toUInt32 31)).toInt32) &&& 3) : Int32) <<< ((5 : Int32) &&& 31))) ∨ False) (fun (_ : Unit) t => va_P (dC, dI) vwCl [] t.heap ∧ va_K (dC, dI) vwCl [] t ∧ va_D (va_A [] sz) []) (va_A [] sz)) 0 0 (va_A [] sz) := by
  refine Met.ofW (cc := cX13_bits) (maxL := 4) (ret := (some .int)) (by decide) rfl ?_
  intro p e s m args below meth c s₁ B hml hv
  obtain ⟨rfl, hsz, hP, hK, hD0, hN⟩ := hv
  have hx := B.exec
  have hb := B.bytes
  have hr := B.returns
  have hts := atoms_spec (ws := ow_k_X13_bits_v10) B.pre
  have hown : s.vm.findClass RX13 = some m.cls := findClass_of_methodNamed B.named
  have hlocks := B.notSynchronized
  subst hsz
  have hD := hD0.self (sz := s.heap.size)
  generalize hAe : va_A [] s.heap.size = A at hD hN ⊢
  have hA : ∀ q : Nat, s.heap.size ≤ q → A q := fun q h => by rw [← hAe]; exact Or.inr h
  have hS : va_S A s.heap s.heap [] := va_S.rf
  have hl := lv_entry ([.int c0, .int 7, .int 6, .int 5]) (n := 4) (Nat.le_of_ble_eq_true rfl)
  rw [lg_entry_eq]
  generalize (lg_sl ([.int c0, .int 7, .int 6, .int 5]) ++ List.replicate (4 - (lg_sl ([.int c0, .int 7, .int 6, .int 5])).length) Slot.unset).toArray = ls at hl ⊢
  have hl : lv_has ls 4 [(0, .int c0), (1, .int 7), (2, .int 6), (3, .int 5)] := hl
  refine lv_iload_n hx hb dX13_bits_0 rfl (lv_at hl 0 rfl) ?_
  refine lv_iload_n hx hb dX13_bits_1 rfl (lv_at hl 2 rfl) ?_
  refine lv_iushr hx hb dX13_bits_2 rfl ?_
  refine lv_iconst (v := 1) hx hb dX13_bits_3 (by decide) ?_
  refine lv_iload_n hx hb dX13_bits_4 rfl (lv_at hl 1 rfl) ?_
  refine lv_iload_n hx hb dX13_bits_5 rfl (lv_at hl 2 rfl) ?_
  refine lv_isub hx hb dX13_bits_6 ?_
  refine lv_topi (fun z1 ez1 => ?_)
  obtain rfl : z1 = 1 := ez1.trans (by decide)
  refine lv_iconst (v := 1) hx hb dX13_bits_7 (by decide) ?_
  refine lv_iadd hx hb dX13_bits_8 ?_
  refine lv_topi (fun z2 ez2 => ?_)
  obtain rfl : z2 = 2 := ez2.trans (by decide)
  refine lv_ishl hx hb dX13_bits_9 ?_
  refine lv_topi (fun z3 ez3 => ?_)
  obtain rfl : z3 = 4 := ez3.trans (by decide)
  refine lv_iconst (v := 1) hx hb dX13_bits_10 (by decide) ?_
  refine lv_isub hx hb dX13_bits_11 ?_
  refine lv_topi (fun z4 ez4 => ?_)
  obtain rfl : z4 = 3 := ez4.trans (by decide)
  refine lv_iand hx hb dX13_bits_12 ?_
  refine lv_iload_n hx hb dX13_bits_13 rfl (lv_at hl 3 rfl) ?_
  refine lv_ishl hx hb dX13_bits_14 ?_
  refine W.widen (k := 0) (n := 0) (by decide +kernel) (by decide +kernel) ?_
  exact W.iret (v := ((((((c0 : Int32).toUInt32 >>> ((6 : Int32).toUInt32 &&& Int32.toUInt32 31)).toInt32) &&& 3) : Int32) <<< ((5 : Int32) &&& 31))) hx hb hr (fun t ht hW => ⟨⟨((((((c0 : Int32).toUInt32 >>> ((6 : Int32).toUInt32 &&& Int32.toUInt32 31)).toInt32) &&& 3) : Int32) <<< ((5 : Int32) &&& 31)), (), rfl, Or.inl rfl, by rw [ht]; exact hP, va_K.moved hW.alike hK, hD⟩, hS.F ht⟩) hS.2.2 dX13_bits_15
def ow_k_X13_bits_v11 : List Cond := .code yX13_bits cX13_bits 4 (some .int) :: ([] ++ [])
theorem gd_k_X13_bits_v11 : ∀ w ∈ ow_k_X13_bits_v11, (w.onTables && w.keeps) = true ∨ ∃ ty, w = Cond.arrayClass ty := List.forall_mem_cons.mpr ⟨good_of_word rfl, List.forall_mem_append.mpr ⟨fun w h => good_of_word (List.all_eq_true.mp (by decide +kernel) w h), fun _ h => nomatch h⟩⟩
set_option maxHeartbeats 40000000 in
set_option maxRecDepth 100000 in
theorem k_X13_bits_v11 (l : Launch) (hlt : l.stackTraces = false) (dC : Nat → ClassId) (dI : Nat → Nat → Nat) (c0 : Int32) (sz : Nat) : Met l yX13_bits ow_k_X13_bits_v11 ({ frames := 0, cells := 0, slots := 0, locals := 0 }) (va_Pc [.int c0, .int 2, .int 1, .int 3] (fun U => U.heap.size = sz ∧ va_P (dC, dI) vwCl [] U.heap ∧ va_K (dC, dI) vwCl [] U ∧ va_D (fun _ => True) [] ∧ nv_E (va_A [] sz) U)) (va_Qi (fun r _ => (r = ((((((c0 : Int32).toUInt32 >>> ((1 : Int32).toUInt32 &&& Int32.toUInt32 31)).toInt32) &&& 3) : Int32) <<< ((3 : Int32) &&& 31))) ∨ False) (fun (_ : Unit) t => va_P (dC, dI) vwCl [] t.heap ∧ va_K (dC, dI) vwCl [] t ∧ va_D (va_A [] sz) []) (va_A [] sz)) 0 0 (va_A [] sz) := by
  refine Met.ofW (cc := cX13_bits) (maxL := 4) (ret := (some .int)) (by decide) rfl ?_
  intro p e s m args below meth c s₁ B hml hv
  obtain ⟨rfl, hsz, hP, hK, hD0, hN⟩ := hv
  have hx := B.exec
  have hb := B.bytes
  have hr := B.returns
  have hts := atoms_spec (ws := ow_k_X13_bits_v11) B.pre
  have hown : s.vm.findClass RX13 = some m.cls := findClass_of_methodNamed B.named
  have hlocks := B.notSynchronized
  subst hsz
  have hD := hD0.self (sz := s.heap.size)
  generalize hAe : va_A [] s.heap.size = A at hD hN ⊢
  have hA : ∀ q : Nat, s.heap.size ≤ q → A q := fun q h => by rw [← hAe]; exact Or.inr h
  have hS : va_S A s.heap s.heap [] := va_S.rf
  have hl := lv_entry ([.int c0, .int 2, .int 1, .int 3]) (n := 4) (Nat.le_of_ble_eq_true rfl)
  rw [lg_entry_eq]
  generalize (lg_sl ([.int c0, .int 2, .int 1, .int 3]) ++ List.replicate (4 - (lg_sl ([.int c0, .int 2, .int 1, .int 3])).length) Slot.unset).toArray = ls at hl ⊢
  have hl : lv_has ls 4 [(0, .int c0), (1, .int 2), (2, .int 1), (3, .int 3)] := hl
  refine lv_iload_n hx hb dX13_bits_0 rfl (lv_at hl 0 rfl) ?_
  refine lv_iload_n hx hb dX13_bits_1 rfl (lv_at hl 2 rfl) ?_
  refine lv_iushr hx hb dX13_bits_2 rfl ?_
  refine lv_iconst (v := 1) hx hb dX13_bits_3 (by decide) ?_
  refine lv_iload_n hx hb dX13_bits_4 rfl (lv_at hl 1 rfl) ?_
  refine lv_iload_n hx hb dX13_bits_5 rfl (lv_at hl 2 rfl) ?_
  refine lv_isub hx hb dX13_bits_6 ?_
  refine lv_topi (fun z1 ez1 => ?_)
  obtain rfl : z1 = 1 := ez1.trans (by decide)
  refine lv_iconst (v := 1) hx hb dX13_bits_7 (by decide) ?_
  refine lv_iadd hx hb dX13_bits_8 ?_
  refine lv_topi (fun z2 ez2 => ?_)
  obtain rfl : z2 = 2 := ez2.trans (by decide)
  refine lv_ishl hx hb dX13_bits_9 ?_
  refine lv_topi (fun z3 ez3 => ?_)
  obtain rfl : z3 = 4 := ez3.trans (by decide)
  refine lv_iconst (v := 1) hx hb dX13_bits_10 (by decide) ?_
  refine lv_isub hx hb dX13_bits_11 ?_
  refine lv_topi (fun z4 ez4 => ?_)
  obtain rfl : z4 = 3 := ez4.trans (by decide)
  refine lv_iand hx hb dX13_bits_12 ?_
  refine lv_iload_n hx hb dX13_bits_13 rfl (lv_at hl 3 rfl) ?_
  refine lv_ishl hx hb dX13_bits_14 ?_
  refine W.widen (k := 0) (n := 0) (by decide +kernel) (by decide +kernel) ?_
  exact W.iret (v := ((((((c0 : Int32).toUInt32 >>> ((1 : Int32).toUInt32 &&& Int32.toUInt32 31)).toInt32) &&& 3) : Int32) <<< ((3 : Int32) &&& 31))) hx hb hr (fun t ht hW => ⟨⟨((((((c0 : Int32).toUInt32 >>> ((1 : Int32).toUInt32 &&& Int32.toUInt32 31)).toInt32) &&& 3) : Int32) <<< ((3 : Int32) &&& 31)), (), rfl, Or.inl rfl, by rw [ht]; exact hP, va_K.moved hW.alike hK, hD⟩, hS.F ht⟩) hS.2.2 dX13_bits_15
def ow_k_X13_bits_v12 : List Cond := .code yX13_bits cX13_bits 4 (some .int) :: ([] ++ [])
theorem gd_k_X13_bits_v12 : ∀ w ∈ ow_k_X13_bits_v12, (w.onTables && w.keeps) = true ∨ ∃ ty, w = Cond.arrayClass ty := List.forall_mem_cons.mpr ⟨good_of_word rfl, List.forall_mem_append.mpr ⟨fun w h => good_of_word (List.all_eq_true.mp (by decide +kernel) w h), fun _ h => nomatch h⟩⟩
set_option maxHeartbeats 40000000 in
set_option maxRecDepth 100000 in
theorem k_X13_bits_v12 (l : Launch) (hlt : l.stackTraces = false) (dC : Nat → ClassId) (dI : Nat → Nat → Nat) (c0 : Int32) (sz : Nat) : Met l yX13_bits ow_k_X13_bits_v12 ({ frames := 0, cells := 0, slots := 0, locals := 0 }) (va_Pc [.int c0, .int 5, .int 5, .int 2] (fun U => U.heap.size = sz ∧ va_P (dC, dI) vwCl [] U.heap ∧ va_K (dC, dI) vwCl [] U ∧ va_D (fun _ => True) [] ∧ nv_E (va_A [] sz) U)) (va_Qi (fun r _ => (r = ((((((c0 : Int32).toUInt32 >>> ((5 : Int32).toUInt32 &&& Int32.toUInt32 31)).toInt32) &&& 1) : Int32) <<< ((2 : Int32) &&& 31))) ∨ False) (fun (_ : Unit) t => va_P (dC, dI) vwCl [] t.heap ∧ va_K (dC, dI) vwCl [] t ∧ va_D (va_A [] sz) []) (va_A [] sz)) 0 0 (va_A [] sz) := by
  refine Met.ofW (cc := cX13_bits) (maxL := 4) (ret := (some .int)) (by decide) rfl ?_
  intro p e s m args below meth c s₁ B hml hv
  obtain ⟨rfl, hsz, hP, hK, hD0, hN⟩ := hv
  have hx := B.exec
  have hb := B.bytes
  have hr := B.returns
  have hts := atoms_spec (ws := ow_k_X13_bits_v12) B.pre
  have hown : s.vm.findClass RX13 = some m.cls := findClass_of_methodNamed B.named
  have hlocks := B.notSynchronized
  subst hsz
  have hD := hD0.self (sz := s.heap.size)
  generalize hAe : va_A [] s.heap.size = A at hD hN ⊢
  have hA : ∀ q : Nat, s.heap.size ≤ q → A q := fun q h => by rw [← hAe]; exact Or.inr h
  have hS : va_S A s.heap s.heap [] := va_S.rf
  have hl := lv_entry ([.int c0, .int 5, .int 5, .int 2]) (n := 4) (Nat.le_of_ble_eq_true rfl)
  rw [lg_entry_eq]
  generalize (lg_sl ([.int c0, .int 5, .int 5, .int 2]) ++ List.replicate (4 - (lg_sl ([.int c0, .int 5, .int 5, .int 2])).length) Slot.unset).toArray = ls at hl ⊢
  have hl : lv_has ls 4 [(0, .int c0), (1, .int 5), (2, .int 5), (3, .int 2)] := hl
  refine lv_iload_n hx hb dX13_bits_0 rfl (lv_at hl 0 rfl) ?_
  refine lv_iload_n hx hb dX13_bits_1 rfl (lv_at hl 2 rfl) ?_
  refine lv_iushr hx hb dX13_bits_2 rfl ?_
  refine lv_iconst (v := 1) hx hb dX13_bits_3 (by decide) ?_
  refine lv_iload_n hx hb dX13_bits_4 rfl (lv_at hl 1 rfl) ?_
  refine lv_iload_n hx hb dX13_bits_5 rfl (lv_at hl 2 rfl) ?_
  refine lv_isub hx hb dX13_bits_6 ?_
  refine lv_topi (fun z1 ez1 => ?_)
  obtain rfl : z1 = 0 := ez1.trans (by decide)
  refine lv_iconst (v := 1) hx hb dX13_bits_7 (by decide) ?_
  refine lv_iadd hx hb dX13_bits_8 ?_
  refine lv_topi (fun z2 ez2 => ?_)
  obtain rfl : z2 = 1 := ez2.trans (by decide)
  refine lv_ishl hx hb dX13_bits_9 ?_
  refine lv_topi (fun z3 ez3 => ?_)
  obtain rfl : z3 = 2 := ez3.trans (by decide)
  refine lv_iconst (v := 1) hx hb dX13_bits_10 (by decide) ?_
  refine lv_isub hx hb dX13_bits_11 ?_
  refine lv_topi (fun z4 ez4 => ?_)
  obtain rfl : z4 = 1 := ez4.trans (by decide)
  refine lv_iand hx hb dX13_bits_12 ?_
  refine lv_iload_n hx hb dX13_bits_13 rfl (lv_at hl 3 rfl) ?_
  refine lv_ishl hx hb dX13_bits_14 ?_
  refine W.widen (k := 0) (n := 0) (by decide +kernel) (by decide +kernel) ?_
  exact W.iret (v := ((((((c0 : Int32).toUInt32 >>> ((5 : Int32).toUInt32 &&& Int32.toUInt32 31)).toInt32) &&& 1) : Int32) <<< ((2 : Int32) &&& 31))) hx hb hr (fun t ht hW => ⟨⟨((((((c0 : Int32).toUInt32 >>> ((5 : Int32).toUInt32 &&& Int32.toUInt32 31)).toInt32) &&& 1) : Int32) <<< ((2 : Int32) &&& 31)), (), rfl, Or.inl rfl, by rw [ht]; exact hP, va_K.moved hW.alike hK, hD⟩, hS.F ht⟩) hS.2.2 dX13_bits_15
def ow_g_X13_shortBranch : List Cond := .code yX13_shortBranch cX13_shortBranch 1 (some .int) :: ([.methodLink RX13 550 yX13_bits, .static yX13_bits, .initialized RX13] ++ (ow_k_X13_bits_v8 ++ (ow_k_X13_bits_v9 ++ (ow_k_X13_bits_v10 ++ (ow_k_X13_bits_v11 ++ (ow_k_X13_bits_v12 ++ []))))))
theorem gd_g_X13_shortBranch : ∀ w ∈ ow_g_X13_shortBranch, (w.onTables && w.keeps) = true ∨ ∃ ty, w = Cond.arrayClass ty := List.forall_mem_cons.mpr ⟨good_of_word rfl, List.forall_mem_append.mpr ⟨fun w h => good_of_word (List.all_eq_true.mp (by decide +kernel) w h), List.forall_mem_append.mpr ⟨gd_k_X13_bits_v8, List.forall_mem_append.mpr ⟨gd_k_X13_bits_v9, List.forall_mem_append.mpr ⟨gd_k_X13_bits_v10, List.forall_mem_append.mpr ⟨gd_k_X13_bits_v11, List.forall_mem_append.mpr ⟨gd_k_X13_bits_v12, fun _ h => nomatch h⟩⟩⟩⟩⟩⟩⟩
theorem gi_g_X13_shortBranch_0 : GoodIn ow_g_X13_shortBranch (wsS RX13 550 yX13_bits ow_k_X13_bits_v8) := goodIn_app (goodIn_of _ (by decide +kernel)) (fun w h => ⟨List.mem_cons_of_mem _ (List.mem_append_right _ (List.mem_append_left _ h)), gd_k_X13_bits_v8 w h⟩)
theorem gi_g_X13_shortBranch_1 : GoodIn ow_g_X13_shortBranch (wsS RX13 550 yX13_bits ow_k_X13_bits_v9) := goodIn_app (goodIn_of _ (by decide +kernel)) (fun w h => ⟨List.mem_cons_of_mem _ (List.mem_append_right _ (List.mem_append_right _ (List.mem_append_left _ h))), gd_k_X13_bits_v9 w h⟩)
theorem gi_g_X13_shortBranch_2 : GoodIn ow_g_X13_shortBranch (wsS RX13 550 yX13_bits ow_k_X13_bits_v10) := goodIn_app (goodIn_of _ (by decide +kernel)) (fun w h => ⟨List.mem_cons_of_mem _ (List.mem_append_right _ (List.mem_append_right _ (List.mem_append_right _ (List.mem_append_left _ h)))), gd_k_X13_bits_v10 w h⟩)
theorem gi_g_X13_shortBranch_3 : GoodIn ow_g_X13_shortBranch (wsS RX13 550 yX13_bits ow_k_X13_bits_v11) := goodIn_app (goodIn_of _ (by decide +kernel)) (fun w h => ⟨List.mem_cons_of_mem _ (List.mem_append_right _ (List.mem_append_right _ (List.mem_append_right _ (List.mem_append_right _ (List.mem_append_left _ h))))), gd_k_X13_bits_v11 w h⟩)
theorem gi_g_X13_shortBranch_4 : GoodIn ow_g_X13_shortBranch (wsS RX13 550 yX13_bits ow_k_X13_bits_v12) := goodIn_app (goodIn_of _ (by decide +kernel)) (fun w h => ⟨List.mem_cons_of_mem _ (List.mem_append_right _ (List.mem_append_right _ (List.mem_append_right _ (List.mem_append_right _ (List.mem_append_right _ (List.mem_append_left _ h)))))), gd_k_X13_bits_v12 w h⟩)
set_option maxHeartbeats 40000000 in
set_option maxRecDepth 100000 in
theorem g_X13_shortBranch (l : Launch) (hlt : l.stackTraces = false) (dC : Nat → ClassId) (dI : Nat → Nat → Nat) (v0 : Int32) (sz : Nat) : Met l yX13_shortBranch ow_g_X13_shortBranch ({ frames := 1, cells := 0, slots := 0, locals := 23 }) (va_Pc [.int v0] (fun U => U.heap.size = sz ∧ va_P (dC, dI) vwCl [] U.heap ∧ va_K (dC, dI) vwCl [] U ∧ va_D (fun _ => True) [] ∧ nv_E (va_A [] sz) U)) (va_Qi (fun r _ => (r = ((((((((((v0 : Int32).toUInt32 >>> ((8 : Int32).toUInt32 &&& Int32.toUInt32 31)).toInt32) &&& 1) : Int32) <<< ((12 : Int32) &&& 31)) ||| ((((((v0 : Int32).toUInt32 >>> ((3 : Int32).toUInt32 &&& Int32.toUInt32 31)).toInt32) &&& 3) : Int32) <<< ((10 : Int32) &&& 31))) ||| ((((((v0 : Int32).toUInt32 >>> ((6 : Int32).toUInt32 &&& Int32.toUInt32 31)).toInt32) &&& 3) : Int32) <<< ((5 : Int32) &&& 31))) ||| ((((((v0 : Int32).toUInt32 >>> ((1 : Int32).toUInt32 &&& Int32.toUInt32 31)).toInt32) &&& 3) : Int32) <<< ((3 : Int32) &&& 31))) ||| ((((((v0 : Int32).toUInt32 >>> ((5 : Int32).toUInt32 &&& Int32.toUInt32 31)).toInt32) &&& 1) : Int32) <<< ((2 : Int32) &&& 31)))) ∨ False) (fun (_ : Unit) t => va_P (dC, dI) vwCl [] t.heap ∧ va_K (dC, dI) vwCl [] t ∧ va_D (va_A [] sz) []) (va_A [] sz)) 0 0 (va_A [] sz) := by
  refine Met.ofW (cc := cX13_shortBranch) (maxL := 1) (ret := (some .int)) (by decide) rfl ?_
  intro p e s m args below meth c s₁ B hml hv
  obtain ⟨rfl, hsz, hP, hK, hD0, hN⟩ := hv
  have hx := B.exec
  have hb := B.bytes
  have hr := B.returns
  have hts := atoms_spec (ws := ow_g_X13_shortBranch) B.pre
  have hown : s.vm.findClass RX13 = some m.cls := findClass_of_methodNamed B.named
  have hlocks := B.notSynchronized
  subst hsz
  have hD := hD0.self (sz := s.heap.size)
  generalize hAe : va_A [] s.heap.size = A at hD hN ⊢
  have hA : ∀ q : Nat, s.heap.size ≤ q → A q := fun q h => by rw [← hAe]; exact Or.inr h
  have hS : va_S A s.heap s.heap [] := va_S.rf
  have hl := lv_entry ([.int v0]) (n := 1) (Nat.le_of_ble_eq_true rfl)
  rw [lg_entry_eq]
  generalize (lg_sl ([.int v0]) ++ List.replicate (1 - (lg_sl ([.int v0])).length) Slot.unset).toArray = ls at hl ⊢
  have hl : lv_has ls 1 [(0, .int v0)] := hl
  refine lv_iload_n hx hb dX13_shortBranch_0 rfl (lv_at hl 0 rfl) ?_
  refine lv_bipush (v := 8) hx hb dX13_shortBranch_1 (by decide) ?_
  refine lv_bipush (v := 8) hx hb dX13_shortBranch_3 (by decide) ?_
  refine lv_bipush (v := 12) hx hb dX13_shortBranch_5 (by decide) ?_
  have hPc := hP.sub (ws' := []) [] rfl
  have hDc := hD.sub (ws' := []) [] (by decide) rfl
  have hKc := hK.sub (tys' := []) [] rfl
  have hFc := va_free (wc := []) hD hS hA [] rfl
  refine va_calli (va_runS (As := [.int v0, .int 8, .int 8, .int 12]) (rest := []) ⟨hx, hb, hml, hown, hts⟩ (k_X13_bits_v8 l hlt dC dI v0  s.heap.size) (cwS 4 hts gi_g_X13_shortBranch_0 rfl rfl rfl (by decide +kernel) ⟨Nat.le_of_ble_eq_true rfl, Nat.le_of_ble_eq_true rfl⟩) ⟨fun a U g mk q => by obtain ⟨q0, q1, qP, qK, qD, qN⟩ := q; exact ⟨q0, q1, qP, va_K.moved (u := U) (U := U.calling g mk a) (Vm.Alike.refl U.vm) qK, qD, nv_same rfl rfl qN⟩, fun U hU hW => ⟨rfl, by rw [hU], by rw [hU]; exact hPc, va_K.moved hW.alike hKc, hDc.weaken (fun _ _ _ _ => trivial), nv_call hS hFc hU hW hN⟩⟩ rfl rfl hl.1 rfl (lv_room (Nat.le_of_ble_eq_true rfl)) dX13_shortBranch_7 ⟨by decide +kernel, by decide +kernel⟩) hS (fun q _ h => hFc q h) hFc (fun r1 u t H1 locs ht hvm hw hB hz1 hk1 hS => ?_)
  obtain ⟨hP1, hK1, hD1⟩ := hB
  rw [ht] at hP1
  have hK1 := va_K.moved hvm.symm hK1
  obtain ⟨hP, hD⟩ := va_join (wr := []) (w1 := []) hP hD [] [] rfl rfl (by decide) (by decide) hk1 hFc hP1 hD1
  have hK := (hK.sub (tys' := []) [] rfl).app hK1
  generalize H1 = H at hP hS ⊢
  have hP : va_P (dC, dI) vwCl [] H := hP
  have hD : va_D A [] := hD
  have hK : va_K (dC, dI) vwCl [] s := hK
  refine W.widen (k := 0) (n := 0) (by decide +kernel) (by decide +kernel) ?_
  rcases hw with h9 | h9
  · subst h9
    refine lv_iload_n hx hb dX13_shortBranch_10 rfl (lv_at hl 0 rfl) ?_
    refine lv_iconst (v := 4) hx hb dX13_shortBranch_11 (by decide) ?_
    refine lv_iconst (v := 3) hx hb dX13_shortBranch_12 (by decide) ?_
    refine lv_bipush (v := 10) hx hb dX13_shortBranch_13 (by decide) ?_
    have hPc := hP.sub (ws' := []) [] rfl
    have hDc := hD.sub (ws' := []) [] (by decide) rfl
    have hKc := hK.sub (tys' := []) [] rfl
    have hFc := va_free (wc := []) hD hS hA [] rfl
    refine va_calli (va_runS (As := [.int v0, .int 4, .int 3, .int 10]) (rest := [.int ((((((v0 : Int32).toUInt32 >>> ((8 : Int32).toUInt32 &&& Int32.toUInt32 31)).toInt32) &&& 1) : Int32) <<< ((12 : Int32) &&& 31))]) ⟨hx, hb, hml, hown, hts⟩ (k_X13_bits_v9 l hlt dC dI v0  H.size) (cwS 4 hts gi_g_X13_shortBranch_1 rfl rfl rfl (by decide +kernel) ⟨Nat.le_of_ble_eq_true rfl, Nat.le_of_ble_eq_true rfl⟩) ⟨fun a U g mk q => by obtain ⟨q0, q1, qP, qK, qD, qN⟩ := q; exact ⟨q0, q1, qP, va_K.moved (u := U) (U := U.calling g mk a) (Vm.Alike.refl U.vm) qK, qD, nv_same rfl rfl qN⟩, fun U hU hW => ⟨rfl, by rw [hU], by rw [hU]; exact hPc, va_K.moved hW.alike hKc, hDc.weaken (fun _ _ _ _ => trivial), nv_call hS hFc hU hW hN⟩⟩ rfl rfl hl.1 rfl (lv_room (Nat.le_of_ble_eq_true rfl)) dX13_shortBranch_15 ⟨by decide +kernel, by decide +kernel⟩) hS (fun q _ h => hFc q h) hFc (fun r2 u t H1 locs ht hvm hw hB hz1 hk1 hS => ?_)
    obtain ⟨hP1, hK1, hD1⟩ := hB
    rw [ht] at hP1
    have hK1 := va_K.moved hvm.symm hK1
    obtain ⟨hP, hD⟩ := va_join (wr := []) (w1 := []) hP hD [] [] rfl rfl (by decide) (by decide) hk1 hFc hP1 hD1
    have hK := (hK.sub (tys' := []) [] rfl).app hK1
    generalize H1 = H at hP hS ⊢
    have hP : va_P (dC, dI) vwCl [] H := hP
    have hD : va_D A [] := hD
    have hK : va_K (dC, dI) vwCl [] s := hK
    refine W.widen (k := 0) (n := 0) (by decide +kernel) (by decide +kernel) ?_
    rcases hw with h9 | h9
    · subst h9
      refine lv_ior hx hb dX13_shortBranch_18 ?_
      refine lv_iload_n hx hb dX13_shortBranch_19 rfl (lv_at hl 0 rfl) ?_
      refine lv_bipush (v := 7) hx hb dX13_shortBranch_20 (by decide) ?_
      refine lv_bipush (v := 6) hx hb dX13_shortBranch_22 (by decide) ?_
      refine lv_iconst (v := 5) hx hb dX13_shortBranch_24 (by decide) ?_
      have hPc := hP.sub (ws' := []) [] rfl
      have hDc := hD.sub (ws' := []) [] (by decide) rfl
      have hKc := hK.sub (tys' := []) [] rfl
      have hFc := va_free (wc := []) hD hS hA [] rfl
      refine va_calli (va_runS (As := [.int v0, .int 7, .int 6, .int 5]) (rest := [.int (((((((v0 : Int32).toUInt32 >>> ((8 : Int32).toUInt32 &&& Int32.toUInt32 31)).toInt32) &&& 1) : Int32) <<< ((12 : Int32) &&& 31)) ||| ((((((v0 : Int32).toUInt32 >>> ((3 : Int32).toUInt32 &&& Int32.toUInt32 31)).toInt32) &&& 3) : Int32) <<< ((10 : Int32) &&& 31)))]) ⟨hx, hb, hml, hown, hts⟩ (k_X13_bits_v10 l hlt dC dI v0  H.size) (cwS 4 hts gi_g_X13_shortBranch_2 rfl rfl rfl (by decide +kernel) ⟨Nat.le_of_ble_eq_true rfl, Nat.le_of_ble_eq_true rfl⟩) ⟨fun a U g mk q => by obtain ⟨q0, q1, qP, qK, qD, qN⟩ := q; exact ⟨q0, q1, qP, va_K.moved (u := U) (U := U.calling g mk a) (Vm.Alike.refl U.vm) qK, qD, nv_same rfl rfl qN⟩, fun U hU hW => ⟨rfl, by rw [hU], by rw [hU]; exact hPc, va_K.moved hW.alike hKc, hDc.weaken (fun _ _ _ _ => trivial), nv_call hS hFc hU hW hN⟩⟩ rfl rfl hl.1 rfl (lv_room (Nat.le_of_ble_eq_true rfl)) dX13_shortBranch_25 ⟨by decide +kernel, by decide +kernel⟩) hS (fun q _ h => hFc q h) hFc (fun r3 u t H1 locs ht hvm hw hB hz1 hk1 hS => ?_)
      obtain ⟨hP1, hK1, hD1⟩ := hB
      rw [ht] at hP1
      have hK1 := va_K.moved hvm.symm hK1
      obtain ⟨hP, hD⟩ := va_join (wr := []) (w1 := []) hP hD [] [] rfl rfl (by decide) (by decide) hk1 hFc hP1 hD1
      have hK := (hK.sub (tys' := []) [] rfl).app hK1
      generalize H1 = H at hP hS ⊢
      have hP : va_P (dC, dI) vwCl [] H := hP
      have hD : va_D A [] := hD
      have hK : va_K (dC, dI) vwCl [] s := hK
      refine W.widen (k := 0) (n := 0) (by decide +kernel) (by decide +kernel) ?_
      rcases hw with h9 | h9
      · subst h9
        refine lv_ior hx hb dX13_shortBranch_28 ?_
        refine lv_iload_n hx hb dX13_shortBranch_29 rfl (lv_at hl 0 rfl) ?_
        refine lv_iconst (v := 2) hx hb dX13_shortBranch_30 (by decide) ?_
        refine lv_iconst (v := 1) hx hb dX13_shortBranch_31 (by decide) ?_
        refine lv_iconst (v := 3) hx hb dX13_shortBranch_32 (by decide) ?_
        have hPc := hP.sub (ws' := []) [] rfl
        have hDc := hD.sub (ws' := []) [] (by decide) rfl
        have hKc := hK.sub (tys' := []) [] rfl
        have hFc := va_free (wc := []) hD hS hA [] rfl
        refine va_calli (va_runS (As := [.int v0, .int 2, .int 1, .int 3]) (rest := [.int ((((((((v0 : Int32).toUInt32 >>> ((8 : Int32).toUInt32 &&& Int32.toUInt32 31)).toInt32) &&& 1) : Int32) <<< ((12 : Int32) &&& 31)) ||| ((((((v0 : Int32).toUInt32 >>> ((3 : Int32).toUInt32 &&& Int32.toUInt32 31)).toInt32) &&& 3) : Int32) <<< ((10 : Int32) &&& 31))) ||| ((((((v0 : Int32).toUInt32 >>> ((6 : Int32).toUInt32 &&& Int32.toUInt32 31)).toInt32) &&& 3) : Int32) <<< ((5 : Int32) &&& 31)))]) ⟨hx, hb, hml, hown, hts⟩ (k_X13_bits_v11 l hlt dC dI v0  H.size) (cwS 4 hts gi_g_X13_shortBranch_3 rfl rfl rfl (by decide +kernel) ⟨Nat.le_of_ble_eq_true rfl, Nat.le_of_ble_eq_true rfl⟩) ⟨fun a U g mk q => by obtain ⟨q0, q1, qP, qK, qD, qN⟩ := q; exact ⟨q0, q1, qP, va_K.moved (u := U) (U := U.calling g mk a) (Vm.Alike.refl U.vm) qK, qD, nv_same rfl rfl qN⟩, fun U hU hW => ⟨rfl, by rw [hU], by rw [hU]; exact hPc, va_K.moved hW.alike hKc, hDc.weaken (fun _ _ _ _ => trivial), nv_call hS hFc hU hW hN⟩⟩ rfl rfl hl.1 rfl (lv_room (Nat.le_of_ble_eq_true rfl)) dX13_shortBranch_33 ⟨by decide +kernel, by decide +kernel⟩) hS (fun q _ h => hFc q h) hFc (fun r4 u t H1 locs ht hvm hw hB hz1 hk1 hS => ?_)
        obtain ⟨hP1, hK1, hD1⟩ := hB
        rw [ht] at hP1
        have hK1 := va_K.moved hvm.symm hK1
        obtain ⟨hP, hD⟩ := va_join (wr := []) (w1 := []) hP hD [] [] rfl rfl (by decide) (by decide) hk1 hFc hP1 hD1
        have hK := (hK.sub (tys' := []) [] rfl).app hK1
        generalize H1 = H at hP hS ⊢
        have hP : va_P (dC, dI) vwCl [] H := hP
        have hD : va_D A [] := hD
        have hK : va_K (dC, dI) vwCl [] s := hK
        refine W.widen (k := 0) (n := 0) (by decide +kernel) (by decide +kernel) ?_
        rcases hw with h9 | h9
        · subst h9
          refine lv_ior hx hb dX13_shortBranch_36 ?_
          refine lv_iload_n hx hb dX13_shortBranch_37 rfl (lv_at hl 0 rfl) ?_
          refine lv_iconst (v := 5) hx hb dX13_shortBranch_38 (by decide) ?_
          refine lv_iconst (v := 5) hx hb dX13_shortBranch_39 (by decide) ?_
          refine lv_iconst (v := 2) hx hb dX13_shortBranch_40 (by decide) ?_
          have hPc := hP.sub (ws' := []) [] rfl
          have hDc := hD.sub (ws' := []) [] (by decide) rfl
          have hKc := hK.sub (tys' := []) [] rfl
          have hFc := va_free (wc := []) hD hS hA [] rfl
          refine va_calli (va_runS (As := [.int v0, .int 5, .int 5, .int 2]) (rest := [.int (((((((((v0 : Int32).toUInt32 >>> ((8 : Int32).toUInt32 &&& Int32.toUInt32 31)).toInt32) &&& 1) : Int32) <<< ((12 : Int32) &&& 31)) ||| ((((((v0 : Int32).toUInt32 >>> ((3 : Int32).toUInt32 &&& Int32.toUInt32 31)).toInt32) &&& 3) : Int32) <<< ((10 : Int32) &&& 31))) ||| ((((((v0 : Int32).toUInt32 >>> ((6 : Int32).toUInt32 &&& Int32.toUInt32 31)).toInt32) &&& 3) : Int32) <<< ((5 : Int32) &&& 31))) ||| ((((((v0 : Int32).toUInt32 >>> ((1 : Int32).toUInt32 &&& Int32.toUInt32 31)).toInt32) &&& 3) : Int32) <<< ((3 : Int32) &&& 31)))]) ⟨hx, hb, hml, hown, hts⟩ (k_X13_bits_v12 l hlt dC dI v0  H.size) (cwS 4 hts gi_g_X13_shortBranch_4 rfl rfl rfl (by decide +kernel) ⟨Nat.le_of_ble_eq_true rfl, Nat.le_of_ble_eq_true rfl⟩) ⟨fun a U g mk q => by obtain ⟨q0, q1, qP, qK, qD, qN⟩ := q; exact ⟨q0, q1, qP, va_K.moved (u := U) (U := U.calling g mk a) (Vm.Alike.refl U.vm) qK, qD, nv_same rfl rfl qN⟩, fun U hU hW => ⟨rfl, by rw [hU], by rw [hU]; exact hPc, va_K.moved hW.alike hKc, hDc.weaken (fun _ _ _ _ => trivial), nv_call hS hFc hU hW hN⟩⟩ rfl rfl hl.1 rfl (lv_room (Nat.le_of_ble_eq_true rfl)) dX13_shortBranch_41 ⟨by decide +kernel, by decide +kernel⟩) hS (fun q _ h => hFc q h) hFc (fun r5 u t H1 locs ht hvm hw hB hz1 hk1 hS => ?_)
          obtain ⟨hP1, hK1, hD1⟩ := hB
          rw [ht] at hP1
          have hK1 := va_K.moved hvm.symm hK1
          obtain ⟨hP, hD⟩ := va_join (wr := []) (w1 := []) hP hD [] [] rfl rfl (by decide) (by decide) hk1 hFc hP1 hD1
          have hK := (hK.sub (tys' := []) [] rfl).app hK1
          generalize H1 = H at hP hS ⊢
          have hP : va_P (dC, dI) vwCl [] H := hP
          have hD : va_D A [] := hD
          have hK : va_K (dC, dI) vwCl [] s := hK
          refine W.widen (k := 0) (n := 0) (by decide +kernel) (by decide +kernel) ?_
          rcases hw with h9 | h9
          · subst h9
            refine lv_ior hx hb dX13_shortBranch_44 ?_
            refine W.widen (k := 0) (n := 0) (by decide +kernel) (by decide +kernel) ?_
            exact W.iret (v := ((((((((((v0 : Int32).toUInt32 >>> ((8 : Int32).toUInt32 &&& Int32.toUInt32 31)).toInt32) &&& 1) : Int32) <<< ((12 : Int32) &&& 31)) ||| ((((((v0 : Int32).toUInt32 >>> ((3 : Int32).toUInt32 &&& Int32.toUInt32 31)).toInt32) &&& 3) : Int32) <<< ((10 : Int32) &&& 31))) ||| ((((((v0 : Int32).toUInt32 >>> ((6 : Int32).toUInt32 &&& Int32.toUInt32 31)).toInt32) &&& 3) : Int32) <<< ((5 : Int32) &&& 31))) ||| ((((((v0 : Int32).toUInt32 >>> ((1 : Int32).toUInt32 &&& Int32.toUInt32 31)).toInt32) &&& 3) : Int32) <<< ((3 : Int32) &&& 31))) ||| ((((((v0 : Int32).toUInt32 >>> ((5 : Int32).toUInt32 &&& Int32.toUInt32 31)).toInt32) &&& 1) : Int32) <<< ((2 : Int32) &&& 31)))) hx hb hr (fun t ht hW => ⟨⟨((((((((((v0 : Int32).toUInt32 >>> ((8 : Int32).toUInt32 &&& Int32.toUInt32 31)).toInt32) &&& 1) : Int32) <<< ((12 : Int32) &&& 31)) ||| ((((((v0 : Int32).toUInt32 >>> ((3 : Int32).toUInt32 &&& Int32.toUInt32 31)).toInt32) &&& 3) : Int32) <<< ((10 : Int32) &&& 31))) ||| ((((((v0 : Int32).toUInt32 >>> ((6 : Int32).toUInt32 &&& Int32.toUInt32 31)).toInt32) &&& 3) : Int32) <<< ((5 : Int32) &&& 31))) ||| ((((((v0 : Int32).toUInt32 >>> ((1 : Int32).toUInt32 &&& Int32.toUInt32 31)).toInt32) &&& 3) : Int32) <<< ((3 : Int32) &&& 31))) ||| ((((((v0 : Int32).toUInt32 >>> ((5 : Int32).toUInt32 &&& Int32.toUInt32 31)).toInt32) &&& 1) : Int32) <<< ((2 : Int32) &&& 31))), (), rfl, Or.inl rfl, by rw [ht]; exact hP, va_K.moved hW.alike hK, hD⟩, hS.F ht⟩) hS.2.2 dX13_shortBranch_45
          · exact h9.elim
        · exact h9.elim
      · exact h9.elim
    · exact h9.elim
  · exact h9.elim
def ow_k_X13_bits_v13 : List Cond := .code yX13_bits cX13_bits 4 (some .int) :: ([] ++ [])
theorem gd_k_X13_bits_v13 : ∀ w ∈ ow_k_X13_bits_v13, (w.onTables && w.keeps) = true ∨ ∃ ty, w = Cond.arrayClass ty := List.forall_mem_cons.mpr ⟨good_of_word rfl, List.forall_mem_append.mpr ⟨fun w h => good_of_word (List.all_eq_true.mp (by decide +kernel) w h), fun _ h => nomatch h⟩⟩
set_option maxHeartbeats 40000000 in
set_option maxRecDepth 100000 in
theorem k_X13_bits_v13 (l : Launch) (hlt : l.stackTraces = false) (dC : Nat → ClassId) (dI : Nat → Nat → Nat) (c0 : Int32) (sz : Nat) : Met l yX13_bits ow_k_X13_bits_v13 ({ frames := 0, cells := 0, slots := 0, locals := 0 }) (va_Pc [.int c0, .int 5, .int 5, .int 12] (fun U => U.heap.size = sz ∧ va_P (dC, dI) vwCl [] U.heap ∧ va_K (dC, dI) vwCl [] U ∧ va_D (fun _ => True) [] ∧ nv_E (va_A [] sz) U)) (va_Qi (fun r _ => (r = ((((((c0 : Int32).toUInt32 >>> ((5 : Int32).toUInt32 &&& Int32.toUInt32 31)).toInt32) &&& 1) : Int32) <<< ((12 : Int32) &&& 31))) ∨ False) (fun (_ : Unit) t => va_P (dC, dI) vwCl [] t.heap ∧ va_K (dC, dI) vwCl [] t ∧ va_D (va_A [] sz) []) (va_A [] sz)) 0 0 (va_A [] sz) := by
  refine Met.ofW (cc := cX13_bits) (maxL := 4) (ret := (some .int)) (by decide) rfl ?_
  intro p e s m args below meth c s₁ B hml hv
  obtain ⟨rfl, hsz, hP, hK, hD0, hN⟩ := hv
  have hx := B.exec
  have hb := B.bytes
  have hr := B.returns
  have hts := atoms_spec (ws := ow_k_X13_bits_v13) B.pre
  have hown : s.vm.findClass RX13 = some m.cls := findClass_of_methodNamed B.named
  have hlocks := B.notSynchronized
  subst hsz
  have hD := hD0.self (sz := s.heap.size)
  generalize hAe : va_A [] s.heap.size = A at hD hN ⊢
  have hA : ∀ q : Nat, s.heap.size ≤ q → A q := fun q h => by rw [← hAe]; exact Or.inr h
  have hS : va_S A s.heap s.heap [] := va_S.rf
  have hl := lv_entry ([.int c0, .int 5, .int 5, .int 12]) (n := 4) (Nat.le_of_ble_eq_true rfl)
  rw [lg_entry_eq]
  generalize (lg_sl ([.int c0, .int 5, .int 5, .int 12]) ++ List.replicate (4 - (lg_sl ([.int c0, .int 5, .int 5, .int 12])).length) Slot.unset).toArray = ls at hl ⊢
  have hl : lv_has ls 4 [(0, .int c0), (1, .int 5), (2, .int 5), (3, .int 12)] := hl
  refine lv_iload_n hx hb dX13_bits_0 rfl (lv_at hl 0 rfl) ?_
  refine lv_iload_n hx hb dX13_bits_1 rfl (lv_at hl 2 rfl) ?_
  refine lv_iushr hx hb dX13_bits_2 rfl ?_
  refine lv_iconst (v := 1) hx hb dX13_bits_3 (by decide) ?_
  refine lv_iload_n hx hb dX13_bits_4 rfl (lv_at hl 1 rfl) ?_
  refine lv_iload_n hx hb dX13_bits_5 rfl (lv_at hl 2 rfl) ?_
  refine lv_isub hx hb dX13_bits_6 ?_
  refine lv_topi (fun z1 ez1 => ?_)
  obtain rfl : z1 = 0 := ez1.trans (by decide)
  refine lv_iconst (v := 1) hx hb dX13_bits_7 (by decide) ?_
  refine lv_iadd hx hb dX13_bits_8 ?_
  refine lv_topi (fun z2 ez2 => ?_)
  obtain rfl : z2 = 1 := ez2.trans (by decide)
  refine lv_ishl hx hb dX13_bits_9 ?_
  refine lv_topi (fun z3 ez3 => ?_)
  obtain rfl : z3 = 2 := ez3.trans (by decide)
  refine lv_iconst (v := 1) hx hb dX13_bits_10 (by decide) ?_
  refine lv_isub hx hb dX13_bits_11 ?_
  refine lv_topi (fun z4 ez4 => ?_)
  obtain rfl : z4 = 1 := ez4.trans (by decide)
  refine lv_iand hx hb dX13_bits_12 ?_
  refine lv_iload_n hx hb dX13_bits_13 rfl (lv_at hl 3 rfl) ?_
  refine lv_ishl hx hb dX13_bits_14 ?_
  refine W.widen (k := 0) (n := 0) (by decide +kernel) (by decide +kernel) ?_
  exact W.iret (v := ((((((c0 : Int32).toUInt32 >>> ((5 : Int32).toUInt32 &&& Int32.toUInt32 31)).toInt32) &&& 1) : Int32) <<< ((12 : Int32) &&& 31))) hx hb hr (fun t ht hW => ⟨⟨((((((c0 : Int32).toUInt32 >>> ((5 : Int32).toUInt32 &&& Int32.toUInt32 31)).toInt32) &&& 1) : Int32) <<< ((12 : Int32) &&& 31)), (), rfl, Or.inl rfl, by rw [ht]; exact hP, va_K.moved hW.alike hK, hD⟩, hS.F ht⟩) hS.2.2 dX13_bits_15
def ow_k_X13_bits_v14 : List Cond := .code yX13_bits cX13_bits 4 (some .int) :: ([] ++ [])
theorem gd_k_X13_bits_v14 : ∀ w ∈ ow_k_X13_bits_v14, (w.onTables && w.keeps) = true ∨ ∃ ty, w = Cond.arrayClass ty := List.forall_mem_cons.mpr ⟨good_of_word rfl, List.forall_mem_append.mpr ⟨fun w h => good_of_word (List.all_eq_true.mp (by decide +kernel) w h), fun _ h => nomatch h⟩⟩
set_option maxHeartbeats 40000000 in
set_option maxRecDepth 100000 in
theorem k_X13_bits_v14 (l : Launch) (hlt : l.stackTraces = false) (dC : Nat → ClassId) (dI : Nat → Nat → Nat) (c0 : Int32) (sz : Nat) : Met l yX13_bits ow_k_X13_bits_v14 ({ frames := 0, cells := 0, slots := 0, locals := 0 }) (va_Pc [.int c0, .int 4, .int 0, .int 2] (fun U => U.heap.size = sz ∧ va_P (dC, dI) vwCl [] U.heap ∧ va_K (dC, dI) vwCl [] U ∧ va_D (fun _ => True) [] ∧ nv_E (va_A [] sz) U)) (va_Qi (fun r _ => (r = ((((((c0 : Int32).toUInt32 >>> ((0 : Int32).toUInt32 &&& Int32.toUInt32 31)).toInt32) &&& 31) : Int32) <<< ((2 : Int32) &&& 31))) ∨ False) (fun (_ : Unit) t => va_P (dC, dI) vwCl [] t.heap ∧ va_K (dC, dI) vwCl [] t ∧ va_D (va_A [] sz) []) (va_A [] sz)) 0 0 (va_A [] sz) := by
  refine Met.ofW (cc := cX13_bits) (maxL := 4) (ret := (some .int)) (by decide) rfl ?_
  intro p e s m args below meth c s₁ B hml hv
  obtain ⟨rfl, hsz, hP, hK, hD0, hN⟩ := hv
  have hx := B.exec
  have hb := B.bytes
  have hr := B.returns
  have hts := atoms_spec (ws := ow_k_X13_bits_v14) B.pre
  have hown : s.vm.findClass RX13 = some m.cls := findClass_of_methodNamed B.named
  have hlocks := B.notSynchronized
  subst hsz
  have hD := hD0.self (sz := s.heap.size)
  generalize hAe : va_A [] s.heap.size = A at hD hN ⊢
  have hA : ∀ q : Nat, s.heap.size ≤ q → A q := fun q h => by rw [← hAe]; exact Or.inr h
  have hS : va_S A s.heap s.heap [] := va_S.rf
  have hl := lv_entry ([.int c0, .int 4, .int 0, .int 2]) (n := 4) (Nat.le_of_ble_eq_true rfl)
  rw [lg_entry_eq]
  generalize (lg_sl ([.int c0, .int 4, .int 0, .int 2]) ++ List.replicate (4 - (lg_sl ([.int c0, .int 4, .int 0, .int 2])).length) Slot.unset).toArray = ls at hl ⊢
  have hl : lv_has ls 4 [(0, .int c0), (1, .int 4), (2, .int 0), (3, .int 2)] := hl
  refine lv_iload_n hx hb dX13_bits_0 rfl (lv_at hl 0 rfl) ?_
  refine lv_iload_n hx hb dX13_bits_1 rfl (lv_at hl 2 rfl) ?_
  refine lv_iushr hx hb dX13_bits_2 rfl ?_
  refine lv_iconst (v := 1) hx hb dX13_bits_3 (by decide) ?_
  refine lv_iload_n hx hb dX13_bits_4 rfl (lv_at hl 1 rfl) ?_
  refine lv_iload_n hx hb dX13_bits_5 rfl (lv_at hl 2 rfl) ?_
  refine lv_isub hx hb dX13_bits_6 ?_
  refine lv_topi (fun z1 ez1 => ?_)
  obtain rfl : z1 = 4 := ez1.trans (by decide)
  refine lv_iconst (v := 1) hx hb dX13_bits_7 (by decide) ?_
  refine lv_iadd hx hb dX13_bits_8 ?_
  refine lv_topi (fun z2 ez2 => ?_)
  obtain rfl : z2 = 5 := ez2.trans (by decide)
  refine lv_ishl hx hb dX13_bits_9 ?_
  refine lv_topi (fun z3 ez3 => ?_)
  obtain rfl : z3 = 32 := ez3.trans (by decide)
  refine lv_iconst (v := 1) hx hb dX13_bits_10 (by decide) ?_
  refine lv_isub hx hb dX13_bits_11 ?_
  refine lv_topi (fun z4 ez4 => ?_)
  obtain rfl : z4 = 31 := ez4.trans (by decide)
  refine lv_iand hx hb dX13_bits_12 ?_
  refine lv_iload_n hx hb dX13_bits_13 rfl (lv_at hl 3 rfl) ?_
  refine lv_ishl hx hb dX13_bits_14 ?_
  refine W.widen (k := 0) (n := 0) (by decide +kernel) (by decide +kernel) ?_
  exact W.iret (v := ((((((c0 : Int32).toUInt32 >>> ((0 : Int32).toUInt32 &&& Int32.toUInt32 31)).toInt32) &&& 31) : Int32) <<< ((2 : Int32) &&& 31))) hx hb hr (fun t ht hW => ⟨⟨((((((c0 : Int32).toUInt32 >>> ((0 : Int32).toUInt32 &&& Int32.toUInt32 31)).toInt32) &&& 31) : Int32) <<< ((2 : Int32) &&& 31)), (), rfl, Or.inl rfl, by rw [ht]; exact hP, va_K.moved hW.alike hK, hD⟩, hS.F ht⟩) hS.2.2 dX13_bits_15
def ow_g_X13_six : List Cond := .code yX13_six cX13_six 1 (some .int) :: ([.methodLink RX13 550 yX13_bits, .static yX13_bits, .initialized RX13] ++ (ow_k_X13_bits_v13 ++ (ow_k_X13_bits_v14 ++ [])))
theorem gd_g_X13_six : ∀ w ∈ ow_g_X13_six, (w.onTables && w.keeps) = true ∨ ∃ ty, w = Cond.arrayClass ty := List.forall_mem_cons.mpr ⟨good_of_word rfl, List.forall_mem_append.mpr ⟨fun w h => good_of_word (List.all_eq_true.mp (by decide +kernel) w h), List.forall_mem_append.mpr ⟨gd_k_X13_bits_v13, List.forall_mem_append.mpr ⟨gd_k_X13_bits_v14, fun _ h => nomatch h⟩⟩⟩⟩
theorem gi_g_X13_six_0 : GoodIn ow_g_X13_six (wsS RX13 550 yX13_bits ow_k_X13_bits_v13) := goodIn_app (goodIn_of _ (by decide +kernel)) (fun w h => ⟨List.mem_cons_of_mem _ (List.mem_append_right _ (List.mem_append_left _ h)), gd_k_X13_bits_v13 w h⟩)
theorem gi_g_X13_six_1 : GoodIn ow_g_X13_six (wsS RX13 550 yX13_bits ow_k_X13_bits_v14) := goodIn_app (goodIn_of _ (by decide +kernel)) (fun w h => ⟨List.mem_cons_of_mem _ (List.mem_append_right _ (List.mem_append_right _ (List.mem_append_left _ h))), gd_k_X13_bits_v14 w h⟩)
set_option maxHeartbeats 40000000 in
set_option maxRecDepth 100000 in
theorem g_X13_six (l : Launch) (hlt : l.stackTraces = false) (dC : Nat → ClassId) (dI : Nat → Nat → Nat) (v0 : Int32) (sz : Nat) : Met l yX13_six ow_g_X13_six ({ frames := 1, cells := 0, slots := 0, locals := 23 }) (va_Pc [.int v0] (fun U => U.heap.size = sz ∧ va_P (dC, dI) vwCl [] U.heap ∧ va_K (dC, dI) vwCl [] U ∧ va_D (fun _ => True) [] ∧ nv_E (va_A [] sz) U)) (va_Qi (fun r _ => (r = (((((((v0 : Int32).toUInt32 >>> ((5 : Int32).toUInt32 &&& Int32.toUInt32 31)).toInt32) &&& 1) : Int32) <<< ((12 : Int32) &&& 31)) ||| ((((((v0 : Int32).toUInt32 >>> ((0 : Int32).toUInt32 &&& Int32.toUInt32 31)).toInt32) &&& 31) : Int32) <<< ((2 : Int32) &&& 31)))) ∨ False) (fun (_ : Unit) t => va_P (dC, dI) vwCl [] t.heap ∧ va_K (dC, dI) vwCl [] t ∧ va_D (va_A [] sz) []) (va_A [] sz)) 0 0 (va_A [] sz) := by
  refine Met.ofW (cc := cX13_six) (maxL := 1) (ret := (some .int)) (by decide) rfl ?_
  intro p e s m args below meth c s₁ B hml hv
  obtain ⟨rfl, hsz, hP, hK, hD0, hN⟩ := hv
  have hx := B.exec
  have hb := B.bytes
  have hr := B.returns
  have hts := atoms_spec (ws := ow_g_X13_six) B.pre
  have hown : s.vm.findClass RX13 = some m.cls := findClass_of_methodNamed B.named
  have hlocks := B.notSynchronized
  subst hsz
  have hD := hD0.self (sz := s.heap.size)
  generalize hAe : va_A [] s.heap.size = A at hD hN ⊢
  have hA : ∀ q : Nat, s.heap.size ≤ q → A q := fun q h => by rw [← hAe]; exact Or.inr h
  have hS : va_S A s.heap s.heap [] := va_S.rf
  have hl := lv_entry ([.int v0]) (n := 1) (Nat.le_of_ble_eq_true rfl)
  rw [lg_entry_eq]
  generalize (lg_sl ([.int v0]) ++ List.replicate (1 - (lg_sl ([.int v0])).length) Slot.unset).toArray = ls at hl ⊢
  have hl : lv_has ls 1 [(0, .int v0)] := hl
  refine lv_iload_n hx hb dX13_six_0 rfl (lv_at hl 0 rfl) ?_
  refine lv_iconst (v := 5) hx hb dX13_six_1 (by decide) ?_
  refine lv_iconst (v := 5) hx hb dX13_six_2 (by decide) ?_
  refine lv_bipush (v := 12) hx hb dX13_six_3 (by decide) ?_
  have hPc := hP.sub (ws' := []) [] rfl
  have hDc := hD.sub (ws' := []) [] (by decide) rfl
  have hKc := hK.sub (tys' := []) [] rfl
  have hFc := va_free (wc := []) hD hS hA [] rfl
  refine va_calli (va_runS (As := [.int v0, .int 5, .int 5, .int 12]) (rest := []) ⟨hx, hb, hml, hown, hts⟩ (k_X13_bits_v13 l hlt dC dI v0  s.heap.size) (cwS 4 hts gi_g_X13_six_0 rfl rfl rfl (by decide +kernel) ⟨Nat.le_of_ble_eq_true rfl, Nat.le_of_ble_eq_true rfl⟩) ⟨fun a U g mk q => by obtain ⟨q0, q1, qP, qK, qD, qN⟩ := q; exact ⟨q0, q1, qP, va_K.moved (u := U) (U := U.calling g mk a) (Vm.Alike.refl U.vm) qK, qD, nv_same rfl rfl qN⟩, fun U hU hW => ⟨rfl, by rw [hU], by rw [hU]; exact hPc, va_K.moved hW.alike hKc, hDc.weaken (fun _ _ _ _ => trivial), nv_call hS hFc hU hW hN⟩⟩ rfl rfl hl.1 rfl (lv_room (Nat.le_of_ble_eq_true rfl)) dX13_six_5 ⟨by decide +kernel, by decide +kernel⟩) hS (fun q _ h => hFc q h) hFc (fun r1 u t H1 locs ht hvm hw hB hz1 hk1 hS => ?_)
  obtain ⟨hP1, hK1, hD1⟩ := hB
  rw [ht] at hP1
  have hK1 := va_K.moved hvm.symm hK1
  obtain ⟨hP, hD⟩ := va_join (wr := []) (w1 := []) hP hD [] [] rfl rfl (by decide) (by decide) hk1 hFc hP1 hD1
  have hK := (hK.sub (tys' := []) [] rfl).app hK1
  generalize H1 = H at hP hS ⊢
  have hP : va_P (dC, dI) vwCl [] H := hP
  have hD : va_D A [] := hD
  have hK : va_K (dC, dI) vwCl [] s := hK
  refine W.widen (k := 0) (n := 0) (by decide +kernel) (by decide +kernel) ?_
  rcases hw with h9 | h9
  · subst h9
    refine lv_iload_n hx hb dX13_six_8 rfl (lv_at hl 0 rfl) ?_
    refine lv_iconst (v := 4) hx hb dX13_six_9 (by decide) ?_
    refine lv_iconst (v := 0) hx hb dX13_six_10 (by decide) ?_
    refine lv_iconst (v := 2) hx hb dX13_six_11 (by decide) ?_
    have hPc := hP.sub (ws' := []) [] rfl
    have hDc := hD.sub (ws' := []) [] (by decide) rfl
    have hKc := hK.sub (tys' := []) [] rfl
    have hFc := va_free (wc := []) hD hS hA [] rfl
    refine va_calli (va_runS (As := [.int v0, .int 4, .int 0, .int 2]) (rest := [.int ((((((v0 : Int32).toUInt32 >>> ((5 : Int32).toUInt32 &&& Int32.toUInt32 31)).toInt32) &&& 1) : Int32) <<< ((12 : Int32) &&& 31))]) ⟨hx, hb, hml, hown, hts⟩ (k_X13_bits_v14 l hlt dC dI v0  H.size) (cwS 4 hts gi_g_X13_six_1 rfl rfl rfl (by decide +kernel) ⟨Nat.le_of_ble_eq_true rfl, Nat.le_of_ble_eq_true rfl⟩) ⟨fun a U g mk q => by obtain ⟨q0, q1, qP, qK, qD, qN⟩ := q; exact ⟨q0, q1, qP, va_K.moved (u := U) (U := U.calling g mk a) (Vm.Alike.refl U.vm) qK, qD, nv_same rfl rfl qN⟩, fun U hU hW => ⟨rfl, by rw [hU], by rw [hU]; exact hPc, va_K.moved hW.alike hKc, hDc.weaken (fun _ _ _ _ => trivial), nv_call hS hFc hU hW hN⟩⟩ rfl rfl hl.1 rfl (lv_room (Nat.le_of_ble_eq_true rfl)) dX13_six_12 ⟨by decide +kernel, by decide +kernel⟩) hS (fun q _ h => hFc q h) hFc (fun r2 u t H1 locs ht hvm hw hB hz1 hk1 hS => ?_)
    obtain ⟨hP1, hK1, hD1⟩ := hB
    rw [ht] at hP1
    have hK1 := va_K.moved hvm.symm hK1
    obtain ⟨hP, hD⟩ := va_join (wr := []) (w1 := []) hP hD [] [] rfl rfl (by decide) (by decide) hk1 hFc hP1 hD1
    have hK := (hK.sub (tys' := []) [] rfl).app hK1
    generalize H1 = H at hP hS ⊢
    have hP : va_P (dC, dI) vwCl [] H := hP
    have hD : va_D A [] := hD
    have hK : va_K (dC, dI) vwCl [] s := hK
    refine W.widen (k := 0) (n := 0) (by decide +kernel) (by decide +kernel) ?_
    rcases hw with h9 | h9
    · subst h9
      refine lv_ior hx hb dX13_six_15 ?_
      refine W.widen (k := 0) (n := 0) (by decide +kernel) (by decide +kernel) ?_
      exact W.iret (v := (((((((v0 : Int32).toUInt32 >>> ((5 : Int32).toUInt32 &&& Int32.toUInt32 31)).toInt32) &&& 1) : Int32) <<< ((12 : Int32) &&& 31)) ||| ((((((v0 : Int32).toUInt32 >>> ((0 : Int32).toUInt32 &&& Int32.toUInt32 31)).toInt32) &&& 31) : Int32) <<< ((2 : Int32) &&& 31)))) hx hb hr (fun t ht hW => ⟨⟨(((((((v0 : Int32).toUInt32 >>> ((5 : Int32).toUInt32 &&& Int32.toUInt32 31)).toInt32) &&& 1) : Int32) <<< ((12 : Int32) &&& 31)) ||| ((((((v0 : Int32).toUInt32 >>> ((0 : Int32).toUInt32 &&& Int32.toUInt32 31)).toInt32) &&& 31) : Int32) <<< ((2 : Int32) &&& 31))), (), rfl, Or.inl rfl, by rw [ht]; exact hP, va_K.moved hW.alike hK, hD⟩, hS.F ht⟩) hS.2.2 dX13_six_16
    · exact h9.elim
  · exact h9.elim
def ow_g_X15_isDigit : List Cond := .code yX15_isDigit cX15_isDigit 1 (some .boolean) :: ([] ++ [])
theorem gd_g_X15_isDigit : ∀ w ∈ ow_g_X15_isDigit, (w.onTables && w.keeps) = true ∨ ∃ ty, w = Cond.arrayClass ty := List.forall_mem_cons.mpr ⟨good_of_word rfl, List.forall_mem_append.mpr ⟨fun w h => good_of_word (List.all_eq_true.mp (by decide +kernel) w h), fun _ h => nomatch h⟩⟩
set_option maxHeartbeats 40000000 in
set_option maxRecDepth 100000 in
theorem g_X15_isDigit (l : Launch) (hlt : l.stackTraces = false) (dC : Nat → ClassId) (dI : Nat → Nat → Nat) (v0 : Int32) (sz : Nat) : Met l yX15_isDigit ow_g_X15_isDigit ({ frames := 0, cells := 0, slots := 0, locals := 0 }) (va_Pc [.int v0] (fun U => U.heap.size = sz ∧ va_P (dC, dI) vwCl [] U.heap ∧ va_K (dC, dI) vwCl [] U ∧ va_D (fun _ => True) [] ∧ nv_E (va_A [] sz) U)) (va_Qi (fun r _ => ((v0 < 48) ∧ r = 0) ∨ ((¬ v0 < 48) ∧ (57 < v0) ∧ r = 0) ∨ ((¬ v0 < 48) ∧ (¬ 57 < v0) ∧ r = 1) ∨ False) (fun (_ : Unit) t => va_P (dC, dI) vwCl [] t.heap ∧ va_K (dC, dI) vwCl [] t ∧ va_D (va_A [] sz) []) (va_A [] sz)) 0 0 (va_A [] sz) := by
  refine Met.ofW (cc := cX15_isDigit) (maxL := 1) (ret := (some .boolean)) (by decide) rfl ?_
  intro p e s m args below meth c s₁ B hml hv
  obtain ⟨rfl, hsz, hP, hK, hD0, hN⟩ := hv
  have hx := B.exec
  have hb := B.bytes
  have hr := B.returns
  have hts := atoms_spec (ws := ow_g_X15_isDigit) B.pre
  have hown : s.vm.findClass RX15 = some m.cls := findClass_of_methodNamed B.named
  have hlocks := B.notSynchronized
  subst hsz
  have hD := hD0.self (sz := s.heap.size)
  generalize hAe : va_A [] s.heap.size = A at hD hN ⊢
  have hA : ∀ q : Nat, s.heap.size ≤ q → A q := fun q h => by rw [← hAe]; exact Or.inr h
  have hS : va_S A s.heap s.heap [] := va_S.rf
  have hl := lv_entry ([.int v0]) (n := 1) (Nat.le_of_ble_eq_true rfl)
  rw [lg_entry_eq]
  generalize (lg_sl ([.int v0]) ++ List.replicate (1 - (lg_sl ([.int v0])).length) Slot.unset).toArray = ls at hl ⊢
  have hl : lv_has ls 1 [(0, .int v0)] := hl
  refine lv_iload_n hx hb dX15_isDigit_0 rfl (lv_at hl 0 rfl) ?_
  refine lv_bipush (v := 48) hx hb dX15_isDigit_1 (by decide) ?_
  refine lv_icmp_lt (tgt := 16) hx hb dX15_isDigit_3 (by decide) (fun c_1 => ?_) (fun c_1 => ?_)
  · refine lv_iconst (v := 0) hx hb dX15_isDigit_16 (by decide) ?_
    refine W.widen (k := 0) (n := 0) (by decide +kernel) (by decide +kernel) ?_
    exact W.zret (v := 0) hx hb hr (by first | rfl | decide) (fun t ht hW => ⟨⟨0, (), rfl, Or.inl ⟨c_1, rfl⟩, by rw [ht]; exact hP, va_K.moved hW.alike hK, hD⟩, hS.F ht⟩) hS.2.2 dX15_isDigit_17
  · refine lv_iload_n hx hb dX15_isDigit_6 rfl (lv_at hl 0 rfl) ?_
    refine lv_bipush (v := 57) hx hb dX15_isDigit_7 (by decide) ?_
    refine lv_icmp_gt (tgt := 16) hx hb dX15_isDigit_9 (by decide) (fun c_2 => ?_) (fun c_2 => ?_)
    · refine lv_iconst (v := 0) hx hb dX15_isDigit_16 (by decide) ?_
      refine W.widen (k := 0) (n := 0) (by decide +kernel) (by decide +kernel) ?_
      exact W.zret (v := 0) hx hb hr (by first | rfl | decide) (fun t ht hW => ⟨⟨0, (), rfl, Or.inr (Or.inl ⟨c_1, c_2, rfl⟩), by rw [ht]; exact hP, va_K.moved hW.alike hK, hD⟩, hS.F ht⟩) hS.2.2 dX15_isDigit_17
    · refine lv_iconst (v := 1) hx hb dX15_isDigit_12 (by decide) ?_
      refine lv_goto (tgt := 17) hx hb dX15_isDigit_13 (by decide) ?_
      refine W.widen (k := 0) (n := 0) (by decide +kernel) (by decide +kernel) ?_
      exact W.zret (v := 1) hx hb hr (by first | rfl | decide) (fun t ht hW => ⟨⟨1, (), rfl, Or.inr (Or.inr (Or.inl ⟨c_1, c_2, rfl⟩)), by rw [ht]; exact hP, va_K.moved hW.alike hK, hD⟩, hS.F ht⟩) hS.2.2 dX15_isDigit_17
def ow_k_X15_isDigit : List Cond := .code yX15_isDigit cX15_isDigit 1 (some .boolean) :: ([] ++ [])
theorem gd_k_X15_isDigit : ∀ w ∈ ow_k_X15_isDigit, (w.onTables && w.keeps) = true ∨ ∃ ty, w = Cond.arrayClass ty := List.forall_mem_cons.mpr ⟨good_of_word rfl, List.forall_mem_append.mpr ⟨fun w h => good_of_word (List.all_eq_true.mp (by decide +kernel) w h), fun _ h => nomatch h⟩⟩
set_option maxHeartbeats 40000000 in
set_option maxRecDepth 100000 in
theorem k_X15_isDigit (l : Launch) (hlt : l.stackTraces = false) (dC : Nat → ClassId) (dI : Nat → Nat → Nat) (c0 : Int32) (sz : Nat) : Met l yX15_isDigit ow_k_X15_isDigit ({ frames := 0, cells := 0, slots := 0, locals := 0 }) (va_Pc [.int c0] (fun U => U.heap.size = sz ∧ va_P (dC, dI) vwCl [] U.heap ∧ va_K (dC, dI) vwCl [] U ∧ va_D (fun _ => True) [] ∧ nv_E (va_A [] sz) U)) (va_Qi (fun r _ => ((c0 < 48) ∧ r = 0) ∨ ((¬ c0 < 48) ∧ (57 < c0) ∧ r = 0) ∨ ((¬ c0 < 48) ∧ (¬ 57 < c0) ∧ r = 1) ∨ False) (fun (_ : Unit) t => va_P (dC, dI) vwCl [] t.heap ∧ va_K (dC, dI) vwCl [] t ∧ va_D (va_A [] sz) []) (va_A [] sz)) 0 0 (va_A [] sz) := by
  refine Met.ofW (cc := cX15_isDigit) (maxL := 1) (ret := (some .boolean)) (by decide) rfl ?_
  intro p e s m args below meth c s₁ B hml hv
  obtain ⟨rfl, hsz, hP, hK, hD0, hN⟩ := hv
  have hx := B.exec
  have hb := B.bytes
  have hr := B.returns
  have hts := atoms_spec (ws := ow_k_X15_isDigit) B.pre
  have hown : s.vm.findClass RX15 = some m.cls := findClass_of_methodNamed B.named
  have hlocks := B.notSynchronized
  subst hsz
  have hD := hD0.self (sz := s.heap.size)
  generalize hAe : va_A [] s.heap.size = A at hD hN ⊢
  have hA : ∀ q : Nat, s.heap.size ≤ q → A q := fun q h => by rw [← hAe]; exact Or.inr h
  have hS : va_S A s.heap s.heap [] := va_S.rf
  have hl := lv_entry ([.int c0]) (n := 1) (Nat.le_of_ble_eq_true rfl)
  rw [lg_entry_eq]
  generalize (lg_sl ([.int c0]) ++ List.replicate (1 - (lg_sl ([.int c0])).length) Slot.unset).toArray = ls at hl ⊢
  have hl : lv_has ls 1 [(0, .int c0)] := hl
  refine lv_iload_n hx hb dX15_isDigit_0 rfl (lv_at hl 0 rfl) ?_
  refine lv_bipush (v := 48) hx hb dX15_isDigit_1 (by decide) ?_
  refine lv_icmp_lt (tgt := 16) hx hb dX15_isDigit_3 (by decide) (fun c_1 => ?_) (fun c_1 => ?_)
  · refine lv_iconst (v := 0) hx hb dX15_isDigit_16 (by decide) ?_
    refine W.widen (k := 0) (n := 0) (by decide +kernel) (by decide +kernel) ?_
    exact W.zret (v := 0) hx hb hr (by first | rfl | decide) (fun t ht hW => ⟨⟨0, (), rfl, Or.inl ⟨c_1, rfl⟩, by rw [ht]; exact hP, va_K.moved hW.alike hK, hD⟩, hS.F ht⟩) hS.2.2 dX15_isDigit_17
  · refine lv_iload_n hx hb dX15_isDigit_6 rfl (lv_at hl 0 rfl) ?_
    refine lv_bipush (v := 57) hx hb dX15_isDigit_7 (by decide) ?_
    refine lv_icmp_gt (tgt := 16) hx hb dX15_isDigit_9 (by decide) (fun c_2 => ?_) (fun c_2 => ?_)
    · refine lv_iconst (v := 0) hx hb dX15_isDigit_16 (by decide) ?_
      refine W.widen (k := 0) (n := 0) (by decide +kernel) (by decide +kernel) ?_
      exact W.zret (v := 0) hx hb hr (by first | rfl | decide) (fun t ht hW => ⟨⟨0, (), rfl, Or.inr (Or.inl ⟨c_1, c_2, rfl⟩), by rw [ht]; exact hP, va_K.moved hW.alike hK, hD⟩, hS.F ht⟩) hS.2.2 dX15_isDigit_17
    · refine lv_iconst (v := 1) hx hb dX15_isDigit_12 (by decide) ?_
      refine lv_goto (tgt := 17) hx hb dX15_isDigit_13 (by decide) ?_
      refine W.widen (k := 0) (n := 0) (by decide +kernel) (by decide +kernel) ?_
      exact W.zret (v := 1) hx hb hr (by first | rfl | decide) (fun t ht hW => ⟨⟨1, (), rfl, Or.inr (Or.inr (Or.inl ⟨c_1, c_2, rfl⟩)), by rw [ht]; exact hP, va_K.moved hW.alike hK, hD⟩, hS.F ht⟩) hS.2.2 dX15_isDigit_17
def ow_g_X15_isPlain : List Cond := .code yX15_isPlain cX15_isPlain 1 (some .boolean) :: ([.methodLink RX15 69 yX15_isDigit, .static yX15_isDigit, .initialized RX15] ++ (ow_k_X15_isDigit ++ []))
theorem gd_g_X15_isPlain : ∀ w ∈ ow_g_X15_isPlain, (w.onTables && w.keeps) = true ∨ ∃ ty, w = Cond.arrayClass ty := List.forall_mem_cons.mpr ⟨good_of_word rfl, List.forall_mem_append.mpr ⟨fun w h => good_of_word (List.all_eq_true.mp (by decide +kernel) w h), List.forall_mem_append.mpr ⟨gd_k_X15_isDigit, fun _ h => nomatch h⟩⟩⟩
theorem gi_g_X15_isPlain_0 : GoodIn ow_g_X15_isPlain (wsS RX15 69 yX15_isDigit ow_k_X15_isDigit) := goodIn_app (goodIn_of _ (by decide +kernel)) (fun w h => ⟨List.mem_cons_of_mem _ (List.mem_append_right _ (List.mem_append_left _ h)), gd_k_X15_isDigit w h⟩)
