set_option maxHeartbeats 40000000 in
set_option maxRecDepth 100000 in
theorem g_X15_isPlain (l : Launch) (hlt : l.stackTraces = false) (dC : Nat → ClassId) (dI : Nat → Nat → Nat) (v0 : Int32) (sz : Nat) : Met l yX15_isPlain ow_g_X15_isPlain ({ frames := 1, cells := 0, slots := 0, locals := 20 }) (va_Pc [.int v0] (fun U => U.heap.size = sz ∧ va_P (dC, dI) vwCl [] U.heap ∧ va_K (dC, dI) vwCl [] U ∧ va_D (fun _ => True) [] ∧ nv_E (va_A [] sz) U)) (va_Qi (fun r _ => ((v0 < 48) ∧ (v0 < 97) ∧ (v0 < 65) ∧ r = 0) ∨ ((v0 < 48) ∧ (v0 < 97) ∧ (¬ v0 < 65) ∧ (90 < v0) ∧ r = 0) ∨ ((v0 < 48) ∧ (v0 < 97) ∧ (¬ v0 < 65) ∧ (¬ 90 < v0) ∧ r = 1) ∨ ((v0 < 48) ∧ (¬ v0 < 97) ∧ (v0 ≤ 122) ∧ r = 1) ∨ ((v0 < 48) ∧ (¬ v0 < 97) ∧ (¬ v0 ≤ 122) ∧ (v0 < 65) ∧ r = 0) ∨ ((v0 < 48) ∧ (¬ v0 < 97) ∧ (¬ v0 ≤ 122) ∧ (¬ v0 < 65) ∧ (90 < v0) ∧ r = 0) ∨ ((v0 < 48) ∧ (¬ v0 < 97) ∧ (¬ v0 ≤ 122) ∧ (¬ v0 < 65) ∧ (¬ 90 < v0) ∧ r = 1) ∨ ((¬ v0 < 48) ∧ (57 < v0) ∧ (v0 < 97) ∧ (v0 < 65) ∧ r = 0) ∨ ((¬ v0 < 48) ∧ (57 < v0) ∧ (v0 < 97) ∧ (¬ v0 < 65) ∧ (90 < v0) ∧ r = 0) ∨ ((¬ v0 < 48) ∧ (57 < v0) ∧ (v0 < 97) ∧ (¬ v0 < 65) ∧ (¬ 90 < v0) ∧ r = 1) ∨ ((¬ v0 < 48) ∧ (57 < v0) ∧ (¬ v0 < 97) ∧ (v0 ≤ 122) ∧ r = 1) ∨ ((¬ v0 < 48) ∧ (57 < v0) ∧ (¬ v0 < 97) ∧ (¬ v0 ≤ 122) ∧ (v0 < 65) ∧ r = 0) ∨ ((¬ v0 < 48) ∧ (57 < v0) ∧ (¬ v0 < 97) ∧ (¬ v0 ≤ 122) ∧ (¬ v0 < 65) ∧ (90 < v0) ∧ r = 0) ∨ ((¬ v0 < 48) ∧ (57 < v0) ∧ (¬ v0 < 97) ∧ (¬ v0 ≤ 122) ∧ (¬ v0 < 65) ∧ (¬ 90 < v0) ∧ r = 1) ∨ ((¬ v0 < 48) ∧ (¬ 57 < v0) ∧ r = 1) ∨ False) (fun (_ : Unit) t => va_P (dC, dI) vwCl [] t.heap ∧ va_K (dC, dI) vwCl [] t ∧ va_D (va_A [] sz) []) (va_A [] sz)) 0 0 (va_A [] sz) := by
  refine Met.ofW (cc := cX15_isPlain) (maxL := 1) (ret := (some .boolean)) (by decide) rfl ?_
  intro p e s m args below meth c s₁ B hml hv
  obtain ⟨rfl, hsz, hP, hK, hD0, hN⟩ := hv
  have hx := B.exec
  have hb := B.bytes
  have hr := B.returns
  have hts := atoms_spec (ws := ow_g_X15_isPlain) B.pre
  have hown : s.vm.findClass RX15 = some m.cls := findClass_of_methodNamed B.named
  have hlocks := B.notSynchronized
  subst hsz
  have hD := hD0.self (sz := s.heap.size)
  generalize hAe : va_A [] s.heap.size = A at hD hN ⊢
  have hA : ∀ q : Nat, s.heap.size ≤ q → A q := fun q h => by rw [← hAe]; exact Or.inr h
  have hS : va_S A s.heap s.heap [] := va_S.rf
  have hl := lv_entry ([.int v0]) (n := 1) (Nat.le_of_ble_eq_true rfl)
  rw [lg_entry_eq]
  generalize (lg_sl ([.int v0]) ++ List.replicate (1 - (lg_sl ([.int v0])).length) Slot.unset).toArray = ls at hl ⊢
  have hl : lv_has ls 1 [(0, .int v0)] := hl
  refine lv_iload_n hx hb dX15_isPlain_0 rfl (lv_at hl 0 rfl) ?_
  have hPc := hP.sub (ws' := []) [] rfl
  have hDc := hD.sub (ws' := []) [] (by decide) rfl
  have hKc := hK.sub (tys' := []) [] rfl
  have hFc := va_free (wc := []) hD hS hA [] rfl
  refine va_calli (va_runS (As := [.int v0]) (rest := []) ⟨hx, hb, hml, hown, hts⟩ (k_X15_isDigit l hlt dC dI v0  s.heap.size) (cwS 1 hts gi_g_X15_isPlain_0 rfl rfl rfl (by decide +kernel) ⟨Nat.le_of_ble_eq_true rfl, Nat.le_of_ble_eq_true rfl⟩) ⟨fun a U g mk q => by obtain ⟨q0, q1, qP, qK, qD, qN⟩ := q; exact ⟨q0, q1, qP, va_K.moved (u := U) (U := U.calling g mk a) (Vm.Alike.refl U.vm) qK, qD, nv_same rfl rfl qN⟩, fun U hU hW => ⟨rfl, by rw [hU], by rw [hU]; exact hPc, va_K.moved hW.alike hKc, hDc.weaken (fun _ _ _ _ => trivial), nv_call hS hFc hU hW hN⟩⟩ rfl rfl hl.1 rfl (lv_room (Nat.le_of_ble_eq_true rfl)) dX15_isPlain_1 ⟨by decide +kernel, by decide +kernel⟩) hS (fun q _ h => hFc q h) hFc (fun r1 u t H1 locs ht hvm hw hB hz1 hk1 hS => ?_)
  obtain ⟨hP1, hK1, hD1⟩ := hB
  rw [ht] at hP1
  have hK1 := va_K.moved hvm.symm hK1
  obtain ⟨hP, hD⟩ := va_join (wr := []) (w1 := []) hP hD [] [] rfl rfl (by decide) (by decide) hk1 hFc hP1 hD1
  have hK := (hK.sub (tys' := []) [] rfl).app hK1
  generalize H1 = H at hP hS ⊢
  have hP : va_P (dC, dI) vwCl [] H := hP
  have hD : va_D A [] := hD
  have hK : va_K (dC, dI) vwCl [] s := hK
  refine W.widen (k := 0) (n := 0) (by decide +kernel) (by decide +kernel) ?_
  rcases hw with ⟨c_1_0, h9⟩ | ⟨c_1_0, c_1_1, h9⟩ | ⟨c_1_0, c_1_1, h9⟩ | h9
  · subst h9
    refine lv_if_ne (tgt := 31) hx hb dX15_isPlain_4 (by decide) (fun h9 => absurd h9 (by decide)) (fun _ => ?_)
    refine lv_iload_n hx hb dX15_isPlain_7 rfl (lv_at hl 0 rfl) ?_
    refine lv_bipush (v := 97) hx hb dX15_isPlain_8 (by decide) ?_
    refine lv_icmp_lt (tgt := 19) hx hb dX15_isPlain_10 (by decide) (fun c_2 => ?_) (fun c_2 => ?_)
    · refine lv_iload_n hx hb dX15_isPlain_19 rfl (lv_at hl 0 rfl) ?_
      refine lv_bipush (v := 65) hx hb dX15_isPlain_20 (by decide) ?_
      refine lv_icmp_lt (tgt := 35) hx hb dX15_isPlain_22 (by decide) (fun c_3 => ?_) (fun c_3 => ?_)
      · refine lv_iconst (v := 0) hx hb dX15_isPlain_35 (by decide) ?_
        refine W.widen (k := 0) (n := 0) (by decide +kernel) (by decide +kernel) ?_
        exact W.zret (v := 0) hx hb hr (by first | rfl | decide) (fun t ht hW => ⟨⟨0, (), rfl, Or.inl ⟨c_1_0, c_2, c_3, rfl⟩, by rw [ht]; exact hP, va_K.moved hW.alike hK, hD⟩, hS.F ht⟩) hS.2.2 dX15_isPlain_36
      · refine lv_iload_n hx hb dX15_isPlain_25 rfl (lv_at hl 0 rfl) ?_
        refine lv_bipush (v := 90) hx hb dX15_isPlain_26 (by decide) ?_
        refine lv_icmp_gt (tgt := 35) hx hb dX15_isPlain_28 (by decide) (fun c_4 => ?_) (fun c_4 => ?_)
        · refine lv_iconst (v := 0) hx hb dX15_isPlain_35 (by decide) ?_
          refine W.widen (k := 0) (n := 0) (by decide +kernel) (by decide +kernel) ?_
          exact W.zret (v := 0) hx hb hr (by first | rfl | decide) (fun t ht hW => ⟨⟨0, (), rfl, Or.inr (Or.inl ⟨c_1_0, c_2, c_3, c_4, rfl⟩), by rw [ht]; exact hP, va_K.moved hW.alike hK, hD⟩, hS.F ht⟩) hS.2.2 dX15_isPlain_36
        · refine lv_iconst (v := 1) hx hb dX15_isPlain_31 (by decide) ?_
          refine lv_goto (tgt := 36) hx hb dX15_isPlain_32 (by decide) ?_
          refine W.widen (k := 0) (n := 0) (by decide +kernel) (by decide +kernel) ?_
          exact W.zret (v := 1) hx hb hr (by first | rfl | decide) (fun t ht hW => ⟨⟨1, (), rfl, Or.inr (Or.inr (Or.inl ⟨c_1_0, c_2, c_3, c_4, rfl⟩)), by rw [ht]; exact hP, va_K.moved hW.alike hK, hD⟩, hS.F ht⟩) hS.2.2 dX15_isPlain_36
    · refine lv_iload_n hx hb dX15_isPlain_13 rfl (lv_at hl 0 rfl) ?_
      refine lv_bipush (v := 122) hx hb dX15_isPlain_14 (by decide) ?_
      refine lv_icmp_le (tgt := 31) hx hb dX15_isPlain_16 (by decide) (fun c_5 => ?_) (fun c_5 => ?_)
      · refine lv_iconst (v := 1) hx hb dX15_isPlain_31 (by decide) ?_
        refine lv_goto (tgt := 36) hx hb dX15_isPlain_32 (by decide) ?_
        refine W.widen (k := 0) (n := 0) (by decide +kernel) (by decide +kernel) ?_
        exact W.zret (v := 1) hx hb hr (by first | rfl | decide) (fun t ht hW => ⟨⟨1, (), rfl, Or.inr (Or.inr (Or.inr (Or.inl ⟨c_1_0, c_2, c_5, rfl⟩))), by rw [ht]; exact hP, va_K.moved hW.alike hK, hD⟩, hS.F ht⟩) hS.2.2 dX15_isPlain_36
      · refine lv_iload_n hx hb dX15_isPlain_19 rfl (lv_at hl 0 rfl) ?_
        refine lv_bipush (v := 65) hx hb dX15_isPlain_20 (by decide) ?_
        refine lv_icmp_lt (tgt := 35) hx hb dX15_isPlain_22 (by decide) (fun c_6 => ?_) (fun c_6 => ?_)
        · refine lv_iconst (v := 0) hx hb dX15_isPlain_35 (by decide) ?_
          refine W.widen (k := 0) (n := 0) (by decide +kernel) (by decide +kernel) ?_
          exact W.zret (v := 0) hx hb hr (by first | rfl | decide) (fun t ht hW => ⟨⟨0, (), rfl, Or.inr (Or.inr (Or.inr (Or.inr (Or.inl ⟨c_1_0, c_2, c_5, c_6, rfl⟩)))), by rw [ht]; exact hP, va_K.moved hW.alike hK, hD⟩, hS.F ht⟩) hS.2.2 dX15_isPlain_36
        · refine lv_iload_n hx hb dX15_isPlain_25 rfl (lv_at hl 0 rfl) ?_
          refine lv_bipush (v := 90) hx hb dX15_isPlain_26 (by decide) ?_
          refine lv_icmp_gt (tgt := 35) hx hb dX15_isPlain_28 (by decide) (fun c_7 => ?_) (fun c_7 => ?_)
          · refine lv_iconst (v := 0) hx hb dX15_isPlain_35 (by decide) ?_
            refine W.widen (k := 0) (n := 0) (by decide +kernel) (by decide +kernel) ?_
            exact W.zret (v := 0) hx hb hr (by first | rfl | decide) (fun t ht hW => ⟨⟨0, (), rfl, Or.inr (Or.inr (Or.inr (Or.inr (Or.inr (Or.inl ⟨c_1_0, c_2, c_5, c_6, c_7, rfl⟩))))), by rw [ht]; exact hP, va_K.moved hW.alike hK, hD⟩, hS.F ht⟩) hS.2.2 dX15_isPlain_36
          · refine lv_iconst (v := 1) hx hb dX15_isPlain_31 (by decide) ?_
            refine lv_goto (tgt := 36) hx hb dX15_isPlain_32 (by decide) ?_
            refine W.widen (k := 0) (n := 0) (by decide +kernel) (by decide +kernel) ?_
            exact W.zret (v := 1) hx hb hr (by first | rfl | decide) (fun t ht hW => ⟨⟨1, (), rfl, Or.inr (Or.inr (Or.inr (Or.inr (Or.inr (Or.inr (Or.inl ⟨c_1_0, c_2, c_5, c_6, c_7, rfl⟩)))))), by rw [ht]; exact hP, va_K.moved hW.alike hK, hD⟩, hS.F ht⟩) hS.2.2 dX15_isPlain_36
  · subst h9
    refine lv_if_ne (tgt := 31) hx hb dX15_isPlain_4 (by decide) (fun h9 => absurd h9 (by decide)) (fun _ => ?_)
    refine lv_iload_n hx hb dX15_isPlain_7 rfl (lv_at hl 0 rfl) ?_
    refine lv_bipush (v := 97) hx hb dX15_isPlain_8 (by decide) ?_
    refine lv_icmp_lt (tgt := 19) hx hb dX15_isPlain_10 (by decide) (fun c_8 => ?_) (fun c_8 => ?_)
    · refine lv_iload_n hx hb dX15_isPlain_19 rfl (lv_at hl 0 rfl) ?_
      refine lv_bipush (v := 65) hx hb dX15_isPlain_20 (by decide) ?_
      refine lv_icmp_lt (tgt := 35) hx hb dX15_isPlain_22 (by decide) (fun c_9 => ?_) (fun c_9 => ?_)
      · refine lv_iconst (v := 0) hx hb dX15_isPlain_35 (by decide) ?_
        refine W.widen (k := 0) (n := 0) (by decide +kernel) (by decide +kernel) ?_
        exact W.zret (v := 0) hx hb hr (by first | rfl | decide) (fun t ht hW => ⟨⟨0, (), rfl, Or.inr (Or.inr (Or.inr (Or.inr (Or.inr (Or.inr (Or.inr (Or.inl ⟨c_1_0, c_1_1, c_8, c_9, rfl⟩))))))), by rw [ht]; exact hP, va_K.moved hW.alike hK, hD⟩, hS.F ht⟩) hS.2.2 dX15_isPlain_36
      · refine lv_iload_n hx hb dX15_isPlain_25 rfl (lv_at hl 0 rfl) ?_
        refine lv_bipush (v := 90) hx hb dX15_isPlain_26 (by decide) ?_
        refine lv_icmp_gt (tgt := 35) hx hb dX15_isPlain_28 (by decide) (fun c_10 => ?_) (fun c_10 => ?_)
        · refine lv_iconst (v := 0) hx hb dX15_isPlain_35 (by decide) ?_
          refine W.widen (k := 0) (n := 0) (by decide +kernel) (by decide +kernel) ?_
          exact W.zret (v := 0) hx hb hr (by first | rfl | decide) (fun t ht hW => ⟨⟨0, (), rfl, Or.inr (Or.inr (Or.inr (Or.inr (Or.inr (Or.inr (Or.inr (Or.inr (Or.inl ⟨c_1_0, c_1_1, c_8, c_9, c_10, rfl⟩)))))))), by rw [ht]; exact hP, va_K.moved hW.alike hK, hD⟩, hS.F ht⟩) hS.2.2 dX15_isPlain_36
        · refine lv_iconst (v := 1) hx hb dX15_isPlain_31 (by decide) ?_
          refine lv_goto (tgt := 36) hx hb dX15_isPlain_32 (by decide) ?_
          refine W.widen (k := 0) (n := 0) (by decide +kernel) (by decide +kernel) ?_
          exact W.zret (v := 1) hx hb hr (by first | rfl | decide) (fun t ht hW => ⟨⟨1, (), rfl, Or.inr (Or.inr (Or.inr (Or.inr (Or.inr (Or.inr (Or.inr (Or.inr (Or.inr (Or.inl ⟨c_1_0, c_1_1, c_8, c_9, c_10, rfl⟩))))))))), by rw [ht]; exact hP, va_K.moved hW.alike hK, hD⟩, hS.F ht⟩) hS.2.2 dX15_isPlain_36
    · refine lv_iload_n hx hb dX15_isPlain_13 rfl (lv_at hl 0 rfl) ?_
      refine lv_bipush (v := 122) hx hb dX15_isPlain_14 (by decide) ?_
      refine lv_icmp_le (tgt := 31) hx hb dX15_isPlain_16 (by decide) (fun c_11 => ?_) (fun c_11 => ?_)
      · refine lv_iconst (v := 1) hx hb dX15_isPlain_31 (by decide) ?_
        refine lv_goto (tgt := 36) hx hb dX15_isPlain_32 (by decide) ?_
        refine W.widen (k := 0) (n := 0) (by decide +kernel) (by decide +kernel) ?_
        exact W.zret (v := 1) hx hb hr (by first | rfl | decide) (fun t ht hW => ⟨⟨1, (), rfl, Or.inr (Or.inr (Or.inr (Or.inr (Or.inr (Or.inr (Or.inr (Or.inr (Or.inr (Or.inr (Or.inl ⟨c_1_0, c_1_1, c_8, c_11, rfl⟩)))))))))), by rw [ht]; exact hP, va_K.moved hW.alike hK, hD⟩, hS.F ht⟩) hS.2.2 dX15_isPlain_36
      · refine lv_iload_n hx hb dX15_isPlain_19 rfl (lv_at hl 0 rfl) ?_
        refine lv_bipush (v := 65) hx hb dX15_isPlain_20 (by decide) ?_
        refine lv_icmp_lt (tgt := 35) hx hb dX15_isPlain_22 (by decide) (fun c_12 => ?_) (fun c_12 => ?_)
        · refine lv_iconst (v := 0) hx hb dX15_isPlain_35 (by decide) ?_
          refine W.widen (k := 0) (n := 0) (by decide +kernel) (by decide +kernel) ?_
          exact W.zret (v := 0) hx hb hr (by first | rfl | decide) (fun t ht hW => ⟨⟨0, (), rfl, Or.inr (Or.inr (Or.inr (Or.inr (Or.inr (Or.inr (Or.inr (Or.inr (Or.inr (Or.inr (Or.inr (Or.inl ⟨c_1_0, c_1_1, c_8, c_11, c_12, rfl⟩))))))))))), by rw [ht]; exact hP, va_K.moved hW.alike hK, hD⟩, hS.F ht⟩) hS.2.2 dX15_isPlain_36
        · refine lv_iload_n hx hb dX15_isPlain_25 rfl (lv_at hl 0 rfl) ?_
          refine lv_bipush (v := 90) hx hb dX15_isPlain_26 (by decide) ?_
          refine lv_icmp_gt (tgt := 35) hx hb dX15_isPlain_28 (by decide) (fun c_13 => ?_) (fun c_13 => ?_)
          · refine lv_iconst (v := 0) hx hb dX15_isPlain_35 (by decide) ?_
            refine W.widen (k := 0) (n := 0) (by decide +kernel) (by decide +kernel) ?_
            exact W.zret (v := 0) hx hb hr (by first | rfl | decide) (fun t ht hW => ⟨⟨0, (), rfl, Or.inr (Or.inr (Or.inr (Or.inr (Or.inr (Or.inr (Or.inr (Or.inr (Or.inr (Or.inr (Or.inr (Or.inr (Or.inl ⟨c_1_0, c_1_1, c_8, c_11, c_12, c_13, rfl⟩)))))))))))), by rw [ht]; exact hP, va_K.moved hW.alike hK, hD⟩, hS.F ht⟩) hS.2.2 dX15_isPlain_36
          · refine lv_iconst (v := 1) hx hb dX15_isPlain_31 (by decide) ?_
            refine lv_goto (tgt := 36) hx hb dX15_isPlain_32 (by decide) ?_
            refine W.widen (k := 0) (n := 0) (by decide +kernel) (by decide +kernel) ?_
            exact W.zret (v := 1) hx hb hr (by first | rfl | decide) (fun t ht hW => ⟨⟨1, (), rfl, Or.inr (Or.inr (Or.inr (Or.inr (Or.inr (Or.inr (Or.inr (Or.inr (Or.inr (Or.inr (Or.inr (Or.inr (Or.inr (Or.inl ⟨c_1_0, c_1_1, c_8, c_11, c_12, c_13, rfl⟩))))))))))))), by rw [ht]; exact hP, va_K.moved hW.alike hK, hD⟩, hS.F ht⟩) hS.2.2 dX15_isPlain_36
  · subst h9
    refine lv_if_ne (tgt := 31) hx hb dX15_isPlain_4 (by decide) (fun _ => ?_) (fun h9 => absurd h9 (by decide))
    refine lv_iconst (v := 1) hx hb dX15_isPlain_31 (by decide) ?_
    refine lv_goto (tgt := 36) hx hb dX15_isPlain_32 (by decide) ?_
    refine W.widen (k := 0) (n := 0) (by decide +kernel) (by decide +kernel) ?_
    exact W.zret (v := 1) hx hb hr (by first | rfl | decide) (fun t ht hW => ⟨⟨1, (), rfl, Or.inr (Or.inr (Or.inr (Or.inr (Or.inr (Or.inr (Or.inr (Or.inr (Or.inr (Or.inr (Or.inr (Or.inr (Or.inr (Or.inr (Or.inl ⟨c_1_0, c_1_1, rfl⟩)))))))))))))), by rw [ht]; exact hP, va_K.moved hW.alike hK, hD⟩, hS.F ht⟩) hS.2.2 dX15_isPlain_36
  · exact h9.elim
def ow_g_X15_begins : List Cond := .code yX15_begins cX15_begins 1 (some .boolean) :: ([] ++ [])
theorem gd_g_X15_begins : ∀ w ∈ ow_g_X15_begins, (w.onTables && w.keeps) = true ∨ ∃ ty, w = Cond.arrayClass ty := List.forall_mem_cons.mpr ⟨good_of_word rfl, List.forall_mem_append.mpr ⟨fun w h => good_of_word (List.all_eq_true.mp (by decide +kernel) w h), fun _ h => nomatch h⟩⟩
set_option maxHeartbeats 40000000 in
set_option maxRecDepth 100000 in
theorem g_X15_begins (l : Launch) (hlt : l.stackTraces = false) (dC : Nat → ClassId) (dI : Nat → Nat → Nat) (v0 : Int32) (sz : Nat) : Met l yX15_begins ow_g_X15_begins ({ frames := 0, cells := 0, slots := 0, locals := 0 }) (va_Pc [.int v0] (fun U => U.heap.size = sz ∧ va_P (dC, dI) vwCl [] U.heap ∧ va_K (dC, dI) vwCl [] U ∧ va_D (fun _ => True) [] ∧ nv_E (va_A [] sz) U)) (va_Qi (fun r _ => ((v0 < 10) ∧ r = 1) ∨ ((¬ v0 < 10) ∧ (v0 = 24) ∧ r = 1) ∨ ((¬ v0 < 10) ∧ (¬ v0 = 24) ∧ (v0 = 28) ∧ r = 1) ∨ ((¬ v0 < 10) ∧ (¬ v0 = 24) ∧ (¬ v0 = 28) ∧ (v0 = 29) ∧ r = 1) ∨ ((¬ v0 < 10) ∧ (¬ v0 = 24) ∧ (¬ v0 = 28) ∧ (¬ v0 = 29) ∧ (v0 = 30) ∧ r = 1) ∨ ((¬ v0 < 10) ∧ (¬ v0 = 24) ∧ (¬ v0 = 28) ∧ (¬ v0 = 29) ∧ (¬ v0 = 30) ∧ (¬ v0 = 32) ∧ r = 0) ∨ ((¬ v0 < 10) ∧ (¬ v0 = 24) ∧ (¬ v0 = 28) ∧ (¬ v0 = 29) ∧ (¬ v0 = 30) ∧ (v0 = 32) ∧ r = 1) ∨ False) (fun (_ : Unit) t => va_P (dC, dI) vwCl [] t.heap ∧ va_K (dC, dI) vwCl [] t ∧ va_D (va_A [] sz) []) (va_A [] sz)) 0 0 (va_A [] sz) := by
  refine Met.ofW (cc := cX15_begins) (maxL := 1) (ret := (some .boolean)) (by decide) rfl ?_
  intro p e s m args below meth c s₁ B hml hv
  obtain ⟨rfl, hsz, hP, hK, hD0, hN⟩ := hv
  have hx := B.exec
  have hb := B.bytes
  have hr := B.returns
  have hts := atoms_spec (ws := ow_g_X15_begins) B.pre
  have hown : s.vm.findClass RX15 = some m.cls := findClass_of_methodNamed B.named
  have hlocks := B.notSynchronized
  subst hsz
  have hD := hD0.self (sz := s.heap.size)
  generalize hAe : va_A [] s.heap.size = A at hD hN ⊢
  have hA : ∀ q : Nat, s.heap.size ≤ q → A q := fun q h => by rw [← hAe]; exact Or.inr h
  have hS : va_S A s.heap s.heap [] := va_S.rf
  have hl := lv_entry ([.int v0]) (n := 1) (Nat.le_of_ble_eq_true rfl)
  rw [lg_entry_eq]
  generalize (lg_sl ([.int v0]) ++ List.replicate (1 - (lg_sl ([.int v0])).length) Slot.unset).toArray = ls at hl ⊢
  have hl : lv_has ls 1 [(0, .int v0)] := hl
  refine lv_iload_n hx hb dX15_begins_0 rfl (lv_at hl 0 rfl) ?_
  refine lv_bipush (v := 10) hx hb dX15_begins_1 (by decide) ?_
  refine lv_icmp_lt (tgt := 36) hx hb dX15_begins_3 (by decide) (fun c_1 => ?_) (fun c_1 => ?_)
  · refine lv_iconst (v := 1) hx hb dX15_begins_36 (by decide) ?_
    refine lv_goto (tgt := 41) hx hb dX15_begins_37 (by decide) ?_
    refine W.widen (k := 0) (n := 0) (by decide +kernel) (by decide +kernel) ?_
    exact W.zret (v := 1) hx hb hr (by first | rfl | decide) (fun t ht hW => ⟨⟨1, (), rfl, Or.inl ⟨c_1, rfl⟩, by rw [ht]; exact hP, va_K.moved hW.alike hK, hD⟩, hS.F ht⟩) hS.2.2 dX15_begins_41
  · refine lv_iload_n hx hb dX15_begins_6 rfl (lv_at hl 0 rfl) ?_
    refine lv_bipush (v := 24) hx hb dX15_begins_7 (by decide) ?_
    refine lv_icmp_eq (tgt := 36) hx hb dX15_begins_9 (by decide) (fun c_2 => ?_) (fun c_2 => ?_)
    · refine lv_iconst (v := 1) hx hb dX15_begins_36 (by decide) ?_
      refine lv_goto (tgt := 41) hx hb dX15_begins_37 (by decide) ?_
      refine W.widen (k := 0) (n := 0) (by decide +kernel) (by decide +kernel) ?_
      exact W.zret (v := 1) hx hb hr (by first | rfl | decide) (fun t ht hW => ⟨⟨1, (), rfl, Or.inr (Or.inl ⟨c_1, c_2, rfl⟩), by rw [ht]; exact hP, va_K.moved hW.alike hK, hD⟩, hS.F ht⟩) hS.2.2 dX15_begins_41
    · refine lv_iload_n hx hb dX15_begins_12 rfl (lv_at hl 0 rfl) ?_
      refine lv_bipush (v := 28) hx hb dX15_begins_13 (by decide) ?_
      refine lv_icmp_eq (tgt := 36) hx hb dX15_begins_15 (by decide) (fun c_3 => ?_) (fun c_3 => ?_)
      · refine lv_iconst (v := 1) hx hb dX15_begins_36 (by decide) ?_
        refine lv_goto (tgt := 41) hx hb dX15_begins_37 (by decide) ?_
        refine W.widen (k := 0) (n := 0) (by decide +kernel) (by decide +kernel) ?_
        exact W.zret (v := 1) hx hb hr (by first | rfl | decide) (fun t ht hW => ⟨⟨1, (), rfl, Or.inr (Or.inr (Or.inl ⟨c_1, c_2, c_3, rfl⟩)), by rw [ht]; exact hP, va_K.moved hW.alike hK, hD⟩, hS.F ht⟩) hS.2.2 dX15_begins_41
      · refine lv_iload_n hx hb dX15_begins_18 rfl (lv_at hl 0 rfl) ?_
        refine lv_bipush (v := 29) hx hb dX15_begins_19 (by decide) ?_
        refine lv_icmp_eq (tgt := 36) hx hb dX15_begins_21 (by decide) (fun c_4 => ?_) (fun c_4 => ?_)
        · refine lv_iconst (v := 1) hx hb dX15_begins_36 (by decide) ?_
          refine lv_goto (tgt := 41) hx hb dX15_begins_37 (by decide) ?_
          refine W.widen (k := 0) (n := 0) (by decide +kernel) (by decide +kernel) ?_
          exact W.zret (v := 1) hx hb hr (by first | rfl | decide) (fun t ht hW => ⟨⟨1, (), rfl, Or.inr (Or.inr (Or.inr (Or.inl ⟨c_1, c_2, c_3, c_4, rfl⟩))), by rw [ht]; exact hP, va_K.moved hW.alike hK, hD⟩, hS.F ht⟩) hS.2.2 dX15_begins_41
        · refine lv_iload_n hx hb dX15_begins_24 rfl (lv_at hl 0 rfl) ?_
          refine lv_bipush (v := 30) hx hb dX15_begins_25 (by decide) ?_
          refine lv_icmp_eq (tgt := 36) hx hb dX15_begins_27 (by decide) (fun c_5 => ?_) (fun c_5 => ?_)
          · refine lv_iconst (v := 1) hx hb dX15_begins_36 (by decide) ?_
            refine lv_goto (tgt := 41) hx hb dX15_begins_37 (by decide) ?_
            refine W.widen (k := 0) (n := 0) (by decide +kernel) (by decide +kernel) ?_
            exact W.zret (v := 1) hx hb hr (by first | rfl | decide) (fun t ht hW => ⟨⟨1, (), rfl, Or.inr (Or.inr (Or.inr (Or.inr (Or.inl ⟨c_1, c_2, c_3, c_4, c_5, rfl⟩)))), by rw [ht]; exact hP, va_K.moved hW.alike hK, hD⟩, hS.F ht⟩) hS.2.2 dX15_begins_41
          · refine lv_iload_n hx hb dX15_begins_30 rfl (lv_at hl 0 rfl) ?_
            refine lv_bipush (v := 32) hx hb dX15_begins_31 (by decide) ?_
            refine lv_icmp_ne (tgt := 40) hx hb dX15_begins_33 (by decide) (fun c_6 => ?_) (fun c_6 => ?_)
            · refine lv_iconst (v := 0) hx hb dX15_begins_40 (by decide) ?_
              refine W.widen (k := 0) (n := 0) (by decide +kernel) (by decide +kernel) ?_
              exact W.zret (v := 0) hx hb hr (by first | rfl | decide) (fun t ht hW => ⟨⟨0, (), rfl, Or.inr (Or.inr (Or.inr (Or.inr (Or.inr (Or.inl ⟨c_1, c_2, c_3, c_4, c_5, c_6, rfl⟩))))), by rw [ht]; exact hP, va_K.moved hW.alike hK, hD⟩, hS.F ht⟩) hS.2.2 dX15_begins_41
            · refine lv_iconst (v := 1) hx hb dX15_begins_36 (by decide) ?_
              refine lv_goto (tgt := 41) hx hb dX15_begins_37 (by decide) ?_
              refine W.widen (k := 0) (n := 0) (by decide +kernel) (by decide +kernel) ?_
              exact W.zret (v := 1) hx hb hr (by first | rfl | decide) (fun t ht hW => ⟨⟨1, (), rfl, Or.inr (Or.inr (Or.inr (Or.inr (Or.inr (Or.inr (Or.inl ⟨c_1, c_2, c_3, c_4, c_5, c_6, rfl⟩)))))), by rw [ht]; exact hP, va_K.moved hW.alike hK, hD⟩, hS.F ht⟩) hS.2.2 dX15_begins_41
def ow_g_X15_isBetween : List Cond := .code yX15_isBetween cX15_isBetween 1 (some .boolean) :: ([] ++ [])
theorem gd_g_X15_isBetween : ∀ w ∈ ow_g_X15_isBetween, (w.onTables && w.keeps) = true ∨ ∃ ty, w = Cond.arrayClass ty := List.forall_mem_cons.mpr ⟨good_of_word rfl, List.forall_mem_append.mpr ⟨fun w h => good_of_word (List.all_eq_true.mp (by decide +kernel) w h), fun _ h => nomatch h⟩⟩
set_option maxHeartbeats 40000000 in
set_option maxRecDepth 100000 in
theorem g_X15_isBetween (l : Launch) (hlt : l.stackTraces = false) (dC : Nat → ClassId) (dI : Nat → Nat → Nat) (v0 : Int32) (sz : Nat) : Met l yX15_isBetween ow_g_X15_isBetween ({ frames := 0, cells := 0, slots := 0, locals := 0 }) (va_Pc [.int v0] (fun U => U.heap.size = sz ∧ va_P (dC, dI) vwCl [] U.heap ∧ va_K (dC, dI) vwCl [] U ∧ va_D (fun _ => True) [] ∧ nv_E (va_A [] sz) U)) (va_Qi (fun r _ => ((v0 < 10) ∧ r = 0) ∨ ((¬ v0 < 10) ∧ (27 < v0) ∧ r = 0) ∨ ((¬ v0 < 10) ∧ (¬ 27 < v0) ∧ r = 1) ∨ False) (fun (_ : Unit) t => va_P (dC, dI) vwCl [] t.heap ∧ va_K (dC, dI) vwCl [] t ∧ va_D (va_A [] sz) []) (va_A [] sz)) 0 0 (va_A [] sz) := by
  refine Met.ofW (cc := cX15_isBetween) (maxL := 1) (ret := (some .boolean)) (by decide) rfl ?_
  intro p e s m args below meth c s₁ B hml hv
  obtain ⟨rfl, hsz, hP, hK, hD0, hN⟩ := hv
  have hx := B.exec
  have hb := B.bytes
  have hr := B.returns
  have hts := atoms_spec (ws := ow_g_X15_isBetween) B.pre
  have hown : s.vm.findClass RX15 = some m.cls := findClass_of_methodNamed B.named
  have hlocks := B.notSynchronized
  subst hsz
  have hD := hD0.self (sz := s.heap.size)
  generalize hAe : va_A [] s.heap.size = A at hD hN ⊢
  have hA : ∀ q : Nat, s.heap.size ≤ q → A q := fun q h => by rw [← hAe]; exact Or.inr h
  have hS : va_S A s.heap s.heap [] := va_S.rf
  have hl := lv_entry ([.int v0]) (n := 1) (Nat.le_of_ble_eq_true rfl)
  rw [lg_entry_eq]
  generalize (lg_sl ([.int v0]) ++ List.replicate (1 - (lg_sl ([.int v0])).length) Slot.unset).toArray = ls at hl ⊢
  have hl : lv_has ls 1 [(0, .int v0)] := hl
  refine lv_iload_n hx hb dX15_isBetween_0 rfl (lv_at hl 0 rfl) ?_
  refine lv_bipush (v := 10) hx hb dX15_isBetween_1 (by decide) ?_
  refine lv_icmp_lt (tgt := 16) hx hb dX15_isBetween_3 (by decide) (fun c_1 => ?_) (fun c_1 => ?_)
  · refine lv_iconst (v := 0) hx hb dX15_isBetween_16 (by decide) ?_
    refine W.widen (k := 0) (n := 0) (by decide +kernel) (by decide +kernel) ?_
    exact W.zret (v := 0) hx hb hr (by first | rfl | decide) (fun t ht hW => ⟨⟨0, (), rfl, Or.inl ⟨c_1, rfl⟩, by rw [ht]; exact hP, va_K.moved hW.alike hK, hD⟩, hS.F ht⟩) hS.2.2 dX15_isBetween_17
  · refine lv_iload_n hx hb dX15_isBetween_6 rfl (lv_at hl 0 rfl) ?_
    refine lv_bipush (v := 27) hx hb dX15_isBetween_7 (by decide) ?_
    refine lv_icmp_gt (tgt := 16) hx hb dX15_isBetween_9 (by decide) (fun c_2 => ?_) (fun c_2 => ?_)
    · refine lv_iconst (v := 0) hx hb dX15_isBetween_16 (by decide) ?_
      refine W.widen (k := 0) (n := 0) (by decide +kernel) (by decide +kernel) ?_
      exact W.zret (v := 0) hx hb hr (by first | rfl | decide) (fun t ht hW => ⟨⟨0, (), rfl, Or.inr (Or.inl ⟨c_1, c_2, rfl⟩), by rw [ht]; exact hP, va_K.moved hW.alike hK, hD⟩, hS.F ht⟩) hS.2.2 dX15_isBetween_17
    · refine lv_iconst (v := 1) hx hb dX15_isBetween_12 (by decide) ?_
      refine lv_goto (tgt := 17) hx hb dX15_isBetween_13 (by decide) ?_
      refine W.widen (k := 0) (n := 0) (by decide +kernel) (by decide +kernel) ?_
      exact W.zret (v := 1) hx hb hr (by first | rfl | decide) (fun t ht hW => ⟨⟨1, (), rfl, Or.inr (Or.inr (Or.inl ⟨c_1, c_2, rfl⟩)), by rw [ht]; exact hP, va_K.moved hW.alike hK, hD⟩, hS.F ht⟩) hS.2.2 dX15_isBetween_17
def ow_g_X15_rank : List Cond := .code yX15_rank cX15_rank 1 (some .int) :: ([] ++ [])
theorem gd_g_X15_rank : ∀ w ∈ ow_g_X15_rank, (w.onTables && w.keeps) = true ∨ ∃ ty, w = Cond.arrayClass ty := List.forall_mem_cons.mpr ⟨good_of_word rfl, List.forall_mem_append.mpr ⟨fun w h => good_of_word (List.all_eq_true.mp (by decide +kernel) w h), fun _ h => nomatch h⟩⟩
set_option maxHeartbeats 40000000 in
set_option maxRecDepth 100000 in
theorem g_X15_rank (l : Launch) (hlt : l.stackTraces = false) (dC : Nat → ClassId) (dI : Nat → Nat → Nat) (v0 : Int32) (sz : Nat) : Met l yX15_rank ow_g_X15_rank ({ frames := 0, cells := 0, slots := 0, locals := 0 }) (va_Pc [.int v0] (fun U => U.heap.size = sz ∧ va_P (dC, dI) vwCl [] U.heap ∧ va_K (dC, dI) vwCl [] U ∧ va_D (fun _ => True) [] ∧ nv_E (va_A [] sz) U)) (va_Qi (fun r _ => ((¬ v0 = 10) ∧ (¬ v0 = 11) ∧ (18 ≤ v0) ∧ (¬ v0 = 18) ∧ (¬ v0 = 19) ∧ (¬ v0 = 20) ∧ (23 ≤ v0) ∧ (25 ≤ v0) ∧ r = 8) ∨ ((¬ v0 = 10) ∧ (¬ v0 = 11) ∧ (18 ≤ v0) ∧ (¬ v0 = 18) ∧ (¬ v0 = 19) ∧ (¬ v0 = 20) ∧ (23 ≤ v0) ∧ (¬ 25 ≤ v0) ∧ r = 7) ∨ ((¬ v0 = 10) ∧ (¬ v0 = 11) ∧ (18 ≤ v0) ∧ (¬ v0 = 18) ∧ (¬ v0 = 19) ∧ (¬ v0 = 20) ∧ (¬ 23 ≤ v0) ∧ r = 6) ∨ ((¬ v0 = 10) ∧ (¬ v0 = 11) ∧ (18 ≤ v0) ∧ (¬ v0 = 18) ∧ (¬ v0 = 19) ∧ (v0 = 20) ∧ r = 5) ∨ ((¬ v0 = 10) ∧ (¬ v0 = 11) ∧ (18 ≤ v0) ∧ (¬ v0 = 18) ∧ (v0 = 19) ∧ r = 4) ∨ ((¬ v0 = 10) ∧ (¬ v0 = 11) ∧ (18 ≤ v0) ∧ (v0 = 18) ∧ r = 3) ∨ ((¬ v0 = 10) ∧ (¬ v0 = 11) ∧ (¬ 18 ≤ v0) ∧ r = 2) ∨ ((¬ v0 = 10) ∧ (v0 = 11) ∧ r = 1) ∨ ((v0 = 10) ∧ r = 0) ∨ False) (fun (_ : Unit) t => va_P (dC, dI) vwCl [] t.heap ∧ va_K (dC, dI) vwCl [] t ∧ va_D (va_A [] sz) []) (va_A [] sz)) 0 0 (va_A [] sz) := by
  refine Met.ofW (cc := cX15_rank) (maxL := 1) (ret := (some .int)) (by decide) rfl ?_
  intro p e s m args below meth c s₁ B hml hv
  obtain ⟨rfl, hsz, hP, hK, hD0, hN⟩ := hv
  have hx := B.exec
  have hb := B.bytes
  have hr := B.returns
  have hts := atoms_spec (ws := ow_g_X15_rank) B.pre
  have hown : s.vm.findClass RX15 = some m.cls := findClass_of_methodNamed B.named
  have hlocks := B.notSynchronized
  subst hsz
  have hD := hD0.self (sz := s.heap.size)
  generalize hAe : va_A [] s.heap.size = A at hD hN ⊢
  have hA : ∀ q : Nat, s.heap.size ≤ q → A q := fun q h => by rw [← hAe]; exact Or.inr h
  have hS : va_S A s.heap s.heap [] := va_S.rf
  have hl := lv_entry ([.int v0]) (n := 1) (Nat.le_of_ble_eq_true rfl)
  rw [lg_entry_eq]
  generalize (lg_sl ([.int v0]) ++ List.replicate (1 - (lg_sl ([.int v0])).length) Slot.unset).toArray = ls at hl ⊢
  have hl : lv_has ls 1 [(0, .int v0)] := hl
  refine lv_iload_n hx hb dX15_rank_0 rfl (lv_at hl 0 rfl) ?_
  refine lv_bipush (v := 10) hx hb dX15_rank_1 (by decide) ?_
  refine lv_icmp_ne (tgt := 10) hx hb dX15_rank_3 (by decide) (fun c_1 => ?_) (fun c_1 => ?_)
  · refine lv_iload_n hx hb dX15_rank_10 rfl (lv_at hl 0 rfl) ?_
    refine lv_bipush (v := 11) hx hb dX15_rank_11 (by decide) ?_
    refine lv_icmp_ne (tgt := 20) hx hb dX15_rank_13 (by decide) (fun c_2 => ?_) (fun c_2 => ?_)
    · refine lv_iload_n hx hb dX15_rank_20 rfl (lv_at hl 0 rfl) ?_
      refine lv_bipush (v := 18) hx hb dX15_rank_21 (by decide) ?_
      refine lv_icmp_ge (tgt := 30) hx hb dX15_rank_23 (by decide) (fun c_3 => ?_) (fun c_3 => ?_)
      · refine lv_iload_n hx hb dX15_rank_30 rfl (lv_at hl 0 rfl) ?_
        refine lv_bipush (v := 18) hx hb dX15_rank_31 (by decide) ?_
        refine lv_icmp_ne (tgt := 40) hx hb dX15_rank_33 (by decide) (fun c_4 => ?_) (fun c_4 => ?_)
        · refine lv_iload_n hx hb dX15_rank_40 rfl (lv_at hl 0 rfl) ?_
          refine lv_bipush (v := 19) hx hb dX15_rank_41 (by decide) ?_
          refine lv_icmp_ne (tgt := 50) hx hb dX15_rank_43 (by decide) (fun c_5 => ?_) (fun c_5 => ?_)
          · refine lv_iload_n hx hb dX15_rank_50 rfl (lv_at hl 0 rfl) ?_
            refine lv_bipush (v := 20) hx hb dX15_rank_51 (by decide) ?_
            refine lv_icmp_ne (tgt := 60) hx hb dX15_rank_53 (by decide) (fun c_6 => ?_) (fun c_6 => ?_)
            · refine lv_iload_n hx hb dX15_rank_60 rfl (lv_at hl 0 rfl) ?_
              refine lv_bipush (v := 23) hx hb dX15_rank_61 (by decide) ?_
              refine lv_icmp_ge (tgt := 71) hx hb dX15_rank_63 (by decide) (fun c_7 => ?_) (fun c_7 => ?_)
              · refine lv_iload_n hx hb dX15_rank_71 rfl (lv_at hl 0 rfl) ?_
                refine lv_bipush (v := 25) hx hb dX15_rank_72 (by decide) ?_
                refine lv_icmp_ge (tgt := 82) hx hb dX15_rank_74 (by decide) (fun c_8 => ?_) (fun c_8 => ?_)
                · refine lv_bipush (v := 8) hx hb dX15_rank_82 (by decide) ?_
                  refine W.widen (k := 0) (n := 0) (by decide +kernel) (by decide +kernel) ?_
                  exact W.iret (v := 8) hx hb hr (fun t ht hW => ⟨⟨8, (), rfl, Or.inl ⟨c_1, c_2, c_3, c_4, c_5, c_6, c_7, c_8, rfl⟩, by rw [ht]; exact hP, va_K.moved hW.alike hK, hD⟩, hS.F ht⟩) hS.2.2 dX15_rank_84
                · refine lv_bipush (v := 7) hx hb dX15_rank_77 (by decide) ?_
                  refine lv_goto (tgt := 84) hx hb dX15_rank_79 (by decide) ?_
                  refine W.widen (k := 0) (n := 0) (by decide +kernel) (by decide +kernel) ?_
                  exact W.iret (v := 7) hx hb hr (fun t ht hW => ⟨⟨7, (), rfl, Or.inr (Or.inl ⟨c_1, c_2, c_3, c_4, c_5, c_6, c_7, c_8, rfl⟩), by rw [ht]; exact hP, va_K.moved hW.alike hK, hD⟩, hS.F ht⟩) hS.2.2 dX15_rank_84
              · refine lv_bipush (v := 6) hx hb dX15_rank_66 (by decide) ?_
                refine lv_goto (tgt := 84) hx hb dX15_rank_68 (by decide) ?_
                refine W.widen (k := 0) (n := 0) (by decide +kernel) (by decide +kernel) ?_
                exact W.iret (v := 6) hx hb hr (fun t ht hW => ⟨⟨6, (), rfl, Or.inr (Or.inr (Or.inl ⟨c_1, c_2, c_3, c_4, c_5, c_6, c_7, rfl⟩)), by rw [ht]; exact hP, va_K.moved hW.alike hK, hD⟩, hS.F ht⟩) hS.2.2 dX15_rank_84
            · refine lv_iconst (v := 5) hx hb dX15_rank_56 (by decide) ?_
              refine lv_goto (tgt := 84) hx hb dX15_rank_57 (by decide) ?_
              refine W.widen (k := 0) (n := 0) (by decide +kernel) (by decide +kernel) ?_
              exact W.iret (v := 5) hx hb hr (fun t ht hW => ⟨⟨5, (), rfl, Or.inr (Or.inr (Or.inr (Or.inl ⟨c_1, c_2, c_3, c_4, c_5, c_6, rfl⟩))), by rw [ht]; exact hP, va_K.moved hW.alike hK, hD⟩, hS.F ht⟩) hS.2.2 dX15_rank_84
          · refine lv_iconst (v := 4) hx hb dX15_rank_46 (by decide) ?_
            refine lv_goto (tgt := 84) hx hb dX15_rank_47 (by decide) ?_
            refine W.widen (k := 0) (n := 0) (by decide +kernel) (by decide +kernel) ?_
            exact W.iret (v := 4) hx hb hr (fun t ht hW => ⟨⟨4, (), rfl, Or.inr (Or.inr (Or.inr (Or.inr (Or.inl ⟨c_1, c_2, c_3, c_4, c_5, rfl⟩)))), by rw [ht]; exact hP, va_K.moved hW.alike hK, hD⟩, hS.F ht⟩) hS.2.2 dX15_rank_84
        · refine lv_iconst (v := 3) hx hb dX15_rank_36 (by decide) ?_
          refine lv_goto (tgt := 84) hx hb dX15_rank_37 (by decide) ?_
          refine W.widen (k := 0) (n := 0) (by decide +kernel) (by decide +kernel) ?_
          exact W.iret (v := 3) hx hb hr (fun t ht hW => ⟨⟨3, (), rfl, Or.inr (Or.inr (Or.inr (Or.inr (Or.inr (Or.inl ⟨c_1, c_2, c_3, c_4, rfl⟩))))), by rw [ht]; exact hP, va_K.moved hW.alike hK, hD⟩, hS.F ht⟩) hS.2.2 dX15_rank_84
      · refine lv_iconst (v := 2) hx hb dX15_rank_26 (by decide) ?_
        refine lv_goto (tgt := 84) hx hb dX15_rank_27 (by decide) ?_
        refine W.widen (k := 0) (n := 0) (by decide +kernel) (by decide +kernel) ?_
        exact W.iret (v := 2) hx hb hr (fun t ht hW => ⟨⟨2, (), rfl, Or.inr (Or.inr (Or.inr (Or.inr (Or.inr (Or.inr (Or.inl ⟨c_1, c_2, c_3, rfl⟩)))))), by rw [ht]; exact hP, va_K.moved hW.alike hK, hD⟩, hS.F ht⟩) hS.2.2 dX15_rank_84
    · refine lv_iconst (v := 1) hx hb dX15_rank_16 (by decide) ?_
      refine lv_goto (tgt := 84) hx hb dX15_rank_17 (by decide) ?_
      refine W.widen (k := 0) (n := 0) (by decide +kernel) (by decide +kernel) ?_
      exact W.iret (v := 1) hx hb hr (fun t ht hW => ⟨⟨1, (), rfl, Or.inr (Or.inr (Or.inr (Or.inr (Or.inr (Or.inr (Or.inr (Or.inl ⟨c_1, c_2, rfl⟩))))))), by rw [ht]; exact hP, va_K.moved hW.alike hK, hD⟩, hS.F ht⟩) hS.2.2 dX15_rank_84
  · refine lv_iconst (v := 0) hx hb dX15_rank_6 (by decide) ?_
    refine lv_goto (tgt := 84) hx hb dX15_rank_7 (by decide) ?_
    refine W.widen (k := 0) (n := 0) (by decide +kernel) (by decide +kernel) ?_
    exact W.iret (v := 0) hx hb hr (fun t ht hW => ⟨⟨0, (), rfl, Or.inr (Or.inr (Or.inr (Or.inr (Or.inr (Or.inr (Or.inr (Or.inr (Or.inl ⟨c_1, rfl⟩)))))))), by rw [ht]; exact hP, va_K.moved hW.alike hK, hD⟩, hS.F ht⟩) hS.2.2 dX15_rank_84
def ow_g_X15_truth : List Cond := .code yX15_truth cX15_truth 1 (some .long) :: ([] ++ [])
theorem gd_g_X15_truth : ∀ w ∈ ow_g_X15_truth, (w.onTables && w.keeps) = true ∨ ∃ ty, w = Cond.arrayClass ty := List.forall_mem_cons.mpr ⟨good_of_word rfl, List.forall_mem_append.mpr ⟨fun w h => good_of_word (List.all_eq_true.mp (by decide +kernel) w h), fun _ h => nomatch h⟩⟩
set_option maxHeartbeats 40000000 in
set_option maxRecDepth 100000 in
theorem g_X15_truth (l : Launch) (hlt : l.stackTraces = false) (dC : Nat → ClassId) (dI : Nat → Nat → Nat) (v0 : Int32) (sz : Nat) : Met l yX15_truth ow_g_X15_truth ({ frames := 0, cells := 0, slots := 0, locals := 0 }) (va_Pc [.int v0] (fun U => U.heap.size = sz ∧ va_P (dC, dI) vwCl [] U.heap ∧ va_K (dC, dI) vwCl [] U ∧ va_D (fun _ => True) [] ∧ nv_E (va_A [] sz) U)) (va_Ql (fun r _ => ((v0 = 0) ∧ r = 0) ∨ ((¬ v0 = 0) ∧ r = 1) ∨ False) (fun (_ : Unit) t => va_P (dC, dI) vwCl [] t.heap ∧ va_K (dC, dI) vwCl [] t ∧ va_D (va_A [] sz) []) (va_A [] sz)) 0 0 (va_A [] sz) := by
  refine Met.ofW (cc := cX15_truth) (maxL := 1) (ret := (some .long)) (by decide) rfl ?_
  intro p e s m args below meth c s₁ B hml hv
  obtain ⟨rfl, hsz, hP, hK, hD0, hN⟩ := hv
  have hx := B.exec
  have hb := B.bytes
  have hr := B.returns
  have hts := atoms_spec (ws := ow_g_X15_truth) B.pre
  have hown : s.vm.findClass RX15 = some m.cls := findClass_of_methodNamed B.named
  have hlocks := B.notSynchronized
  subst hsz
  have hD := hD0.self (sz := s.heap.size)
  generalize hAe : va_A [] s.heap.size = A at hD hN ⊢
  have hA : ∀ q : Nat, s.heap.size ≤ q → A q := fun q h => by rw [← hAe]; exact Or.inr h
  have hS : va_S A s.heap s.heap [] := va_S.rf
  have hl := lv_entry ([.int v0]) (n := 1) (Nat.le_of_ble_eq_true rfl)
  rw [lg_entry_eq]
  generalize (lg_sl ([.int v0]) ++ List.replicate (1 - (lg_sl ([.int v0])).length) Slot.unset).toArray = ls at hl ⊢
  have hl : lv_has ls 1 [(0, .int v0)] := hl
  refine lv_iload_n hx hb dX15_truth_0 rfl (lv_at hl 0 rfl) ?_
  refine lv_if_eq (tgt := 8) hx hb dX15_truth_1 (by decide) (fun c_1 => ?_) (fun c_1 => ?_)
  · refine lv_lconst (v := 0) hx hb dX15_truth_8 (by decide) ?_
    refine W.widen (k := 0) (n := 0) (by decide +kernel) (by decide +kernel) ?_
    exact W.lret (v := 0) hx hb hr (fun t ht hW => ⟨⟨0, (), rfl, Or.inl ⟨c_1, rfl⟩, by rw [ht]; exact hP, va_K.moved hW.alike hK, hD⟩, hS.F ht⟩) hS.2.2 dX15_truth_9
  · refine lv_lconst (v := 1) hx hb dX15_truth_4 (by decide) ?_
    refine lv_goto (tgt := 9) hx hb dX15_truth_5 (by decide) ?_
    refine W.widen (k := 0) (n := 0) (by decide +kernel) (by decide +kernel) ?_
    exact W.lret (v := 1) hx hb hr (fun t ht hW => ⟨⟨1, (), rfl, Or.inr (Or.inl ⟨c_1, rfl⟩), by rw [ht]; exact hP, va_K.moved hW.alike hK, hD⟩, hS.F ht⟩) hS.2.2 dX15_truth_9
def ow_g_X16_plain : List Cond := .code yX16_plain cX16_plain 1 (some .long) :: ([.constantLong RX16 258 (4294967295)] ++ [])
theorem gd_g_X16_plain : ∀ w ∈ ow_g_X16_plain, (w.onTables && w.keeps) = true ∨ ∃ ty, w = Cond.arrayClass ty := List.forall_mem_cons.mpr ⟨good_of_word rfl, List.forall_mem_append.mpr ⟨fun w h => good_of_word (List.all_eq_true.mp (by decide +kernel) w h), fun _ h => nomatch h⟩⟩
set_option maxHeartbeats 40000000 in
set_option maxRecDepth 100000 in
theorem g_X16_plain (l : Launch) (hlt : l.stackTraces = false) (dC : Nat → ClassId) (dI : Nat → Nat → Nat) (v0 : Int32) (sz : Nat) : Met l yX16_plain ow_g_X16_plain ({ frames := 0, cells := 0, slots := 0, locals := 0 }) (va_Pc [.int v0] (fun U => U.heap.size = sz ∧ va_P (dC, dI) vwCl [] U.heap ∧ va_K (dC, dI) vwCl [] U ∧ va_D (fun _ => True) [] ∧ nv_E (va_A [] sz) U)) (va_Ql (fun r _ => (r = (((v0.toInt64) : Int64) &&& 4294967295)) ∨ False) (fun (_ : Unit) t => va_P (dC, dI) vwCl [] t.heap ∧ va_K (dC, dI) vwCl [] t ∧ va_D (va_A [] sz) []) (va_A [] sz)) 0 0 (va_A [] sz) := by
  refine Met.ofW (cc := cX16_plain) (maxL := 1) (ret := (some .long)) (by decide) rfl ?_
  intro p e s m args below meth c s₁ B hml hv
  obtain ⟨rfl, hsz, hP, hK, hD0, hN⟩ := hv
  have hx := B.exec
  have hb := B.bytes
  have hr := B.returns
  have hts := atoms_spec (ws := ow_g_X16_plain) B.pre
  have hown : s.vm.findClass RX16 = some m.cls := findClass_of_methodNamed B.named
  have hlocks := B.notSynchronized
  subst hsz
  have hD := hD0.self (sz := s.heap.size)
  generalize hAe : va_A [] s.heap.size = A at hD hN ⊢
  have hA : ∀ q : Nat, s.heap.size ≤ q → A q := fun q h => by rw [← hAe]; exact Or.inr h
  have hS : va_S A s.heap s.heap [] := va_S.rf
  have hl := lv_entry ([.int v0]) (n := 1) (Nat.le_of_ble_eq_true rfl)
  rw [lg_entry_eq]
  generalize (lg_sl ([.int v0]) ++ List.replicate (1 - (lg_sl ([.int v0])).length) Slot.unset).toArray = ls at hl ⊢
  have hl : lv_has ls 1 [(0, .int v0)] := hl
  refine lv_iload_n hx hb dX16_plain_0 rfl (lv_at hl 0 rfl) ?_
  refine lv_i2l hx hb dX16_plain_1 rfl ?_
  refine lv_ldc2 hx hb hown (hts (.constantLong RX16 258 (4294967295)) (List.mem_of_getElem? (i := 1) rfl)) dX16_plain_2 ?_
  refine lv_land hx hb dX16_plain_5 ?_
  refine W.widen (k := 0) (n := 0) (by decide +kernel) (by decide +kernel) ?_
  exact W.lret (v := (((v0.toInt64) : Int64) &&& 4294967295)) hx hb hr (fun t ht hW => ⟨⟨(((v0.toInt64) : Int64) &&& 4294967295), (), rfl, Or.inl rfl, by rw [ht]; exact hP, va_K.moved hW.alike hK, hD⟩, hS.F ht⟩) hS.2.2 dX16_plain_6
def ow_g_X16_part : List Cond := .code yX16_part cX16_part 3 (some .int) :: ([] ++ [])
theorem gd_g_X16_part : ∀ w ∈ ow_g_X16_part, (w.onTables && w.keeps) = true ∨ ∃ ty, w = Cond.arrayClass ty := List.forall_mem_cons.mpr ⟨good_of_word rfl, List.forall_mem_append.mpr ⟨fun w h => good_of_word (List.all_eq_true.mp (by decide +kernel) w h), fun _ h => nomatch h⟩⟩
set_option maxHeartbeats 40000000 in
set_option maxRecDepth 100000 in
theorem g_X16_part (l : Launch) (hlt : l.stackTraces = false) (dC : Nat → ClassId) (dI : Nat → Nat → Nat) (v0 : Int32) (v1 : Int32) (v2 : Int32) (sz : Nat) : Met l yX16_part ow_g_X16_part ({ frames := 0, cells := 0, slots := 0, locals := 0 }) (va_Pc [.int v0, .int v1, .int v2] (fun U => U.heap.size = sz ∧ va_P (dC, dI) vwCl [] U.heap ∧ va_K (dC, dI) vwCl [] U ∧ va_D (fun _ => True) [] ∧ nv_E (va_A [] sz) U)) (va_Qi (fun r _ => (r = ((((v0 : Int32).toUInt32 >>> ((v1 : Int32).toUInt32 &&& Int32.toUInt32 31)).toInt32) &&& (((1 : Int32) <<< ((v2 : Int32) &&& 31)) - 1))) ∨ False) (fun (_ : Unit) t => va_P (dC, dI) vwCl [] t.heap ∧ va_K (dC, dI) vwCl [] t ∧ va_D (va_A [] sz) []) (va_A [] sz)) 0 0 (va_A [] sz) := by
  refine Met.ofW (cc := cX16_part) (maxL := 3) (ret := (some .int)) (by decide) rfl ?_
  intro p e s m args below meth c s₁ B hml hv
  obtain ⟨rfl, hsz, hP, hK, hD0, hN⟩ := hv
  have hx := B.exec
  have hb := B.bytes
  have hr := B.returns
  have hts := atoms_spec (ws := ow_g_X16_part) B.pre
  have hown : s.vm.findClass RX16 = some m.cls := findClass_of_methodNamed B.named
  have hlocks := B.notSynchronized
  subst hsz
  have hD := hD0.self (sz := s.heap.size)
  generalize hAe : va_A [] s.heap.size = A at hD hN ⊢
  have hA : ∀ q : Nat, s.heap.size ≤ q → A q := fun q h => by rw [← hAe]; exact Or.inr h
  have hS : va_S A s.heap s.heap [] := va_S.rf
  have hl := lv_entry ([.int v0, .int v1, .int v2]) (n := 3) (Nat.le_of_ble_eq_true rfl)
  rw [lg_entry_eq]
  generalize (lg_sl ([.int v0, .int v1, .int v2]) ++ List.replicate (3 - (lg_sl ([.int v0, .int v1, .int v2])).length) Slot.unset).toArray = ls at hl ⊢
  have hl : lv_has ls 3 [(0, .int v0), (1, .int v1), (2, .int v2)] := hl
  refine lv_iload_n hx hb dX16_part_0 rfl (lv_at hl 0 rfl) ?_
  refine lv_iload_n hx hb dX16_part_1 rfl (lv_at hl 1 rfl) ?_
  refine lv_iushr hx hb dX16_part_2 rfl ?_
  refine lv_iconst (v := 1) hx hb dX16_part_3 (by decide) ?_
  refine lv_iload_n hx hb dX16_part_4 rfl (lv_at hl 2 rfl) ?_
  refine lv_ishl hx hb dX16_part_5 ?_
  refine lv_iconst (v := 1) hx hb dX16_part_6 (by decide) ?_
  refine lv_isub hx hb dX16_part_7 ?_
  refine lv_iand hx hb dX16_part_8 ?_
  refine W.widen (k := 0) (n := 0) (by decide +kernel) (by decide +kernel) ?_
  exact W.iret (v := ((((v0 : Int32).toUInt32 >>> ((v1 : Int32).toUInt32 &&& Int32.toUInt32 31)).toInt32) &&& (((1 : Int32) <<< ((v2 : Int32) &&& 31)) - 1))) hx hb hr (fun t ht hW => ⟨⟨((((v0 : Int32).toUInt32 >>> ((v1 : Int32).toUInt32 &&& Int32.toUInt32 31)).toInt32) &&& (((1 : Int32) <<< ((v2 : Int32) &&& 31)) - 1)), (), rfl, Or.inl rfl, by rw [ht]; exact hP, va_K.moved hW.alike hK, hD⟩, hS.F ht⟩) hS.2.2 dX16_part_9
def ow_k_X16_part : List Cond := .code yX16_part cX16_part 3 (some .int) :: ([] ++ [])
theorem gd_k_X16_part : ∀ w ∈ ow_k_X16_part, (w.onTables && w.keeps) = true ∨ ∃ ty, w = Cond.arrayClass ty := List.forall_mem_cons.mpr ⟨good_of_word rfl, List.forall_mem_append.mpr ⟨fun w h => good_of_word (List.all_eq_true.mp (by decide +kernel) w h), fun _ h => nomatch h⟩⟩
set_option maxHeartbeats 40000000 in
set_option maxRecDepth 100000 in
theorem k_X16_part (l : Launch) (hlt : l.stackTraces = false) (dC : Nat → ClassId) (dI : Nat → Nat → Nat) (c0 : Int32) (c1 : Int32) (c2 : Int32) (sz : Nat) : Met l yX16_part ow_k_X16_part ({ frames := 0, cells := 0, slots := 0, locals := 0 }) (va_Pc [.int c0, .int c1, .int c2] (fun U => U.heap.size = sz ∧ va_P (dC, dI) vwCl [] U.heap ∧ va_K (dC, dI) vwCl [] U ∧ va_D (fun _ => True) [] ∧ nv_E (va_A [] sz) U)) (va_Qi (fun r _ => (r = ((((c0 : Int32).toUInt32 >>> ((c1 : Int32).toUInt32 &&& Int32.toUInt32 31)).toInt32) &&& (((1 : Int32) <<< ((c2 : Int32) &&& 31)) - 1))) ∨ False) (fun (_ : Unit) t => va_P (dC, dI) vwCl [] t.heap ∧ va_K (dC, dI) vwCl [] t ∧ va_D (va_A [] sz) []) (va_A [] sz)) 0 0 (va_A [] sz) := by
  refine Met.ofW (cc := cX16_part) (maxL := 3) (ret := (some .int)) (by decide) rfl ?_
  intro p e s m args below meth c s₁ B hml hv
  obtain ⟨rfl, hsz, hP, hK, hD0, hN⟩ := hv
  have hx := B.exec
  have hb := B.bytes
  have hr := B.returns
  have hts := atoms_spec (ws := ow_k_X16_part) B.pre
  have hown : s.vm.findClass RX16 = some m.cls := findClass_of_methodNamed B.named
  have hlocks := B.notSynchronized
  subst hsz
  have hD := hD0.self (sz := s.heap.size)
  generalize hAe : va_A [] s.heap.size = A at hD hN ⊢
  have hA : ∀ q : Nat, s.heap.size ≤ q → A q := fun q h => by rw [← hAe]; exact Or.inr h
  have hS : va_S A s.heap s.heap [] := va_S.rf
  have hl := lv_entry ([.int c0, .int c1, .int c2]) (n := 3) (Nat.le_of_ble_eq_true rfl)
  rw [lg_entry_eq]
  generalize (lg_sl ([.int c0, .int c1, .int c2]) ++ List.replicate (3 - (lg_sl ([.int c0, .int c1, .int c2])).length) Slot.unset).toArray = ls at hl ⊢
  have hl : lv_has ls 3 [(0, .int c0), (1, .int c1), (2, .int c2)] := hl
  refine lv_iload_n hx hb dX16_part_0 rfl (lv_at hl 0 rfl) ?_
  refine lv_iload_n hx hb dX16_part_1 rfl (lv_at hl 1 rfl) ?_
  refine lv_iushr hx hb dX16_part_2 rfl ?_
  refine lv_iconst (v := 1) hx hb dX16_part_3 (by decide) ?_
  refine lv_iload_n hx hb dX16_part_4 rfl (lv_at hl 2 rfl) ?_
  refine lv_ishl hx hb dX16_part_5 ?_
  refine lv_iconst (v := 1) hx hb dX16_part_6 (by decide) ?_
  refine lv_isub hx hb dX16_part_7 ?_
  refine lv_iand hx hb dX16_part_8 ?_
  refine W.widen (k := 0) (n := 0) (by decide +kernel) (by decide +kernel) ?_
  exact W.iret (v := ((((c0 : Int32).toUInt32 >>> ((c1 : Int32).toUInt32 &&& Int32.toUInt32 31)).toInt32) &&& (((1 : Int32) <<< ((c2 : Int32) &&& 31)) - 1))) hx hb hr (fun t ht hW => ⟨⟨((((c0 : Int32).toUInt32 >>> ((c1 : Int32).toUInt32 &&& Int32.toUInt32 31)).toInt32) &&& (((1 : Int32) <<< ((c2 : Int32) &&& 31)) - 1)), (), rfl, Or.inl rfl, by rw [ht]; exact hP, va_K.moved hW.alike hK, hD⟩, hS.F ht⟩) hS.2.2 dX16_part_9
def ow_g_X16_bit : List Cond := .code yX16_bit cX16_bit 4 (some .int) :: ([.methodLink RX16 297 yX16_part, .static yX16_part, .initialized RX16] ++ (ow_k_X16_part ++ []))
theorem gd_g_X16_bit : ∀ w ∈ ow_g_X16_bit, (w.onTables && w.keeps) = true ∨ ∃ ty, w = Cond.arrayClass ty := List.forall_mem_cons.mpr ⟨good_of_word rfl, List.forall_mem_append.mpr ⟨fun w h => good_of_word (List.all_eq_true.mp (by decide +kernel) w h), List.forall_mem_append.mpr ⟨gd_k_X16_part, fun _ h => nomatch h⟩⟩⟩
theorem gi_g_X16_bit_0 : GoodIn ow_g_X16_bit (wsS RX16 297 yX16_part ow_k_X16_part) := goodIn_app (goodIn_of _ (by decide +kernel)) (fun w h => ⟨List.mem_cons_of_mem _ (List.mem_append_right _ (List.mem_append_left _ h)), gd_k_X16_part w h⟩)
set_option maxHeartbeats 40000000 in
set_option maxRecDepth 100000 in
theorem g_X16_bit (l : Launch) (hlt : l.stackTraces = false) (dC : Nat → ClassId) (dI : Nat → Nat → Nat) (v0 : Int32) (v1 : Int32) (v2 : Int32) (v3 : Int32) (sz : Nat) : Met l yX16_bit ow_g_X16_bit ({ frames := 1, cells := 0, slots := 0, locals := 22 }) (va_Pc [.int v0, .int v1, .int v2, .int v3] (fun U => U.heap.size = sz ∧ va_P (dC, dI) vwCl [] U.heap ∧ va_K (dC, dI) vwCl [] U ∧ va_D (fun _ => True) [] ∧ nv_E (va_A [] sz) U)) (va_Qi (fun r _ => (r = ((((((v0 : Int32).toUInt32 >>> ((v1 : Int32).toUInt32 &&& Int32.toUInt32 31)).toInt32) &&& (((1 : Int32) <<< ((v2 : Int32) &&& 31)) - 1)) : Int32) <<< ((v3 : Int32) &&& 31))) ∨ False) (fun (_ : Unit) t => va_P (dC, dI) vwCl [] t.heap ∧ va_K (dC, dI) vwCl [] t ∧ va_D (va_A [] sz) []) (va_A [] sz)) 0 0 (va_A [] sz) := by
  refine Met.ofW (cc := cX16_bit) (maxL := 4) (ret := (some .int)) (by decide) rfl ?_
  intro p e s m args below meth c s₁ B hml hv
  obtain ⟨rfl, hsz, hP, hK, hD0, hN⟩ := hv
  have hx := B.exec
  have hb := B.bytes
  have hr := B.returns
  have hts := atoms_spec (ws := ow_g_X16_bit) B.pre
  have hown : s.vm.findClass RX16 = some m.cls := findClass_of_methodNamed B.named
  have hlocks := B.notSynchronized
  subst hsz
  have hD := hD0.self (sz := s.heap.size)
  generalize hAe : va_A [] s.heap.size = A at hD hN ⊢
  have hA : ∀ q : Nat, s.heap.size ≤ q → A q := fun q h => by rw [← hAe]; exact Or.inr h
  have hS : va_S A s.heap s.heap [] := va_S.rf
  have hl := lv_entry ([.int v0, .int v1, .int v2, .int v3]) (n := 4) (Nat.le_of_ble_eq_true rfl)
  rw [lg_entry_eq]
  generalize (lg_sl ([.int v0, .int v1, .int v2, .int v3]) ++ List.replicate (4 - (lg_sl ([.int v0, .int v1, .int v2, .int v3])).length) Slot.unset).toArray = ls at hl ⊢
  have hl : lv_has ls 4 [(0, .int v0), (1, .int v1), (2, .int v2), (3, .int v3)] := hl
  refine lv_iload_n hx hb dX16_bit_0 rfl (lv_at hl 0 rfl) ?_
  refine lv_iload_n hx hb dX16_bit_1 rfl (lv_at hl 1 rfl) ?_
  refine lv_iload_n hx hb dX16_bit_2 rfl (lv_at hl 2 rfl) ?_
  have hPc := hP.sub (ws' := []) [] rfl
  have hDc := hD.sub (ws' := []) [] (by decide) rfl
  have hKc := hK.sub (tys' := []) [] rfl
  have hFc := va_free (wc := []) hD hS hA [] rfl
  refine va_calli (va_runS (As := [.int v0, .int v1, .int v2]) (rest := []) ⟨hx, hb, hml, hown, hts⟩ (k_X16_part l hlt dC dI v0 v1 v2  s.heap.size) (cwS 3 hts gi_g_X16_bit_0 rfl rfl rfl (by decide +kernel) ⟨Nat.le_of_ble_eq_true rfl, Nat.le_of_ble_eq_true rfl⟩) ⟨fun a U g mk q => by obtain ⟨q0, q1, qP, qK, qD, qN⟩ := q; exact ⟨q0, q1, qP, va_K.moved (u := U) (U := U.calling g mk a) (Vm.Alike.refl U.vm) qK, qD, nv_same rfl rfl qN⟩, fun U hU hW => ⟨rfl, by rw [hU], by rw [hU]; exact hPc, va_K.moved hW.alike hKc, hDc.weaken (fun _ _ _ _ => trivial), nv_call hS hFc hU hW hN⟩⟩ rfl rfl hl.1 rfl (lv_room (Nat.le_of_ble_eq_true rfl)) dX16_bit_3 ⟨by decide +kernel, by decide +kernel⟩) hS (fun q _ h => hFc q h) hFc (fun r1 u t H1 locs ht hvm hw hB hz1 hk1 hS => ?_)
  obtain ⟨hP1, hK1, hD1⟩ := hB
  rw [ht] at hP1
  have hK1 := va_K.moved hvm.symm hK1
  obtain ⟨hP, hD⟩ := va_join (wr := []) (w1 := []) hP hD [] [] rfl rfl (by decide) (by decide) hk1 hFc hP1 hD1
  have hK := (hK.sub (tys' := []) [] rfl).app hK1
  generalize H1 = H at hP hS ⊢
  have hP : va_P (dC, dI) vwCl [] H := hP
  have hD : va_D A [] := hD
  have hK : va_K (dC, dI) vwCl [] s := hK
  refine W.widen (k := 0) (n := 0) (by decide +kernel) (by decide +kernel) ?_
  rcases hw with h9 | h9
  · subst h9
    refine lv_iload_n hx hb dX16_bit_6 rfl (lv_at hl 3 rfl) ?_
    refine lv_ishl hx hb dX16_bit_7 ?_
    refine W.widen (k := 0) (n := 0) (by decide +kernel) (by decide +kernel) ?_
    exact W.iret (v := ((((((v0 : Int32).toUInt32 >>> ((v1 : Int32).toUInt32 &&& Int32.toUInt32 31)).toInt32) &&& (((1 : Int32) <<< ((v2 : Int32) &&& 31)) - 1)) : Int32) <<< ((v3 : Int32) &&& 31))) hx hb hr (fun t ht hW => ⟨⟨((((((v0 : Int32).toUInt32 >>> ((v1 : Int32).toUInt32 &&& Int32.toUInt32 31)).toInt32) &&& (((1 : Int32) <<< ((v2 : Int32) &&& 31)) - 1)) : Int32) <<< ((v3 : Int32) &&& 31)), (), rfl, Or.inl rfl, by rw [ht]; exact hP, va_K.moved hW.alike hK, hD⟩, hS.F ht⟩) hS.2.2 dX16_bit_8
  · exact h9.elim
def ow_g_X16_signed : List Cond := .code yX16_signed cX16_signed 2 (some .int) :: ([] ++ [])
theorem gd_g_X16_signed : ∀ w ∈ ow_g_X16_signed, (w.onTables && w.keeps) = true ∨ ∃ ty, w = Cond.arrayClass ty := List.forall_mem_cons.mpr ⟨good_of_word rfl, List.forall_mem_append.mpr ⟨fun w h => good_of_word (List.all_eq_true.mp (by decide +kernel) w h), fun _ h => nomatch h⟩⟩
set_option maxHeartbeats 40000000 in
set_option maxRecDepth 100000 in
theorem g_X16_signed (l : Launch) (hlt : l.stackTraces = false) (dC : Nat → ClassId) (dI : Nat → Nat → Nat) (v0 : Int32) (v1 : Int32) (sz : Nat) : Met l yX16_signed ow_g_X16_signed ({ frames := 0, cells := 0, slots := 0, locals := 0 }) (va_Pc [.int v0, .int v1] (fun U => U.heap.size = sz ∧ va_P (dC, dI) vwCl [] U.heap ∧ va_K (dC, dI) vwCl [] U ∧ va_D (fun _ => True) [] ∧ nv_E (va_A [] sz) U)) (va_Qi (fun r _ => (r = ((((v0 : Int32) <<< (((32 - v1) : Int32) &&& 31)) : Int32) >>> (((32 - v1) : Int32) &&& 31))) ∨ False) (fun (_ : Unit) t => va_P (dC, dI) vwCl [] t.heap ∧ va_K (dC, dI) vwCl [] t ∧ va_D (va_A [] sz) []) (va_A [] sz)) 0 0 (va_A [] sz) := by
  refine Met.ofW (cc := cX16_signed) (maxL := 2) (ret := (some .int)) (by decide) rfl ?_
  intro p e s m args below meth c s₁ B hml hv
  obtain ⟨rfl, hsz, hP, hK, hD0, hN⟩ := hv
  have hx := B.exec
  have hb := B.bytes
  have hr := B.returns
  have hts := atoms_spec (ws := ow_g_X16_signed) B.pre
  have hown : s.vm.findClass RX16 = some m.cls := findClass_of_methodNamed B.named
  have hlocks := B.notSynchronized
  subst hsz
  have hD := hD0.self (sz := s.heap.size)
  generalize hAe : va_A [] s.heap.size = A at hD hN ⊢
  have hA : ∀ q : Nat, s.heap.size ≤ q → A q := fun q h => by rw [← hAe]; exact Or.inr h
  have hS : va_S A s.heap s.heap [] := va_S.rf
  have hl := lv_entry ([.int v0, .int v1]) (n := 2) (Nat.le_of_ble_eq_true rfl)
  rw [lg_entry_eq]
  generalize (lg_sl ([.int v0, .int v1]) ++ List.replicate (2 - (lg_sl ([.int v0, .int v1])).length) Slot.unset).toArray = ls at hl ⊢
  have hl : lv_has ls 2 [(0, .int v0), (1, .int v1)] := hl
  refine lv_iload_n hx hb dX16_signed_0 rfl (lv_at hl 0 rfl) ?_
  refine lv_bipush (v := 32) hx hb dX16_signed_1 (by decide) ?_
  refine lv_iload_n hx hb dX16_signed_3 rfl (lv_at hl 1 rfl) ?_
  refine lv_isub hx hb dX16_signed_4 ?_
  refine lv_ishl hx hb dX16_signed_5 ?_
  refine lv_bipush (v := 32) hx hb dX16_signed_6 (by decide) ?_
  refine lv_iload_n hx hb dX16_signed_8 rfl (lv_at hl 1 rfl) ?_
  refine lv_isub hx hb dX16_signed_9 ?_
  refine lv_ishr hx hb dX16_signed_10 ?_
  refine W.widen (k := 0) (n := 0) (by decide +kernel) (by decide +kernel) ?_
  exact W.iret (v := ((((v0 : Int32) <<< (((32 - v1) : Int32) &&& 31)) : Int32) >>> (((32 - v1) : Int32) &&& 31))) hx hb hr (fun t ht hW => ⟨⟨((((v0 : Int32) <<< (((32 - v1) : Int32) &&& 31)) : Int32) >>> (((32 - v1) : Int32) &&& 31)), (), rfl, Or.inl rfl, by rw [ht]; exact hP, va_K.moved hW.alike hK, hD⟩, hS.F ht⟩) hS.2.2 dX16_signed_11
def ow_g_X16_immediate : List Cond := .code yX16_immediate cX16_immediate 5 (some .int) :: ([] ++ [])
theorem gd_g_X16_immediate : ∀ w ∈ ow_g_X16_immediate, (w.onTables && w.keeps) = true ∨ ∃ ty, w = Cond.arrayClass ty := List.forall_mem_cons.mpr ⟨good_of_word rfl, List.forall_mem_append.mpr ⟨fun w h => good_of_word (List.all_eq_true.mp (by decide +kernel) w h), fun _ h => nomatch h⟩⟩
set_option maxHeartbeats 40000000 in
set_option maxRecDepth 100000 in
theorem g_X16_immediate (l : Launch) (hlt : l.stackTraces = false) (dC : Nat → ClassId) (dI : Nat → Nat → Nat) (v0 : Int32) (v1 : Int32) (v2 : Int32) (v3 : Int32) (v4 : Int32) (sz : Nat) : Met l yX16_immediate ow_g_X16_immediate ({ frames := 0, cells := 0, slots := 0, locals := 0 }) (va_Pc [.int v0, .int v1, .int v2, .int v3, .int v4] (fun U => U.heap.size = sz ∧ va_P (dC, dI) vwCl [] U.heap ∧ va_K (dC, dI) vwCl [] U ∧ va_D (fun _ => True) [] ∧ nv_E (va_A [] sz) U)) (va_Qi (fun r _ => (r = ((((v0 ||| ((v2 : Int32) <<< ((7 : Int32) &&& 31))) ||| ((v1 : Int32) <<< ((12 : Int32) &&& 31))) ||| ((v3 : Int32) <<< ((15 : Int32) &&& 31))) ||| ((v4 : Int32) <<< ((20 : Int32) &&& 31)))) ∨ False) (fun (_ : Unit) t => va_P (dC, dI) vwCl [] t.heap ∧ va_K (dC, dI) vwCl [] t ∧ va_D (va_A [] sz) []) (va_A [] sz)) 0 0 (va_A [] sz) := by
  refine Met.ofW (cc := cX16_immediate) (maxL := 5) (ret := (some .int)) (by decide) rfl ?_
  intro p e s m args below meth c s₁ B hml hv
  obtain ⟨rfl, hsz, hP, hK, hD0, hN⟩ := hv
  have hx := B.exec
  have hb := B.bytes
  have hr := B.returns
  have hts := atoms_spec (ws := ow_g_X16_immediate) B.pre
  have hown : s.vm.findClass RX16 = some m.cls := findClass_of_methodNamed B.named
  have hlocks := B.notSynchronized
  subst hsz
  have hD := hD0.self (sz := s.heap.size)
  generalize hAe : va_A [] s.heap.size = A at hD hN ⊢
  have hA : ∀ q : Nat, s.heap.size ≤ q → A q := fun q h => by rw [← hAe]; exact Or.inr h
  have hS : va_S A s.heap s.heap [] := va_S.rf
  have hl := lv_entry ([.int v0, .int v1, .int v2, .int v3, .int v4]) (n := 5) (Nat.le_of_ble_eq_true rfl)
  rw [lg_entry_eq]
  generalize (lg_sl ([.int v0, .int v1, .int v2, .int v3, .int v4]) ++ List.replicate (5 - (lg_sl ([.int v0, .int v1, .int v2, .int v3, .int v4])).length) Slot.unset).toArray = ls at hl ⊢
  have hl : lv_has ls 5 [(0, .int v0), (1, .int v1), (2, .int v2), (3, .int v3), (4, .int v4)] := hl
  refine lv_iload_n hx hb dX16_immediate_0 rfl (lv_at hl 0 rfl) ?_
  refine lv_iload_n hx hb dX16_immediate_1 rfl (lv_at hl 2 rfl) ?_
  refine lv_bipush (v := 7) hx hb dX16_immediate_2 (by decide) ?_
  refine lv_ishl hx hb dX16_immediate_4 ?_
  refine lv_ior hx hb dX16_immediate_5 ?_
  refine lv_iload_n hx hb dX16_immediate_6 rfl (lv_at hl 1 rfl) ?_
  refine lv_bipush (v := 12) hx hb dX16_immediate_7 (by decide) ?_
  refine lv_ishl hx hb dX16_immediate_9 ?_
  refine lv_ior hx hb dX16_immediate_10 ?_
  refine lv_iload_n hx hb dX16_immediate_11 rfl (lv_at hl 3 rfl) ?_
  refine lv_bipush (v := 15) hx hb dX16_immediate_12 (by decide) ?_
  refine lv_ishl hx hb dX16_immediate_14 ?_
  refine lv_ior hx hb dX16_immediate_15 ?_
  refine lv_iload hx hb dX16_immediate_16 (lv_at hl 4 rfl) ?_
  refine lv_bipush (v := 20) hx hb dX16_immediate_18 (by decide) ?_
  refine lv_ishl hx hb dX16_immediate_20 ?_
  refine lv_ior hx hb dX16_immediate_21 ?_
  refine W.widen (k := 0) (n := 0) (by decide +kernel) (by decide +kernel) ?_
  exact W.iret (v := ((((v0 ||| ((v2 : Int32) <<< ((7 : Int32) &&& 31))) ||| ((v1 : Int32) <<< ((12 : Int32) &&& 31))) ||| ((v3 : Int32) <<< ((15 : Int32) &&& 31))) ||| ((v4 : Int32) <<< ((20 : Int32) &&& 31)))) hx hb hr (fun t ht hW => ⟨⟨((((v0 ||| ((v2 : Int32) <<< ((7 : Int32) &&& 31))) ||| ((v1 : Int32) <<< ((12 : Int32) &&& 31))) ||| ((v3 : Int32) <<< ((15 : Int32) &&& 31))) ||| ((v4 : Int32) <<< ((20 : Int32) &&& 31))), (), rfl, Or.inl rfl, by rw [ht]; exact hP, va_K.moved hW.alike hK, hD⟩, hS.F ht⟩) hS.2.2 dX16_immediate_22
def ow_g_X16_threes : List Cond := .code yX16_threes cX16_threes 5 (some .int) :: ([] ++ [])
theorem gd_g_X16_threes : ∀ w ∈ ow_g_X16_threes, (w.onTables && w.keeps) = true ∨ ∃ ty, w = Cond.arrayClass ty := List.forall_mem_cons.mpr ⟨good_of_word rfl, List.forall_mem_append.mpr ⟨fun w h => good_of_word (List.all_eq_true.mp (by decide +kernel) w h), fun _ h => nomatch h⟩⟩
set_option maxHeartbeats 40000000 in
set_option maxRecDepth 100000 in
theorem g_X16_threes (l : Launch) (hlt : l.stackTraces = false) (dC : Nat → ClassId) (dI : Nat → Nat → Nat) (v0 : Int32) (v1 : Int32) (v2 : Int32) (v3 : Int32) (v4 : Int32) (sz : Nat) : Met l yX16_threes ow_g_X16_threes ({ frames := 0, cells := 0, slots := 0, locals := 0 }) (va_Pc [.int v0, .int v1, .int v2, .int v3, .int v4] (fun U => U.heap.size = sz ∧ va_P (dC, dI) vwCl [] U.heap ∧ va_K (dC, dI) vwCl [] U ∧ va_D (fun _ => True) [] ∧ nv_E (va_A [] sz) U)) (va_Qi (fun r _ => (r = (((((51 ||| ((v2 : Int32) <<< ((7 : Int32) &&& 31))) ||| ((v0 : Int32) <<< ((12 : Int32) &&& 31))) ||| ((v3 : Int32) <<< ((15 : Int32) &&& 31))) ||| ((v4 : Int32) <<< ((20 : Int32) &&& 31))) ||| ((v1 : Int32) <<< ((25 : Int32) &&& 31)))) ∨ False) (fun (_ : Unit) t => va_P (dC, dI) vwCl [] t.heap ∧ va_K (dC, dI) vwCl [] t ∧ va_D (va_A [] sz) []) (va_A [] sz)) 0 0 (va_A [] sz) := by
  refine Met.ofW (cc := cX16_threes) (maxL := 5) (ret := (some .int)) (by decide) rfl ?_
  intro p e s m args below meth c s₁ B hml hv
  obtain ⟨rfl, hsz, hP, hK, hD0, hN⟩ := hv
  have hx := B.exec
  have hb := B.bytes
  have hr := B.returns
  have hts := atoms_spec (ws := ow_g_X16_threes) B.pre
  have hown : s.vm.findClass RX16 = some m.cls := findClass_of_methodNamed B.named
  have hlocks := B.notSynchronized
  subst hsz
  have hD := hD0.self (sz := s.heap.size)
  generalize hAe : va_A [] s.heap.size = A at hD hN ⊢
  have hA : ∀ q : Nat, s.heap.size ≤ q → A q := fun q h => by rw [← hAe]; exact Or.inr h
  have hS : va_S A s.heap s.heap [] := va_S.rf
  have hl := lv_entry ([.int v0, .int v1, .int v2, .int v3, .int v4]) (n := 5) (Nat.le_of_ble_eq_true rfl)
  rw [lg_entry_eq]
  generalize (lg_sl ([.int v0, .int v1, .int v2, .int v3, .int v4]) ++ List.replicate (5 - (lg_sl ([.int v0, .int v1, .int v2, .int v3, .int v4])).length) Slot.unset).toArray = ls at hl ⊢
  have hl : lv_has ls 5 [(0, .int v0), (1, .int v1), (2, .int v2), (3, .int v3), (4, .int v4)] := hl
  refine lv_bipush (v := 51) hx hb dX16_threes_0 (by decide) ?_
  refine lv_iload_n hx hb dX16_threes_2 rfl (lv_at hl 2 rfl) ?_
  refine lv_bipush (v := 7) hx hb dX16_threes_3 (by decide) ?_
  refine lv_ishl hx hb dX16_threes_5 ?_
  refine lv_ior hx hb dX16_threes_6 ?_
  refine lv_iload_n hx hb dX16_threes_7 rfl (lv_at hl 0 rfl) ?_
  refine lv_bipush (v := 12) hx hb dX16_threes_8 (by decide) ?_
  refine lv_ishl hx hb dX16_threes_10 ?_
  refine lv_ior hx hb dX16_threes_11 ?_
  refine lv_iload_n hx hb dX16_threes_12 rfl (lv_at hl 3 rfl) ?_
  refine lv_bipush (v := 15) hx hb dX16_threes_13 (by decide) ?_
  refine lv_ishl hx hb dX16_threes_15 ?_
  refine lv_ior hx hb dX16_threes_16 ?_
  refine lv_iload hx hb dX16_threes_17 (lv_at hl 4 rfl) ?_
  refine lv_bipush (v := 20) hx hb dX16_threes_19 (by decide) ?_
  refine lv_ishl hx hb dX16_threes_21 ?_
  refine lv_ior hx hb dX16_threes_22 ?_
  refine lv_iload_n hx hb dX16_threes_23 rfl (lv_at hl 1 rfl) ?_
  refine lv_bipush (v := 25) hx hb dX16_threes_24 (by decide) ?_
  refine lv_ishl hx hb dX16_threes_26 ?_
  refine lv_ior hx hb dX16_threes_27 ?_
  refine W.widen (k := 0) (n := 0) (by decide +kernel) (by decide +kernel) ?_
  exact W.iret (v := (((((51 ||| ((v2 : Int32) <<< ((7 : Int32) &&& 31))) ||| ((v0 : Int32) <<< ((12 : Int32) &&& 31))) ||| ((v3 : Int32) <<< ((15 : Int32) &&& 31))) ||| ((v4 : Int32) <<< ((20 : Int32) &&& 31))) ||| ((v1 : Int32) <<< ((25 : Int32) &&& 31)))) hx hb hr (fun t ht hW => ⟨⟨(((((51 ||| ((v2 : Int32) <<< ((7 : Int32) &&& 31))) ||| ((v0 : Int32) <<< ((12 : Int32) &&& 31))) ||| ((v3 : Int32) <<< ((15 : Int32) &&& 31))) ||| ((v4 : Int32) <<< ((20 : Int32) &&& 31))) ||| ((v1 : Int32) <<< ((25 : Int32) &&& 31))), (), rfl, Or.inl rfl, by rw [ht]; exact hP, va_K.moved hW.alike hK, hD⟩, hS.F ht⟩) hS.2.2 dX16_threes_28
def ow_k_X16_part_v1 : List Cond := .code yX16_part cX16_part 3 (some .int) :: ([] ++ [])
theorem gd_k_X16_part_v1 : ∀ w ∈ ow_k_X16_part_v1, (w.onTables && w.keeps) = true ∨ ∃ ty, w = Cond.arrayClass ty := List.forall_mem_cons.mpr ⟨good_of_word rfl, List.forall_mem_append.mpr ⟨fun w h => good_of_word (List.all_eq_true.mp (by decide +kernel) w h), fun _ h => nomatch h⟩⟩
set_option maxHeartbeats 40000000 in
set_option maxRecDepth 100000 in
theorem k_X16_part_v1 (l : Launch) (hlt : l.stackTraces = false) (dC : Nat → ClassId) (dI : Nat → Nat → Nat) (c0 : Int32) (sz : Nat) : Met l yX16_part ow_k_X16_part_v1 ({ frames := 0, cells := 0, slots := 0, locals := 0 }) (va_Pc [.int c0, .int 0, .int 5] (fun U => U.heap.size = sz ∧ va_P (dC, dI) vwCl [] U.heap ∧ va_K (dC, dI) vwCl [] U ∧ va_D (fun _ => True) [] ∧ nv_E (va_A [] sz) U)) (va_Qi (fun r _ => (r = ((((c0 : Int32).toUInt32 >>> ((0 : Int32).toUInt32 &&& Int32.toUInt32 31)).toInt32) &&& 31)) ∨ False) (fun (_ : Unit) t => va_P (dC, dI) vwCl [] t.heap ∧ va_K (dC, dI) vwCl [] t ∧ va_D (va_A [] sz) []) (va_A [] sz)) 0 0 (va_A [] sz) := by
  refine Met.ofW (cc := cX16_part) (maxL := 3) (ret := (some .int)) (by decide) rfl ?_
  intro p e s m args below meth c s₁ B hml hv
  obtain ⟨rfl, hsz, hP, hK, hD0, hN⟩ := hv
  have hx := B.exec
  have hb := B.bytes
  have hr := B.returns
  have hts := atoms_spec (ws := ow_k_X16_part_v1) B.pre
  have hown : s.vm.findClass RX16 = some m.cls := findClass_of_methodNamed B.named
  have hlocks := B.notSynchronized
  subst hsz
  have hD := hD0.self (sz := s.heap.size)
  generalize hAe : va_A [] s.heap.size = A at hD hN ⊢
  have hA : ∀ q : Nat, s.heap.size ≤ q → A q := fun q h => by rw [← hAe]; exact Or.inr h
  have hS : va_S A s.heap s.heap [] := va_S.rf
  have hl := lv_entry ([.int c0, .int 0, .int 5]) (n := 3) (Nat.le_of_ble_eq_true rfl)
  rw [lg_entry_eq]
  generalize (lg_sl ([.int c0, .int 0, .int 5]) ++ List.replicate (3 - (lg_sl ([.int c0, .int 0, .int 5])).length) Slot.unset).toArray = ls at hl ⊢
  have hl : lv_has ls 3 [(0, .int c0), (1, .int 0), (2, .int 5)] := hl
  refine lv_iload_n hx hb dX16_part_0 rfl (lv_at hl 0 rfl) ?_
  refine lv_iload_n hx hb dX16_part_1 rfl (lv_at hl 1 rfl) ?_
  refine lv_iushr hx hb dX16_part_2 rfl ?_
  refine lv_iconst (v := 1) hx hb dX16_part_3 (by decide) ?_
  refine lv_iload_n hx hb dX16_part_4 rfl (lv_at hl 2 rfl) ?_
  refine lv_ishl hx hb dX16_part_5 ?_
  refine lv_topi (fun z1 ez1 => ?_)
  obtain rfl : z1 = 32 := ez1.trans (by decide)
  refine lv_iconst (v := 1) hx hb dX16_part_6 (by decide) ?_
  refine lv_isub hx hb dX16_part_7 ?_
  refine lv_topi (fun z2 ez2 => ?_)
  obtain rfl : z2 = 31 := ez2.trans (by decide)
  refine lv_iand hx hb dX16_part_8 ?_
  refine W.widen (k := 0) (n := 0) (by decide +kernel) (by decide +kernel) ?_
  exact W.iret (v := ((((c0 : Int32).toUInt32 >>> ((0 : Int32).toUInt32 &&& Int32.toUInt32 31)).toInt32) &&& 31)) hx hb hr (fun t ht hW => ⟨⟨((((c0 : Int32).toUInt32 >>> ((0 : Int32).toUInt32 &&& Int32.toUInt32 31)).toInt32) &&& 31), (), rfl, Or.inl rfl, by rw [ht]; exact hP, va_K.moved hW.alike hK, hD⟩, hS.F ht⟩) hS.2.2 dX16_part_9
def ow_k_X16_bit : List Cond := .code yX16_bit cX16_bit 4 (some .int) :: ([.methodLink RX16 297 yX16_part, .static yX16_part, .initialized RX16] ++ (ow_k_X16_part_v1 ++ []))
theorem gd_k_X16_bit : ∀ w ∈ ow_k_X16_bit, (w.onTables && w.keeps) = true ∨ ∃ ty, w = Cond.arrayClass ty := List.forall_mem_cons.mpr ⟨good_of_word rfl, List.forall_mem_append.mpr ⟨fun w h => good_of_word (List.all_eq_true.mp (by decide +kernel) w h), List.forall_mem_append.mpr ⟨gd_k_X16_part_v1, fun _ h => nomatch h⟩⟩⟩
theorem gi_k_X16_bit_0 : GoodIn ow_k_X16_bit (wsS RX16 297 yX16_part ow_k_X16_part_v1) := goodIn_app (goodIn_of _ (by decide +kernel)) (fun w h => ⟨List.mem_cons_of_mem _ (List.mem_append_right _ (List.mem_append_left _ h)), gd_k_X16_part_v1 w h⟩)
set_option maxHeartbeats 40000000 in
set_option maxRecDepth 100000 in
theorem k_X16_bit (l : Launch) (hlt : l.stackTraces = false) (dC : Nat → ClassId) (dI : Nat → Nat → Nat) (c0 : Int32) (sz : Nat) : Met l yX16_bit ow_k_X16_bit ({ frames := 1, cells := 0, slots := 0, locals := 22 }) (va_Pc [.int c0, .int 0, .int 5, .int 7] (fun U => U.heap.size = sz ∧ va_P (dC, dI) vwCl [] U.heap ∧ va_K (dC, dI) vwCl [] U ∧ va_D (fun _ => True) [] ∧ nv_E (va_A [] sz) U)) (va_Qi (fun r _ => (r = ((((((c0 : Int32).toUInt32 >>> ((0 : Int32).toUInt32 &&& Int32.toUInt32 31)).toInt32) &&& 31) : Int32) <<< ((7 : Int32) &&& 31))) ∨ False) (fun (_ : Unit) t => va_P (dC, dI) vwCl [] t.heap ∧ va_K (dC, dI) vwCl [] t ∧ va_D (va_A [] sz) []) (va_A [] sz)) 0 0 (va_A [] sz) := by
  refine Met.ofW (cc := cX16_bit) (maxL := 4) (ret := (some .int)) (by decide) rfl ?_
  intro p e s m args below meth c s₁ B hml hv
  obtain ⟨rfl, hsz, hP, hK, hD0, hN⟩ := hv
  have hx := B.exec
  have hb := B.bytes
  have hr := B.returns
  have hts := atoms_spec (ws := ow_k_X16_bit) B.pre
  have hown : s.vm.findClass RX16 = some m.cls := findClass_of_methodNamed B.named
  have hlocks := B.notSynchronized
  subst hsz
  have hD := hD0.self (sz := s.heap.size)
  generalize hAe : va_A [] s.heap.size = A at hD hN ⊢
  have hA : ∀ q : Nat, s.heap.size ≤ q → A q := fun q h => by rw [← hAe]; exact Or.inr h
  have hS : va_S A s.heap s.heap [] := va_S.rf
  have hl := lv_entry ([.int c0, .int 0, .int 5, .int 7]) (n := 4) (Nat.le_of_ble_eq_true rfl)
  rw [lg_entry_eq]
  generalize (lg_sl ([.int c0, .int 0, .int 5, .int 7]) ++ List.replicate (4 - (lg_sl ([.int c0, .int 0, .int 5, .int 7])).length) Slot.unset).toArray = ls at hl ⊢
  have hl : lv_has ls 4 [(0, .int c0), (1, .int 0), (2, .int 5), (3, .int 7)] := hl
  refine lv_iload_n hx hb dX16_bit_0 rfl (lv_at hl 0 rfl) ?_
  refine lv_iload_n hx hb dX16_bit_1 rfl (lv_at hl 1 rfl) ?_
  refine lv_iload_n hx hb dX16_bit_2 rfl (lv_at hl 2 rfl) ?_
  have hPc := hP.sub (ws' := []) [] rfl
  have hDc := hD.sub (ws' := []) [] (by decide) rfl
  have hKc := hK.sub (tys' := []) [] rfl
  have hFc := va_free (wc := []) hD hS hA [] rfl
  refine va_calli (va_runS (As := [.int c0, .int 0, .int 5]) (rest := []) ⟨hx, hb, hml, hown, hts⟩ (k_X16_part_v1 l hlt dC dI c0  s.heap.size) (cwS 3 hts gi_k_X16_bit_0 rfl rfl rfl (by decide +kernel) ⟨Nat.le_of_ble_eq_true rfl, Nat.le_of_ble_eq_true rfl⟩) ⟨fun a U g mk q => by obtain ⟨q0, q1, qP, qK, qD, qN⟩ := q; exact ⟨q0, q1, qP, va_K.moved (u := U) (U := U.calling g mk a) (Vm.Alike.refl U.vm) qK, qD, nv_same rfl rfl qN⟩, fun U hU hW => ⟨rfl, by rw [hU], by rw [hU]; exact hPc, va_K.moved hW.alike hKc, hDc.weaken (fun _ _ _ _ => trivial), nv_call hS hFc hU hW hN⟩⟩ rfl rfl hl.1 rfl (lv_room (Nat.le_of_ble_eq_true rfl)) dX16_bit_3 ⟨by decide +kernel, by decide +kernel⟩) hS (fun q _ h => hFc q h) hFc (fun r1 u t H1 locs ht hvm hw hB hz1 hk1 hS => ?_)
  obtain ⟨hP1, hK1, hD1⟩ := hB
  rw [ht] at hP1
  have hK1 := va_K.moved hvm.symm hK1
  obtain ⟨hP, hD⟩ := va_join (wr := []) (w1 := []) hP hD [] [] rfl rfl (by decide) (by decide) hk1 hFc hP1 hD1
  have hK := (hK.sub (tys' := []) [] rfl).app hK1
  generalize H1 = H at hP hS ⊢
  have hP : va_P (dC, dI) vwCl [] H := hP
  have hD : va_D A [] := hD
  have hK : va_K (dC, dI) vwCl [] s := hK
  refine W.widen (k := 0) (n := 0) (by decide +kernel) (by decide +kernel) ?_
  rcases hw with h9 | h9
  · subst h9
    refine lv_iload_n hx hb dX16_bit_6 rfl (lv_at hl 3 rfl) ?_
    refine lv_ishl hx hb dX16_bit_7 ?_
    refine W.widen (k := 0) (n := 0) (by decide +kernel) (by decide +kernel) ?_
    exact W.iret (v := ((((((c0 : Int32).toUInt32 >>> ((0 : Int32).toUInt32 &&& Int32.toUInt32 31)).toInt32) &&& 31) : Int32) <<< ((7 : Int32) &&& 31))) hx hb hr (fun t ht hW => ⟨⟨((((((c0 : Int32).toUInt32 >>> ((0 : Int32).toUInt32 &&& Int32.toUInt32 31)).toInt32) &&& 31) : Int32) <<< ((7 : Int32) &&& 31)), (), rfl, Or.inl rfl, by rw [ht]; exact hP, va_K.moved hW.alike hK, hD⟩, hS.F ht⟩) hS.2.2 dX16_bit_8
  · exact h9.elim
def ow_k_X16_part_v2 : List Cond := .code yX16_part cX16_part 3 (some .int) :: ([] ++ [])
theorem gd_k_X16_part_v2 : ∀ w ∈ ow_k_X16_part_v2, (w.onTables && w.keeps) = true ∨ ∃ ty, w = Cond.arrayClass ty := List.forall_mem_cons.mpr ⟨good_of_word rfl, List.forall_mem_append.mpr ⟨fun w h => good_of_word (List.all_eq_true.mp (by decide +kernel) w h), fun _ h => nomatch h⟩⟩
set_option maxHeartbeats 40000000 in
set_option maxRecDepth 100000 in
theorem k_X16_part_v2 (l : Launch) (hlt : l.stackTraces = false) (dC : Nat → ClassId) (dI : Nat → Nat → Nat) (c0 : Int32) (sz : Nat) : Met l yX16_part ow_k_X16_part_v2 ({ frames := 0, cells := 0, slots := 0, locals := 0 }) (va_Pc [.int c0, .int 5, .int 7] (fun U => U.heap.size = sz ∧ va_P (dC, dI) vwCl [] U.heap ∧ va_K (dC, dI) vwCl [] U ∧ va_D (fun _ => True) [] ∧ nv_E (va_A [] sz) U)) (va_Qi (fun r _ => (r = ((((c0 : Int32).toUInt32 >>> ((5 : Int32).toUInt32 &&& Int32.toUInt32 31)).toInt32) &&& 127)) ∨ False) (fun (_ : Unit) t => va_P (dC, dI) vwCl [] t.heap ∧ va_K (dC, dI) vwCl [] t ∧ va_D (va_A [] sz) []) (va_A [] sz)) 0 0 (va_A [] sz) := by
  refine Met.ofW (cc := cX16_part) (maxL := 3) (ret := (some .int)) (by decide) rfl ?_
  intro p e s m args below meth c s₁ B hml hv
  obtain ⟨rfl, hsz, hP, hK, hD0, hN⟩ := hv
  have hx := B.exec
  have hb := B.bytes
  have hr := B.returns
  have hts := atoms_spec (ws := ow_k_X16_part_v2) B.pre
  have hown : s.vm.findClass RX16 = some m.cls := findClass_of_methodNamed B.named
  have hlocks := B.notSynchronized
  subst hsz
  have hD := hD0.self (sz := s.heap.size)
  generalize hAe : va_A [] s.heap.size = A at hD hN ⊢
  have hA : ∀ q : Nat, s.heap.size ≤ q → A q := fun q h => by rw [← hAe]; exact Or.inr h
  have hS : va_S A s.heap s.heap [] := va_S.rf
  have hl := lv_entry ([.int c0, .int 5, .int 7]) (n := 3) (Nat.le_of_ble_eq_true rfl)
  rw [lg_entry_eq]
  generalize (lg_sl ([.int c0, .int 5, .int 7]) ++ List.replicate (3 - (lg_sl ([.int c0, .int 5, .int 7])).length) Slot.unset).toArray = ls at hl ⊢
  have hl : lv_has ls 3 [(0, .int c0), (1, .int 5), (2, .int 7)] := hl
  refine lv_iload_n hx hb dX16_part_0 rfl (lv_at hl 0 rfl) ?_
  refine lv_iload_n hx hb dX16_part_1 rfl (lv_at hl 1 rfl) ?_
  refine lv_iushr hx hb dX16_part_2 rfl ?_
  refine lv_iconst (v := 1) hx hb dX16_part_3 (by decide) ?_
  refine lv_iload_n hx hb dX16_part_4 rfl (lv_at hl 2 rfl) ?_
  refine lv_ishl hx hb dX16_part_5 ?_
  refine lv_topi (fun z1 ez1 => ?_)
  obtain rfl : z1 = 128 := ez1.trans (by decide)
  refine lv_iconst (v := 1) hx hb dX16_part_6 (by decide) ?_
  refine lv_isub hx hb dX16_part_7 ?_
  refine lv_topi (fun z2 ez2 => ?_)
  obtain rfl : z2 = 127 := ez2.trans (by decide)
  refine lv_iand hx hb dX16_part_8 ?_
  refine W.widen (k := 0) (n := 0) (by decide +kernel) (by decide +kernel) ?_
  exact W.iret (v := ((((c0 : Int32).toUInt32 >>> ((5 : Int32).toUInt32 &&& Int32.toUInt32 31)).toInt32) &&& 127)) hx hb hr (fun t ht hW => ⟨⟨((((c0 : Int32).toUInt32 >>> ((5 : Int32).toUInt32 &&& Int32.toUInt32 31)).toInt32) &&& 127), (), rfl, Or.inl rfl, by rw [ht]; exact hP, va_K.moved hW.alike hK, hD⟩, hS.F ht⟩) hS.2.2 dX16_part_9
def ow_k_X16_bit_v1 : List Cond := .code yX16_bit cX16_bit 4 (some .int) :: ([.methodLink RX16 297 yX16_part, .static yX16_part, .initialized RX16] ++ (ow_k_X16_part_v2 ++ []))
theorem gd_k_X16_bit_v1 : ∀ w ∈ ow_k_X16_bit_v1, (w.onTables && w.keeps) = true ∨ ∃ ty, w = Cond.arrayClass ty := List.forall_mem_cons.mpr ⟨good_of_word rfl, List.forall_mem_append.mpr ⟨fun w h => good_of_word (List.all_eq_true.mp (by decide +kernel) w h), List.forall_mem_append.mpr ⟨gd_k_X16_part_v2, fun _ h => nomatch h⟩⟩⟩
theorem gi_k_X16_bit_v1_0 : GoodIn ow_k_X16_bit_v1 (wsS RX16 297 yX16_part ow_k_X16_part_v2) := goodIn_app (goodIn_of _ (by decide +kernel)) (fun w h => ⟨List.mem_cons_of_mem _ (List.mem_append_right _ (List.mem_append_left _ h)), gd_k_X16_part_v2 w h⟩)
set_option maxHeartbeats 40000000 in
set_option maxRecDepth 100000 in
theorem k_X16_bit_v1 (l : Launch) (hlt : l.stackTraces = false) (dC : Nat → ClassId) (dI : Nat → Nat → Nat) (c0 : Int32) (sz : Nat) : Met l yX16_bit ow_k_X16_bit_v1 ({ frames := 1, cells := 0, slots := 0, locals := 22 }) (va_Pc [.int c0, .int 5, .int 7, .int 25] (fun U => U.heap.size = sz ∧ va_P (dC, dI) vwCl [] U.heap ∧ va_K (dC, dI) vwCl [] U ∧ va_D (fun _ => True) [] ∧ nv_E (va_A [] sz) U)) (va_Qi (fun r _ => (r = ((((((c0 : Int32).toUInt32 >>> ((5 : Int32).toUInt32 &&& Int32.toUInt32 31)).toInt32) &&& 127) : Int32) <<< ((25 : Int32) &&& 31))) ∨ False) (fun (_ : Unit) t => va_P (dC, dI) vwCl [] t.heap ∧ va_K (dC, dI) vwCl [] t ∧ va_D (va_A [] sz) []) (va_A [] sz)) 0 0 (va_A [] sz) := by
  refine Met.ofW (cc := cX16_bit) (maxL := 4) (ret := (some .int)) (by decide) rfl ?_
  intro p e s m args below meth c s₁ B hml hv
  obtain ⟨rfl, hsz, hP, hK, hD0, hN⟩ := hv
  have hx := B.exec
  have hb := B.bytes
  have hr := B.returns
  have hts := atoms_spec (ws := ow_k_X16_bit_v1) B.pre
  have hown : s.vm.findClass RX16 = some m.cls := findClass_of_methodNamed B.named
  have hlocks := B.notSynchronized
  subst hsz
  have hD := hD0.self (sz := s.heap.size)
  generalize hAe : va_A [] s.heap.size = A at hD hN ⊢
  have hA : ∀ q : Nat, s.heap.size ≤ q → A q := fun q h => by rw [← hAe]; exact Or.inr h
  have hS : va_S A s.heap s.heap [] := va_S.rf
  have hl := lv_entry ([.int c0, .int 5, .int 7, .int 25]) (n := 4) (Nat.le_of_ble_eq_true rfl)
  rw [lg_entry_eq]
  generalize (lg_sl ([.int c0, .int 5, .int 7, .int 25]) ++ List.replicate (4 - (lg_sl ([.int c0, .int 5, .int 7, .int 25])).length) Slot.unset).toArray = ls at hl ⊢
  have hl : lv_has ls 4 [(0, .int c0), (1, .int 5), (2, .int 7), (3, .int 25)] := hl
  refine lv_iload_n hx hb dX16_bit_0 rfl (lv_at hl 0 rfl) ?_
  refine lv_iload_n hx hb dX16_bit_1 rfl (lv_at hl 1 rfl) ?_
  refine lv_iload_n hx hb dX16_bit_2 rfl (lv_at hl 2 rfl) ?_
  have hPc := hP.sub (ws' := []) [] rfl
  have hDc := hD.sub (ws' := []) [] (by decide) rfl
  have hKc := hK.sub (tys' := []) [] rfl
  have hFc := va_free (wc := []) hD hS hA [] rfl
  refine va_calli (va_runS (As := [.int c0, .int 5, .int 7]) (rest := []) ⟨hx, hb, hml, hown, hts⟩ (k_X16_part_v2 l hlt dC dI c0  s.heap.size) (cwS 3 hts gi_k_X16_bit_v1_0 rfl rfl rfl (by decide +kernel) ⟨Nat.le_of_ble_eq_true rfl, Nat.le_of_ble_eq_true rfl⟩) ⟨fun a U g mk q => by obtain ⟨q0, q1, qP, qK, qD, qN⟩ := q; exact ⟨q0, q1, qP, va_K.moved (u := U) (U := U.calling g mk a) (Vm.Alike.refl U.vm) qK, qD, nv_same rfl rfl qN⟩, fun U hU hW => ⟨rfl, by rw [hU], by rw [hU]; exact hPc, va_K.moved hW.alike hKc, hDc.weaken (fun _ _ _ _ => trivial), nv_call hS hFc hU hW hN⟩⟩ rfl rfl hl.1 rfl (lv_room (Nat.le_of_ble_eq_true rfl)) dX16_bit_3 ⟨by decide +kernel, by decide +kernel⟩) hS (fun q _ h => hFc q h) hFc (fun r1 u t H1 locs ht hvm hw hB hz1 hk1 hS => ?_)
  obtain ⟨hP1, hK1, hD1⟩ := hB
  rw [ht] at hP1
  have hK1 := va_K.moved hvm.symm hK1
  obtain ⟨hP, hD⟩ := va_join (wr := []) (w1 := []) hP hD [] [] rfl rfl (by decide) (by decide) hk1 hFc hP1 hD1
  have hK := (hK.sub (tys' := []) [] rfl).app hK1
  generalize H1 = H at hP hS ⊢
  have hP : va_P (dC, dI) vwCl [] H := hP
  have hD : va_D A [] := hD
  have hK : va_K (dC, dI) vwCl [] s := hK
  refine W.widen (k := 0) (n := 0) (by decide +kernel) (by decide +kernel) ?_
  rcases hw with h9 | h9
  · subst h9
    refine lv_iload_n hx hb dX16_bit_6 rfl (lv_at hl 3 rfl) ?_
    refine lv_ishl hx hb dX16_bit_7 ?_
    refine W.widen (k := 0) (n := 0) (by decide +kernel) (by decide +kernel) ?_
    exact W.iret (v := ((((((c0 : Int32).toUInt32 >>> ((5 : Int32).toUInt32 &&& Int32.toUInt32 31)).toInt32) &&& 127) : Int32) <<< ((25 : Int32) &&& 31))) hx hb hr (fun t ht hW => ⟨⟨((((((c0 : Int32).toUInt32 >>> ((5 : Int32).toUInt32 &&& Int32.toUInt32 31)).toInt32) &&& 127) : Int32) <<< ((25 : Int32) &&& 31)), (), rfl, Or.inl rfl, by rw [ht]; exact hP, va_K.moved hW.alike hK, hD⟩, hS.F ht⟩) hS.2.2 dX16_bit_8
  · exact h9.elim
def ow_g_X16_storing : List Cond := .code yX16_storing cX16_storing 3 (some .int) :: ([.methodLink RX16 300 yX16_bit, .static yX16_bit, .initialized RX16] ++ (ow_k_X16_bit ++ (ow_k_X16_bit_v1 ++ [])))
theorem gd_g_X16_storing : ∀ w ∈ ow_g_X16_storing, (w.onTables && w.keeps) = true ∨ ∃ ty, w = Cond.arrayClass ty := List.forall_mem_cons.mpr ⟨good_of_word rfl, List.forall_mem_append.mpr ⟨fun w h => good_of_word (List.all_eq_true.mp (by decide +kernel) w h), List.forall_mem_append.mpr ⟨gd_k_X16_bit, List.forall_mem_append.mpr ⟨gd_k_X16_bit_v1, fun _ h => nomatch h⟩⟩⟩⟩
theorem gi_g_X16_storing_0 : GoodIn ow_g_X16_storing (wsS RX16 300 yX16_bit ow_k_X16_bit) := goodIn_app (goodIn_of _ (by decide +kernel)) (fun w h => ⟨List.mem_cons_of_mem _ (List.mem_append_right _ (List.mem_append_left _ h)), gd_k_X16_bit w h⟩)
theorem gi_g_X16_storing_1 : GoodIn ow_g_X16_storing (wsS RX16 300 yX16_bit ow_k_X16_bit_v1) := goodIn_app (goodIn_of _ (by decide +kernel)) (fun w h => ⟨List.mem_cons_of_mem _ (List.mem_append_right _ (List.mem_append_right _ (List.mem_append_left _ h))), gd_k_X16_bit_v1 w h⟩)
set_option maxHeartbeats 40000000 in
set_option maxRecDepth 100000 in
theorem g_X16_storing (l : Launch) (hlt : l.stackTraces = false) (dC : Nat → ClassId) (dI : Nat → Nat → Nat) (v0 : Int32) (v1 : Int32) (v2 : Int32) (sz : Nat) : Met l yX16_storing ow_g_X16_storing ({ frames := 2, cells := 0, slots := 0, locals := 45 }) (va_Pc [.int v0, .int v1, .int v2] (fun U => U.heap.size = sz ∧ va_P (dC, dI) vwCl [] U.heap ∧ va_K (dC, dI) vwCl [] U ∧ va_D (fun _ => True) [] ∧ nv_E (va_A [] sz) U)) (va_Qi (fun r _ => (r = (((((35 ||| ((((((v2 : Int32).toUInt32 >>> ((0 : Int32).toUInt32 &&& Int32.toUInt32 31)).toInt32) &&& 31) : Int32) <<< ((7 : Int32) &&& 31))) ||| 8192) ||| ((v0 : Int32) <<< ((15 : Int32) &&& 31))) ||| ((v1 : Int32) <<< ((20 : Int32) &&& 31))) ||| ((((((v2 : Int32).toUInt32 >>> ((5 : Int32).toUInt32 &&& Int32.toUInt32 31)).toInt32) &&& 127) : Int32) <<< ((25 : Int32) &&& 31)))) ∨ False) (fun (_ : Unit) t => va_P (dC, dI) vwCl [] t.heap ∧ va_K (dC, dI) vwCl [] t ∧ va_D (va_A [] sz) []) (va_A [] sz)) 0 0 (va_A [] sz) := by
  refine Met.ofW (cc := cX16_storing) (maxL := 3) (ret := (some .int)) (by decide) rfl ?_
  intro p e s m args below meth c s₁ B hml hv
  obtain ⟨rfl, hsz, hP, hK, hD0, hN⟩ := hv
  have hx := B.exec
  have hb := B.bytes
  have hr := B.returns
  have hts := atoms_spec (ws := ow_g_X16_storing) B.pre
  have hown : s.vm.findClass RX16 = some m.cls := findClass_of_methodNamed B.named
  have hlocks := B.notSynchronized
  subst hsz
  have hD := hD0.self (sz := s.heap.size)
  generalize hAe : va_A [] s.heap.size = A at hD hN ⊢
  have hA : ∀ q : Nat, s.heap.size ≤ q → A q := fun q h => by rw [← hAe]; exact Or.inr h
  have hS : va_S A s.heap s.heap [] := va_S.rf
  have hl := lv_entry ([.int v0, .int v1, .int v2]) (n := 3) (Nat.le_of_ble_eq_true rfl)
  rw [lg_entry_eq]
  generalize (lg_sl ([.int v0, .int v1, .int v2]) ++ List.replicate (3 - (lg_sl ([.int v0, .int v1, .int v2])).length) Slot.unset).toArray = ls at hl ⊢
  have hl : lv_has ls 3 [(0, .int v0), (1, .int v1), (2, .int v2)] := hl
  refine lv_bipush (v := 35) hx hb dX16_storing_0 (by decide) ?_
  refine lv_iload_n hx hb dX16_storing_2 rfl (lv_at hl 2 rfl) ?_
  refine lv_iconst (v := 0) hx hb dX16_storing_3 (by decide) ?_
  refine lv_iconst (v := 5) hx hb dX16_storing_4 (by decide) ?_
  refine lv_bipush (v := 7) hx hb dX16_storing_5 (by decide) ?_
  have hPc := hP.sub (ws' := []) [] rfl
  have hDc := hD.sub (ws' := []) [] (by decide) rfl
  have hKc := hK.sub (tys' := []) [] rfl
  have hFc := va_free (wc := []) hD hS hA [] rfl
  refine va_calli (va_runS (As := [.int v2, .int 0, .int 5, .int 7]) (rest := [.int 35]) ⟨hx, hb, hml, hown, hts⟩ (k_X16_bit l hlt dC dI v2  s.heap.size) (cwS 4 hts gi_g_X16_storing_0 rfl rfl rfl (by decide +kernel) ⟨Nat.le_of_ble_eq_true rfl, Nat.le_of_ble_eq_true rfl⟩) ⟨fun a U g mk q => by obtain ⟨q0, q1, qP, qK, qD, qN⟩ := q; exact ⟨q0, q1, qP, va_K.moved (u := U) (U := U.calling g mk a) (Vm.Alike.refl U.vm) qK, qD, nv_same rfl rfl qN⟩, fun U hU hW => ⟨rfl, by rw [hU], by rw [hU]; exact hPc, va_K.moved hW.alike hKc, hDc.weaken (fun _ _ _ _ => trivial), nv_call hS hFc hU hW hN⟩⟩ rfl rfl hl.1 rfl (lv_room (Nat.le_of_ble_eq_true rfl)) dX16_storing_7 ⟨by decide +kernel, by decide +kernel⟩) hS (fun q _ h => hFc q h) hFc (fun r1 u t H1 locs ht hvm hw hB hz1 hk1 hS => ?_)
  obtain ⟨hP1, hK1, hD1⟩ := hB
  rw [ht] at hP1
  have hK1 := va_K.moved hvm.symm hK1
  obtain ⟨hP, hD⟩ := va_join (wr := []) (w1 := []) hP hD [] [] rfl rfl (by decide) (by decide) hk1 hFc hP1 hD1
  have hK := (hK.sub (tys' := []) [] rfl).app hK1
  generalize H1 = H at hP hS ⊢
  have hP : va_P (dC, dI) vwCl [] H := hP
  have hD : va_D A [] := hD
  have hK : va_K (dC, dI) vwCl [] s := hK
  refine W.widen (k := 0) (n := 0) (by decide +kernel) (by decide +kernel) ?_
  rcases hw with h9 | h9
  · subst h9
    refine lv_ior hx hb dX16_storing_10 ?_
    refine lv_sipush (v := 8192) hx hb dX16_storing_11 (by decide) ?_
    refine lv_ior hx hb dX16_storing_14 ?_
    refine lv_iload_n hx hb dX16_storing_15 rfl (lv_at hl 0 rfl) ?_
    refine lv_bipush (v := 15) hx hb dX16_storing_16 (by decide) ?_
    refine lv_ishl hx hb dX16_storing_18 ?_
    refine lv_ior hx hb dX16_storing_19 ?_
    refine lv_iload_n hx hb dX16_storing_20 rfl (lv_at hl 1 rfl) ?_
    refine lv_bipush (v := 20) hx hb dX16_storing_21 (by decide) ?_
    refine lv_ishl hx hb dX16_storing_23 ?_
    refine lv_ior hx hb dX16_storing_24 ?_
    refine lv_iload_n hx hb dX16_storing_25 rfl (lv_at hl 2 rfl) ?_
    refine lv_iconst (v := 5) hx hb dX16_storing_26 (by decide) ?_
    refine lv_bipush (v := 7) hx hb dX16_storing_27 (by decide) ?_
    refine lv_bipush (v := 25) hx hb dX16_storing_29 (by decide) ?_
    have hPc := hP.sub (ws' := []) [] rfl
    have hDc := hD.sub (ws' := []) [] (by decide) rfl
    have hKc := hK.sub (tys' := []) [] rfl
    have hFc := va_free (wc := []) hD hS hA [] rfl
    refine va_calli (va_runS (As := [.int v2, .int 5, .int 7, .int 25]) (rest := [.int ((((35 ||| ((((((v2 : Int32).toUInt32 >>> ((0 : Int32).toUInt32 &&& Int32.toUInt32 31)).toInt32) &&& 31) : Int32) <<< ((7 : Int32) &&& 31))) ||| 8192) ||| ((v0 : Int32) <<< ((15 : Int32) &&& 31))) ||| ((v1 : Int32) <<< ((20 : Int32) &&& 31)))]) ⟨hx, hb, hml, hown, hts⟩ (k_X16_bit_v1 l hlt dC dI v2  H.size) (cwS 4 hts gi_g_X16_storing_1 rfl rfl rfl (by decide +kernel) ⟨Nat.le_of_ble_eq_true rfl, Nat.le_of_ble_eq_true rfl⟩) ⟨fun a U g mk q => by obtain ⟨q0, q1, qP, qK, qD, qN⟩ := q; exact ⟨q0, q1, qP, va_K.moved (u := U) (U := U.calling g mk a) (Vm.Alike.refl U.vm) qK, qD, nv_same rfl rfl qN⟩, fun U hU hW => ⟨rfl, by rw [hU], by rw [hU]; exact hPc, va_K.moved hW.alike hKc, hDc.weaken (fun _ _ _ _ => trivial), nv_call hS hFc hU hW hN⟩⟩ rfl rfl hl.1 rfl (lv_room (Nat.le_of_ble_eq_true rfl)) dX16_storing_31 ⟨by decide +kernel, by decide +kernel⟩) hS (fun q _ h => hFc q h) hFc (fun r2 u t H1 locs ht hvm hw hB hz1 hk1 hS => ?_)
    obtain ⟨hP1, hK1, hD1⟩ := hB
    rw [ht] at hP1
    have hK1 := va_K.moved hvm.symm hK1
    obtain ⟨hP, hD⟩ := va_join (wr := []) (w1 := []) hP hD [] [] rfl rfl (by decide) (by decide) hk1 hFc hP1 hD1
    have hK := (hK.sub (tys' := []) [] rfl).app hK1
    generalize H1 = H at hP hS ⊢
    have hP : va_P (dC, dI) vwCl [] H := hP
    have hD : va_D A [] := hD
    have hK : va_K (dC, dI) vwCl [] s := hK
    refine W.widen (k := 0) (n := 0) (by decide +kernel) (by decide +kernel) ?_
    rcases hw with h9 | h9
    · subst h9
      refine lv_ior hx hb dX16_storing_34 ?_
      refine W.widen (k := 0) (n := 0) (by decide +kernel) (by decide +kernel) ?_
      exact W.iret (v := (((((35 ||| ((((((v2 : Int32).toUInt32 >>> ((0 : Int32).toUInt32 &&& Int32.toUInt32 31)).toInt32) &&& 31) : Int32) <<< ((7 : Int32) &&& 31))) ||| 8192) ||| ((v0 : Int32) <<< ((15 : Int32) &&& 31))) ||| ((v1 : Int32) <<< ((20 : Int32) &&& 31))) ||| ((((((v2 : Int32).toUInt32 >>> ((5 : Int32).toUInt32 &&& Int32.toUInt32 31)).toInt32) &&& 127) : Int32) <<< ((25 : Int32) &&& 31)))) hx hb hr (fun t ht hW => ⟨⟨(((((35 ||| ((((((v2 : Int32).toUInt32 >>> ((0 : Int32).toUInt32 &&& Int32.toUInt32 31)).toInt32) &&& 31) : Int32) <<< ((7 : Int32) &&& 31))) ||| 8192) ||| ((v0 : Int32) <<< ((15 : Int32) &&& 31))) ||| ((v1 : Int32) <<< ((20 : Int32) &&& 31))) ||| ((((((v2 : Int32).toUInt32 >>> ((5 : Int32).toUInt32 &&& Int32.toUInt32 31)).toInt32) &&& 127) : Int32) <<< ((25 : Int32) &&& 31))), (), rfl, Or.inl rfl, by rw [ht]; exact hP, va_K.moved hW.alike hK, hD⟩, hS.F ht⟩) hS.2.2 dX16_storing_35
    · exact h9.elim
  · exact h9.elim
def ow_k_X16_part_v3 : List Cond := .code yX16_part cX16_part 3 (some .int) :: ([] ++ [])
theorem gd_k_X16_part_v3 : ∀ w ∈ ow_k_X16_part_v3, (w.onTables && w.keeps) = true ∨ ∃ ty, w = Cond.arrayClass ty := List.forall_mem_cons.mpr ⟨good_of_word rfl, List.forall_mem_append.mpr ⟨fun w h => good_of_word (List.all_eq_true.mp (by decide +kernel) w h), fun _ h => nomatch h⟩⟩
set_option maxHeartbeats 40000000 in
set_option maxRecDepth 100000 in
theorem k_X16_part_v3 (l : Launch) (hlt : l.stackTraces = false) (dC : Nat → ClassId) (dI : Nat → Nat → Nat) (c0 : Int32) (sz : Nat) : Met l yX16_part ow_k_X16_part_v3 ({ frames := 0, cells := 0, slots := 0, locals := 0 }) (va_Pc [.int c0, .int 12, .int 8] (fun U => U.heap.size = sz ∧ va_P (dC, dI) vwCl [] U.heap ∧ va_K (dC, dI) vwCl [] U ∧ va_D (fun _ => True) [] ∧ nv_E (va_A [] sz) U)) (va_Qi (fun r _ => (r = ((((c0 : Int32).toUInt32 >>> ((12 : Int32).toUInt32 &&& Int32.toUInt32 31)).toInt32) &&& 255)) ∨ False) (fun (_ : Unit) t => va_P (dC, dI) vwCl [] t.heap ∧ va_K (dC, dI) vwCl [] t ∧ va_D (va_A [] sz) []) (va_A [] sz)) 0 0 (va_A [] sz) := by
  refine Met.ofW (cc := cX16_part) (maxL := 3) (ret := (some .int)) (by decide) rfl ?_
  intro p e s m args below meth c s₁ B hml hv
  obtain ⟨rfl, hsz, hP, hK, hD0, hN⟩ := hv
  have hx := B.exec
  have hb := B.bytes
  have hr := B.returns
  have hts := atoms_spec (ws := ow_k_X16_part_v3) B.pre
  have hown : s.vm.findClass RX16 = some m.cls := findClass_of_methodNamed B.named
  have hlocks := B.notSynchronized
  subst hsz
  have hD := hD0.self (sz := s.heap.size)
  generalize hAe : va_A [] s.heap.size = A at hD hN ⊢
  have hA : ∀ q : Nat, s.heap.size ≤ q → A q := fun q h => by rw [← hAe]; exact Or.inr h
  have hS : va_S A s.heap s.heap [] := va_S.rf
  have hl := lv_entry ([.int c0, .int 12, .int 8]) (n := 3) (Nat.le_of_ble_eq_true rfl)
  rw [lg_entry_eq]
  generalize (lg_sl ([.int c0, .int 12, .int 8]) ++ List.replicate (3 - (lg_sl ([.int c0, .int 12, .int 8])).length) Slot.unset).toArray = ls at hl ⊢
  have hl : lv_has ls 3 [(0, .int c0), (1, .int 12), (2, .int 8)] := hl
  refine lv_iload_n hx hb dX16_part_0 rfl (lv_at hl 0 rfl) ?_
  refine lv_iload_n hx hb dX16_part_1 rfl (lv_at hl 1 rfl) ?_
  refine lv_iushr hx hb dX16_part_2 rfl ?_
  refine lv_iconst (v := 1) hx hb dX16_part_3 (by decide) ?_
  refine lv_iload_n hx hb dX16_part_4 rfl (lv_at hl 2 rfl) ?_
  refine lv_ishl hx hb dX16_part_5 ?_
  refine lv_topi (fun z1 ez1 => ?_)
  obtain rfl : z1 = 256 := ez1.trans (by decide)
  refine lv_iconst (v := 1) hx hb dX16_part_6 (by decide) ?_
  refine lv_isub hx hb dX16_part_7 ?_
  refine lv_topi (fun z2 ez2 => ?_)
  obtain rfl : z2 = 255 := ez2.trans (by decide)
  refine lv_iand hx hb dX16_part_8 ?_
  refine W.widen (k := 0) (n := 0) (by decide +kernel) (by decide +kernel) ?_
  exact W.iret (v := ((((c0 : Int32).toUInt32 >>> ((12 : Int32).toUInt32 &&& Int32.toUInt32 31)).toInt32) &&& 255)) hx hb hr (fun t ht hW => ⟨⟨((((c0 : Int32).toUInt32 >>> ((12 : Int32).toUInt32 &&& Int32.toUInt32 31)).toInt32) &&& 255), (), rfl, Or.inl rfl, by rw [ht]; exact hP, va_K.moved hW.alike hK, hD⟩, hS.F ht⟩) hS.2.2 dX16_part_9
def ow_k_X16_bit_v2 : List Cond := .code yX16_bit cX16_bit 4 (some .int) :: ([.methodLink RX16 297 yX16_part, .static yX16_part, .initialized RX16] ++ (ow_k_X16_part_v3 ++ []))
theorem gd_k_X16_bit_v2 : ∀ w ∈ ow_k_X16_bit_v2, (w.onTables && w.keeps) = true ∨ ∃ ty, w = Cond.arrayClass ty := List.forall_mem_cons.mpr ⟨good_of_word rfl, List.forall_mem_append.mpr ⟨fun w h => good_of_word (List.all_eq_true.mp (by decide +kernel) w h), List.forall_mem_append.mpr ⟨gd_k_X16_part_v3, fun _ h => nomatch h⟩⟩⟩
theorem gi_k_X16_bit_v2_0 : GoodIn ow_k_X16_bit_v2 (wsS RX16 297 yX16_part ow_k_X16_part_v3) := goodIn_app (goodIn_of _ (by decide +kernel)) (fun w h => ⟨List.mem_cons_of_mem _ (List.mem_append_right _ (List.mem_append_left _ h)), gd_k_X16_part_v3 w h⟩)
set_option maxHeartbeats 40000000 in
set_option maxRecDepth 100000 in
theorem k_X16_bit_v2 (l : Launch) (hlt : l.stackTraces = false) (dC : Nat → ClassId) (dI : Nat → Nat → Nat) (c0 : Int32) (sz : Nat) : Met l yX16_bit ow_k_X16_bit_v2 ({ frames := 1, cells := 0, slots := 0, locals := 22 }) (va_Pc [.int c0, .int 12, .int 8, .int 12] (fun U => U.heap.size = sz ∧ va_P (dC, dI) vwCl [] U.heap ∧ va_K (dC, dI) vwCl [] U ∧ va_D (fun _ => True) [] ∧ nv_E (va_A [] sz) U)) (va_Qi (fun r _ => (r = ((((((c0 : Int32).toUInt32 >>> ((12 : Int32).toUInt32 &&& Int32.toUInt32 31)).toInt32) &&& 255) : Int32) <<< ((12 : Int32) &&& 31))) ∨ False) (fun (_ : Unit) t => va_P (dC, dI) vwCl [] t.heap ∧ va_K (dC, dI) vwCl [] t ∧ va_D (va_A [] sz) []) (va_A [] sz)) 0 0 (va_A [] sz) := by
  refine Met.ofW (cc := cX16_bit) (maxL := 4) (ret := (some .int)) (by decide) rfl ?_
  intro p e s m args below meth c s₁ B hml hv
  obtain ⟨rfl, hsz, hP, hK, hD0, hN⟩ := hv
  have hx := B.exec
  have hb := B.bytes
  have hr := B.returns
  have hts := atoms_spec (ws := ow_k_X16_bit_v2) B.pre
  have hown : s.vm.findClass RX16 = some m.cls := findClass_of_methodNamed B.named
  have hlocks := B.notSynchronized
  subst hsz
  have hD := hD0.self (sz := s.heap.size)
  generalize hAe : va_A [] s.heap.size = A at hD hN ⊢
  have hA : ∀ q : Nat, s.heap.size ≤ q → A q := fun q h => by rw [← hAe]; exact Or.inr h
  have hS : va_S A s.heap s.heap [] := va_S.rf
  have hl := lv_entry ([.int c0, .int 12, .int 8, .int 12]) (n := 4) (Nat.le_of_ble_eq_true rfl)
  rw [lg_entry_eq]
  generalize (lg_sl ([.int c0, .int 12, .int 8, .int 12]) ++ List.replicate (4 - (lg_sl ([.int c0, .int 12, .int 8, .int 12])).length) Slot.unset).toArray = ls at hl ⊢
  have hl : lv_has ls 4 [(0, .int c0), (1, .int 12), (2, .int 8), (3, .int 12)] := hl
  refine lv_iload_n hx hb dX16_bit_0 rfl (lv_at hl 0 rfl) ?_
  refine lv_iload_n hx hb dX16_bit_1 rfl (lv_at hl 1 rfl) ?_
  refine lv_iload_n hx hb dX16_bit_2 rfl (lv_at hl 2 rfl) ?_
  have hPc := hP.sub (ws' := []) [] rfl
  have hDc := hD.sub (ws' := []) [] (by decide) rfl
  have hKc := hK.sub (tys' := []) [] rfl
  have hFc := va_free (wc := []) hD hS hA [] rfl
  refine va_calli (va_runS (As := [.int c0, .int 12, .int 8]) (rest := []) ⟨hx, hb, hml, hown, hts⟩ (k_X16_part_v3 l hlt dC dI c0  s.heap.size) (cwS 3 hts gi_k_X16_bit_v2_0 rfl rfl rfl (by decide +kernel) ⟨Nat.le_of_ble_eq_true rfl, Nat.le_of_ble_eq_true rfl⟩) ⟨fun a U g mk q => by obtain ⟨q0, q1, qP, qK, qD, qN⟩ := q; exact ⟨q0, q1, qP, va_K.moved (u := U) (U := U.calling g mk a) (Vm.Alike.refl U.vm) qK, qD, nv_same rfl rfl qN⟩, fun U hU hW => ⟨rfl, by rw [hU], by rw [hU]; exact hPc, va_K.moved hW.alike hKc, hDc.weaken (fun _ _ _ _ => trivial), nv_call hS hFc hU hW hN⟩⟩ rfl rfl hl.1 rfl (lv_room (Nat.le_of_ble_eq_true rfl)) dX16_bit_3 ⟨by decide +kernel, by decide +kernel⟩) hS (fun q _ h => hFc q h) hFc (fun r1 u t H1 locs ht hvm hw hB hz1 hk1 hS => ?_)
  obtain ⟨hP1, hK1, hD1⟩ := hB
  rw [ht] at hP1
  have hK1 := va_K.moved hvm.symm hK1
  obtain ⟨hP, hD⟩ := va_join (wr := []) (w1 := []) hP hD [] [] rfl rfl (by decide) (by decide) hk1 hFc hP1 hD1
  have hK := (hK.sub (tys' := []) [] rfl).app hK1
  generalize H1 = H at hP hS ⊢
  have hP : va_P (dC, dI) vwCl [] H := hP
  have hD : va_D A [] := hD
  have hK : va_K (dC, dI) vwCl [] s := hK
  refine W.widen (k := 0) (n := 0) (by decide +kernel) (by decide +kernel) ?_
  rcases hw with h9 | h9
  · subst h9
    refine lv_iload_n hx hb dX16_bit_6 rfl (lv_at hl 3 rfl) ?_
    refine lv_ishl hx hb dX16_bit_7 ?_
    refine W.widen (k := 0) (n := 0) (by decide +kernel) (by decide +kernel) ?_
    exact W.iret (v := ((((((c0 : Int32).toUInt32 >>> ((12 : Int32).toUInt32 &&& Int32.toUInt32 31)).toInt32) &&& 255) : Int32) <<< ((12 : Int32) &&& 31))) hx hb hr (fun t ht hW => ⟨⟨((((((c0 : Int32).toUInt32 >>> ((12 : Int32).toUInt32 &&& Int32.toUInt32 31)).toInt32) &&& 255) : Int32) <<< ((12 : Int32) &&& 31)), (), rfl, Or.inl rfl, by rw [ht]; exact hP, va_K.moved hW.alike hK, hD⟩, hS.F ht⟩) hS.2.2 dX16_bit_8
  · exact h9.elim
def ow_k_X16_part_v4 : List Cond := .code yX16_part cX16_part 3 (some .int) :: ([] ++ [])
theorem gd_k_X16_part_v4 : ∀ w ∈ ow_k_X16_part_v4, (w.onTables && w.keeps) = true ∨ ∃ ty, w = Cond.arrayClass ty := List.forall_mem_cons.mpr ⟨good_of_word rfl, List.forall_mem_append.mpr ⟨fun w h => good_of_word (List.all_eq_true.mp (by decide +kernel) w h), fun _ h => nomatch h⟩⟩
set_option maxHeartbeats 40000000 in
set_option maxRecDepth 100000 in
theorem k_X16_part_v4 (l : Launch) (hlt : l.stackTraces = false) (dC : Nat → ClassId) (dI : Nat → Nat → Nat) (c0 : Int32) (sz : Nat) : Met l yX16_part ow_k_X16_part_v4 ({ frames := 0, cells := 0, slots := 0, locals := 0 }) (va_Pc [.int c0, .int 11, .int 1] (fun U => U.heap.size = sz ∧ va_P (dC, dI) vwCl [] U.heap ∧ va_K (dC, dI) vwCl [] U ∧ va_D (fun _ => True) [] ∧ nv_E (va_A [] sz) U)) (va_Qi (fun r _ => (r = ((((c0 : Int32).toUInt32 >>> ((11 : Int32).toUInt32 &&& Int32.toUInt32 31)).toInt32) &&& 1)) ∨ False) (fun (_ : Unit) t => va_P (dC, dI) vwCl [] t.heap ∧ va_K (dC, dI) vwCl [] t ∧ va_D (va_A [] sz) []) (va_A [] sz)) 0 0 (va_A [] sz) := by
  refine Met.ofW (cc := cX16_part) (maxL := 3) (ret := (some .int)) (by decide) rfl ?_
  intro p e s m args below meth c s₁ B hml hv
  obtain ⟨rfl, hsz, hP, hK, hD0, hN⟩ := hv
  have hx := B.exec
  have hb := B.bytes
  have hr := B.returns
  have hts := atoms_spec (ws := ow_k_X16_part_v4) B.pre
  have hown : s.vm.findClass RX16 = some m.cls := findClass_of_methodNamed B.named
  have hlocks := B.notSynchronized
  subst hsz
  have hD := hD0.self (sz := s.heap.size)
  generalize hAe : va_A [] s.heap.size = A at hD hN ⊢
  have hA : ∀ q : Nat, s.heap.size ≤ q → A q := fun q h => by rw [← hAe]; exact Or.inr h
  have hS : va_S A s.heap s.heap [] := va_S.rf
  have hl := lv_entry ([.int c0, .int 11, .int 1]) (n := 3) (Nat.le_of_ble_eq_true rfl)
  rw [lg_entry_eq]
  generalize (lg_sl ([.int c0, .int 11, .int 1]) ++ List.replicate (3 - (lg_sl ([.int c0, .int 11, .int 1])).length) Slot.unset).toArray = ls at hl ⊢
  have hl : lv_has ls 3 [(0, .int c0), (1, .int 11), (2, .int 1)] := hl
  refine lv_iload_n hx hb dX16_part_0 rfl (lv_at hl 0 rfl) ?_
  refine lv_iload_n hx hb dX16_part_1 rfl (lv_at hl 1 rfl) ?_
  refine lv_iushr hx hb dX16_part_2 rfl ?_
  refine lv_iconst (v := 1) hx hb dX16_part_3 (by decide) ?_
  refine lv_iload_n hx hb dX16_part_4 rfl (lv_at hl 2 rfl) ?_
  refine lv_ishl hx hb dX16_part_5 ?_
  refine lv_topi (fun z1 ez1 => ?_)
  obtain rfl : z1 = 2 := ez1.trans (by decide)
  refine lv_iconst (v := 1) hx hb dX16_part_6 (by decide) ?_
  refine lv_isub hx hb dX16_part_7 ?_
  refine lv_topi (fun z2 ez2 => ?_)
  obtain rfl : z2 = 1 := ez2.trans (by decide)
  refine lv_iand hx hb dX16_part_8 ?_
  refine W.widen (k := 0) (n := 0) (by decide +kernel) (by decide +kernel) ?_
  exact W.iret (v := ((((c0 : Int32).toUInt32 >>> ((11 : Int32).toUInt32 &&& Int32.toUInt32 31)).toInt32) &&& 1)) hx hb hr (fun t ht hW => ⟨⟨((((c0 : Int32).toUInt32 >>> ((11 : Int32).toUInt32 &&& Int32.toUInt32 31)).toInt32) &&& 1), (), rfl, Or.inl rfl, by rw [ht]; exact hP, va_K.moved hW.alike hK, hD⟩, hS.F ht⟩) hS.2.2 dX16_part_9
def ow_k_X16_bit_v3 : List Cond := .code yX16_bit cX16_bit 4 (some .int) :: ([.methodLink RX16 297 yX16_part, .static yX16_part, .initialized RX16] ++ (ow_k_X16_part_v4 ++ []))
theorem gd_k_X16_bit_v3 : ∀ w ∈ ow_k_X16_bit_v3, (w.onTables && w.keeps) = true ∨ ∃ ty, w = Cond.arrayClass ty := List.forall_mem_cons.mpr ⟨good_of_word rfl, List.forall_mem_append.mpr ⟨fun w h => good_of_word (List.all_eq_true.mp (by decide +kernel) w h), List.forall_mem_append.mpr ⟨gd_k_X16_part_v4, fun _ h => nomatch h⟩⟩⟩
theorem gi_k_X16_bit_v3_0 : GoodIn ow_k_X16_bit_v3 (wsS RX16 297 yX16_part ow_k_X16_part_v4) := goodIn_app (goodIn_of _ (by decide +kernel)) (fun w h => ⟨List.mem_cons_of_mem _ (List.mem_append_right _ (List.mem_append_left _ h)), gd_k_X16_part_v4 w h⟩)
set_option maxHeartbeats 40000000 in
set_option maxRecDepth 100000 in
theorem k_X16_bit_v3 (l : Launch) (hlt : l.stackTraces = false) (dC : Nat → ClassId) (dI : Nat → Nat → Nat) (c0 : Int32) (sz : Nat) : Met l yX16_bit ow_k_X16_bit_v3 ({ frames := 1, cells := 0, slots := 0, locals := 22 }) (va_Pc [.int c0, .int 11, .int 1, .int 20] (fun U => U.heap.size = sz ∧ va_P (dC, dI) vwCl [] U.heap ∧ va_K (dC, dI) vwCl [] U ∧ va_D (fun _ => True) [] ∧ nv_E (va_A [] sz) U)) (va_Qi (fun r _ => (r = ((((((c0 : Int32).toUInt32 >>> ((11 : Int32).toUInt32 &&& Int32.toUInt32 31)).toInt32) &&& 1) : Int32) <<< ((20 : Int32) &&& 31))) ∨ False) (fun (_ : Unit) t => va_P (dC, dI) vwCl [] t.heap ∧ va_K (dC, dI) vwCl [] t ∧ va_D (va_A [] sz) []) (va_A [] sz)) 0 0 (va_A [] sz) := by
  refine Met.ofW (cc := cX16_bit) (maxL := 4) (ret := (some .int)) (by decide) rfl ?_
  intro p e s m args below meth c s₁ B hml hv
  obtain ⟨rfl, hsz, hP, hK, hD0, hN⟩ := hv
  have hx := B.exec
  have hb := B.bytes
  have hr := B.returns
  have hts := atoms_spec (ws := ow_k_X16_bit_v3) B.pre
  have hown : s.vm.findClass RX16 = some m.cls := findClass_of_methodNamed B.named
  have hlocks := B.notSynchronized
  subst hsz
  have hD := hD0.self (sz := s.heap.size)
  generalize hAe : va_A [] s.heap.size = A at hD hN ⊢
  have hA : ∀ q : Nat, s.heap.size ≤ q → A q := fun q h => by rw [← hAe]; exact Or.inr h
  have hS : va_S A s.heap s.heap [] := va_S.rf
  have hl := lv_entry ([.int c0, .int 11, .int 1, .int 20]) (n := 4) (Nat.le_of_ble_eq_true rfl)
  rw [lg_entry_eq]
  generalize (lg_sl ([.int c0, .int 11, .int 1, .int 20]) ++ List.replicate (4 - (lg_sl ([.int c0, .int 11, .int 1, .int 20])).length) Slot.unset).toArray = ls at hl ⊢
  have hl : lv_has ls 4 [(0, .int c0), (1, .int 11), (2, .int 1), (3, .int 20)] := hl
  refine lv_iload_n hx hb dX16_bit_0 rfl (lv_at hl 0 rfl) ?_
  refine lv_iload_n hx hb dX16_bit_1 rfl (lv_at hl 1 rfl) ?_
  refine lv_iload_n hx hb dX16_bit_2 rfl (lv_at hl 2 rfl) ?_
  have hPc := hP.sub (ws' := []) [] rfl
  have hDc := hD.sub (ws' := []) [] (by decide) rfl
  have hKc := hK.sub (tys' := []) [] rfl
  have hFc := va_free (wc := []) hD hS hA [] rfl
  refine va_calli (va_runS (As := [.int c0, .int 11, .int 1]) (rest := []) ⟨hx, hb, hml, hown, hts⟩ (k_X16_part_v4 l hlt dC dI c0  s.heap.size) (cwS 3 hts gi_k_X16_bit_v3_0 rfl rfl rfl (by decide +kernel) ⟨Nat.le_of_ble_eq_true rfl, Nat.le_of_ble_eq_true rfl⟩) ⟨fun a U g mk q => by obtain ⟨q0, q1, qP, qK, qD, qN⟩ := q; exact ⟨q0, q1, qP, va_K.moved (u := U) (U := U.calling g mk a) (Vm.Alike.refl U.vm) qK, qD, nv_same rfl rfl qN⟩, fun U hU hW => ⟨rfl, by rw [hU], by rw [hU]; exact hPc, va_K.moved hW.alike hKc, hDc.weaken (fun _ _ _ _ => trivial), nv_call hS hFc hU hW hN⟩⟩ rfl rfl hl.1 rfl (lv_room (Nat.le_of_ble_eq_true rfl)) dX16_bit_3 ⟨by decide +kernel, by decide +kernel⟩) hS (fun q _ h => hFc q h) hFc (fun r1 u t H1 locs ht hvm hw hB hz1 hk1 hS => ?_)
  obtain ⟨hP1, hK1, hD1⟩ := hB
  rw [ht] at hP1
  have hK1 := va_K.moved hvm.symm hK1
  obtain ⟨hP, hD⟩ := va_join (wr := []) (w1 := []) hP hD [] [] rfl rfl (by decide) (by decide) hk1 hFc hP1 hD1
  have hK := (hK.sub (tys' := []) [] rfl).app hK1
  generalize H1 = H at hP hS ⊢
  have hP : va_P (dC, dI) vwCl [] H := hP
  have hD : va_D A [] := hD
  have hK : va_K (dC, dI) vwCl [] s := hK
  refine W.widen (k := 0) (n := 0) (by decide +kernel) (by decide +kernel) ?_
  rcases hw with h9 | h9
  · subst h9
    refine lv_iload_n hx hb dX16_bit_6 rfl (lv_at hl 3 rfl) ?_
    refine lv_ishl hx hb dX16_bit_7 ?_
    refine W.widen (k := 0) (n := 0) (by decide +kernel) (by decide +kernel) ?_
    exact W.iret (v := ((((((c0 : Int32).toUInt32 >>> ((11 : Int32).toUInt32 &&& Int32.toUInt32 31)).toInt32) &&& 1) : Int32) <<< ((20 : Int32) &&& 31))) hx hb hr (fun t ht hW => ⟨⟨((((((c0 : Int32).toUInt32 >>> ((11 : Int32).toUInt32 &&& Int32.toUInt32 31)).toInt32) &&& 1) : Int32) <<< ((20 : Int32) &&& 31)), (), rfl, Or.inl rfl, by rw [ht]; exact hP, va_K.moved hW.alike hK, hD⟩, hS.F ht⟩) hS.2.2 dX16_bit_8
  · exact h9.elim
def ow_k_X16_part_v5 : List Cond := .code yX16_part cX16_part 3 (some .int) :: ([] ++ [])
theorem gd_k_X16_part_v5 : ∀ w ∈ ow_k_X16_part_v5, (w.onTables && w.keeps) = true ∨ ∃ ty, w = Cond.arrayClass ty := List.forall_mem_cons.mpr ⟨good_of_word rfl, List.forall_mem_append.mpr ⟨fun w h => good_of_word (List.all_eq_true.mp (by decide +kernel) w h), fun _ h => nomatch h⟩⟩
set_option maxHeartbeats 40000000 in
set_option maxRecDepth 100000 in
theorem k_X16_part_v5 (l : Launch) (hlt : l.stackTraces = false) (dC : Nat → ClassId) (dI : Nat → Nat → Nat) (c0 : Int32) (sz : Nat) : Met l yX16_part ow_k_X16_part_v5 ({ frames := 0, cells := 0, slots := 0, locals := 0 }) (va_Pc [.int c0, .int 1, .int 10] (fun U => U.heap.size = sz ∧ va_P (dC, dI) vwCl [] U.heap ∧ va_K (dC, dI) vwCl [] U ∧ va_D (fun _ => True) [] ∧ nv_E (va_A [] sz) U)) (va_Qi (fun r _ => (r = ((((c0 : Int32).toUInt32 >>> ((1 : Int32).toUInt32 &&& Int32.toUInt32 31)).toInt32) &&& 1023)) ∨ False) (fun (_ : Unit) t => va_P (dC, dI) vwCl [] t.heap ∧ va_K (dC, dI) vwCl [] t ∧ va_D (va_A [] sz) []) (va_A [] sz)) 0 0 (va_A [] sz) := by
  refine Met.ofW (cc := cX16_part) (maxL := 3) (ret := (some .int)) (by decide) rfl ?_
  intro p e s m args below meth c s₁ B hml hv
  obtain ⟨rfl, hsz, hP, hK, hD0, hN⟩ := hv
  have hx := B.exec
  have hb := B.bytes
  have hr := B.returns
  have hts := atoms_spec (ws := ow_k_X16_part_v5) B.pre
  have hown : s.vm.findClass RX16 = some m.cls := findClass_of_methodNamed B.named
  have hlocks := B.notSynchronized
  subst hsz
  have hD := hD0.self (sz := s.heap.size)
  generalize hAe : va_A [] s.heap.size = A at hD hN ⊢
  have hA : ∀ q : Nat, s.heap.size ≤ q → A q := fun q h => by rw [← hAe]; exact Or.inr h
  have hS : va_S A s.heap s.heap [] := va_S.rf
  have hl := lv_entry ([.int c0, .int 1, .int 10]) (n := 3) (Nat.le_of_ble_eq_true rfl)
  rw [lg_entry_eq]
  generalize (lg_sl ([.int c0, .int 1, .int 10]) ++ List.replicate (3 - (lg_sl ([.int c0, .int 1, .int 10])).length) Slot.unset).toArray = ls at hl ⊢
  have hl : lv_has ls 3 [(0, .int c0), (1, .int 1), (2, .int 10)] := hl
  refine lv_iload_n hx hb dX16_part_0 rfl (lv_at hl 0 rfl) ?_
  refine lv_iload_n hx hb dX16_part_1 rfl (lv_at hl 1 rfl) ?_
  refine lv_iushr hx hb dX16_part_2 rfl ?_
  refine lv_iconst (v := 1) hx hb dX16_part_3 (by decide) ?_
  refine lv_iload_n hx hb dX16_part_4 rfl (lv_at hl 2 rfl) ?_
  refine lv_ishl hx hb dX16_part_5 ?_
  refine lv_topi (fun z1 ez1 => ?_)
  obtain rfl : z1 = 1024 := ez1.trans (by decide)
  refine lv_iconst (v := 1) hx hb dX16_part_6 (by decide) ?_
  refine lv_isub hx hb dX16_part_7 ?_
  refine lv_topi (fun z2 ez2 => ?_)
  obtain rfl : z2 = 1023 := ez2.trans (by decide)
  refine lv_iand hx hb dX16_part_8 ?_
  refine W.widen (k := 0) (n := 0) (by decide +kernel) (by decide +kernel) ?_
  exact W.iret (v := ((((c0 : Int32).toUInt32 >>> ((1 : Int32).toUInt32 &&& Int32.toUInt32 31)).toInt32) &&& 1023)) hx hb hr (fun t ht hW => ⟨⟨((((c0 : Int32).toUInt32 >>> ((1 : Int32).toUInt32 &&& Int32.toUInt32 31)).toInt32) &&& 1023), (), rfl, Or.inl rfl, by rw [ht]; exact hP, va_K.moved hW.alike hK, hD⟩, hS.F ht⟩) hS.2.2 dX16_part_9
def ow_k_X16_bit_v4 : List Cond := .code yX16_bit cX16_bit 4 (some .int) :: ([.methodLink RX16 297 yX16_part, .static yX16_part, .initialized RX16] ++ (ow_k_X16_part_v5 ++ []))
theorem gd_k_X16_bit_v4 : ∀ w ∈ ow_k_X16_bit_v4, (w.onTables && w.keeps) = true ∨ ∃ ty, w = Cond.arrayClass ty := List.forall_mem_cons.mpr ⟨good_of_word rfl, List.forall_mem_append.mpr ⟨fun w h => good_of_word (List.all_eq_true.mp (by decide +kernel) w h), List.forall_mem_append.mpr ⟨gd_k_X16_part_v5, fun _ h => nomatch h⟩⟩⟩
theorem gi_k_X16_bit_v4_0 : GoodIn ow_k_X16_bit_v4 (wsS RX16 297 yX16_part ow_k_X16_part_v5) := goodIn_app (goodIn_of _ (by decide +kernel)) (fun w h => ⟨List.mem_cons_of_mem _ (List.mem_append_right _ (List.mem_append_left _ h)), gd_k_X16_part_v5 w h⟩)
set_option maxHeartbeats 40000000 in
set_option maxRecDepth 100000 in
theorem k_X16_bit_v4 (l : Launch) (hlt : l.stackTraces = false) (dC : Nat → ClassId) (dI : Nat → Nat → Nat) (c0 : Int32) (sz : Nat) : Met l yX16_bit ow_k_X16_bit_v4 ({ frames := 1, cells := 0, slots := 0, locals := 22 }) (va_Pc [.int c0, .int 1, .int 10, .int 21] (fun U => U.heap.size = sz ∧ va_P (dC, dI) vwCl [] U.heap ∧ va_K (dC, dI) vwCl [] U ∧ va_D (fun _ => True) [] ∧ nv_E (va_A [] sz) U)) (va_Qi (fun r _ => (r = ((((((c0 : Int32).toUInt32 >>> ((1 : Int32).toUInt32 &&& Int32.toUInt32 31)).toInt32) &&& 1023) : Int32) <<< ((21 : Int32) &&& 31))) ∨ False) (fun (_ : Unit) t => va_P (dC, dI) vwCl [] t.heap ∧ va_K (dC, dI) vwCl [] t ∧ va_D (va_A [] sz) []) (va_A [] sz)) 0 0 (va_A [] sz) := by
  refine Met.ofW (cc := cX16_bit) (maxL := 4) (ret := (some .int)) (by decide) rfl ?_
  intro p e s m args below meth c s₁ B hml hv
  obtain ⟨rfl, hsz, hP, hK, hD0, hN⟩ := hv
  have hx := B.exec
  have hb := B.bytes
  have hr := B.returns
  have hts := atoms_spec (ws := ow_k_X16_bit_v4) B.pre
  have hown : s.vm.findClass RX16 = some m.cls := findClass_of_methodNamed B.named
  have hlocks := B.notSynchronized
  subst hsz
  have hD := hD0.self (sz := s.heap.size)
  generalize hAe : va_A [] s.heap.size = A at hD hN ⊢
  have hA : ∀ q : Nat, s.heap.size ≤ q → A q := fun q h => by rw [← hAe]; exact Or.inr h
  have hS : va_S A s.heap s.heap [] := va_S.rf
  have hl := lv_entry ([.int c0, .int 1, .int 10, .int 21]) (n := 4) (Nat.le_of_ble_eq_true rfl)
  rw [lg_entry_eq]
  generalize (lg_sl ([.int c0, .int 1, .int 10, .int 21]) ++ List.replicate (4 - (lg_sl ([.int c0, .int 1, .int 10, .int 21])).length) Slot.unset).toArray = ls at hl ⊢
  have hl : lv_has ls 4 [(0, .int c0), (1, .int 1), (2, .int 10), (3, .int 21)] := hl
  refine lv_iload_n hx hb dX16_bit_0 rfl (lv_at hl 0 rfl) ?_
  refine lv_iload_n hx hb dX16_bit_1 rfl (lv_at hl 1 rfl) ?_
  refine lv_iload_n hx hb dX16_bit_2 rfl (lv_at hl 2 rfl) ?_
  have hPc := hP.sub (ws' := []) [] rfl
  have hDc := hD.sub (ws' := []) [] (by decide) rfl
  have hKc := hK.sub (tys' := []) [] rfl
  have hFc := va_free (wc := []) hD hS hA [] rfl
  refine va_calli (va_runS (As := [.int c0, .int 1, .int 10]) (rest := []) ⟨hx, hb, hml, hown, hts⟩ (k_X16_part_v5 l hlt dC dI c0  s.heap.size) (cwS 3 hts gi_k_X16_bit_v4_0 rfl rfl rfl (by decide +kernel) ⟨Nat.le_of_ble_eq_true rfl, Nat.le_of_ble_eq_true rfl⟩) ⟨fun a U g mk q => by obtain ⟨q0, q1, qP, qK, qD, qN⟩ := q; exact ⟨q0, q1, qP, va_K.moved (u := U) (U := U.calling g mk a) (Vm.Alike.refl U.vm) qK, qD, nv_same rfl rfl qN⟩, fun U hU hW => ⟨rfl, by rw [hU], by rw [hU]; exact hPc, va_K.moved hW.alike hKc, hDc.weaken (fun _ _ _ _ => trivial), nv_call hS hFc hU hW hN⟩⟩ rfl rfl hl.1 rfl (lv_room (Nat.le_of_ble_eq_true rfl)) dX16_bit_3 ⟨by decide +kernel, by decide +kernel⟩) hS (fun q _ h => hFc q h) hFc (fun r1 u t H1 locs ht hvm hw hB hz1 hk1 hS => ?_)
  obtain ⟨hP1, hK1, hD1⟩ := hB
  rw [ht] at hP1
  have hK1 := va_K.moved hvm.symm hK1
  obtain ⟨hP, hD⟩ := va_join (wr := []) (w1 := []) hP hD [] [] rfl rfl (by decide) (by decide) hk1 hFc hP1 hD1
  have hK := (hK.sub (tys' := []) [] rfl).app hK1
  generalize H1 = H at hP hS ⊢
  have hP : va_P (dC, dI) vwCl [] H := hP
  have hD : va_D A [] := hD
  have hK : va_K (dC, dI) vwCl [] s := hK
  refine W.widen (k := 0) (n := 0) (by decide +kernel) (by decide +kernel) ?_
  rcases hw with h9 | h9
  · subst h9
    refine lv_iload_n hx hb dX16_bit_6 rfl (lv_at hl 3 rfl) ?_
    refine lv_ishl hx hb dX16_bit_7 ?_
    refine W.widen (k := 0) (n := 0) (by decide +kernel) (by decide +kernel) ?_
    exact W.iret (v := ((((((c0 : Int32).toUInt32 >>> ((1 : Int32).toUInt32 &&& Int32.toUInt32 31)).toInt32) &&& 1023) : Int32) <<< ((21 : Int32) &&& 31))) hx hb hr (fun t ht hW => ⟨⟨((((((c0 : Int32).toUInt32 >>> ((1 : Int32).toUInt32 &&& Int32.toUInt32 31)).toInt32) &&& 1023) : Int32) <<< ((21 : Int32) &&& 31)), (), rfl, Or.inl rfl, by rw [ht]; exact hP, va_K.moved hW.alike hK, hD⟩, hS.F ht⟩) hS.2.2 dX16_bit_8
  · exact h9.elim
def ow_k_X16_part_v6 : List Cond := .code yX16_part cX16_part 3 (some .int) :: ([] ++ [])
theorem gd_k_X16_part_v6 : ∀ w ∈ ow_k_X16_part_v6, (w.onTables && w.keeps) = true ∨ ∃ ty, w = Cond.arrayClass ty := List.forall_mem_cons.mpr ⟨good_of_word rfl, List.forall_mem_append.mpr ⟨fun w h => good_of_word (List.all_eq_true.mp (by decide +kernel) w h), fun _ h => nomatch h⟩⟩
set_option maxHeartbeats 40000000 in
set_option maxRecDepth 100000 in
theorem k_X16_part_v6 (l : Launch) (hlt : l.stackTraces = false) (dC : Nat → ClassId) (dI : Nat → Nat → Nat) (c0 : Int32) (sz : Nat) : Met l yX16_part ow_k_X16_part_v6 ({ frames := 0, cells := 0, slots := 0, locals := 0 }) (va_Pc [.int c0, .int 20, .int 1] (fun U => U.heap.size = sz ∧ va_P (dC, dI) vwCl [] U.heap ∧ va_K (dC, dI) vwCl [] U ∧ va_D (fun _ => True) [] ∧ nv_E (va_A [] sz) U)) (va_Qi (fun r _ => (r = ((((c0 : Int32).toUInt32 >>> ((20 : Int32).toUInt32 &&& Int32.toUInt32 31)).toInt32) &&& 1)) ∨ False) (fun (_ : Unit) t => va_P (dC, dI) vwCl [] t.heap ∧ va_K (dC, dI) vwCl [] t ∧ va_D (va_A [] sz) []) (va_A [] sz)) 0 0 (va_A [] sz) := by
  refine Met.ofW (cc := cX16_part) (maxL := 3) (ret := (some .int)) (by decide) rfl ?_
  intro p e s m args below meth c s₁ B hml hv
  obtain ⟨rfl, hsz, hP, hK, hD0, hN⟩ := hv
  have hx := B.exec
  have hb := B.bytes
  have hr := B.returns
  have hts := atoms_spec (ws := ow_k_X16_part_v6) B.pre
  have hown : s.vm.findClass RX16 = some m.cls := findClass_of_methodNamed B.named
  have hlocks := B.notSynchronized
  subst hsz
  have hD := hD0.self (sz := s.heap.size)
  generalize hAe : va_A [] s.heap.size = A at hD hN ⊢
  have hA : ∀ q : Nat, s.heap.size ≤ q → A q := fun q h => by rw [← hAe]; exact Or.inr h
  have hS : va_S A s.heap s.heap [] := va_S.rf
  have hl := lv_entry ([.int c0, .int 20, .int 1]) (n := 3) (Nat.le_of_ble_eq_true rfl)
  rw [lg_entry_eq]
  generalize (lg_sl ([.int c0, .int 20, .int 1]) ++ List.replicate (3 - (lg_sl ([.int c0, .int 20, .int 1])).length) Slot.unset).toArray = ls at hl ⊢
  have hl : lv_has ls 3 [(0, .int c0), (1, .int 20), (2, .int 1)] := hl
  refine lv_iload_n hx hb dX16_part_0 rfl (lv_at hl 0 rfl) ?_
  refine lv_iload_n hx hb dX16_part_1 rfl (lv_at hl 1 rfl) ?_
  refine lv_iushr hx hb dX16_part_2 rfl ?_
  refine lv_iconst (v := 1) hx hb dX16_part_3 (by decide) ?_
  refine lv_iload_n hx hb dX16_part_4 rfl (lv_at hl 2 rfl) ?_
  refine lv_ishl hx hb dX16_part_5 ?_
  refine lv_topi (fun z1 ez1 => ?_)
  obtain rfl : z1 = 2 := ez1.trans (by decide)
  refine lv_iconst (v := 1) hx hb dX16_part_6 (by decide) ?_
  refine lv_isub hx hb dX16_part_7 ?_
  refine lv_topi (fun z2 ez2 => ?_)
  obtain rfl : z2 = 1 := ez2.trans (by decide)
  refine lv_iand hx hb dX16_part_8 ?_
  refine W.widen (k := 0) (n := 0) (by decide +kernel) (by decide +kernel) ?_
  exact W.iret (v := ((((c0 : Int32).toUInt32 >>> ((20 : Int32).toUInt32 &&& Int32.toUInt32 31)).toInt32) &&& 1)) hx hb hr (fun t ht hW => ⟨⟨((((c0 : Int32).toUInt32 >>> ((20 : Int32).toUInt32 &&& Int32.toUInt32 31)).toInt32) &&& 1), (), rfl, Or.inl rfl, by rw [ht]; exact hP, va_K.moved hW.alike hK, hD⟩, hS.F ht⟩) hS.2.2 dX16_part_9
def ow_k_X16_bit_v5 : List Cond := .code yX16_bit cX16_bit 4 (some .int) :: ([.methodLink RX16 297 yX16_part, .static yX16_part, .initialized RX16] ++ (ow_k_X16_part_v6 ++ []))
theorem gd_k_X16_bit_v5 : ∀ w ∈ ow_k_X16_bit_v5, (w.onTables && w.keeps) = true ∨ ∃ ty, w = Cond.arrayClass ty := List.forall_mem_cons.mpr ⟨good_of_word rfl, List.forall_mem_append.mpr ⟨fun w h => good_of_word (List.all_eq_true.mp (by decide +kernel) w h), List.forall_mem_append.mpr ⟨gd_k_X16_part_v6, fun _ h => nomatch h⟩⟩⟩
theorem gi_k_X16_bit_v5_0 : GoodIn ow_k_X16_bit_v5 (wsS RX16 297 yX16_part ow_k_X16_part_v6) := goodIn_app (goodIn_of _ (by decide +kernel)) (fun w h => ⟨List.mem_cons_of_mem _ (List.mem_append_right _ (List.mem_append_left _ h)), gd_k_X16_part_v6 w h⟩)
set_option maxHeartbeats 40000000 in
set_option maxRecDepth 100000 in
theorem k_X16_bit_v5 (l : Launch) (hlt : l.stackTraces = false) (dC : Nat → ClassId) (dI : Nat → Nat → Nat) (c0 : Int32) (sz : Nat) : Met l yX16_bit ow_k_X16_bit_v5 ({ frames := 1, cells := 0, slots := 0, locals := 22 }) (va_Pc [.int c0, .int 20, .int 1, .int 31] (fun U => U.heap.size = sz ∧ va_P (dC, dI) vwCl [] U.heap ∧ va_K (dC, dI) vwCl [] U ∧ va_D (fun _ => True) [] ∧ nv_E (va_A [] sz) U)) (va_Qi (fun r _ => (r = ((((((c0 : Int32).toUInt32 >>> ((20 : Int32).toUInt32 &&& Int32.toUInt32 31)).toInt32) &&& 1) : Int32) <<< ((31 : Int32) &&& 31))) ∨ False) (fun (_ : Unit) t => va_P (dC, dI) vwCl [] t.heap ∧ va_K (dC, dI) vwCl [] t ∧ va_D (va_A [] sz) []) (va_A [] sz)) 0 0 (va_A [] sz) := by
  refine Met.ofW (cc := cX16_bit) (maxL := 4) (ret := (some .int)) (by decide) rfl ?_
  intro p e s m args below meth c s₁ B hml hv
  obtain ⟨rfl, hsz, hP, hK, hD0, hN⟩ := hv
  have hx := B.exec
  have hb := B.bytes
  have hr := B.returns
  have hts := atoms_spec (ws := ow_k_X16_bit_v5) B.pre
  have hown : s.vm.findClass RX16 = some m.cls := findClass_of_methodNamed B.named
  have hlocks := B.notSynchronized
  subst hsz
  have hD := hD0.self (sz := s.heap.size)
  generalize hAe : va_A [] s.heap.size = A at hD hN ⊢
  have hA : ∀ q : Nat, s.heap.size ≤ q → A q := fun q h => by rw [← hAe]; exact Or.inr h
  have hS : va_S A s.heap s.heap [] := va_S.rf
  have hl := lv_entry ([.int c0, .int 20, .int 1, .int 31]) (n := 4) (Nat.le_of_ble_eq_true rfl)
  rw [lg_entry_eq]
  generalize (lg_sl ([.int c0, .int 20, .int 1, .int 31]) ++ List.replicate (4 - (lg_sl ([.int c0, .int 20, .int 1, .int 31])).length) Slot.unset).toArray = ls at hl ⊢
  have hl : lv_has ls 4 [(0, .int c0), (1, .int 20), (2, .int 1), (3, .int 31)] := hl
  refine lv_iload_n hx hb dX16_bit_0 rfl (lv_at hl 0 rfl) ?_
  refine lv_iload_n hx hb dX16_bit_1 rfl (lv_at hl 1 rfl) ?_
  refine lv_iload_n hx hb dX16_bit_2 rfl (lv_at hl 2 rfl) ?_
  have hPc := hP.sub (ws' := []) [] rfl
  have hDc := hD.sub (ws' := []) [] (by decide) rfl
  have hKc := hK.sub (tys' := []) [] rfl
  have hFc := va_free (wc := []) hD hS hA [] rfl
  refine va_calli (va_runS (As := [.int c0, .int 20, .int 1]) (rest := []) ⟨hx, hb, hml, hown, hts⟩ (k_X16_part_v6 l hlt dC dI c0  s.heap.size) (cwS 3 hts gi_k_X16_bit_v5_0 rfl rfl rfl (by decide +kernel) ⟨Nat.le_of_ble_eq_true rfl, Nat.le_of_ble_eq_true rfl⟩) ⟨fun a U g mk q => by obtain ⟨q0, q1, qP, qK, qD, qN⟩ := q; exact ⟨q0, q1, qP, va_K.moved (u := U) (U := U.calling g mk a) (Vm.Alike.refl U.vm) qK, qD, nv_same rfl rfl qN⟩, fun U hU hW => ⟨rfl, by rw [hU], by rw [hU]; exact hPc, va_K.moved hW.alike hKc, hDc.weaken (fun _ _ _ _ => trivial), nv_call hS hFc hU hW hN⟩⟩ rfl rfl hl.1 rfl (lv_room (Nat.le_of_ble_eq_true rfl)) dX16_bit_3 ⟨by decide +kernel, by decide +kernel⟩) hS (fun q _ h => hFc q h) hFc (fun r1 u t H1 locs ht hvm hw hB hz1 hk1 hS => ?_)
  obtain ⟨hP1, hK1, hD1⟩ := hB
  rw [ht] at hP1
  have hK1 := va_K.moved hvm.symm hK1
  obtain ⟨hP, hD⟩ := va_join (wr := []) (w1 := []) hP hD [] [] rfl rfl (by decide) (by decide) hk1 hFc hP1 hD1
  have hK := (hK.sub (tys' := []) [] rfl).app hK1
  generalize H1 = H at hP hS ⊢
  have hP : va_P (dC, dI) vwCl [] H := hP
  have hD : va_D A [] := hD
  have hK : va_K (dC, dI) vwCl [] s := hK
  refine W.widen (k := 0) (n := 0) (by decide +kernel) (by decide +kernel) ?_
  rcases hw with h9 | h9
  · subst h9
    refine lv_iload_n hx hb dX16_bit_6 rfl (lv_at hl 3 rfl) ?_
    refine lv_ishl hx hb dX16_bit_7 ?_
    refine W.widen (k := 0) (n := 0) (by decide +kernel) (by decide +kernel) ?_
    exact W.iret (v := ((((((c0 : Int32).toUInt32 >>> ((20 : Int32).toUInt32 &&& Int32.toUInt32 31)).toInt32) &&& 1) : Int32) <<< ((31 : Int32) &&& 31))) hx hb hr (fun t ht hW => ⟨⟨((((((c0 : Int32).toUInt32 >>> ((20 : Int32).toUInt32 &&& Int32.toUInt32 31)).toInt32) &&& 1) : Int32) <<< ((31 : Int32) &&& 31)), (), rfl, Or.inl rfl, by rw [ht]; exact hP, va_K.moved hW.alike hK, hD⟩, hS.F ht⟩) hS.2.2 dX16_bit_8
  · exact h9.elim
def ow_g_X16_link : List Cond := .code yX16_link cX16_link 2 (some .int) :: ([.methodLink RX16 300 yX16_bit, .static yX16_bit, .initialized RX16] ++ (ow_k_X16_bit_v2 ++ (ow_k_X16_bit_v3 ++ (ow_k_X16_bit_v4 ++ (ow_k_X16_bit_v5 ++ [])))))
theorem gd_g_X16_link : ∀ w ∈ ow_g_X16_link, (w.onTables && w.keeps) = true ∨ ∃ ty, w = Cond.arrayClass ty := List.forall_mem_cons.mpr ⟨good_of_word rfl, List.forall_mem_append.mpr ⟨fun w h => good_of_word (List.all_eq_true.mp (by decide +kernel) w h), List.forall_mem_append.mpr ⟨gd_k_X16_bit_v2, List.forall_mem_append.mpr ⟨gd_k_X16_bit_v3, List.forall_mem_append.mpr ⟨gd_k_X16_bit_v4, List.forall_mem_append.mpr ⟨gd_k_X16_bit_v5, fun _ h => nomatch h⟩⟩⟩⟩⟩⟩
theorem gi_g_X16_link_0 : GoodIn ow_g_X16_link (wsS RX16 300 yX16_bit ow_k_X16_bit_v2) := goodIn_app (goodIn_of _ (by decide +kernel)) (fun w h => ⟨List.mem_cons_of_mem _ (List.mem_append_right _ (List.mem_append_left _ h)), gd_k_X16_bit_v2 w h⟩)
theorem gi_g_X16_link_1 : GoodIn ow_g_X16_link (wsS RX16 300 yX16_bit ow_k_X16_bit_v3) := goodIn_app (goodIn_of _ (by decide +kernel)) (fun w h => ⟨List.mem_cons_of_mem _ (List.mem_append_right _ (List.mem_append_right _ (List.mem_append_left _ h))), gd_k_X16_bit_v3 w h⟩)
theorem gi_g_X16_link_2 : GoodIn ow_g_X16_link (wsS RX16 300 yX16_bit ow_k_X16_bit_v4) := goodIn_app (goodIn_of _ (by decide +kernel)) (fun w h => ⟨List.mem_cons_of_mem _ (List.mem_append_right _ (List.mem_append_right _ (List.mem_append_right _ (List.mem_append_left _ h)))), gd_k_X16_bit_v4 w h⟩)
theorem gi_g_X16_link_3 : GoodIn ow_g_X16_link (wsS RX16 300 yX16_bit ow_k_X16_bit_v5) := goodIn_app (goodIn_of _ (by decide +kernel)) (fun w h => ⟨List.mem_cons_of_mem _ (List.mem_append_right _ (List.mem_append_right _ (List.mem_append_right _ (List.mem_append_right _ (List.mem_append_left _ h))))), gd_k_X16_bit_v5 w h⟩)
set_option maxHeartbeats 40000000 in
set_option maxRecDepth 100000 in
theorem g_X16_link (l : Launch) (hlt : l.stackTraces = false) (dC : Nat → ClassId) (dI : Nat → Nat → Nat) (v0 : Int32) (v1 : Int32) (sz : Nat) : Met l yX16_link ow_g_X16_link ({ frames := 2, cells := 0, slots := 0, locals := 45 }) (va_Pc [.int v0, .int v1] (fun U => U.heap.size = sz ∧ va_P (dC, dI) vwCl [] U.heap ∧ va_K (dC, dI) vwCl [] U ∧ va_D (fun _ => True) [] ∧ nv_E (va_A [] sz) U)) (va_Qi (fun r _ => (r = (((((111 ||| ((v0 : Int32) <<< ((7 : Int32) &&& 31))) ||| ((((((v1 : Int32).toUInt32 >>> ((12 : Int32).toUInt32 &&& Int32.toUInt32 31)).toInt32) &&& 255) : Int32) <<< ((12 : Int32) &&& 31))) ||| ((((((v1 : Int32).toUInt32 >>> ((11 : Int32).toUInt32 &&& Int32.toUInt32 31)).toInt32) &&& 1) : Int32) <<< ((20 : Int32) &&& 31))) ||| ((((((v1 : Int32).toUInt32 >>> ((1 : Int32).toUInt32 &&& Int32.toUInt32 31)).toInt32) &&& 1023) : Int32) <<< ((21 : Int32) &&& 31))) ||| ((((((v1 : Int32).toUInt32 >>> ((20 : Int32).toUInt32 &&& Int32.toUInt32 31)).toInt32) &&& 1) : Int32) <<< ((31 : Int32) &&& 31)))) ∨ False) (fun (_ : Unit) t => va_P (dC, dI) vwCl [] t.heap ∧ va_K (dC, dI) vwCl [] t ∧ va_D (va_A [] sz) []) (va_A [] sz)) 0 0 (va_A [] sz) := by
  refine Met.ofW (cc := cX16_link) (maxL := 2) (ret := (some .int)) (by decide) rfl ?_
  intro p e s m args below meth c s₁ B hml hv
  obtain ⟨rfl, hsz, hP, hK, hD0, hN⟩ := hv
  have hx := B.exec
  have hb := B.bytes
  have hr := B.returns
  have hts := atoms_spec (ws := ow_g_X16_link) B.pre
  have hown : s.vm.findClass RX16 = some m.cls := findClass_of_methodNamed B.named
  have hlocks := B.notSynchronized
  subst hsz
  have hD := hD0.self (sz := s.heap.size)
  generalize hAe : va_A [] s.heap.size = A at hD hN ⊢
  have hA : ∀ q : Nat, s.heap.size ≤ q → A q := fun q h => by rw [← hAe]; exact Or.inr h
  have hS : va_S A s.heap s.heap [] := va_S.rf
  have hl := lv_entry ([.int v0, .int v1]) (n := 2) (Nat.le_of_ble_eq_true rfl)
  rw [lg_entry_eq]
  generalize (lg_sl ([.int v0, .int v1]) ++ List.replicate (2 - (lg_sl ([.int v0, .int v1])).length) Slot.unset).toArray = ls at hl ⊢
  have hl : lv_has ls 2 [(0, .int v0), (1, .int v1)] := hl
  refine lv_bipush (v := 111) hx hb dX16_link_0 (by decide) ?_
  refine lv_iload_n hx hb dX16_link_2 rfl (lv_at hl 0 rfl) ?_
  refine lv_bipush (v := 7) hx hb dX16_link_3 (by decide) ?_
  refine lv_ishl hx hb dX16_link_5 ?_
  refine lv_ior hx hb dX16_link_6 ?_
  refine lv_iload_n hx hb dX16_link_7 rfl (lv_at hl 1 rfl) ?_
  refine lv_bipush (v := 12) hx hb dX16_link_8 (by decide) ?_
  refine lv_bipush (v := 8) hx hb dX16_link_10 (by decide) ?_
  refine lv_bipush (v := 12) hx hb dX16_link_12 (by decide) ?_
  have hPc := hP.sub (ws' := []) [] rfl
  have hDc := hD.sub (ws' := []) [] (by decide) rfl
  have hKc := hK.sub (tys' := []) [] rfl
  have hFc := va_free (wc := []) hD hS hA [] rfl
  refine va_calli (va_runS (As := [.int v1, .int 12, .int 8, .int 12]) (rest := [.int (111 ||| ((v0 : Int32) <<< ((7 : Int32) &&& 31)))]) ⟨hx, hb, hml, hown, hts⟩ (k_X16_bit_v2 l hlt dC dI v1  s.heap.size) (cwS 4 hts gi_g_X16_link_0 rfl rfl rfl (by decide +kernel) ⟨Nat.le_of_ble_eq_true rfl, Nat.le_of_ble_eq_true rfl⟩) ⟨fun a U g mk q => by obtain ⟨q0, q1, qP, qK, qD, qN⟩ := q; exact ⟨q0, q1, qP, va_K.moved (u := U) (U := U.calling g mk a) (Vm.Alike.refl U.vm) qK, qD, nv_same rfl rfl qN⟩, fun U hU hW => ⟨rfl, by rw [hU], by rw [hU]; exact hPc, va_K.moved hW.alike hKc, hDc.weaken (fun _ _ _ _ => trivial), nv_call hS hFc hU hW hN⟩⟩ rfl rfl hl.1 rfl (lv_room (Nat.le_of_ble_eq_true rfl)) dX16_link_14 ⟨by decide +kernel, by decide +kernel⟩) hS (fun q _ h => hFc q h) hFc (fun r1 u t H1 locs ht hvm hw hB hz1 hk1 hS => ?_)
  obtain ⟨hP1, hK1, hD1⟩ := hB
  rw [ht] at hP1
  have hK1 := va_K.moved hvm.symm hK1
  obtain ⟨hP, hD⟩ := va_join (wr := []) (w1 := []) hP hD [] [] rfl rfl (by decide) (by decide) hk1 hFc hP1 hD1
  have hK := (hK.sub (tys' := []) [] rfl).app hK1
  generalize H1 = H at hP hS ⊢
  have hP : va_P (dC, dI) vwCl [] H := hP
  have hD : va_D A [] := hD
  have hK : va_K (dC, dI) vwCl [] s := hK
  refine W.widen (k := 0) (n := 0) (by decide +kernel) (by decide +kernel) ?_
  rcases hw with h9 | h9
  · subst h9
    refine lv_ior hx hb dX16_link_17 ?_
    refine lv_iload_n hx hb dX16_link_18 rfl (lv_at hl 1 rfl) ?_
    refine lv_bipush (v := 11) hx hb dX16_link_19 (by decide) ?_
    refine lv_iconst (v := 1) hx hb dX16_link_21 (by decide) ?_
    refine lv_bipush (v := 20) hx hb dX16_link_22 (by decide) ?_
    have hPc := hP.sub (ws' := []) [] rfl
    have hDc := hD.sub (ws' := []) [] (by decide) rfl
    have hKc := hK.sub (tys' := []) [] rfl
    have hFc := va_free (wc := []) hD hS hA [] rfl
    refine va_calli (va_runS (As := [.int v1, .int 11, .int 1, .int 20]) (rest := [.int ((111 ||| ((v0 : Int32) <<< ((7 : Int32) &&& 31))) ||| ((((((v1 : Int32).toUInt32 >>> ((12 : Int32).toUInt32 &&& Int32.toUInt32 31)).toInt32) &&& 255) : Int32) <<< ((12 : Int32) &&& 31)))]) ⟨hx, hb, hml, hown, hts⟩ (k_X16_bit_v3 l hlt dC dI v1  H.size) (cwS 4 hts gi_g_X16_link_1 rfl rfl rfl (by decide +kernel) ⟨Nat.le_of_ble_eq_true rfl, Nat.le_of_ble_eq_true rfl⟩) ⟨fun a U g mk q => by obtain ⟨q0, q1, qP, qK, qD, qN⟩ := q; exact ⟨q0, q1, qP, va_K.moved (u := U) (U := U.calling g mk a) (Vm.Alike.refl U.vm) qK, qD, nv_same rfl rfl qN⟩, fun U hU hW => ⟨rfl, by rw [hU], by rw [hU]; exact hPc, va_K.moved hW.alike hKc, hDc.weaken (fun _ _ _ _ => trivial), nv_call hS hFc hU hW hN⟩⟩ rfl rfl hl.1 rfl (lv_room (Nat.le_of_ble_eq_true rfl)) dX16_link_24 ⟨by decide +kernel, by decide +kernel⟩) hS (fun q _ h => hFc q h) hFc (fun r2 u t H1 locs ht hvm hw hB hz1 hk1 hS => ?_)
    obtain ⟨hP1, hK1, hD1⟩ := hB
    rw [ht] at hP1
    have hK1 := va_K.moved hvm.symm hK1
    obtain ⟨hP, hD⟩ := va_join (wr := []) (w1 := []) hP hD [] [] rfl rfl (by decide) (by decide) hk1 hFc hP1 hD1
    have hK := (hK.sub (tys' := []) [] rfl).app hK1
    generalize H1 = H at hP hS ⊢
    have hP : va_P (dC, dI) vwCl [] H := hP
    have hD : va_D A [] := hD
    have hK : va_K (dC, dI) vwCl [] s := hK
    refine W.widen (k := 0) (n := 0) (by decide +kernel) (by decide +kernel) ?_
    rcases hw with h9 | h9
    · subst h9
      refine lv_ior hx hb dX16_link_27 ?_
      refine lv_iload_n hx hb dX16_link_28 rfl (lv_at hl 1 rfl) ?_
      refine lv_iconst (v := 1) hx hb dX16_link_29 (by decide) ?_
      refine lv_bipush (v := 10) hx hb dX16_link_30 (by decide) ?_
      refine lv_bipush (v := 21) hx hb dX16_link_32 (by decide) ?_
      have hPc := hP.sub (ws' := []) [] rfl
      have hDc := hD.sub (ws' := []) [] (by decide) rfl
      have hKc := hK.sub (tys' := []) [] rfl
      have hFc := va_free (wc := []) hD hS hA [] rfl
      refine va_calli (va_runS (As := [.int v1, .int 1, .int 10, .int 21]) (rest := [.int (((111 ||| ((v0 : Int32) <<< ((7 : Int32) &&& 31))) ||| ((((((v1 : Int32).toUInt32 >>> ((12 : Int32).toUInt32 &&& Int32.toUInt32 31)).toInt32) &&& 255) : Int32) <<< ((12 : Int32) &&& 31))) ||| ((((((v1 : Int32).toUInt32 >>> ((11 : Int32).toUInt32 &&& Int32.toUInt32 31)).toInt32) &&& 1) : Int32) <<< ((20 : Int32) &&& 31)))]) ⟨hx, hb, hml, hown, hts⟩ (k_X16_bit_v4 l hlt dC dI v1  H.size) (cwS 4 hts gi_g_X16_link_2 rfl rfl rfl (by decide +kernel) ⟨Nat.le_of_ble_eq_true rfl, Nat.le_of_ble_eq_true rfl⟩) ⟨fun a U g mk q => by obtain ⟨q0, q1, qP, qK, qD, qN⟩ := q; exact ⟨q0, q1, qP, va_K.moved (u := U) (U := U.calling g mk a) (Vm.Alike.refl U.vm) qK, qD, nv_same rfl rfl qN⟩, fun U hU hW => ⟨rfl, by rw [hU], by rw [hU]; exact hPc, va_K.moved hW.alike hKc, hDc.weaken (fun _ _ _ _ => trivial), nv_call hS hFc hU hW hN⟩⟩ rfl rfl hl.1 rfl (lv_room (Nat.le_of_ble_eq_true rfl)) dX16_link_34 ⟨by decide +kernel, by decide +kernel⟩) hS (fun q _ h => hFc q h) hFc (fun r3 u t H1 locs ht hvm hw hB hz1 hk1 hS => ?_)
      obtain ⟨hP1, hK1, hD1⟩ := hB
      rw [ht] at hP1
      have hK1 := va_K.moved hvm.symm hK1
      obtain ⟨hP, hD⟩ := va_join (wr := []) (w1 := []) hP hD [] [] rfl rfl (by decide) (by decide) hk1 hFc hP1 hD1
      have hK := (hK.sub (tys' := []) [] rfl).app hK1
      generalize H1 = H at hP hS ⊢
      have hP : va_P (dC, dI) vwCl [] H := hP
      have hD : va_D A [] := hD
      have hK : va_K (dC, dI) vwCl [] s := hK
      refine W.widen (k := 0) (n := 0) (by decide +kernel) (by decide +kernel) ?_
      rcases hw with h9 | h9
      · subst h9
        refine lv_ior hx hb dX16_link_37 ?_
        refine lv_iload_n hx hb dX16_link_38 rfl (lv_at hl 1 rfl) ?_
        refine lv_bipush (v := 20) hx hb dX16_link_39 (by decide) ?_
        refine lv_iconst (v := 1) hx hb dX16_link_41 (by decide) ?_
        refine lv_bipush (v := 31) hx hb dX16_link_42 (by decide) ?_
        have hPc := hP.sub (ws' := []) [] rfl
        have hDc := hD.sub (ws' := []) [] (by decide) rfl
        have hKc := hK.sub (tys' := []) [] rfl
        have hFc := va_free (wc := []) hD hS hA [] rfl
        refine va_calli (va_runS (As := [.int v1, .int 20, .int 1, .int 31]) (rest := [.int ((((111 ||| ((v0 : Int32) <<< ((7 : Int32) &&& 31))) ||| ((((((v1 : Int32).toUInt32 >>> ((12 : Int32).toUInt32 &&& Int32.toUInt32 31)).toInt32) &&& 255) : Int32) <<< ((12 : Int32) &&& 31))) ||| ((((((v1 : Int32).toUInt32 >>> ((11 : Int32).toUInt32 &&& Int32.toUInt32 31)).toInt32) &&& 1) : Int32) <<< ((20 : Int32) &&& 31))) ||| ((((((v1 : Int32).toUInt32 >>> ((1 : Int32).toUInt32 &&& Int32.toUInt32 31)).toInt32) &&& 1023) : Int32) <<< ((21 : Int32) &&& 31)))]) ⟨hx, hb, hml, hown, hts⟩ (k_X16_bit_v5 l hlt dC dI v1  H.size) (cwS 4 hts gi_g_X16_link_3 rfl rfl rfl (by decide +kernel) ⟨Nat.le_of_ble_eq_true rfl, Nat.le_of_ble_eq_true rfl⟩) ⟨fun a U g mk q => by obtain ⟨q0, q1, qP, qK, qD, qN⟩ := q; exact ⟨q0, q1, qP, va_K.moved (u := U) (U := U.calling g mk a) (Vm.Alike.refl U.vm) qK, qD, nv_same rfl rfl qN⟩, fun U hU hW => ⟨rfl, by rw [hU], by rw [hU]; exact hPc, va_K.moved hW.alike hKc, hDc.weaken (fun _ _ _ _ => trivial), nv_call hS hFc hU hW hN⟩⟩ rfl rfl hl.1 rfl (lv_room (Nat.le_of_ble_eq_true rfl)) dX16_link_44 ⟨by decide +kernel, by decide +kernel⟩) hS (fun q _ h => hFc q h) hFc (fun r4 u t H1 locs ht hvm hw hB hz1 hk1 hS => ?_)
        obtain ⟨hP1, hK1, hD1⟩ := hB
        rw [ht] at hP1
        have hK1 := va_K.moved hvm.symm hK1
        obtain ⟨hP, hD⟩ := va_join (wr := []) (w1 := []) hP hD [] [] rfl rfl (by decide) (by decide) hk1 hFc hP1 hD1
        have hK := (hK.sub (tys' := []) [] rfl).app hK1
        generalize H1 = H at hP hS ⊢
        have hP : va_P (dC, dI) vwCl [] H := hP
        have hD : va_D A [] := hD
        have hK : va_K (dC, dI) vwCl [] s := hK
        refine W.widen (k := 0) (n := 0) (by decide +kernel) (by decide +kernel) ?_
        rcases hw with h9 | h9
        · subst h9
          refine lv_ior hx hb dX16_link_47 ?_
          refine W.widen (k := 0) (n := 0) (by decide +kernel) (by decide +kernel) ?_
          exact W.iret (v := (((((111 ||| ((v0 : Int32) <<< ((7 : Int32) &&& 31))) ||| ((((((v1 : Int32).toUInt32 >>> ((12 : Int32).toUInt32 &&& Int32.toUInt32 31)).toInt32) &&& 255) : Int32) <<< ((12 : Int32) &&& 31))) ||| ((((((v1 : Int32).toUInt32 >>> ((11 : Int32).toUInt32 &&& Int32.toUInt32 31)).toInt32) &&& 1) : Int32) <<< ((20 : Int32) &&& 31))) ||| ((((((v1 : Int32).toUInt32 >>> ((1 : Int32).toUInt32 &&& Int32.toUInt32 31)).toInt32) &&& 1023) : Int32) <<< ((21 : Int32) &&& 31))) ||| ((((((v1 : Int32).toUInt32 >>> ((20 : Int32).toUInt32 &&& Int32.toUInt32 31)).toInt32) &&& 1) : Int32) <<< ((31 : Int32) &&& 31)))) hx hb hr (fun t ht hW => ⟨⟨(((((111 ||| ((v0 : Int32) <<< ((7 : Int32) &&& 31))) ||| ((((((v1 : Int32).toUInt32 >>> ((12 : Int32).toUInt32 &&& Int32.toUInt32 31)).toInt32) &&& 255) : Int32) <<< ((12 : Int32) &&& 31))) ||| ((((((v1 : Int32).toUInt32 >>> ((11 : Int32).toUInt32 &&& Int32.toUInt32 31)).toInt32) &&& 1) : Int32) <<< ((20 : Int32) &&& 31))) ||| ((((((v1 : Int32).toUInt32 >>> ((1 : Int32).toUInt32 &&& Int32.toUInt32 31)).toInt32) &&& 1023) : Int32) <<< ((21 : Int32) &&& 31))) ||| ((((((v1 : Int32).toUInt32 >>> ((20 : Int32).toUInt32 &&& Int32.toUInt32 31)).toInt32) &&& 1) : Int32) <<< ((31 : Int32) &&& 31))), (), rfl, Or.inl rfl, by rw [ht]; exact hP, va_K.moved hW.alike hK, hD⟩, hS.F ht⟩) hS.2.2 dX16_link_48
        · exact h9.elim
      · exact h9.elim
    · exact h9.elim
  · exact h9.elim
def ow_k_X16_bit_v6 : List Cond := .code yX16_bit cX16_bit 4 (some .int) :: ([.methodLink RX16 297 yX16_part, .static yX16_part, .initialized RX16] ++ (ow_k_X16_part_v4 ++ []))
theorem gd_k_X16_bit_v6 : ∀ w ∈ ow_k_X16_bit_v6, (w.onTables && w.keeps) = true ∨ ∃ ty, w = Cond.arrayClass ty := List.forall_mem_cons.mpr ⟨good_of_word rfl, List.forall_mem_append.mpr ⟨fun w h => good_of_word (List.all_eq_true.mp (by decide +kernel) w h), List.forall_mem_append.mpr ⟨gd_k_X16_part_v4, fun _ h => nomatch h⟩⟩⟩
theorem gi_k_X16_bit_v6_0 : GoodIn ow_k_X16_bit_v6 (wsS RX16 297 yX16_part ow_k_X16_part_v4) := goodIn_app (goodIn_of _ (by decide +kernel)) (fun w h => ⟨List.mem_cons_of_mem _ (List.mem_append_right _ (List.mem_append_left _ h)), gd_k_X16_part_v4 w h⟩)
set_option maxHeartbeats 40000000 in
set_option maxRecDepth 100000 in
theorem k_X16_bit_v6 (l : Launch) (hlt : l.stackTraces = false) (dC : Nat → ClassId) (dI : Nat → Nat → Nat) (c0 : Int32) (sz : Nat) : Met l yX16_bit ow_k_X16_bit_v6 ({ frames := 1, cells := 0, slots := 0, locals := 22 }) (va_Pc [.int c0, .int 11, .int 1, .int 7] (fun U => U.heap.size = sz ∧ va_P (dC, dI) vwCl [] U.heap ∧ va_K (dC, dI) vwCl [] U ∧ va_D (fun _ => True) [] ∧ nv_E (va_A [] sz) U)) (va_Qi (fun r _ => (r = ((((((c0 : Int32).toUInt32 >>> ((11 : Int32).toUInt32 &&& Int32.toUInt32 31)).toInt32) &&& 1) : Int32) <<< ((7 : Int32) &&& 31))) ∨ False) (fun (_ : Unit) t => va_P (dC, dI) vwCl [] t.heap ∧ va_K (dC, dI) vwCl [] t ∧ va_D (va_A [] sz) []) (va_A [] sz)) 0 0 (va_A [] sz) := by
  refine Met.ofW (cc := cX16_bit) (maxL := 4) (ret := (some .int)) (by decide) rfl ?_
  intro p e s m args below meth c s₁ B hml hv
  obtain ⟨rfl, hsz, hP, hK, hD0, hN⟩ := hv
  have hx := B.exec
  have hb := B.bytes
  have hr := B.returns
  have hts := atoms_spec (ws := ow_k_X16_bit_v6) B.pre
  have hown : s.vm.findClass RX16 = some m.cls := findClass_of_methodNamed B.named
  have hlocks := B.notSynchronized
  subst hsz
  have hD := hD0.self (sz := s.heap.size)
  generalize hAe : va_A [] s.heap.size = A at hD hN ⊢
  have hA : ∀ q : Nat, s.heap.size ≤ q → A q := fun q h => by rw [← hAe]; exact Or.inr h
  have hS : va_S A s.heap s.heap [] := va_S.rf
  have hl := lv_entry ([.int c0, .int 11, .int 1, .int 7]) (n := 4) (Nat.le_of_ble_eq_true rfl)
  rw [lg_entry_eq]
  generalize (lg_sl ([.int c0, .int 11, .int 1, .int 7]) ++ List.replicate (4 - (lg_sl ([.int c0, .int 11, .int 1, .int 7])).length) Slot.unset).toArray = ls at hl ⊢
  have hl : lv_has ls 4 [(0, .int c0), (1, .int 11), (2, .int 1), (3, .int 7)] := hl
  refine lv_iload_n hx hb dX16_bit_0 rfl (lv_at hl 0 rfl) ?_
  refine lv_iload_n hx hb dX16_bit_1 rfl (lv_at hl 1 rfl) ?_
  refine lv_iload_n hx hb dX16_bit_2 rfl (lv_at hl 2 rfl) ?_
  have hPc := hP.sub (ws' := []) [] rfl
  have hDc := hD.sub (ws' := []) [] (by decide) rfl
  have hKc := hK.sub (tys' := []) [] rfl
  have hFc := va_free (wc := []) hD hS hA [] rfl
  refine va_calli (va_runS (As := [.int c0, .int 11, .int 1]) (rest := []) ⟨hx, hb, hml, hown, hts⟩ (k_X16_part_v4 l hlt dC dI c0  s.heap.size) (cwS 3 hts gi_k_X16_bit_v6_0 rfl rfl rfl (by decide +kernel) ⟨Nat.le_of_ble_eq_true rfl, Nat.le_of_ble_eq_true rfl⟩) ⟨fun a U g mk q => by obtain ⟨q0, q1, qP, qK, qD, qN⟩ := q; exact ⟨q0, q1, qP, va_K.moved (u := U) (U := U.calling g mk a) (Vm.Alike.refl U.vm) qK, qD, nv_same rfl rfl qN⟩, fun U hU hW => ⟨rfl, by rw [hU], by rw [hU]; exact hPc, va_K.moved hW.alike hKc, hDc.weaken (fun _ _ _ _ => trivial), nv_call hS hFc hU hW hN⟩⟩ rfl rfl hl.1 rfl (lv_room (Nat.le_of_ble_eq_true rfl)) dX16_bit_3 ⟨by decide +kernel, by decide +kernel⟩) hS (fun q _ h => hFc q h) hFc (fun r1 u t H1 locs ht hvm hw hB hz1 hk1 hS => ?_)
  obtain ⟨hP1, hK1, hD1⟩ := hB
  rw [ht] at hP1
  have hK1 := va_K.moved hvm.symm hK1
  obtain ⟨hP, hD⟩ := va_join (wr := []) (w1 := []) hP hD [] [] rfl rfl (by decide) (by decide) hk1 hFc hP1 hD1
  have hK := (hK.sub (tys' := []) [] rfl).app hK1
  generalize H1 = H at hP hS ⊢
  have hP : va_P (dC, dI) vwCl [] H := hP
  have hD : va_D A [] := hD
  have hK : va_K (dC, dI) vwCl [] s := hK
  refine W.widen (k := 0) (n := 0) (by decide +kernel) (by decide +kernel) ?_
  rcases hw with h9 | h9
  · subst h9
    refine lv_iload_n hx hb dX16_bit_6 rfl (lv_at hl 3 rfl) ?_
    refine lv_ishl hx hb dX16_bit_7 ?_
    refine W.widen (k := 0) (n := 0) (by decide +kernel) (by decide +kernel) ?_
    exact W.iret (v := ((((((c0 : Int32).toUInt32 >>> ((11 : Int32).toUInt32 &&& Int32.toUInt32 31)).toInt32) &&& 1) : Int32) <<< ((7 : Int32) &&& 31))) hx hb hr (fun t ht hW => ⟨⟨((((((c0 : Int32).toUInt32 >>> ((11 : Int32).toUInt32 &&& Int32.toUInt32 31)).toInt32) &&& 1) : Int32) <<< ((7 : Int32) &&& 31)), (), rfl, Or.inl rfl, by rw [ht]; exact hP, va_K.moved hW.alike hK, hD⟩, hS.F ht⟩) hS.2.2 dX16_bit_8
  · exact h9.elim
def ow_k_X16_part_v7 : List Cond := .code yX16_part cX16_part 3 (some .int) :: ([] ++ [])
theorem gd_k_X16_part_v7 : ∀ w ∈ ow_k_X16_part_v7, (w.onTables && w.keeps) = true ∨ ∃ ty, w = Cond.arrayClass ty := List.forall_mem_cons.mpr ⟨good_of_word rfl, List.forall_mem_append.mpr ⟨fun w h => good_of_word (List.all_eq_true.mp (by decide +kernel) w h), fun _ h => nomatch h⟩⟩
set_option maxHeartbeats 40000000 in
set_option maxRecDepth 100000 in
theorem k_X16_part_v7 (l : Launch) (hlt : l.stackTraces = false) (dC : Nat → ClassId) (dI : Nat → Nat → Nat) (c0 : Int32) (sz : Nat) : Met l yX16_part ow_k_X16_part_v7 ({ frames := 0, cells := 0, slots := 0, locals := 0 }) (va_Pc [.int c0, .int 1, .int 4] (fun U => U.heap.size = sz ∧ va_P (dC, dI) vwCl [] U.heap ∧ va_K (dC, dI) vwCl [] U ∧ va_D (fun _ => True) [] ∧ nv_E (va_A [] sz) U)) (va_Qi (fun r _ => (r = ((((c0 : Int32).toUInt32 >>> ((1 : Int32).toUInt32 &&& Int32.toUInt32 31)).toInt32) &&& 15)) ∨ False) (fun (_ : Unit) t => va_P (dC, dI) vwCl [] t.heap ∧ va_K (dC, dI) vwCl [] t ∧ va_D (va_A [] sz) []) (va_A [] sz)) 0 0 (va_A [] sz) := by
  refine Met.ofW (cc := cX16_part) (maxL := 3) (ret := (some .int)) (by decide) rfl ?_
  intro p e s m args below meth c s₁ B hml hv
  obtain ⟨rfl, hsz, hP, hK, hD0, hN⟩ := hv
  have hx := B.exec
  have hb := B.bytes
  have hr := B.returns
  have hts := atoms_spec (ws := ow_k_X16_part_v7) B.pre
  have hown : s.vm.findClass RX16 = some m.cls := findClass_of_methodNamed B.named
  have hlocks := B.notSynchronized
  subst hsz
  have hD := hD0.self (sz := s.heap.size)
  generalize hAe : va_A [] s.heap.size = A at hD hN ⊢
  have hA : ∀ q : Nat, s.heap.size ≤ q → A q := fun q h => by rw [← hAe]; exact Or.inr h
  have hS : va_S A s.heap s.heap [] := va_S.rf
  have hl := lv_entry ([.int c0, .int 1, .int 4]) (n := 3) (Nat.le_of_ble_eq_true rfl)
  rw [lg_entry_eq]
  generalize (lg_sl ([.int c0, .int 1, .int 4]) ++ List.replicate (3 - (lg_sl ([.int c0, .int 1, .int 4])).length) Slot.unset).toArray = ls at hl ⊢
  have hl : lv_has ls 3 [(0, .int c0), (1, .int 1), (2, .int 4)] := hl
  refine lv_iload_n hx hb dX16_part_0 rfl (lv_at hl 0 rfl) ?_
  refine lv_iload_n hx hb dX16_part_1 rfl (lv_at hl 1 rfl) ?_
  refine lv_iushr hx hb dX16_part_2 rfl ?_
  refine lv_iconst (v := 1) hx hb dX16_part_3 (by decide) ?_
  refine lv_iload_n hx hb dX16_part_4 rfl (lv_at hl 2 rfl) ?_
  refine lv_ishl hx hb dX16_part_5 ?_
  refine lv_topi (fun z1 ez1 => ?_)
  obtain rfl : z1 = 16 := ez1.trans (by decide)
  refine lv_iconst (v := 1) hx hb dX16_part_6 (by decide) ?_
  refine lv_isub hx hb dX16_part_7 ?_
  refine lv_topi (fun z2 ez2 => ?_)
  obtain rfl : z2 = 15 := ez2.trans (by decide)
  refine lv_iand hx hb dX16_part_8 ?_
  refine W.widen (k := 0) (n := 0) (by decide +kernel) (by decide +kernel) ?_
  exact W.iret (v := ((((c0 : Int32).toUInt32 >>> ((1 : Int32).toUInt32 &&& Int32.toUInt32 31)).toInt32) &&& 15)) hx hb hr (fun t ht hW => ⟨⟨((((c0 : Int32).toUInt32 >>> ((1 : Int32).toUInt32 &&& Int32.toUInt32 31)).toInt32) &&& 15), (), rfl, Or.inl rfl, by rw [ht]; exact hP, va_K.moved hW.alike hK, hD⟩, hS.F ht⟩) hS.2.2 dX16_part_9
def ow_k_X16_bit_v7 : List Cond := .code yX16_bit cX16_bit 4 (some .int) :: ([.methodLink RX16 297 yX16_part, .static yX16_part, .initialized RX16] ++ (ow_k_X16_part_v7 ++ []))
theorem gd_k_X16_bit_v7 : ∀ w ∈ ow_k_X16_bit_v7, (w.onTables && w.keeps) = true ∨ ∃ ty, w = Cond.arrayClass ty := List.forall_mem_cons.mpr ⟨good_of_word rfl, List.forall_mem_append.mpr ⟨fun w h => good_of_word (List.all_eq_true.mp (by decide +kernel) w h), List.forall_mem_append.mpr ⟨gd_k_X16_part_v7, fun _ h => nomatch h⟩⟩⟩
theorem gi_k_X16_bit_v7_0 : GoodIn ow_k_X16_bit_v7 (wsS RX16 297 yX16_part ow_k_X16_part_v7) := goodIn_app (goodIn_of _ (by decide +kernel)) (fun w h => ⟨List.mem_cons_of_mem _ (List.mem_append_right _ (List.mem_append_left _ h)), gd_k_X16_part_v7 w h⟩)
set_option maxHeartbeats 40000000 in
set_option maxRecDepth 100000 in
theorem k_X16_bit_v7 (l : Launch) (hlt : l.stackTraces = false) (dC : Nat → ClassId) (dI : Nat → Nat → Nat) (c0 : Int32) (sz : Nat) : Met l yX16_bit ow_k_X16_bit_v7 ({ frames := 1, cells := 0, slots := 0, locals := 22 }) (va_Pc [.int c0, .int 1, .int 4, .int 8] (fun U => U.heap.size = sz ∧ va_P (dC, dI) vwCl [] U.heap ∧ va_K (dC, dI) vwCl [] U ∧ va_D (fun _ => True) [] ∧ nv_E (va_A [] sz) U)) (va_Qi (fun r _ => (r = ((((((c0 : Int32).toUInt32 >>> ((1 : Int32).toUInt32 &&& Int32.toUInt32 31)).toInt32) &&& 15) : Int32) <<< ((8 : Int32) &&& 31))) ∨ False) (fun (_ : Unit) t => va_P (dC, dI) vwCl [] t.heap ∧ va_K (dC, dI) vwCl [] t ∧ va_D (va_A [] sz) []) (va_A [] sz)) 0 0 (va_A [] sz) := by
  refine Met.ofW (cc := cX16_bit) (maxL := 4) (ret := (some .int)) (by decide) rfl ?_
  intro p e s m args below meth c s₁ B hml hv
  obtain ⟨rfl, hsz, hP, hK, hD0, hN⟩ := hv
  have hx := B.exec
  have hb := B.bytes
  have hr := B.returns
  have hts := atoms_spec (ws := ow_k_X16_bit_v7) B.pre
  have hown : s.vm.findClass RX16 = some m.cls := findClass_of_methodNamed B.named
  have hlocks := B.notSynchronized
  subst hsz
  have hD := hD0.self (sz := s.heap.size)
  generalize hAe : va_A [] s.heap.size = A at hD hN ⊢
  have hA : ∀ q : Nat, s.heap.size ≤ q → A q := fun q h => by rw [← hAe]; exact Or.inr h
  have hS : va_S A s.heap s.heap [] := va_S.rf
  have hl := lv_entry ([.int c0, .int 1, .int 4, .int 8]) (n := 4) (Nat.le_of_ble_eq_true rfl)
  rw [lg_entry_eq]
  generalize (lg_sl ([.int c0, .int 1, .int 4, .int 8]) ++ List.replicate (4 - (lg_sl ([.int c0, .int 1, .int 4, .int 8])).length) Slot.unset).toArray = ls at hl ⊢
  have hl : lv_has ls 4 [(0, .int c0), (1, .int 1), (2, .int 4), (3, .int 8)] := hl
  refine lv_iload_n hx hb dX16_bit_0 rfl (lv_at hl 0 rfl) ?_
  refine lv_iload_n hx hb dX16_bit_1 rfl (lv_at hl 1 rfl) ?_
  refine lv_iload_n hx hb dX16_bit_2 rfl (lv_at hl 2 rfl) ?_
  have hPc := hP.sub (ws' := []) [] rfl
  have hDc := hD.sub (ws' := []) [] (by decide) rfl
  have hKc := hK.sub (tys' := []) [] rfl
  have hFc := va_free (wc := []) hD hS hA [] rfl
  refine va_calli (va_runS (As := [.int c0, .int 1, .int 4]) (rest := []) ⟨hx, hb, hml, hown, hts⟩ (k_X16_part_v7 l hlt dC dI c0  s.heap.size) (cwS 3 hts gi_k_X16_bit_v7_0 rfl rfl rfl (by decide +kernel) ⟨Nat.le_of_ble_eq_true rfl, Nat.le_of_ble_eq_true rfl⟩) ⟨fun a U g mk q => by obtain ⟨q0, q1, qP, qK, qD, qN⟩ := q; exact ⟨q0, q1, qP, va_K.moved (u := U) (U := U.calling g mk a) (Vm.Alike.refl U.vm) qK, qD, nv_same rfl rfl qN⟩, fun U hU hW => ⟨rfl, by rw [hU], by rw [hU]; exact hPc, va_K.moved hW.alike hKc, hDc.weaken (fun _ _ _ _ => trivial), nv_call hS hFc hU hW hN⟩⟩ rfl rfl hl.1 rfl (lv_room (Nat.le_of_ble_eq_true rfl)) dX16_bit_3 ⟨by decide +kernel, by decide +kernel⟩) hS (fun q _ h => hFc q h) hFc (fun r1 u t H1 locs ht hvm hw hB hz1 hk1 hS => ?_)
  obtain ⟨hP1, hK1, hD1⟩ := hB
  rw [ht] at hP1
  have hK1 := va_K.moved hvm.symm hK1
  obtain ⟨hP, hD⟩ := va_join (wr := []) (w1 := []) hP hD [] [] rfl rfl (by decide) (by decide) hk1 hFc hP1 hD1
  have hK := (hK.sub (tys' := []) [] rfl).app hK1
  generalize H1 = H at hP hS ⊢
  have hP : va_P (dC, dI) vwCl [] H := hP
  have hD : va_D A [] := hD
  have hK : va_K (dC, dI) vwCl [] s := hK
  refine W.widen (k := 0) (n := 0) (by decide +kernel) (by decide +kernel) ?_
  rcases hw with h9 | h9
  · subst h9
    refine lv_iload_n hx hb dX16_bit_6 rfl (lv_at hl 3 rfl) ?_
    refine lv_ishl hx hb dX16_bit_7 ?_
    refine W.widen (k := 0) (n := 0) (by decide +kernel) (by decide +kernel) ?_
    exact W.iret (v := ((((((c0 : Int32).toUInt32 >>> ((1 : Int32).toUInt32 &&& Int32.toUInt32 31)).toInt32) &&& 15) : Int32) <<< ((8 : Int32) &&& 31))) hx hb hr (fun t ht hW => ⟨⟨((((((c0 : Int32).toUInt32 >>> ((1 : Int32).toUInt32 &&& Int32.toUInt32 31)).toInt32) &&& 15) : Int32) <<< ((8 : Int32) &&& 31)), (), rfl, Or.inl rfl, by rw [ht]; exact hP, va_K.moved hW.alike hK, hD⟩, hS.F ht⟩) hS.2.2 dX16_bit_8
  · exact h9.elim
def ow_k_X16_part_v8 : List Cond := .code yX16_part cX16_part 3 (some .int) :: ([] ++ [])
theorem gd_k_X16_part_v8 : ∀ w ∈ ow_k_X16_part_v8, (w.onTables && w.keeps) = true ∨ ∃ ty, w = Cond.arrayClass ty := List.forall_mem_cons.mpr ⟨good_of_word rfl, List.forall_mem_append.mpr ⟨fun w h => good_of_word (List.all_eq_true.mp (by decide +kernel) w h), fun _ h => nomatch h⟩⟩
set_option maxHeartbeats 40000000 in
set_option maxRecDepth 100000 in
theorem k_X16_part_v8 (l : Launch) (hlt : l.stackTraces = false) (dC : Nat → ClassId) (dI : Nat → Nat → Nat) (c0 : Int32) (sz : Nat) : Met l yX16_part ow_k_X16_part_v8 ({ frames := 0, cells := 0, slots := 0, locals := 0 }) (va_Pc [.int c0, .int 5, .int 6] (fun U => U.heap.size = sz ∧ va_P (dC, dI) vwCl [] U.heap ∧ va_K (dC, dI) vwCl [] U ∧ va_D (fun _ => True) [] ∧ nv_E (va_A [] sz) U)) (va_Qi (fun r _ => (r = ((((c0 : Int32).toUInt32 >>> ((5 : Int32).toUInt32 &&& Int32.toUInt32 31)).toInt32) &&& 63)) ∨ False) (fun (_ : Unit) t => va_P (dC, dI) vwCl [] t.heap ∧ va_K (dC, dI) vwCl [] t ∧ va_D (va_A [] sz) []) (va_A [] sz)) 0 0 (va_A [] sz) := by
  refine Met.ofW (cc := cX16_part) (maxL := 3) (ret := (some .int)) (by decide) rfl ?_
  intro p e s m args below meth c s₁ B hml hv
  obtain ⟨rfl, hsz, hP, hK, hD0, hN⟩ := hv
  have hx := B.exec
  have hb := B.bytes
  have hr := B.returns
  have hts := atoms_spec (ws := ow_k_X16_part_v8) B.pre
  have hown : s.vm.findClass RX16 = some m.cls := findClass_of_methodNamed B.named
  have hlocks := B.notSynchronized
  subst hsz
  have hD := hD0.self (sz := s.heap.size)
  generalize hAe : va_A [] s.heap.size = A at hD hN ⊢
  have hA : ∀ q : Nat, s.heap.size ≤ q → A q := fun q h => by rw [← hAe]; exact Or.inr h
  have hS : va_S A s.heap s.heap [] := va_S.rf
  have hl := lv_entry ([.int c0, .int 5, .int 6]) (n := 3) (Nat.le_of_ble_eq_true rfl)
  rw [lg_entry_eq]
  generalize (lg_sl ([.int c0, .int 5, .int 6]) ++ List.replicate (3 - (lg_sl ([.int c0, .int 5, .int 6])).length) Slot.unset).toArray = ls at hl ⊢
  have hl : lv_has ls 3 [(0, .int c0), (1, .int 5), (2, .int 6)] := hl
  refine lv_iload_n hx hb dX16_part_0 rfl (lv_at hl 0 rfl) ?_
  refine lv_iload_n hx hb dX16_part_1 rfl (lv_at hl 1 rfl) ?_
  refine lv_iushr hx hb dX16_part_2 rfl ?_
  refine lv_iconst (v := 1) hx hb dX16_part_3 (by decide) ?_
  refine lv_iload_n hx hb dX16_part_4 rfl (lv_at hl 2 rfl) ?_
  refine lv_ishl hx hb dX16_part_5 ?_
  refine lv_topi (fun z1 ez1 => ?_)
  obtain rfl : z1 = 64 := ez1.trans (by decide)
  refine lv_iconst (v := 1) hx hb dX16_part_6 (by decide) ?_
  refine lv_isub hx hb dX16_part_7 ?_
  refine lv_topi (fun z2 ez2 => ?_)
  obtain rfl : z2 = 63 := ez2.trans (by decide)
  refine lv_iand hx hb dX16_part_8 ?_
  refine W.widen (k := 0) (n := 0) (by decide +kernel) (by decide +kernel) ?_
  exact W.iret (v := ((((c0 : Int32).toUInt32 >>> ((5 : Int32).toUInt32 &&& Int32.toUInt32 31)).toInt32) &&& 63)) hx hb hr (fun t ht hW => ⟨⟨((((c0 : Int32).toUInt32 >>> ((5 : Int32).toUInt32 &&& Int32.toUInt32 31)).toInt32) &&& 63), (), rfl, Or.inl rfl, by rw [ht]; exact hP, va_K.moved hW.alike hK, hD⟩, hS.F ht⟩) hS.2.2 dX16_part_9
def ow_k_X16_bit_v8 : List Cond := .code yX16_bit cX16_bit 4 (some .int) :: ([.methodLink RX16 297 yX16_part, .static yX16_part, .initialized RX16] ++ (ow_k_X16_part_v8 ++ []))
theorem gd_k_X16_bit_v8 : ∀ w ∈ ow_k_X16_bit_v8, (w.onTables && w.keeps) = true ∨ ∃ ty, w = Cond.arrayClass ty := List.forall_mem_cons.mpr ⟨good_of_word rfl, List.forall_mem_append.mpr ⟨fun w h => good_of_word (List.all_eq_true.mp (by decide +kernel) w h), List.forall_mem_append.mpr ⟨gd_k_X16_part_v8, fun _ h => nomatch h⟩⟩⟩
theorem gi_k_X16_bit_v8_0 : GoodIn ow_k_X16_bit_v8 (wsS RX16 297 yX16_part ow_k_X16_part_v8) := goodIn_app (goodIn_of _ (by decide +kernel)) (fun w h => ⟨List.mem_cons_of_mem _ (List.mem_append_right _ (List.mem_append_left _ h)), gd_k_X16_part_v8 w h⟩)
set_option maxHeartbeats 40000000 in
set_option maxRecDepth 100000 in
theorem k_X16_bit_v8 (l : Launch) (hlt : l.stackTraces = false) (dC : Nat → ClassId) (dI : Nat → Nat → Nat) (c0 : Int32) (sz : Nat) : Met l yX16_bit ow_k_X16_bit_v8 ({ frames := 1, cells := 0, slots := 0, locals := 22 }) (va_Pc [.int c0, .int 5, .int 6, .int 25] (fun U => U.heap.size = sz ∧ va_P (dC, dI) vwCl [] U.heap ∧ va_K (dC, dI) vwCl [] U ∧ va_D (fun _ => True) [] ∧ nv_E (va_A [] sz) U)) (va_Qi (fun r _ => (r = ((((((c0 : Int32).toUInt32 >>> ((5 : Int32).toUInt32 &&& Int32.toUInt32 31)).toInt32) &&& 63) : Int32) <<< ((25 : Int32) &&& 31))) ∨ False) (fun (_ : Unit) t => va_P (dC, dI) vwCl [] t.heap ∧ va_K (dC, dI) vwCl [] t ∧ va_D (va_A [] sz) []) (va_A [] sz)) 0 0 (va_A [] sz) := by
  refine Met.ofW (cc := cX16_bit) (maxL := 4) (ret := (some .int)) (by decide) rfl ?_
  intro p e s m args below meth c s₁ B hml hv
  obtain ⟨rfl, hsz, hP, hK, hD0, hN⟩ := hv
  have hx := B.exec
  have hb := B.bytes
  have hr := B.returns
  have hts := atoms_spec (ws := ow_k_X16_bit_v8) B.pre
  have hown : s.vm.findClass RX16 = some m.cls := findClass_of_methodNamed B.named
  have hlocks := B.notSynchronized
  subst hsz
  have hD := hD0.self (sz := s.heap.size)
  generalize hAe : va_A [] s.heap.size = A at hD hN ⊢
  have hA : ∀ q : Nat, s.heap.size ≤ q → A q := fun q h => by rw [← hAe]; exact Or.inr h
  have hS : va_S A s.heap s.heap [] := va_S.rf
  have hl := lv_entry ([.int c0, .int 5, .int 6, .int 25]) (n := 4) (Nat.le_of_ble_eq_true rfl)
  rw [lg_entry_eq]
  generalize (lg_sl ([.int c0, .int 5, .int 6, .int 25]) ++ List.replicate (4 - (lg_sl ([.int c0, .int 5, .int 6, .int 25])).length) Slot.unset).toArray = ls at hl ⊢
  have hl : lv_has ls 4 [(0, .int c0), (1, .int 5), (2, .int 6), (3, .int 25)] := hl
  refine lv_iload_n hx hb dX16_bit_0 rfl (lv_at hl 0 rfl) ?_
  refine lv_iload_n hx hb dX16_bit_1 rfl (lv_at hl 1 rfl) ?_
  refine lv_iload_n hx hb dX16_bit_2 rfl (lv_at hl 2 rfl) ?_
  have hPc := hP.sub (ws' := []) [] rfl
  have hDc := hD.sub (ws' := []) [] (by decide) rfl
  have hKc := hK.sub (tys' := []) [] rfl
  have hFc := va_free (wc := []) hD hS hA [] rfl
  refine va_calli (va_runS (As := [.int c0, .int 5, .int 6]) (rest := []) ⟨hx, hb, hml, hown, hts⟩ (k_X16_part_v8 l hlt dC dI c0  s.heap.size) (cwS 3 hts gi_k_X16_bit_v8_0 rfl rfl rfl (by decide +kernel) ⟨Nat.le_of_ble_eq_true rfl, Nat.le_of_ble_eq_true rfl⟩) ⟨fun a U g mk q => by obtain ⟨q0, q1, qP, qK, qD, qN⟩ := q; exact ⟨q0, q1, qP, va_K.moved (u := U) (U := U.calling g mk a) (Vm.Alike.refl U.vm) qK, qD, nv_same rfl rfl qN⟩, fun U hU hW => ⟨rfl, by rw [hU], by rw [hU]; exact hPc, va_K.moved hW.alike hKc, hDc.weaken (fun _ _ _ _ => trivial), nv_call hS hFc hU hW hN⟩⟩ rfl rfl hl.1 rfl (lv_room (Nat.le_of_ble_eq_true rfl)) dX16_bit_3 ⟨by decide +kernel, by decide +kernel⟩) hS (fun q _ h => hFc q h) hFc (fun r1 u t H1 locs ht hvm hw hB hz1 hk1 hS => ?_)
  obtain ⟨hP1, hK1, hD1⟩ := hB
  rw [ht] at hP1
  have hK1 := va_K.moved hvm.symm hK1
  obtain ⟨hP, hD⟩ := va_join (wr := []) (w1 := []) hP hD [] [] rfl rfl (by decide) (by decide) hk1 hFc hP1 hD1
  have hK := (hK.sub (tys' := []) [] rfl).app hK1
  generalize H1 = H at hP hS ⊢
  have hP : va_P (dC, dI) vwCl [] H := hP
  have hD : va_D A [] := hD
  have hK : va_K (dC, dI) vwCl [] s := hK
  refine W.widen (k := 0) (n := 0) (by decide +kernel) (by decide +kernel) ?_
  rcases hw with h9 | h9
  · subst h9
    refine lv_iload_n hx hb dX16_bit_6 rfl (lv_at hl 3 rfl) ?_
    refine lv_ishl hx hb dX16_bit_7 ?_
    refine W.widen (k := 0) (n := 0) (by decide +kernel) (by decide +kernel) ?_
    exact W.iret (v := ((((((c0 : Int32).toUInt32 >>> ((5 : Int32).toUInt32 &&& Int32.toUInt32 31)).toInt32) &&& 63) : Int32) <<< ((25 : Int32) &&& 31))) hx hb hr (fun t ht hW => ⟨⟨((((((c0 : Int32).toUInt32 >>> ((5 : Int32).toUInt32 &&& Int32.toUInt32 31)).toInt32) &&& 63) : Int32) <<< ((25 : Int32) &&& 31)), (), rfl, Or.inl rfl, by rw [ht]; exact hP, va_K.moved hW.alike hK, hD⟩, hS.F ht⟩) hS.2.2 dX16_bit_8
  · exact h9.elim
def ow_k_X16_part_v9 : List Cond := .code yX16_part cX16_part 3 (some .int) :: ([] ++ [])
theorem gd_k_X16_part_v9 : ∀ w ∈ ow_k_X16_part_v9, (w.onTables && w.keeps) = true ∨ ∃ ty, w = Cond.arrayClass ty := List.forall_mem_cons.mpr ⟨good_of_word rfl, List.forall_mem_append.mpr ⟨fun w h => good_of_word (List.all_eq_true.mp (by decide +kernel) w h), fun _ h => nomatch h⟩⟩
set_option maxHeartbeats 40000000 in
set_option maxRecDepth 100000 in
theorem k_X16_part_v9 (l : Launch) (hlt : l.stackTraces = false) (dC : Nat → ClassId) (dI : Nat → Nat → Nat) (c0 : Int32) (sz : Nat) : Met l yX16_part ow_k_X16_part_v9 ({ frames := 0, cells := 0, slots := 0, locals := 0 }) (va_Pc [.int c0, .int 12, .int 1] (fun U => U.heap.size = sz ∧ va_P (dC, dI) vwCl [] U.heap ∧ va_K (dC, dI) vwCl [] U ∧ va_D (fun _ => True) [] ∧ nv_E (va_A [] sz) U)) (va_Qi (fun r _ => (r = ((((c0 : Int32).toUInt32 >>> ((12 : Int32).toUInt32 &&& Int32.toUInt32 31)).toInt32) &&& 1)) ∨ False) (fun (_ : Unit) t => va_P (dC, dI) vwCl [] t.heap ∧ va_K (dC, dI) vwCl [] t ∧ va_D (va_A [] sz) []) (va_A [] sz)) 0 0 (va_A [] sz) := by
  refine Met.ofW (cc := cX16_part) (maxL := 3) (ret := (some .int)) (by decide) rfl ?_
  intro p e s m args below meth c s₁ B hml hv
  obtain ⟨rfl, hsz, hP, hK, hD0, hN⟩ := hv
  have hx := B.exec
  have hb := B.bytes
  have hr := B.returns
  have hts := atoms_spec (ws := ow_k_X16_part_v9) B.pre
  have hown : s.vm.findClass RX16 = some m.cls := findClass_of_methodNamed B.named
  have hlocks := B.notSynchronized
  subst hsz
  have hD := hD0.self (sz := s.heap.size)
  generalize hAe : va_A [] s.heap.size = A at hD hN ⊢
  have hA : ∀ q : Nat, s.heap.size ≤ q → A q := fun q h => by rw [← hAe]; exact Or.inr h
  have hS : va_S A s.heap s.heap [] := va_S.rf
  have hl := lv_entry ([.int c0, .int 12, .int 1]) (n := 3) (Nat.le_of_ble_eq_true rfl)
  rw [lg_entry_eq]
  generalize (lg_sl ([.int c0, .int 12, .int 1]) ++ List.replicate (3 - (lg_sl ([.int c0, .int 12, .int 1])).length) Slot.unset).toArray = ls at hl ⊢
  have hl : lv_has ls 3 [(0, .int c0), (1, .int 12), (2, .int 1)] := hl
  refine lv_iload_n hx hb dX16_part_0 rfl (lv_at hl 0 rfl) ?_
  refine lv_iload_n hx hb dX16_part_1 rfl (lv_at hl 1 rfl) ?_
  refine lv_iushr hx hb dX16_part_2 rfl ?_
  refine lv_iconst (v := 1) hx hb dX16_part_3 (by decide) ?_
  refine lv_iload_n hx hb dX16_part_4 rfl (lv_at hl 2 rfl) ?_
  refine lv_ishl hx hb dX16_part_5 ?_
  refine lv_topi (fun z1 ez1 => ?_)
  obtain rfl : z1 = 2 := ez1.trans (by decide)
  refine lv_iconst (v := 1) hx hb dX16_part_6 (by decide) ?_
  refine lv_isub hx hb dX16_part_7 ?_
  refine lv_topi (fun z2 ez2 => ?_)
  obtain rfl : z2 = 1 := ez2.trans (by decide)
  refine lv_iand hx hb dX16_part_8 ?_
  refine W.widen (k := 0) (n := 0) (by decide +kernel) (by decide +kernel) ?_
  exact W.iret (v := ((((c0 : Int32).toUInt32 >>> ((12 : Int32).toUInt32 &&& Int32.toUInt32 31)).toInt32) &&& 1)) hx hb hr (fun t ht hW => ⟨⟨((((c0 : Int32).toUInt32 >>> ((12 : Int32).toUInt32 &&& Int32.toUInt32 31)).toInt32) &&& 1), (), rfl, Or.inl rfl, by rw [ht]; exact hP, va_K.moved hW.alike hK, hD⟩, hS.F ht⟩) hS.2.2 dX16_part_9
def ow_k_X16_bit_v9 : List Cond := .code yX16_bit cX16_bit 4 (some .int) :: ([.methodLink RX16 297 yX16_part, .static yX16_part, .initialized RX16] ++ (ow_k_X16_part_v9 ++ []))
theorem gd_k_X16_bit_v9 : ∀ w ∈ ow_k_X16_bit_v9, (w.onTables && w.keeps) = true ∨ ∃ ty, w = Cond.arrayClass ty := List.forall_mem_cons.mpr ⟨good_of_word rfl, List.forall_mem_append.mpr ⟨fun w h => good_of_word (List.all_eq_true.mp (by decide +kernel) w h), List.forall_mem_append.mpr ⟨gd_k_X16_part_v9, fun _ h => nomatch h⟩⟩⟩
theorem gi_k_X16_bit_v9_0 : GoodIn ow_k_X16_bit_v9 (wsS RX16 297 yX16_part ow_k_X16_part_v9) := goodIn_app (goodIn_of _ (by decide +kernel)) (fun w h => ⟨List.mem_cons_of_mem _ (List.mem_append_right _ (List.mem_append_left _ h)), gd_k_X16_part_v9 w h⟩)
set_option maxHeartbeats 40000000 in
set_option maxRecDepth 100000 in
theorem k_X16_bit_v9 (l : Launch) (hlt : l.stackTraces = false) (dC : Nat → ClassId) (dI : Nat → Nat → Nat) (c0 : Int32) (sz : Nat) : Met l yX16_bit ow_k_X16_bit_v9 ({ frames := 1, cells := 0, slots := 0, locals := 22 }) (va_Pc [.int c0, .int 12, .int 1, .int 31] (fun U => U.heap.size = sz ∧ va_P (dC, dI) vwCl [] U.heap ∧ va_K (dC, dI) vwCl [] U ∧ va_D (fun _ => True) [] ∧ nv_E (va_A [] sz) U)) (va_Qi (fun r _ => (r = ((((((c0 : Int32).toUInt32 >>> ((12 : Int32).toUInt32 &&& Int32.toUInt32 31)).toInt32) &&& 1) : Int32) <<< ((31 : Int32) &&& 31))) ∨ False) (fun (_ : Unit) t => va_P (dC, dI) vwCl [] t.heap ∧ va_K (dC, dI) vwCl [] t ∧ va_D (va_A [] sz) []) (va_A [] sz)) 0 0 (va_A [] sz) := by
  refine Met.ofW (cc := cX16_bit) (maxL := 4) (ret := (some .int)) (by decide) rfl ?_
  intro p e s m args below meth c s₁ B hml hv
  obtain ⟨rfl, hsz, hP, hK, hD0, hN⟩ := hv
  have hx := B.exec
  have hb := B.bytes
  have hr := B.returns
  have hts := atoms_spec (ws := ow_k_X16_bit_v9) B.pre
  have hown : s.vm.findClass RX16 = some m.cls := findClass_of_methodNamed B.named
  have hlocks := B.notSynchronized
  subst hsz
  have hD := hD0.self (sz := s.heap.size)
  generalize hAe : va_A [] s.heap.size = A at hD hN ⊢
  have hA : ∀ q : Nat, s.heap.size ≤ q → A q := fun q h => by rw [← hAe]; exact Or.inr h
  have hS : va_S A s.heap s.heap [] := va_S.rf
  have hl := lv_entry ([.int c0, .int 12, .int 1, .int 31]) (n := 4) (Nat.le_of_ble_eq_true rfl)
  rw [lg_entry_eq]
  generalize (lg_sl ([.int c0, .int 12, .int 1, .int 31]) ++ List.replicate (4 - (lg_sl ([.int c0, .int 12, .int 1, .int 31])).length) Slot.unset).toArray = ls at hl ⊢
  have hl : lv_has ls 4 [(0, .int c0), (1, .int 12), (2, .int 1), (3, .int 31)] := hl
  refine lv_iload_n hx hb dX16_bit_0 rfl (lv_at hl 0 rfl) ?_
  refine lv_iload_n hx hb dX16_bit_1 rfl (lv_at hl 1 rfl) ?_
  refine lv_iload_n hx hb dX16_bit_2 rfl (lv_at hl 2 rfl) ?_
  have hPc := hP.sub (ws' := []) [] rfl
  have hDc := hD.sub (ws' := []) [] (by decide) rfl
  have hKc := hK.sub (tys' := []) [] rfl
  have hFc := va_free (wc := []) hD hS hA [] rfl
  refine va_calli (va_runS (As := [.int c0, .int 12, .int 1]) (rest := []) ⟨hx, hb, hml, hown, hts⟩ (k_X16_part_v9 l hlt dC dI c0  s.heap.size) (cwS 3 hts gi_k_X16_bit_v9_0 rfl rfl rfl (by decide +kernel) ⟨Nat.le_of_ble_eq_true rfl, Nat.le_of_ble_eq_true rfl⟩) ⟨fun a U g mk q => by obtain ⟨q0, q1, qP, qK, qD, qN⟩ := q; exact ⟨q0, q1, qP, va_K.moved (u := U) (U := U.calling g mk a) (Vm.Alike.refl U.vm) qK, qD, nv_same rfl rfl qN⟩, fun U hU hW => ⟨rfl, by rw [hU], by rw [hU]; exact hPc, va_K.moved hW.alike hKc, hDc.weaken (fun _ _ _ _ => trivial), nv_call hS hFc hU hW hN⟩⟩ rfl rfl hl.1 rfl (lv_room (Nat.le_of_ble_eq_true rfl)) dX16_bit_3 ⟨by decide +kernel, by decide +kernel⟩) hS (fun q _ h => hFc q h) hFc (fun r1 u t H1 locs ht hvm hw hB hz1 hk1 hS => ?_)
  obtain ⟨hP1, hK1, hD1⟩ := hB
  rw [ht] at hP1
  have hK1 := va_K.moved hvm.symm hK1
  obtain ⟨hP, hD⟩ := va_join (wr := []) (w1 := []) hP hD [] [] rfl rfl (by decide) (by decide) hk1 hFc hP1 hD1
  have hK := (hK.sub (tys' := []) [] rfl).app hK1
  generalize H1 = H at hP hS ⊢
  have hP : va_P (dC, dI) vwCl [] H := hP
  have hD : va_D A [] := hD
  have hK : va_K (dC, dI) vwCl [] s := hK
  refine W.widen (k := 0) (n := 0) (by decide +kernel) (by decide +kernel) ?_
  rcases hw with h9 | h9
  · subst h9
    refine lv_iload_n hx hb dX16_bit_6 rfl (lv_at hl 3 rfl) ?_
    refine lv_ishl hx hb dX16_bit_7 ?_
    refine W.widen (k := 0) (n := 0) (by decide +kernel) (by decide +kernel) ?_
    exact W.iret (v := ((((((c0 : Int32).toUInt32 >>> ((12 : Int32).toUInt32 &&& Int32.toUInt32 31)).toInt32) &&& 1) : Int32) <<< ((31 : Int32) &&& 31))) hx hb hr (fun t ht hW => ⟨⟨((((((c0 : Int32).toUInt32 >>> ((12 : Int32).toUInt32 &&& Int32.toUInt32 31)).toInt32) &&& 1) : Int32) <<< ((31 : Int32) &&& 31)), (), rfl, Or.inl rfl, by rw [ht]; exact hP, va_K.moved hW.alike hK, hD⟩, hS.F ht⟩) hS.2.2 dX16_bit_8
  · exact h9.elim
def ow_g_X16_branch : List Cond := .code yX16_branch cX16_branch 3 (some .int) :: ([.methodLink RX16 300 yX16_bit, .static yX16_bit, .initialized RX16] ++ (ow_k_X16_bit_v6 ++ (ow_k_X16_bit_v7 ++ (ow_k_X16_bit_v8 ++ (ow_k_X16_bit_v9 ++ [])))))
theorem gd_g_X16_branch : ∀ w ∈ ow_g_X16_branch, (w.onTables && w.keeps) = true ∨ ∃ ty, w = Cond.arrayClass ty := List.forall_mem_cons.mpr ⟨good_of_word rfl, List.forall_mem_append.mpr ⟨fun w h => good_of_word (List.all_eq_true.mp (by decide +kernel) w h), List.forall_mem_append.mpr ⟨gd_k_X16_bit_v6, List.forall_mem_append.mpr ⟨gd_k_X16_bit_v7, List.forall_mem_append.mpr ⟨gd_k_X16_bit_v8, List.forall_mem_append.mpr ⟨gd_k_X16_bit_v9, fun _ h => nomatch h⟩⟩⟩⟩⟩⟩
theorem gi_g_X16_branch_0 : GoodIn ow_g_X16_branch (wsS RX16 300 yX16_bit ow_k_X16_bit_v6) := goodIn_app (goodIn_of _ (by decide +kernel)) (fun w h => ⟨List.mem_cons_of_mem _ (List.mem_append_right _ (List.mem_append_left _ h)), gd_k_X16_bit_v6 w h⟩)
theorem gi_g_X16_branch_1 : GoodIn ow_g_X16_branch (wsS RX16 300 yX16_bit ow_k_X16_bit_v7) := goodIn_app (goodIn_of _ (by decide +kernel)) (fun w h => ⟨List.mem_cons_of_mem _ (List.mem_append_right _ (List.mem_append_right _ (List.mem_append_left _ h))), gd_k_X16_bit_v7 w h⟩)
theorem gi_g_X16_branch_2 : GoodIn ow_g_X16_branch (wsS RX16 300 yX16_bit ow_k_X16_bit_v8) := goodIn_app (goodIn_of _ (by decide +kernel)) (fun w h => ⟨List.mem_cons_of_mem _ (List.mem_append_right _ (List.mem_append_right _ (List.mem_append_right _ (List.mem_append_left _ h)))), gd_k_X16_bit_v8 w h⟩)
theorem gi_g_X16_branch_3 : GoodIn ow_g_X16_branch (wsS RX16 300 yX16_bit ow_k_X16_bit_v9) := goodIn_app (goodIn_of _ (by decide +kernel)) (fun w h => ⟨List.mem_cons_of_mem _ (List.mem_append_right _ (List.mem_append_right _ (List.mem_append_right _ (List.mem_append_right _ (List.mem_append_left _ h))))), gd_k_X16_bit_v9 w h⟩)
