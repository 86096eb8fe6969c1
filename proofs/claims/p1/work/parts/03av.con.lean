set_option maxHeartbeats 40000000 in
set_option maxRecDepth 100000 in
theorem k_X12_outside (l : Launch) (hlt : l.stackTraces = false) (dC : Nat → ClassId) (dI : Nat → Nat → Nat) (c0 : Nat) (c1 : Nat) (c2 : Int32) (c3 : Int64) (c4 : Int32) (c5 : Nat) (c6 : Nat) (c7 : Nat) (c8 : Nat) (c9 : Nat) (c10 : Nat) (c11 : Nat) (c12 : Nat) (c13 : Nat) (c14 : Nat) (c15 : Nat) (c16 : Nat) (c17 : Nat) (c18 : Nat) (c19 : Nat) (c20 : Nat) (sz : Nat) : vx_Met l yX12_outside ow_k_X12_outside ({ frames := 6, cells := 1, slots := 6, locals := 81 }) (va_Pc [.ref c0, .int c2, .long c3, .int c4] (fun U => U.heap.size = sz ∧ va_P (dC, dI) vwCl [(c0, .inr (13, [.ref c5, .int 0, .int 0, .ref c6, .ref c7, .ref c8, .ref c1, .ref c9, .ref c10, .ref c11, .int 0, .ref c12])), (c1, .inr (12, [.ref c13, .ref c14, .ref c15, .ref c16, .ref c17, .ref c18, .int 0, .ref c19, .ref c20, .int 0, .int 0, .int 0, .int 0, .int 0, .int 0, .int 0]))] U.heap ∧ va_K (dC, dI) vwCl [] U ∧ va_D (fun _ => True) [(c0, .inr (13, [.ref c5, .int 0, .int 0, .ref c6, .ref c7, .ref c8, .ref c1, .ref c9, .ref c10, .ref c11, .int 0, .ref c12])), (c1, .inr (12, [.ref c13, .ref c14, .ref c15, .ref c16, .ref c17, .ref c18, .int 0, .ref c19, .ref c20, .int 0, .int 0, .int 0, .int 0, .int 0, .int 0, .int 0]))] ∧ nv_E (va_A [(c0, .inr (13, [.ref c5, .int 0, .int 0, .ref c6, .ref c7, .ref c8, .ref c1, .ref c9, .ref c10, .ref c11, .int 0, .ref c12])), (c1, .inr (12, [.ref c13, .ref c14, .ref c15, .ref c16, .ref c17, .ref c18, .int 0, .ref c19, .ref c20, .int 0, .int 0, .int 0, .int 0, .int 0, .int 0, .int 0]))] sz) U ∧ nv_Dc U)) (va_Qi (fun r _ => False) (fun (_ : Unit) t => True) (va_A [(c0, .inr (13, [.ref c5, .int 0, .int 0, .ref c6, .ref c7, .ref c8, .ref c1, .ref c9, .ref c10, .ref c11, .int 0, .ref c12])), (c1, .inr (12, [.ref c13, .ref c14, .ref c15, .ref c16, .ref c17, .ref c18, .int 0, .ref c19, .ref c20, .int 0, .int 0, .int 0, .int 0, .int 0, .int 0, .int 0]))] sz)) (vx_X (fun _ : Unit => True) (fun E _ _ => ((c2 = 0) ∧ (c3 < 0) ∧ E = "java/lang/IllegalArgumentException") ∨ ((c2 = 0) ∧ (¬ c3 < 0) ∧ (16 ≤ c3) ∧ E = "java/lang/IllegalArgumentException") ∨ ((c2 = 0) ∧ (¬ c3 < 0) ∧ (¬ 16 ≤ c3) ∧ E = "java/lang/IllegalStateException") ∨ ((¬ c2 = 0) ∧ (c2 = 1) ∧ (c4 < 1) ∧ E = "java/lang/IllegalArgumentException") ∨ ((¬ c2 = 0) ∧ (c2 = 1) ∧ (¬ c4 < 1) ∧ (8 < c4) ∧ E = "java/lang/IllegalArgumentException") ∨ ((¬ c2 = 0) ∧ (c2 = 1) ∧ (¬ c4 < 1) ∧ (¬ 8 < c4) ∧ E = "java/lang/IllegalStateException") ∨ ((¬ c2 = 0) ∧ (¬ c2 = 1) ∧ (c2 = 2) ∧ (c3 < 0) ∧ E = "java/lang/IllegalArgumentException") ∨ ((¬ c2 = 0) ∧ (¬ c2 = 1) ∧ (c2 = 2) ∧ (¬ c3 < 0) ∧ (16 ≤ c3) ∧ E = "java/lang/IllegalArgumentException") ∨ ((¬ c2 = 0) ∧ (¬ c2 = 1) ∧ (c2 = 2) ∧ (¬ c3 < 0) ∧ (¬ 16 ≤ c3) ∧ (c4 < 1) ∧ E = "java/lang/IllegalArgumentException") ∨ ((¬ c2 = 0) ∧ (¬ c2 = 1) ∧ (c2 = 2) ∧ (¬ c3 < 0) ∧ (¬ 16 ≤ c3) ∧ (¬ c4 < 1) ∧ (31 < c4) ∧ E = "java/lang/IllegalArgumentException") ∨ ((¬ c2 = 0) ∧ (¬ c2 = 1) ∧ (c2 = 2) ∧ (¬ c3 < 0) ∧ (¬ 16 ≤ c3) ∧ (¬ c4 < 1) ∧ (¬ 31 < c4) ∧ E = "java/lang/IllegalStateException") ∨ ((¬ c2 = 0) ∧ (¬ c2 = 1) ∧ (¬ c2 = 2) ∧ (c2 = 3) ∧ (c3 < 0) ∧ E = "java/lang/IllegalArgumentException") ∨ ((¬ c2 = 0) ∧ (¬ c2 = 1) ∧ (¬ c2 = 2) ∧ (c2 = 3) ∧ (¬ c3 < 0) ∧ (1099511627776 < c3) ∧ E = "java/lang/IllegalArgumentException") ∨ ((¬ c2 = 0) ∧ (¬ c2 = 1) ∧ (¬ c2 = 2) ∧ (c2 = 3) ∧ (¬ c3 < 0) ∧ (¬ 1099511627776 < c3) ∧ E = "java/lang/IllegalStateException") ∨ ((¬ c2 = 0) ∧ (¬ c2 = 1) ∧ (¬ c2 = 2) ∧ (¬ c2 = 3) ∧ (¬ c2 = 4) ∧ E = "java/lang/IllegalArgumentException") ∨ ((¬ c2 = 0) ∧ (¬ c2 = 1) ∧ (¬ c2 = 2) ∧ (¬ c2 = 3) ∧ (c2 = 4) ∧ E = "java/lang/IllegalStateException") ∨ False) (va_A [(c0, .inr (13, [.ref c5, .int 0, .int 0, .ref c6, .ref c7, .ref c8, .ref c1, .ref c9, .ref c10, .ref c11, .int 0, .ref c12])), (c1, .inr (12, [.ref c13, .ref c14, .ref c15, .ref c16, .ref c17, .ref c18, .int 0, .ref c19, .ref c20, .int 0, .int 0, .int 0, .int 0, .int 0, .int 0, .int 0]))] sz)) 1 6 (va_A [(c0, .inr (13, [.ref c5, .int 0, .int 0, .ref c6, .ref c7, .ref c8, .ref c1, .ref c9, .ref c10, .ref c11, .int 0, .ref c12])), (c1, .inr (12, [.ref c13, .ref c14, .ref c15, .ref c16, .ref c17, .ref c18, .int 0, .ref c19, .ref c20, .int 0, .int 0, .int 0, .int 0, .int 0, .int 0, .int 0]))] sz) := by
  refine vx_ofW (cc := cX12_outside) (maxL := 5) (ret := (some .int)) (by decide) rfl ?_
  intro p e s m args below meth c s₁ B hml htb hv
  obtain ⟨rfl, hsz, hP, hK, hD0, hN, hDe⟩ := hv
  have hx := B.exec
  have hb := B.bytes
  have hr := B.returns
  have hts := atoms_spec (ws := ow_k_X12_outside) B.pre
  have hown : s.vm.findClass RX12 = some m.cls := findClass_of_methodNamed B.named
  have hlocks := B.notSynchronized
  subst hsz
  have hD := hD0.self (sz := s.heap.size)
  generalize hAe : va_A [(c0, .inr (13, [.ref c5, .int 0, .int 0, .ref c6, .ref c7, .ref c8, .ref c1, .ref c9, .ref c10, .ref c11, .int 0, .ref c12])), (c1, .inr (12, [.ref c13, .ref c14, .ref c15, .ref c16, .ref c17, .ref c18, .int 0, .ref c19, .ref c20, .int 0, .int 0, .int 0, .int 0, .int 0, .int 0, .int 0]))] s.heap.size = A at hD hN ⊢
  have hA : ∀ q : Nat, s.heap.size ≤ q → A q := fun q h => by rw [← hAe]; exact Or.inr h
  have hS : va_S A s.heap s.heap [] := va_S.rf
  have hl := lv_entry ([.ref c0, .int c2, .long c3, .int c4]) (n := 5) (Nat.le_of_ble_eq_true rfl)
  rw [lg_entry_eq]
  generalize (lg_sl ([.ref c0, .int c2, .long c3, .int c4]) ++ List.replicate (5 - (lg_sl ([.ref c0, .int c2, .long c3, .int c4])).length) Slot.unset).toArray = ls at hl ⊢
  have hl : lv_has ls 5 [(0, .ref c0), (1, .int c2), (2, .long c3), (4, .int c4)] := hl
  refine lv_iload_n hx hb dX12_outside_0 rfl (lv_at hl 1 rfl) ?_
  refine lv_lload_n hx hb dX12_outside_1 rfl (lv_at hl 2 rfl) ?_
  refine lv_iload hx hb dX12_outside_2 (lv_at hl 3 rfl) ?_
  have hPc := hP.sub (ws' := []) [] rfl
  have hDc := hD.sub (ws' := []) [] (by decide) rfl
  have hKc := hK.sub (tys' := []) [] rfl
  have hFc := va_free (wc := []) hD hS hA [] rfl
  refine va_calli (va_runS (As := [.int c2, .long c3, .int c4]) (rest := []) ⟨hx, hb, hml, hown, hts⟩ (k_X3_isEvent l hlt dC dI c2 c3 c4  s.heap.size) (va_cwS 3 hts gi_k_X12_outside_0 rfl rfl rfl (by decide +kernel) ⟨Nat.le_of_ble_eq_true rfl, Nat.le_of_ble_eq_true rfl⟩) ⟨fun a U g mk q => by obtain ⟨q0, q1, qP, qK, qD, qN⟩ := q; exact ⟨q0, q1, qP, va_K.moved (u := U) (U := U.calling g mk a) (Vm.Alike.refl U.vm) qK, qD, nv_same rfl rfl qN⟩, fun U hU hW => ⟨rfl, by rw [hU], by rw [hU]; exact hPc, va_K.moved hW.alike hKc, hDc.weaken (fun _ _ _ _ => trivial), nv_call hS hFc hU hW hN⟩⟩ rfl rfl hl.1 rfl (lv_room (Nat.le_of_ble_eq_true rfl)) dX12_outside_4 ⟨by decide +kernel, by decide +kernel⟩) hS (fun q _ h => hFc q h) hFc (fun r1 u t H1 locs ht hvm hw hB hz1 hk1 hS => ?_)
  obtain ⟨hP1, hK1, hD1⟩ := hB
  rw [ht] at hP1
  have hK1 := va_K.moved hvm.symm hK1
  obtain ⟨hP, hD⟩ := va_join (wr := [(c0, .inr (13, [.ref c5, .int 0, .int 0, .ref c6, .ref c7, .ref c8, .ref c1, .ref c9, .ref c10, .ref c11, .int 0, .ref c12])), (c1, .inr (12, [.ref c13, .ref c14, .ref c15, .ref c16, .ref c17, .ref c18, .int 0, .ref c19, .ref c20, .int 0, .int 0, .int 0, .int 0, .int 0, .int 0, .int 0]))]) (w1 := []) hP hD [] [0, 1] rfl rfl (by decide) (by decide) hk1 hFc hP1 hD1
  have hK := (hK.sub (tys' := []) [] rfl).app hK1
  generalize H1 = H at hP hS ⊢
  have hP : va_P (dC, dI) vwCl [(c0, .inr (13, [.ref c5, .int 0, .int 0, .ref c6, .ref c7, .ref c8, .ref c1, .ref c9, .ref c10, .ref c11, .int 0, .ref c12])), (c1, .inr (12, [.ref c13, .ref c14, .ref c15, .ref c16, .ref c17, .ref c18, .int 0, .ref c19, .ref c20, .int 0, .int 0, .int 0, .int 0, .int 0, .int 0, .int 0]))] H := hP
  have hD : va_D A [(c0, .inr (13, [.ref c5, .int 0, .int 0, .ref c6, .ref c7, .ref c8, .ref c1, .ref c9, .ref c10, .ref c11, .int 0, .ref c12])), (c1, .inr (12, [.ref c13, .ref c14, .ref c15, .ref c16, .ref c17, .ref c18, .int 0, .ref c19, .ref c20, .int 0, .int 0, .int 0, .int 0, .int 0, .int 0, .int 0]))] := hD
  have hK : va_K (dC, dI) vwCl [] s := hK
  refine W.widen (k := 0) (n := 0) (by decide +kernel) (by decide +kernel) ?_
  rcases hw with ⟨c_1_0, c_1_1, h9⟩ | ⟨c_1_0, c_1_1, c_1_2, h9⟩ | ⟨c_1_0, c_1_1, c_1_2, h9⟩ | ⟨c_1_0, c_1_1, c_1_2, h9⟩ | ⟨c_1_0, c_1_1, c_1_2, c_1_3, h9⟩ | ⟨c_1_0, c_1_1, c_1_2, c_1_3, h9⟩ | ⟨c_1_0, c_1_1, c_1_2, c_1_3, h9⟩ | ⟨c_1_0, c_1_1, c_1_2, c_1_3, c_1_4, h9⟩ | ⟨c_1_0, c_1_1, c_1_2, c_1_3, c_1_4, c_1_5, h9⟩ | ⟨c_1_0, c_1_1, c_1_2, c_1_3, c_1_4, c_1_5, c_1_6, h9⟩ | ⟨c_1_0, c_1_1, c_1_2, c_1_3, c_1_4, c_1_5, c_1_6, h9⟩ | ⟨c_1_0, c_1_1, c_1_2, c_1_3, c_1_4, h9⟩ | ⟨c_1_0, c_1_1, c_1_2, c_1_3, c_1_4, c_1_5, h9⟩ | ⟨c_1_0, c_1_1, c_1_2, c_1_3, c_1_4, c_1_5, h9⟩ | ⟨c_1_0, c_1_1, c_1_2, c_1_3, c_1_4, h9⟩ | ⟨c_1_0, c_1_1, c_1_2, c_1_3, c_1_4, h9⟩ | h9
  · subst h9
    refine lv_if_ne (tgt := 18) hx hb dX12_outside_7 (by decide) (fun h9 => absurd h9 (by decide)) (fun _ => ?_)
    exact vx_throw0 (own := RX12) (cls := "java/lang/IllegalArgumentException") (names := ["java/lang/RuntimeException", "java/lang/Exception"]) (ik := 70) (ic := 72) (A := A) hx hb hlt hown (by decide +kernel) (by decide +kernel) (hts (.classLink RX12 70 "java/lang/IllegalArgumentException") (List.mem_of_getElem? (i := 4) rfl)) (hts (.initialized "java/lang/IllegalArgumentException") (List.mem_of_getElem? (i := 5) rfl)) (vx_hat (B := [.castable "java/lang/IllegalArgumentException" "java/lang/IllegalArgumentException", .declares ⟨"java/lang/RuntimeException", "<init>", "()V"⟩, .declares ⟨"java/lang/Exception", "<init>", "()V"⟩, .declares ⟨"java/lang/Throwable", "<init>", "()V"⟩]) (fun w h => hts w (List.mem_cons_of_mem _ (List.mem_append_right _ (List.mem_append_right _ (List.mem_append_right _ (List.mem_append_right _ (List.mem_append_left _ h))))))) (by decide +kernel) (vx_c (va_Nw.use rfl hN.2.2.2.2.2.2.2.1) (vx_c (va_Nw.use rfl (hDe _ (by decide +kernel))) (vx_c (va_Nw.use rfl (hDe _ (by decide +kernel))) (vx_c (va_Nw.use rfl (hDe _ (by decide +kernel))) vx_n))))) (by decide +kernel) hN.2.2.2.2.2.1 hN.2.2.2.2.2.2.1 hS (by rw [hml]; exact hl.1) dX12_outside_10 dX12_outside_13 dX12_outside_14 dX12_outside_17 (fun x9 h9 => (htb x9 h9).elim) (Nat.le_of_ble_eq_true rfl) (Nat.le_of_ble_eq_true rfl) (by decide +kernel) (by decide +kernel) hlocks (fun t hvm hz hk => ⟨(), trivial, Or.inl ⟨c_1_0, c_1_1, rfl⟩, Nat.le_trans hS.1 hz, fun q h1 h2 => (hk q (Nat.lt_of_lt_of_le h1 hS.1)).trans (hS.2.1 q h1 h2)⟩) hS.2.2 (by decide +kernel) (by decide +kernel)
  · subst h9
    refine lv_if_ne (tgt := 18) hx hb dX12_outside_7 (by decide) (fun h9 => absurd h9 (by decide)) (fun _ => ?_)
    exact vx_throw0 (own := RX12) (cls := "java/lang/IllegalArgumentException") (names := ["java/lang/RuntimeException", "java/lang/Exception"]) (ik := 70) (ic := 72) (A := A) hx hb hlt hown (by decide +kernel) (by decide +kernel) (hts (.classLink RX12 70 "java/lang/IllegalArgumentException") (List.mem_of_getElem? (i := 4) rfl)) (hts (.initialized "java/lang/IllegalArgumentException") (List.mem_of_getElem? (i := 5) rfl)) (vx_hat (B := [.castable "java/lang/IllegalArgumentException" "java/lang/IllegalArgumentException", .declares ⟨"java/lang/RuntimeException", "<init>", "()V"⟩, .declares ⟨"java/lang/Exception", "<init>", "()V"⟩, .declares ⟨"java/lang/Throwable", "<init>", "()V"⟩]) (fun w h => hts w (List.mem_cons_of_mem _ (List.mem_append_right _ (List.mem_append_right _ (List.mem_append_right _ (List.mem_append_right _ (List.mem_append_left _ h))))))) (by decide +kernel) (vx_c (va_Nw.use rfl hN.2.2.2.2.2.2.2.1) (vx_c (va_Nw.use rfl (hDe _ (by decide +kernel))) (vx_c (va_Nw.use rfl (hDe _ (by decide +kernel))) (vx_c (va_Nw.use rfl (hDe _ (by decide +kernel))) vx_n))))) (by decide +kernel) hN.2.2.2.2.2.1 hN.2.2.2.2.2.2.1 hS (by rw [hml]; exact hl.1) dX12_outside_10 dX12_outside_13 dX12_outside_14 dX12_outside_17 (fun x9 h9 => (htb x9 h9).elim) (Nat.le_of_ble_eq_true rfl) (Nat.le_of_ble_eq_true rfl) (by decide +kernel) (by decide +kernel) hlocks (fun t hvm hz hk => ⟨(), trivial, Or.inr (Or.inl ⟨c_1_0, c_1_1, c_1_2, rfl⟩), Nat.le_trans hS.1 hz, fun q h1 h2 => (hk q (Nat.lt_of_lt_of_le h1 hS.1)).trans (hS.2.1 q h1 h2)⟩) hS.2.2 (by decide +kernel) (by decide +kernel)
  · subst h9
    refine lv_if_ne (tgt := 18) hx hb dX12_outside_7 (by decide) (fun _ => ?_) (fun h9 => absurd h9 (by decide))
    refine lv_aload_n hx hb dX12_outside_18 rfl (lv_at hl 0 rfl) ?_
    refine va_get (D := (dC, dI)) (ci := 13) (v := .ref c1) (C := RX12) (T := TX12) (N := 12) hx hb hts hi_k_X12_outside_X12 hown hK hP 0 rfl rfl 6 (by decide) (hts (.fieldLink RX12 33 "TimeMachine" "timeline" "LTimeMachine$Timeline;") (List.mem_of_getElem? (i := 6) rfl)) (fun _ h9 => h9) rfl dX12_outside_19 ?_
    refine va_get (D := (dC, dI)) (ci := 12) (v := .int 0) (C := RX11) (T := TX11) (N := 16) hx hb hts hi_k_X12_outside_X11 hown hK hP 1 rfl rfl 6 (by decide) (hts (.fieldLink RX12 142 "TimeMachine$Timeline" "booted" "Z") (List.mem_of_getElem? (i := 7) rfl)) (fun _ h9 => h9) rfl dX12_outside_22 ?_
    refine lv_if_ne (tgt := 36) hx hb dX12_outside_25 (by decide) (fun h9 => absurd h9 (by decide)) (fun _ => ?_)
    exact vx_throw0 (own := RX12) (cls := "java/lang/IllegalStateException") (names := ["java/lang/RuntimeException", "java/lang/Exception"]) (ik := 118) (ic := 120) (A := A) hx hb hlt hown (by decide +kernel) (by decide +kernel) (hts (.classLink RX12 118 "java/lang/IllegalStateException") (List.mem_of_getElem? (i := 8) rfl)) (hts (.initialized "java/lang/IllegalStateException") (List.mem_of_getElem? (i := 9) rfl)) (vx_hat (B := [.castable "java/lang/IllegalStateException" "java/lang/IllegalStateException", .declares ⟨"java/lang/RuntimeException", "<init>", "()V"⟩, .declares ⟨"java/lang/Exception", "<init>", "()V"⟩, .declares ⟨"java/lang/Throwable", "<init>", "()V"⟩]) (fun w h => hts w (List.mem_cons_of_mem _ (List.mem_append_right _ (List.mem_append_right _ (List.mem_append_right _ (List.mem_append_right _ (List.mem_append_right _ (List.mem_append_left _ h)))))))) (by decide +kernel) (vx_c (va_Nw.use rfl hN.2.2.2.2.2.2.2.2.1) (vx_c (va_Nw.use rfl (hDe _ (by decide +kernel))) (vx_c (va_Nw.use rfl (hDe _ (by decide +kernel))) (vx_c (va_Nw.use rfl (hDe _ (by decide +kernel))) vx_n))))) (by decide +kernel) hN.2.2.2.2.2.1 hN.2.2.2.2.2.2.1 hS (by rw [hml]; exact hl.1) dX12_outside_28 dX12_outside_31 dX12_outside_32 dX12_outside_35 (fun x9 h9 => (htb x9 h9).elim) (Nat.le_of_ble_eq_true rfl) (Nat.le_of_ble_eq_true rfl) (by decide +kernel) (by decide +kernel) hlocks (fun t hvm hz hk => ⟨(), trivial, Or.inr (Or.inr (Or.inl ⟨c_1_0, c_1_1, c_1_2, rfl⟩)), Nat.le_trans hS.1 hz, fun q h1 h2 => (hk q (Nat.lt_of_lt_of_le h1 hS.1)).trans (hS.2.1 q h1 h2)⟩) hS.2.2 (by decide +kernel) (by decide +kernel)
  · subst h9
    refine lv_if_ne (tgt := 18) hx hb dX12_outside_7 (by decide) (fun h9 => absurd h9 (by decide)) (fun _ => ?_)
    exact vx_throw0 (own := RX12) (cls := "java/lang/IllegalArgumentException") (names := ["java/lang/RuntimeException", "java/lang/Exception"]) (ik := 70) (ic := 72) (A := A) hx hb hlt hown (by decide +kernel) (by decide +kernel) (hts (.classLink RX12 70 "java/lang/IllegalArgumentException") (List.mem_of_getElem? (i := 4) rfl)) (hts (.initialized "java/lang/IllegalArgumentException") (List.mem_of_getElem? (i := 5) rfl)) (vx_hat (B := [.castable "java/lang/IllegalArgumentException" "java/lang/IllegalArgumentException", .declares ⟨"java/lang/RuntimeException", "<init>", "()V"⟩, .declares ⟨"java/lang/Exception", "<init>", "()V"⟩, .declares ⟨"java/lang/Throwable", "<init>", "()V"⟩]) (fun w h => hts w (List.mem_cons_of_mem _ (List.mem_append_right _ (List.mem_append_right _ (List.mem_append_right _ (List.mem_append_right _ (List.mem_append_left _ h))))))) (by decide +kernel) (vx_c (va_Nw.use rfl hN.2.2.2.2.2.2.2.1) (vx_c (va_Nw.use rfl (hDe _ (by decide +kernel))) (vx_c (va_Nw.use rfl (hDe _ (by decide +kernel))) (vx_c (va_Nw.use rfl (hDe _ (by decide +kernel))) vx_n))))) (by decide +kernel) hN.2.2.2.2.2.1 hN.2.2.2.2.2.2.1 hS (by rw [hml]; exact hl.1) dX12_outside_10 dX12_outside_13 dX12_outside_14 dX12_outside_17 (fun x9 h9 => (htb x9 h9).elim) (Nat.le_of_ble_eq_true rfl) (Nat.le_of_ble_eq_true rfl) (by decide +kernel) (by decide +kernel) hlocks (fun t hvm hz hk => ⟨(), trivial, Or.inr (Or.inr (Or.inr (Or.inl ⟨c_1_0, c_1_1, c_1_2, rfl⟩))), Nat.le_trans hS.1 hz, fun q h1 h2 => (hk q (Nat.lt_of_lt_of_le h1 hS.1)).trans (hS.2.1 q h1 h2)⟩) hS.2.2 (by decide +kernel) (by decide +kernel)
  · subst h9
    refine lv_if_ne (tgt := 18) hx hb dX12_outside_7 (by decide) (fun h9 => absurd h9 (by decide)) (fun _ => ?_)
    exact vx_throw0 (own := RX12) (cls := "java/lang/IllegalArgumentException") (names := ["java/lang/RuntimeException", "java/lang/Exception"]) (ik := 70) (ic := 72) (A := A) hx hb hlt hown (by decide +kernel) (by decide +kernel) (hts (.classLink RX12 70 "java/lang/IllegalArgumentException") (List.mem_of_getElem? (i := 4) rfl)) (hts (.initialized "java/lang/IllegalArgumentException") (List.mem_of_getElem? (i := 5) rfl)) (vx_hat (B := [.castable "java/lang/IllegalArgumentException" "java/lang/IllegalArgumentException", .declares ⟨"java/lang/RuntimeException", "<init>", "()V"⟩, .declares ⟨"java/lang/Exception", "<init>", "()V"⟩, .declares ⟨"java/lang/Throwable", "<init>", "()V"⟩]) (fun w h => hts w (List.mem_cons_of_mem _ (List.mem_append_right _ (List.mem_append_right _ (List.mem_append_right _ (List.mem_append_right _ (List.mem_append_left _ h))))))) (by decide +kernel) (vx_c (va_Nw.use rfl hN.2.2.2.2.2.2.2.1) (vx_c (va_Nw.use rfl (hDe _ (by decide +kernel))) (vx_c (va_Nw.use rfl (hDe _ (by decide +kernel))) (vx_c (va_Nw.use rfl (hDe _ (by decide +kernel))) vx_n))))) (by decide +kernel) hN.2.2.2.2.2.1 hN.2.2.2.2.2.2.1 hS (by rw [hml]; exact hl.1) dX12_outside_10 dX12_outside_13 dX12_outside_14 dX12_outside_17 (fun x9 h9 => (htb x9 h9).elim) (Nat.le_of_ble_eq_true rfl) (Nat.le_of_ble_eq_true rfl) (by decide +kernel) (by decide +kernel) hlocks (fun t hvm hz hk => ⟨(), trivial, Or.inr (Or.inr (Or.inr (Or.inr (Or.inl ⟨c_1_0, c_1_1, c_1_2, c_1_3, rfl⟩)))), Nat.le_trans hS.1 hz, fun q h1 h2 => (hk q (Nat.lt_of_lt_of_le h1 hS.1)).trans (hS.2.1 q h1 h2)⟩) hS.2.2 (by decide +kernel) (by decide +kernel)
  · subst h9
    refine lv_if_ne (tgt := 18) hx hb dX12_outside_7 (by decide) (fun _ => ?_) (fun h9 => absurd h9 (by decide))
    refine lv_aload_n hx hb dX12_outside_18 rfl (lv_at hl 0 rfl) ?_
    refine va_get (D := (dC, dI)) (ci := 13) (v := .ref c1) (C := RX12) (T := TX12) (N := 12) hx hb hts hi_k_X12_outside_X12 hown hK hP 0 rfl rfl 6 (by decide) (hts (.fieldLink RX12 33 "TimeMachine" "timeline" "LTimeMachine$Timeline;") (List.mem_of_getElem? (i := 6) rfl)) (fun _ h9 => h9) rfl dX12_outside_19 ?_
    refine va_get (D := (dC, dI)) (ci := 12) (v := .int 0) (C := RX11) (T := TX11) (N := 16) hx hb hts hi_k_X12_outside_X11 hown hK hP 1 rfl rfl 6 (by decide) (hts (.fieldLink RX12 142 "TimeMachine$Timeline" "booted" "Z") (List.mem_of_getElem? (i := 7) rfl)) (fun _ h9 => h9) rfl dX12_outside_22 ?_
    refine lv_if_ne (tgt := 36) hx hb dX12_outside_25 (by decide) (fun h9 => absurd h9 (by decide)) (fun _ => ?_)
    exact vx_throw0 (own := RX12) (cls := "java/lang/IllegalStateException") (names := ["java/lang/RuntimeException", "java/lang/Exception"]) (ik := 118) (ic := 120) (A := A) hx hb hlt hown (by decide +kernel) (by decide +kernel) (hts (.classLink RX12 118 "java/lang/IllegalStateException") (List.mem_of_getElem? (i := 8) rfl)) (hts (.initialized "java/lang/IllegalStateException") (List.mem_of_getElem? (i := 9) rfl)) (vx_hat (B := [.castable "java/lang/IllegalStateException" "java/lang/IllegalStateException", .declares ⟨"java/lang/RuntimeException", "<init>", "()V"⟩, .declares ⟨"java/lang/Exception", "<init>", "()V"⟩, .declares ⟨"java/lang/Throwable", "<init>", "()V"⟩]) (fun w h => hts w (List.mem_cons_of_mem _ (List.mem_append_right _ (List.mem_append_right _ (List.mem_append_right _ (List.mem_append_right _ (List.mem_append_right _ (List.mem_append_left _ h)))))))) (by decide +kernel) (vx_c (va_Nw.use rfl hN.2.2.2.2.2.2.2.2.1) (vx_c (va_Nw.use rfl (hDe _ (by decide +kernel))) (vx_c (va_Nw.use rfl (hDe _ (by decide +kernel))) (vx_c (va_Nw.use rfl (hDe _ (by decide +kernel))) vx_n))))) (by decide +kernel) hN.2.2.2.2.2.1 hN.2.2.2.2.2.2.1 hS (by rw [hml]; exact hl.1) dX12_outside_28 dX12_outside_31 dX12_outside_32 dX12_outside_35 (fun x9 h9 => (htb x9 h9).elim) (Nat.le_of_ble_eq_true rfl) (Nat.le_of_ble_eq_true rfl) (by decide +kernel) (by decide +kernel) hlocks (fun t hvm hz hk => ⟨(), trivial, Or.inr (Or.inr (Or.inr (Or.inr (Or.inr (Or.inl ⟨c_1_0, c_1_1, c_1_2, c_1_3, rfl⟩))))), Nat.le_trans hS.1 hz, fun q h1 h2 => (hk q (Nat.lt_of_lt_of_le h1 hS.1)).trans (hS.2.1 q h1 h2)⟩) hS.2.2 (by decide +kernel) (by decide +kernel)
  · subst h9
    refine lv_if_ne (tgt := 18) hx hb dX12_outside_7 (by decide) (fun h9 => absurd h9 (by decide)) (fun _ => ?_)
    exact vx_throw0 (own := RX12) (cls := "java/lang/IllegalArgumentException") (names := ["java/lang/RuntimeException", "java/lang/Exception"]) (ik := 70) (ic := 72) (A := A) hx hb hlt hown (by decide +kernel) (by decide +kernel) (hts (.classLink RX12 70 "java/lang/IllegalArgumentException") (List.mem_of_getElem? (i := 4) rfl)) (hts (.initialized "java/lang/IllegalArgumentException") (List.mem_of_getElem? (i := 5) rfl)) (vx_hat (B := [.castable "java/lang/IllegalArgumentException" "java/lang/IllegalArgumentException", .declares ⟨"java/lang/RuntimeException", "<init>", "()V"⟩, .declares ⟨"java/lang/Exception", "<init>", "()V"⟩, .declares ⟨"java/lang/Throwable", "<init>", "()V"⟩]) (fun w h => hts w (List.mem_cons_of_mem _ (List.mem_append_right _ (List.mem_append_right _ (List.mem_append_right _ (List.mem_append_right _ (List.mem_append_left _ h))))))) (by decide +kernel) (vx_c (va_Nw.use rfl hN.2.2.2.2.2.2.2.1) (vx_c (va_Nw.use rfl (hDe _ (by decide +kernel))) (vx_c (va_Nw.use rfl (hDe _ (by decide +kernel))) (vx_c (va_Nw.use rfl (hDe _ (by decide +kernel))) vx_n))))) (by decide +kernel) hN.2.2.2.2.2.1 hN.2.2.2.2.2.2.1 hS (by rw [hml]; exact hl.1) dX12_outside_10 dX12_outside_13 dX12_outside_14 dX12_outside_17 (fun x9 h9 => (htb x9 h9).elim) (Nat.le_of_ble_eq_true rfl) (Nat.le_of_ble_eq_true rfl) (by decide +kernel) (by decide +kernel) hlocks (fun t hvm hz hk => ⟨(), trivial, Or.inr (Or.inr (Or.inr (Or.inr (Or.inr (Or.inr (Or.inl ⟨c_1_0, c_1_1, c_1_2, c_1_3, rfl⟩)))))), Nat.le_trans hS.1 hz, fun q h1 h2 => (hk q (Nat.lt_of_lt_of_le h1 hS.1)).trans (hS.2.1 q h1 h2)⟩) hS.2.2 (by decide +kernel) (by decide +kernel)
  · subst h9
    refine lv_if_ne (tgt := 18) hx hb dX12_outside_7 (by decide) (fun h9 => absurd h9 (by decide)) (fun _ => ?_)
    exact vx_throw0 (own := RX12) (cls := "java/lang/IllegalArgumentException") (names := ["java/lang/RuntimeException", "java/lang/Exception"]) (ik := 70) (ic := 72) (A := A) hx hb hlt hown (by decide +kernel) (by decide +kernel) (hts (.classLink RX12 70 "java/lang/IllegalArgumentException") (List.mem_of_getElem? (i := 4) rfl)) (hts (.initialized "java/lang/IllegalArgumentException") (List.mem_of_getElem? (i := 5) rfl)) (vx_hat (B := [.castable "java/lang/IllegalArgumentException" "java/lang/IllegalArgumentException", .declares ⟨"java/lang/RuntimeException", "<init>", "()V"⟩, .declares ⟨"java/lang/Exception", "<init>", "()V"⟩, .declares ⟨"java/lang/Throwable", "<init>", "()V"⟩]) (fun w h => hts w (List.mem_cons_of_mem _ (List.mem_append_right _ (List.mem_append_right _ (List.mem_append_right _ (List.mem_append_right _ (List.mem_append_left _ h))))))) (by decide +kernel) (vx_c (va_Nw.use rfl hN.2.2.2.2.2.2.2.1) (vx_c (va_Nw.use rfl (hDe _ (by decide +kernel))) (vx_c (va_Nw.use rfl (hDe _ (by decide +kernel))) (vx_c (va_Nw.use rfl (hDe _ (by decide +kernel))) vx_n))))) (by decide +kernel) hN.2.2.2.2.2.1 hN.2.2.2.2.2.2.1 hS (by rw [hml]; exact hl.1) dX12_outside_10 dX12_outside_13 dX12_outside_14 dX12_outside_17 (fun x9 h9 => (htb x9 h9).elim) (Nat.le_of_ble_eq_true rfl) (Nat.le_of_ble_eq_true rfl) (by decide +kernel) (by decide +kernel) hlocks (fun t hvm hz hk => ⟨(), trivial, Or.inr (Or.inr (Or.inr (Or.inr (Or.inr (Or.inr (Or.inr (Or.inl ⟨c_1_0, c_1_1, c_1_2, c_1_3, c_1_4, rfl⟩))))))), Nat.le_trans hS.1 hz, fun q h1 h2 => (hk q (Nat.lt_of_lt_of_le h1 hS.1)).trans (hS.2.1 q h1 h2)⟩) hS.2.2 (by decide +kernel) (by decide +kernel)
  · subst h9
    refine lv_if_ne (tgt := 18) hx hb dX12_outside_7 (by decide) (fun h9 => absurd h9 (by decide)) (fun _ => ?_)
    exact vx_throw0 (own := RX12) (cls := "java/lang/IllegalArgumentException") (names := ["java/lang/RuntimeException", "java/lang/Exception"]) (ik := 70) (ic := 72) (A := A) hx hb hlt hown (by decide +kernel) (by decide +kernel) (hts (.classLink RX12 70 "java/lang/IllegalArgumentException") (List.mem_of_getElem? (i := 4) rfl)) (hts (.initialized "java/lang/IllegalArgumentException") (List.mem_of_getElem? (i := 5) rfl)) (vx_hat (B := [.castable "java/lang/IllegalArgumentException" "java/lang/IllegalArgumentException", .declares ⟨"java/lang/RuntimeException", "<init>", "()V"⟩, .declares ⟨"java/lang/Exception", "<init>", "()V"⟩, .declares ⟨"java/lang/Throwable", "<init>", "()V"⟩]) (fun w h => hts w (List.mem_cons_of_mem _ (List.mem_append_right _ (List.mem_append_right _ (List.mem_append_right _ (List.mem_append_right _ (List.mem_append_left _ h))))))) (by decide +kernel) (vx_c (va_Nw.use rfl hN.2.2.2.2.2.2.2.1) (vx_c (va_Nw.use rfl (hDe _ (by decide +kernel))) (vx_c (va_Nw.use rfl (hDe _ (by decide +kernel))) (vx_c (va_Nw.use rfl (hDe _ (by decide +kernel))) vx_n))))) (by decide +kernel) hN.2.2.2.2.2.1 hN.2.2.2.2.2.2.1 hS (by rw [hml]; exact hl.1) dX12_outside_10 dX12_outside_13 dX12_outside_14 dX12_outside_17 (fun x9 h9 => (htb x9 h9).elim) (Nat.le_of_ble_eq_true rfl) (Nat.le_of_ble_eq_true rfl) (by decide +kernel) (by decide +kernel) hlocks (fun t hvm hz hk => ⟨(), trivial, Or.inr (Or.inr (Or.inr (Or.inr (Or.inr (Or.inr (Or.inr (Or.inr (Or.inl ⟨c_1_0, c_1_1, c_1_2, c_1_3, c_1_4, c_1_5, rfl⟩)))))))), Nat.le_trans hS.1 hz, fun q h1 h2 => (hk q (Nat.lt_of_lt_of_le h1 hS.1)).trans (hS.2.1 q h1 h2)⟩) hS.2.2 (by decide +kernel) (by decide +kernel)
  · subst h9
    refine lv_if_ne (tgt := 18) hx hb dX12_outside_7 (by decide) (fun h9 => absurd h9 (by decide)) (fun _ => ?_)
    exact vx_throw0 (own := RX12) (cls := "java/lang/IllegalArgumentException") (names := ["java/lang/RuntimeException", "java/lang/Exception"]) (ik := 70) (ic := 72) (A := A) hx hb hlt hown (by decide +kernel) (by decide +kernel) (hts (.classLink RX12 70 "java/lang/IllegalArgumentException") (List.mem_of_getElem? (i := 4) rfl)) (hts (.initialized "java/lang/IllegalArgumentException") (List.mem_of_getElem? (i := 5) rfl)) (vx_hat (B := [.castable "java/lang/IllegalArgumentException" "java/lang/IllegalArgumentException", .declares ⟨"java/lang/RuntimeException", "<init>", "()V"⟩, .declares ⟨"java/lang/Exception", "<init>", "()V"⟩, .declares ⟨"java/lang/Throwable", "<init>", "()V"⟩]) (fun w h => hts w (List.mem_cons_of_mem _ (List.mem_append_right _ (List.mem_append_right _ (List.mem_append_right _ (List.mem_append_right _ (List.mem_append_left _ h))))))) (by decide +kernel) (vx_c (va_Nw.use rfl hN.2.2.2.2.2.2.2.1) (vx_c (va_Nw.use rfl (hDe _ (by decide +kernel))) (vx_c (va_Nw.use rfl (hDe _ (by decide +kernel))) (vx_c (va_Nw.use rfl (hDe _ (by decide +kernel))) vx_n))))) (by decide +kernel) hN.2.2.2.2.2.1 hN.2.2.2.2.2.2.1 hS (by rw [hml]; exact hl.1) dX12_outside_10 dX12_outside_13 dX12_outside_14 dX12_outside_17 (fun x9 h9 => (htb x9 h9).elim) (Nat.le_of_ble_eq_true rfl) (Nat.le_of_ble_eq_true rfl) (by decide +kernel) (by decide +kernel) hlocks (fun t hvm hz hk => ⟨(), trivial, Or.inr (Or.inr (Or.inr (Or.inr (Or.inr (Or.inr (Or.inr (Or.inr (Or.inr (Or.inl ⟨c_1_0, c_1_1, c_1_2, c_1_3, c_1_4, c_1_5, c_1_6, rfl⟩))))))))), Nat.le_trans hS.1 hz, fun q h1 h2 => (hk q (Nat.lt_of_lt_of_le h1 hS.1)).trans (hS.2.1 q h1 h2)⟩) hS.2.2 (by decide +kernel) (by decide +kernel)
  · subst h9
    refine lv_if_ne (tgt := 18) hx hb dX12_outside_7 (by decide) (fun _ => ?_) (fun h9 => absurd h9 (by decide))
    refine lv_aload_n hx hb dX12_outside_18 rfl (lv_at hl 0 rfl) ?_
    refine va_get (D := (dC, dI)) (ci := 13) (v := .ref c1) (C := RX12) (T := TX12) (N := 12) hx hb hts hi_k_X12_outside_X12 hown hK hP 0 rfl rfl 6 (by decide) (hts (.fieldLink RX12 33 "TimeMachine" "timeline" "LTimeMachine$Timeline;") (List.mem_of_getElem? (i := 6) rfl)) (fun _ h9 => h9) rfl dX12_outside_19 ?_
    refine va_get (D := (dC, dI)) (ci := 12) (v := .int 0) (C := RX11) (T := TX11) (N := 16) hx hb hts hi_k_X12_outside_X11 hown hK hP 1 rfl rfl 6 (by decide) (hts (.fieldLink RX12 142 "TimeMachine$Timeline" "booted" "Z") (List.mem_of_getElem? (i := 7) rfl)) (fun _ h9 => h9) rfl dX12_outside_22 ?_
    refine lv_if_ne (tgt := 36) hx hb dX12_outside_25 (by decide) (fun h9 => absurd h9 (by decide)) (fun _ => ?_)
    exact vx_throw0 (own := RX12) (cls := "java/lang/IllegalStateException") (names := ["java/lang/RuntimeException", "java/lang/Exception"]) (ik := 118) (ic := 120) (A := A) hx hb hlt hown (by decide +kernel) (by decide +kernel) (hts (.classLink RX12 118 "java/lang/IllegalStateException") (List.mem_of_getElem? (i := 8) rfl)) (hts (.initialized "java/lang/IllegalStateException") (List.mem_of_getElem? (i := 9) rfl)) (vx_hat (B := [.castable "java/lang/IllegalStateException" "java/lang/IllegalStateException", .declares ⟨"java/lang/RuntimeException", "<init>", "()V"⟩, .declares ⟨"java/lang/Exception", "<init>", "()V"⟩, .declares ⟨"java/lang/Throwable", "<init>", "()V"⟩]) (fun w h => hts w (List.mem_cons_of_mem _ (List.mem_append_right _ (List.mem_append_right _ (List.mem_append_right _ (List.mem_append_right _ (List.mem_append_right _ (List.mem_append_left _ h)))))))) (by decide +kernel) (vx_c (va_Nw.use rfl hN.2.2.2.2.2.2.2.2.1) (vx_c (va_Nw.use rfl (hDe _ (by decide +kernel))) (vx_c (va_Nw.use rfl (hDe _ (by decide +kernel))) (vx_c (va_Nw.use rfl (hDe _ (by decide +kernel))) vx_n))))) (by decide +kernel) hN.2.2.2.2.2.1 hN.2.2.2.2.2.2.1 hS (by rw [hml]; exact hl.1) dX12_outside_28 dX12_outside_31 dX12_outside_32 dX12_outside_35 (fun x9 h9 => (htb x9 h9).elim) (Nat.le_of_ble_eq_true rfl) (Nat.le_of_ble_eq_true rfl) (by decide +kernel) (by decide +kernel) hlocks (fun t hvm hz hk => ⟨(), trivial, Or.inr (Or.inr (Or.inr (Or.inr (Or.inr (Or.inr (Or.inr (Or.inr (Or.inr (Or.inr (Or.inl ⟨c_1_0, c_1_1, c_1_2, c_1_3, c_1_4, c_1_5, c_1_6, rfl⟩)))))))))), Nat.le_trans hS.1 hz, fun q h1 h2 => (hk q (Nat.lt_of_lt_of_le h1 hS.1)).trans (hS.2.1 q h1 h2)⟩) hS.2.2 (by decide +kernel) (by decide +kernel)
  · subst h9
    refine lv_if_ne (tgt := 18) hx hb dX12_outside_7 (by decide) (fun h9 => absurd h9 (by decide)) (fun _ => ?_)
    exact vx_throw0 (own := RX12) (cls := "java/lang/IllegalArgumentException") (names := ["java/lang/RuntimeException", "java/lang/Exception"]) (ik := 70) (ic := 72) (A := A) hx hb hlt hown (by decide +kernel) (by decide +kernel) (hts (.classLink RX12 70 "java/lang/IllegalArgumentException") (List.mem_of_getElem? (i := 4) rfl)) (hts (.initialized "java/lang/IllegalArgumentException") (List.mem_of_getElem? (i := 5) rfl)) (vx_hat (B := [.castable "java/lang/IllegalArgumentException" "java/lang/IllegalArgumentException", .declares ⟨"java/lang/RuntimeException", "<init>", "()V"⟩, .declares ⟨"java/lang/Exception", "<init>", "()V"⟩, .declares ⟨"java/lang/Throwable", "<init>", "()V"⟩]) (fun w h => hts w (List.mem_cons_of_mem _ (List.mem_append_right _ (List.mem_append_right _ (List.mem_append_right _ (List.mem_append_right _ (List.mem_append_left _ h))))))) (by decide +kernel) (vx_c (va_Nw.use rfl hN.2.2.2.2.2.2.2.1) (vx_c (va_Nw.use rfl (hDe _ (by decide +kernel))) (vx_c (va_Nw.use rfl (hDe _ (by decide +kernel))) (vx_c (va_Nw.use rfl (hDe _ (by decide +kernel))) vx_n))))) (by decide +kernel) hN.2.2.2.2.2.1 hN.2.2.2.2.2.2.1 hS (by rw [hml]; exact hl.1) dX12_outside_10 dX12_outside_13 dX12_outside_14 dX12_outside_17 (fun x9 h9 => (htb x9 h9).elim) (Nat.le_of_ble_eq_true rfl) (Nat.le_of_ble_eq_true rfl) (by decide +kernel) (by decide +kernel) hlocks (fun t hvm hz hk => ⟨(), trivial, Or.inr (Or.inr (Or.inr (Or.inr (Or.inr (Or.inr (Or.inr (Or.inr (Or.inr (Or.inr (Or.inr (Or.inl ⟨c_1_0, c_1_1, c_1_2, c_1_3, c_1_4, rfl⟩))))))))))), Nat.le_trans hS.1 hz, fun q h1 h2 => (hk q (Nat.lt_of_lt_of_le h1 hS.1)).trans (hS.2.1 q h1 h2)⟩) hS.2.2 (by decide +kernel) (by decide +kernel)
  · subst h9
    refine lv_if_ne (tgt := 18) hx hb dX12_outside_7 (by decide) (fun h9 => absurd h9 (by decide)) (fun _ => ?_)
    exact vx_throw0 (own := RX12) (cls := "java/lang/IllegalArgumentException") (names := ["java/lang/RuntimeException", "java/lang/Exception"]) (ik := 70) (ic := 72) (A := A) hx hb hlt hown (by decide +kernel) (by decide +kernel) (hts (.classLink RX12 70 "java/lang/IllegalArgumentException") (List.mem_of_getElem? (i := 4) rfl)) (hts (.initialized "java/lang/IllegalArgumentException") (List.mem_of_getElem? (i := 5) rfl)) (vx_hat (B := [.castable "java/lang/IllegalArgumentException" "java/lang/IllegalArgumentException", .declares ⟨"java/lang/RuntimeException", "<init>", "()V"⟩, .declares ⟨"java/lang/Exception", "<init>", "()V"⟩, .declares ⟨"java/lang/Throwable", "<init>", "()V"⟩]) (fun w h => hts w (List.mem_cons_of_mem _ (List.mem_append_right _ (List.mem_append_right _ (List.mem_append_right _ (List.mem_append_right _ (List.mem_append_left _ h))))))) (by decide +kernel) (vx_c (va_Nw.use rfl hN.2.2.2.2.2.2.2.1) (vx_c (va_Nw.use rfl (hDe _ (by decide +kernel))) (vx_c (va_Nw.use rfl (hDe _ (by decide +kernel))) (vx_c (va_Nw.use rfl (hDe _ (by decide +kernel))) vx_n))))) (by decide +kernel) hN.2.2.2.2.2.1 hN.2.2.2.2.2.2.1 hS (by rw [hml]; exact hl.1) dX12_outside_10 dX12_outside_13 dX12_outside_14 dX12_outside_17 (fun x9 h9 => (htb x9 h9).elim) (Nat.le_of_ble_eq_true rfl) (Nat.le_of_ble_eq_true rfl) (by decide +kernel) (by decide +kernel) hlocks (fun t hvm hz hk => ⟨(), trivial, Or.inr (Or.inr (Or.inr (Or.inr (Or.inr (Or.inr (Or.inr (Or.inr (Or.inr (Or.inr (Or.inr (Or.inr (Or.inl ⟨c_1_0, c_1_1, c_1_2, c_1_3, c_1_4, c_1_5, rfl⟩)))))))))))), Nat.le_trans hS.1 hz, fun q h1 h2 => (hk q (Nat.lt_of_lt_of_le h1 hS.1)).trans (hS.2.1 q h1 h2)⟩) hS.2.2 (by decide +kernel) (by decide +kernel)
  · subst h9
    refine lv_if_ne (tgt := 18) hx hb dX12_outside_7 (by decide) (fun _ => ?_) (fun h9 => absurd h9 (by decide))
    refine lv_aload_n hx hb dX12_outside_18 rfl (lv_at hl 0 rfl) ?_
    refine va_get (D := (dC, dI)) (ci := 13) (v := .ref c1) (C := RX12) (T := TX12) (N := 12) hx hb hts hi_k_X12_outside_X12 hown hK hP 0 rfl rfl 6 (by decide) (hts (.fieldLink RX12 33 "TimeMachine" "timeline" "LTimeMachine$Timeline;") (List.mem_of_getElem? (i := 6) rfl)) (fun _ h9 => h9) rfl dX12_outside_19 ?_
    refine va_get (D := (dC, dI)) (ci := 12) (v := .int 0) (C := RX11) (T := TX11) (N := 16) hx hb hts hi_k_X12_outside_X11 hown hK hP 1 rfl rfl 6 (by decide) (hts (.fieldLink RX12 142 "TimeMachine$Timeline" "booted" "Z") (List.mem_of_getElem? (i := 7) rfl)) (fun _ h9 => h9) rfl dX12_outside_22 ?_
    refine lv_if_ne (tgt := 36) hx hb dX12_outside_25 (by decide) (fun h9 => absurd h9 (by decide)) (fun _ => ?_)
    exact vx_throw0 (own := RX12) (cls := "java/lang/IllegalStateException") (names := ["java/lang/RuntimeException", "java/lang/Exception"]) (ik := 118) (ic := 120) (A := A) hx hb hlt hown (by decide +kernel) (by decide +kernel) (hts (.classLink RX12 118 "java/lang/IllegalStateException") (List.mem_of_getElem? (i := 8) rfl)) (hts (.initialized "java/lang/IllegalStateException") (List.mem_of_getElem? (i := 9) rfl)) (vx_hat (B := [.castable "java/lang/IllegalStateException" "java/lang/IllegalStateException", .declares ⟨"java/lang/RuntimeException", "<init>", "()V"⟩, .declares ⟨"java/lang/Exception", "<init>", "()V"⟩, .declares ⟨"java/lang/Throwable", "<init>", "()V"⟩]) (fun w h => hts w (List.mem_cons_of_mem _ (List.mem_append_right _ (List.mem_append_right _ (List.mem_append_right _ (List.mem_append_right _ (List.mem_append_right _ (List.mem_append_left _ h)))))))) (by decide +kernel) (vx_c (va_Nw.use rfl hN.2.2.2.2.2.2.2.2.1) (vx_c (va_Nw.use rfl (hDe _ (by decide +kernel))) (vx_c (va_Nw.use rfl (hDe _ (by decide +kernel))) (vx_c (va_Nw.use rfl (hDe _ (by decide +kernel))) vx_n))))) (by decide +kernel) hN.2.2.2.2.2.1 hN.2.2.2.2.2.2.1 hS (by rw [hml]; exact hl.1) dX12_outside_28 dX12_outside_31 dX12_outside_32 dX12_outside_35 (fun x9 h9 => (htb x9 h9).elim) (Nat.le_of_ble_eq_true rfl) (Nat.le_of_ble_eq_true rfl) (by decide +kernel) (by decide +kernel) hlocks (fun t hvm hz hk => ⟨(), trivial, Or.inr (Or.inr (Or.inr (Or.inr (Or.inr (Or.inr (Or.inr (Or.inr (Or.inr (Or.inr (Or.inr (Or.inr (Or.inr (Or.inl ⟨c_1_0, c_1_1, c_1_2, c_1_3, c_1_4, c_1_5, rfl⟩))))))))))))), Nat.le_trans hS.1 hz, fun q h1 h2 => (hk q (Nat.lt_of_lt_of_le h1 hS.1)).trans (hS.2.1 q h1 h2)⟩) hS.2.2 (by decide +kernel) (by decide +kernel)
  · subst h9
    refine lv_if_ne (tgt := 18) hx hb dX12_outside_7 (by decide) (fun h9 => absurd h9 (by decide)) (fun _ => ?_)
    exact vx_throw0 (own := RX12) (cls := "java/lang/IllegalArgumentException") (names := ["java/lang/RuntimeException", "java/lang/Exception"]) (ik := 70) (ic := 72) (A := A) hx hb hlt hown (by decide +kernel) (by decide +kernel) (hts (.classLink RX12 70 "java/lang/IllegalArgumentException") (List.mem_of_getElem? (i := 4) rfl)) (hts (.initialized "java/lang/IllegalArgumentException") (List.mem_of_getElem? (i := 5) rfl)) (vx_hat (B := [.castable "java/lang/IllegalArgumentException" "java/lang/IllegalArgumentException", .declares ⟨"java/lang/RuntimeException", "<init>", "()V"⟩, .declares ⟨"java/lang/Exception", "<init>", "()V"⟩, .declares ⟨"java/lang/Throwable", "<init>", "()V"⟩]) (fun w h => hts w (List.mem_cons_of_mem _ (List.mem_append_right _ (List.mem_append_right _ (List.mem_append_right _ (List.mem_append_right _ (List.mem_append_left _ h))))))) (by decide +kernel) (vx_c (va_Nw.use rfl hN.2.2.2.2.2.2.2.1) (vx_c (va_Nw.use rfl (hDe _ (by decide +kernel))) (vx_c (va_Nw.use rfl (hDe _ (by decide +kernel))) (vx_c (va_Nw.use rfl (hDe _ (by decide +kernel))) vx_n))))) (by decide +kernel) hN.2.2.2.2.2.1 hN.2.2.2.2.2.2.1 hS (by rw [hml]; exact hl.1) dX12_outside_10 dX12_outside_13 dX12_outside_14 dX12_outside_17 (fun x9 h9 => (htb x9 h9).elim) (Nat.le_of_ble_eq_true rfl) (Nat.le_of_ble_eq_true rfl) (by decide +kernel) (by decide +kernel) hlocks (fun t hvm hz hk => ⟨(), trivial, Or.inr (Or.inr (Or.inr (Or.inr (Or.inr (Or.inr (Or.inr (Or.inr (Or.inr (Or.inr (Or.inr (Or.inr (Or.inr (Or.inr (Or.inl ⟨c_1_0, c_1_1, c_1_2, c_1_3, c_1_4, rfl⟩)))))))))))))), Nat.le_trans hS.1 hz, fun q h1 h2 => (hk q (Nat.lt_of_lt_of_le h1 hS.1)).trans (hS.2.1 q h1 h2)⟩) hS.2.2 (by decide +kernel) (by decide +kernel)
  · subst h9
    refine lv_if_ne (tgt := 18) hx hb dX12_outside_7 (by decide) (fun _ => ?_) (fun h9 => absurd h9 (by decide))
    refine lv_aload_n hx hb dX12_outside_18 rfl (lv_at hl 0 rfl) ?_
    refine va_get (D := (dC, dI)) (ci := 13) (v := .ref c1) (C := RX12) (T := TX12) (N := 12) hx hb hts hi_k_X12_outside_X12 hown hK hP 0 rfl rfl 6 (by decide) (hts (.fieldLink RX12 33 "TimeMachine" "timeline" "LTimeMachine$Timeline;") (List.mem_of_getElem? (i := 6) rfl)) (fun _ h9 => h9) rfl dX12_outside_19 ?_
    refine va_get (D := (dC, dI)) (ci := 12) (v := .int 0) (C := RX11) (T := TX11) (N := 16) hx hb hts hi_k_X12_outside_X11 hown hK hP 1 rfl rfl 6 (by decide) (hts (.fieldLink RX12 142 "TimeMachine$Timeline" "booted" "Z") (List.mem_of_getElem? (i := 7) rfl)) (fun _ h9 => h9) rfl dX12_outside_22 ?_
    refine lv_if_ne (tgt := 36) hx hb dX12_outside_25 (by decide) (fun h9 => absurd h9 (by decide)) (fun _ => ?_)
    exact vx_throw0 (own := RX12) (cls := "java/lang/IllegalStateException") (names := ["java/lang/RuntimeException", "java/lang/Exception"]) (ik := 118) (ic := 120) (A := A) hx hb hlt hown (by decide +kernel) (by decide +kernel) (hts (.classLink RX12 118 "java/lang/IllegalStateException") (List.mem_of_getElem? (i := 8) rfl)) (hts (.initialized "java/lang/IllegalStateException") (List.mem_of_getElem? (i := 9) rfl)) (vx_hat (B := [.castable "java/lang/IllegalStateException" "java/lang/IllegalStateException", .declares ⟨"java/lang/RuntimeException", "<init>", "()V"⟩, .declares ⟨"java/lang/Exception", "<init>", "()V"⟩, .declares ⟨"java/lang/Throwable", "<init>", "()V"⟩]) (fun w h => hts w (List.mem_cons_of_mem _ (List.mem_append_right _ (List.mem_append_right _ (List.mem_append_right _ (List.mem_append_right _ (List.mem_append_right _ (List.mem_append_left _ h)))))))) (by decide +kernel) (vx_c (va_Nw.use rfl hN.2.2.2.2.2.2.2.2.1) (vx_c (va_Nw.use rfl (hDe _ (by decide +kernel))) (vx_c (va_Nw.use rfl (hDe _ (by decide +kernel))) (vx_c (va_Nw.use rfl (hDe _ (by decide +kernel))) vx_n))))) (by decide +kernel) hN.2.2.2.2.2.1 hN.2.2.2.2.2.2.1 hS (by rw [hml]; exact hl.1) dX12_outside_28 dX12_outside_31 dX12_outside_32 dX12_outside_35 (fun x9 h9 => (htb x9 h9).elim) (Nat.le_of_ble_eq_true rfl) (Nat.le_of_ble_eq_true rfl) (by decide +kernel) (by decide +kernel) hlocks (fun t hvm hz hk => ⟨(), trivial, Or.inr (Or.inr (Or.inr (Or.inr (Or.inr (Or.inr (Or.inr (Or.inr (Or.inr (Or.inr (Or.inr (Or.inr (Or.inr (Or.inr (Or.inr (Or.inl ⟨c_1_0, c_1_1, c_1_2, c_1_3, c_1_4, rfl⟩))))))))))))))), Nat.le_trans hS.1 hz, fun q h1 h2 => (hk q (Nat.lt_of_lt_of_le h1 hS.1)).trans (hS.2.1 q h1 h2)⟩) hS.2.2 (by decide +kernel) (by decide +kernel)
  · exact h9.elim
def ow_k_L_outside : List Cond := .codeWith yL_outside cL_outside 7 (some .int) [(0, 13, 16, 13), (0, 13, 20, 19)] :: ([.methodLink RL 24 yX12_outside, .instanceMethod yX12_outside, .selects RX12 yX12_outside yX12_outside, .initialized RX12, .classLink RL 13 "java/lang/IllegalArgumentException", .classLink RL 19 "java/lang/IllegalStateException"] ++ (ow_k_X12_outside ++ []))
theorem gd_k_L_outside : ∀ w ∈ ow_k_L_outside, (w.onTables && w.keeps) = true ∨ ∃ ty, w = Cond.arrayClass ty := List.forall_mem_cons.mpr ⟨good_of_word rfl, List.forall_mem_append.mpr ⟨fun w h => good_of_word (List.all_eq_true.mp (by decide +kernel) w h), List.forall_mem_append.mpr ⟨gd_k_X12_outside, fun _ h => nomatch h⟩⟩⟩
theorem gi_k_L_outside_0 : GoodIn ow_k_L_outside (wsV RL 24 RX12 yX12_outside ow_k_X12_outside) := goodIn_app (goodIn_of _ (by decide +kernel)) (fun w h => ⟨List.mem_cons_of_mem _ (List.mem_append_right _ (List.mem_append_left _ h)), gd_k_X12_outside w h⟩)
set_option maxHeartbeats 40000000 in
set_option maxRecDepth 100000 in
theorem k_L_outside (l : Launch) (hlt : l.stackTraces = false) (dC : Nat → ClassId) (dI : Nat → Nat → Nat) (c0 : Nat) (c1 : Nat) (c2 : Nat) (c3 : ClassId) (c4 : Int32) (c5 : Int64) (c6 : Int32) (c7 : Nat) (c8 : Nat) (c9 : Nat) (c10 : Nat) (c11 : Nat) (c12 : Nat) (c13 : Nat) (c14 : Nat) (c15 : Nat) (c16 : Nat) (c17 : Nat) (c18 : Nat) (c19 : Nat) (c20 : Nat) (c21 : Nat) (c22 : Nat) (sz : Nat) : Met l yL_outside ow_k_L_outside ({ frames := 7, cells := 1, slots := 6, locals := 105 }) (va_Pc [.ref c0, .int c4, .long c5, .int c6, .ref c2] (fun U => U.heap.size = sz ∧ va_P (dC, dI) vwCl [(c0, .inr (13, [.ref c7, .int 0, .int 0, .ref c8, .ref c9, .ref c10, .ref c1, .ref c11, .ref c12, .ref c13, .int 0, .ref c14])), (c1, .inr (12, [.ref c15, .ref c16, .ref c17, .ref c18, .ref c19, .ref c20, .int 0, .ref c21, .ref c22, .int 0, .int 0, .int 0, .int 0, .int 0, .int 0, .int 0])), (c2, .inl (c3, 1, .inr (.inl (fun _ => 0))))] U.heap ∧ va_K (dC, dI) vwCl [(c3, .long)] U ∧ va_D (fun _ => True) [(c0, .inr (13, [.ref c7, .int 0, .int 0, .ref c8, .ref c9, .ref c10, .ref c1, .ref c11, .ref c12, .ref c13, .int 0, .ref c14])), (c1, .inr (12, [.ref c15, .ref c16, .ref c17, .ref c18, .ref c19, .ref c20, .int 0, .ref c21, .ref c22, .int 0, .int 0, .int 0, .int 0, .int 0, .int 0, .int 0])), (c2, .inl (c3, 1, .inr (.inl (fun _ => 0))))] ∧ nv_E (va_A [(c0, .inr (13, [.ref c7, .int 0, .int 0, .ref c8, .ref c9, .ref c10, .ref c1, .ref c11, .ref c12, .ref c13, .int 0, .ref c14])), (c1, .inr (12, [.ref c15, .ref c16, .ref c17, .ref c18, .ref c19, .ref c20, .int 0, .ref c21, .ref c22, .int 0, .int 0, .int 0, .int 0, .int 0, .int 0, .int 0])), (c2, .inl (c3, 1, .inr (.inl (fun _ => 0))))] sz) U ∧ nv_Dc U)) (va_Qi (fun r u => ((c4 = 0) ∧ (c5 < 0) ∧ r = 1 ∧ u = [(c2, .inl (c3, 1, .inr (.inl (fun _ => 0))))]) ∨ ((c4 = 0) ∧ (¬ c5 < 0) ∧ (16 ≤ c5) ∧ r = 1 ∧ u = [(c2, .inl (c3, 1, .inr (.inl (fun _ => 0))))]) ∨ ((c4 = 0) ∧ (¬ c5 < 0) ∧ (¬ 16 ≤ c5) ∧ r = 2 ∧ u = [(c2, .inl (c3, 1, .inr (.inl (fun _ => 0))))]) ∨ ((¬ c4 = 0) ∧ (c4 = 1) ∧ (c6 < 1) ∧ r = 1 ∧ u = [(c2, .inl (c3, 1, .inr (.inl (fun _ => 0))))]) ∨ ((¬ c4 = 0) ∧ (c4 = 1) ∧ (¬ c6 < 1) ∧ (8 < c6) ∧ r = 1 ∧ u = [(c2, .inl (c3, 1, .inr (.inl (fun _ => 0))))]) ∨ ((¬ c4 = 0) ∧ (c4 = 1) ∧ (¬ c6 < 1) ∧ (¬ 8 < c6) ∧ r = 2 ∧ u = [(c2, .inl (c3, 1, .inr (.inl (fun _ => 0))))]) ∨ ((¬ c4 = 0) ∧ (¬ c4 = 1) ∧ (c4 = 2) ∧ (c5 < 0) ∧ r = 1 ∧ u = [(c2, .inl (c3, 1, .inr (.inl (fun _ => 0))))]) ∨ ((¬ c4 = 0) ∧ (¬ c4 = 1) ∧ (c4 = 2) ∧ (¬ c5 < 0) ∧ (16 ≤ c5) ∧ r = 1 ∧ u = [(c2, .inl (c3, 1, .inr (.inl (fun _ => 0))))]) ∨ ((¬ c4 = 0) ∧ (¬ c4 = 1) ∧ (c4 = 2) ∧ (¬ c5 < 0) ∧ (¬ 16 ≤ c5) ∧ (c6 < 1) ∧ r = 1 ∧ u = [(c2, .inl (c3, 1, .inr (.inl (fun _ => 0))))]) ∨ ((¬ c4 = 0) ∧ (¬ c4 = 1) ∧ (c4 = 2) ∧ (¬ c5 < 0) ∧ (¬ 16 ≤ c5) ∧ (¬ c6 < 1) ∧ (31 < c6) ∧ r = 1 ∧ u = [(c2, .inl (c3, 1, .inr (.inl (fun _ => 0))))]) ∨ ((¬ c4 = 0) ∧ (¬ c4 = 1) ∧ (c4 = 2) ∧ (¬ c5 < 0) ∧ (¬ 16 ≤ c5) ∧ (¬ c6 < 1) ∧ (¬ 31 < c6) ∧ r = 2 ∧ u = [(c2, .inl (c3, 1, .inr (.inl (fun _ => 0))))]) ∨ ((¬ c4 = 0) ∧ (¬ c4 = 1) ∧ (¬ c4 = 2) ∧ (c4 = 3) ∧ (c5 < 0) ∧ r = 1 ∧ u = [(c2, .inl (c3, 1, .inr (.inl (fun _ => 0))))]) ∨ ((¬ c4 = 0) ∧ (¬ c4 = 1) ∧ (¬ c4 = 2) ∧ (c4 = 3) ∧ (¬ c5 < 0) ∧ (1099511627776 < c5) ∧ r = 1 ∧ u = [(c2, .inl (c3, 1, .inr (.inl (fun _ => 0))))]) ∨ ((¬ c4 = 0) ∧ (¬ c4 = 1) ∧ (¬ c4 = 2) ∧ (c4 = 3) ∧ (¬ c5 < 0) ∧ (¬ 1099511627776 < c5) ∧ r = 2 ∧ u = [(c2, .inl (c3, 1, .inr (.inl (fun _ => 0))))]) ∨ ((¬ c4 = 0) ∧ (¬ c4 = 1) ∧ (¬ c4 = 2) ∧ (¬ c4 = 3) ∧ (¬ c4 = 4) ∧ r = 1 ∧ u = [(c2, .inl (c3, 1, .inr (.inl (fun _ => 0))))]) ∨ ((¬ c4 = 0) ∧ (¬ c4 = 1) ∧ (¬ c4 = 2) ∧ (¬ c4 = 3) ∧ (c4 = 4) ∧ r = 2 ∧ u = [(c2, .inl (c3, 1, .inr (.inl (fun _ => 0))))]) ∨ False) (fun (u : va_W) t => va_P (dC, dI) vwCl u t.heap ∧ va_K (dC, dI) vwCl [(c3, .long)] t ∧ va_D (va_A [(c0, .inr (13, [.ref c7, .int 0, .int 0, .ref c8, .ref c9, .ref c10, .ref c1, .ref c11, .ref c12, .ref c13, .int 0, .ref c14])), (c1, .inr (12, [.ref c15, .ref c16, .ref c17, .ref c18, .ref c19, .ref c20, .int 0, .ref c21, .ref c22, .int 0, .int 0, .int 0, .int 0, .int 0, .int 0, .int 0])), (c2, .inl (c3, 1, .inr (.inl (fun _ => 0))))] sz) u) (va_A [(c0, .inr (13, [.ref c7, .int 0, .int 0, .ref c8, .ref c9, .ref c10, .ref c1, .ref c11, .ref c12, .ref c13, .int 0, .ref c14])), (c1, .inr (12, [.ref c15, .ref c16, .ref c17, .ref c18, .ref c19, .ref c20, .int 0, .ref c21, .ref c22, .int 0, .int 0, .int 0, .int 0, .int 0, .int 0, .int 0])), (c2, .inl (c3, 1, .inr (.inl (fun _ => 0))))] sz)) 1 6 (va_A [(c0, .inr (13, [.ref c7, .int 0, .int 0, .ref c8, .ref c9, .ref c10, .ref c1, .ref c11, .ref c12, .ref c13, .int 0, .ref c14])), (c1, .inr (12, [.ref c15, .ref c16, .ref c17, .ref c18, .ref c19, .ref c20, .int 0, .ref c21, .ref c22, .int 0, .int 0, .int 0, .int 0, .int 0, .int 0, .int 0])), (c2, .inl (c3, 1, .inr (.inl (fun _ => 0))))] sz) := by
  refine va_MetW (hh := [(0, 13, 16, 13), (0, 13, 20, 19)]) (cc := cL_outside) (maxL := 7) (ret := (some .int)) (by decide) rfl ?_
  intro p e s m args below meth c s₁ B hml hv
  obtain ⟨rfl, hsz, hP, hK, hD0, hN, hDe⟩ := hv
  have hx := B.exec
  have hb := B.bytes
  have hr := B.returns
  have hts := atoms_spec (ws := ow_k_L_outside) B.pre
  have hown : s.vm.findClass RL = some m.cls := findClass_of_methodNamed B.named
  have hlocks := B.notSynchronized
  have htab : c.exceptionTable.toList = tableOf [(0, 13, 16, 13), (0, 13, 20, 19)] := vx_table (x := yL_outside) B (hts _ List.mem_cons_self)
  subst hsz
  have hD := hD0.self (sz := s.heap.size)
  generalize hAe : va_A [(c0, .inr (13, [.ref c7, .int 0, .int 0, .ref c8, .ref c9, .ref c10, .ref c1, .ref c11, .ref c12, .ref c13, .int 0, .ref c14])), (c1, .inr (12, [.ref c15, .ref c16, .ref c17, .ref c18, .ref c19, .ref c20, .int 0, .ref c21, .ref c22, .int 0, .int 0, .int 0, .int 0, .int 0, .int 0, .int 0])), (c2, .inl (c3, 1, .inr (.inl (fun _ => 0))))] s.heap.size = A at hD hN ⊢
  have hA : ∀ q : Nat, s.heap.size ≤ q → A q := fun q h => by rw [← hAe]; exact Or.inr h
  have hS : va_S A s.heap s.heap [] := va_S.rf
  have hl := lv_entry ([.ref c0, .int c4, .long c5, .int c6, .ref c2]) (n := 7) (Nat.le_of_ble_eq_true rfl)
  rw [lg_entry_eq]
  generalize (lg_sl ([.ref c0, .int c4, .long c5, .int c6, .ref c2]) ++ List.replicate (7 - (lg_sl ([.ref c0, .int c4, .long c5, .int c6, .ref c2])).length) Slot.unset).toArray = ls at hl ⊢
  have hl : lv_has ls 7 [(0, .ref c0), (1, .int c4), (2, .long c5), (4, .int c6), (5, .ref c2)] := hl
  refine lv_aload hx hb dL_outside_0 (lv_at hl 4 rfl) ?_
  refine lv_iconst (v := 0) hx hb dL_outside_2 (by decide) ?_
  refine lv_aload_n hx hb dL_outside_3 rfl (lv_at hl 0 rfl) ?_
  refine lv_iload_n hx hb dL_outside_4 rfl (lv_at hl 1 rfl) ?_
  refine lv_lload_n hx hb dL_outside_5 rfl (lv_at hl 2 rfl) ?_
  refine lv_iload hx hb dL_outside_6 (lv_at hl 3 rfl) ?_
  have hPc := hP.sub (ws' := [(c0, .inr (13, [.ref c7, .int 0, .int 0, .ref c8, .ref c9, .ref c10, .ref c1, .ref c11, .ref c12, .ref c13, .int 0, .ref c14])), (c1, .inr (12, [.ref c15, .ref c16, .ref c17, .ref c18, .ref c19, .ref c20, .int 0, .ref c21, .ref c22, .int 0, .int 0, .int 0, .int 0, .int 0, .int 0, .int 0]))]) [0, 1] rfl
  have hDc := hD.sub (ws' := [(c0, .inr (13, [.ref c7, .int 0, .int 0, .ref c8, .ref c9, .ref c10, .ref c1, .ref c11, .ref c12, .ref c13, .int 0, .ref c14])), (c1, .inr (12, [.ref c15, .ref c16, .ref c17, .ref c18, .ref c19, .ref c20, .int 0, .ref c21, .ref c22, .int 0, .int 0, .int 0, .int 0, .int 0, .int 0, .int 0]))]) [0, 1] (by decide) rfl
  have hKc := hK.sub (tys' := []) [] rfl
  have hFc := va_free (wc := [(c0, .inr (13, [.ref c7, .int 0, .int 0, .ref c8, .ref c9, .ref c10, .ref c1, .ref c11, .ref c12, .ref c13, .int 0, .ref c14])), (c1, .inr (12, [.ref c15, .ref c16, .ref c17, .ref c18, .ref c19, .ref c20, .int 0, .ref c21, .ref c22, .int 0, .int 0, .int 0, .int 0, .int 0, .int 0, .int 0]))]) hD hS hA [0, 1] rfl
  refine vx_calli (vx_runV (As := [.int c4, .long c5, .int c6]) (rest := [.int 0, .ref c2]) ⟨hx, hb, hml, hown, hts⟩ (k_X12_outside l hlt dC dI c0 c1 c4 c5 c6 c7 c8 c9 c10 c11 c12 c13 c14 c15 c16 c17 c18 c19 c20 c21 c22  s.heap.size) (cwV 3 hts gi_k_L_outside_0 rfl rfl rfl (by decide +kernel) ⟨Nat.le_of_ble_eq_true rfl, Nat.le_of_ble_eq_true rfl⟩) ⟨fun a U g mk q => by obtain ⟨q0, q1, qP, qK, qD, qN, qE⟩ := q; exact ⟨q0, q1, qP, va_K.moved (u := U) (U := U.calling g mk a) (Vm.Alike.refl U.vm) qK, qD, nv_same rfl rfl qN, nv_Dsame rfl qE⟩, va_recv hKc hPc (ci := 13) (q0 := 0) rfl rfl, fun U hU hW => ⟨rfl, by rw [hU], by rw [hU]; exact hPc, va_K.moved hW.alike hKc, hDc.weaken (fun _ _ _ _ => trivial), nv_call hS hFc hU hW hN, nv_Dcall hW hDe⟩⟩ rfl rfl hl.1 rfl (lv_room (Nat.le_of_ble_eq_true rfl)) dL_outside_8 ⟨by decide +kernel, by decide +kernel⟩) hS (fun q _ h => hFc q h) hFc (fun q _ h => hFc q h) (fun E9 ce q9 ux t H1 locs ht hvm _ hw _ hk1 hS hce hcv hcl => ?_) (fun r1 u t H1 locs ht hvm hw hB hz1 hk1 hS => ?_)
  · have hK1 := hK.sub (tys' := []) [] rfl
    obtain ⟨hP, hD⟩ := va_join (wr := [(c2, .inl (c3, 1, .inr (.inl (fun _ => 0))))]) (w1 := []) hP hD [0, 1] [2] rfl rfl (by decide) (by decide) hk1 hFc nv_P0 nv_D0
    have hK := (hK.sub (tys' := [(c3, .long)]) [0] rfl).app hK1
    generalize H1 = H at hP hS hce ⊢
    have hP : va_P (dC, dI) vwCl [(c2, .inl (c3, 1, .inr (.inl (fun _ => 0))))] H := hP
    have hD : va_D A [(c2, .inl (c3, 1, .inr (.inl (fun _ => 0))))] := hD
    have hK : va_K (dC, dI) vwCl [(c3, .long)] s := hK
    rcases hw with ⟨c_1_0, c_1_1, h9⟩ | ⟨c_1_0, c_1_1, c_1_2, h9⟩ | ⟨c_1_0, c_1_1, c_1_2, h9⟩ | ⟨c_1_0, c_1_1, c_1_2, h9⟩ | ⟨c_1_0, c_1_1, c_1_2, c_1_3, h9⟩ | ⟨c_1_0, c_1_1, c_1_2, c_1_3, h9⟩ | ⟨c_1_0, c_1_1, c_1_2, c_1_3, h9⟩ | ⟨c_1_0, c_1_1, c_1_2, c_1_3, c_1_4, h9⟩ | ⟨c_1_0, c_1_1, c_1_2, c_1_3, c_1_4, c_1_5, h9⟩ | ⟨c_1_0, c_1_1, c_1_2, c_1_3, c_1_4, c_1_5, c_1_6, h9⟩ | ⟨c_1_0, c_1_1, c_1_2, c_1_3, c_1_4, c_1_5, c_1_6, h9⟩ | ⟨c_1_0, c_1_1, c_1_2, c_1_3, c_1_4, h9⟩ | ⟨c_1_0, c_1_1, c_1_2, c_1_3, c_1_4, c_1_5, h9⟩ | ⟨c_1_0, c_1_1, c_1_2, c_1_3, c_1_4, c_1_5, h9⟩ | ⟨c_1_0, c_1_1, c_1_2, c_1_3, c_1_4, h9⟩ | ⟨c_1_0, c_1_1, c_1_2, c_1_3, c_1_4, h9⟩ | h9
    · subst h9
      refine nw_catch (own := RL) (name := "java/lang/IllegalArgumentException") hown [] ⟨0, 13, 16, 13⟩ [⟨0, 13, 20, 19⟩] (htab.trans rfl) (fun z h9 => absurd h9 List.not_mem_nil) (by decide) (by decide) (hts (.classLink RL 13 "java/lang/IllegalArgumentException") (List.mem_of_getElem? (i := 5) rfl)) (va_Nw.use rfl hN.2.2.2.2.2.2.2.1) hce hcv hcl ?_
      refine W.eq (g2 := F0 m 16 ls [.ref q9]) rfl ?_
      refine W.widen (k := 1) (n := 6) (by decide +kernel) (by decide +kernel) ?_
      refine lv_astore (lv' := [(6, .ref q9), (0, .ref c0), (1, .int c4), (2, .long c5), (4, .int c6), (5, .ref c2)]) hx hb dL_outside_16 hl (by decide) rfl (fun ls hl => ?_)
      refine lv_iconst (v := 1) hx hb dL_outside_18 (by decide) ?_
      refine W.widen (k := 1) (n := 6) (by decide +kernel) (by decide +kernel) ?_
      exact W.iret (v := 1) hx hb hr (fun t ht hW => ⟨⟨1, [(c2, .inl (c3, 1, .inr (.inl (fun _ => 0))))], rfl, Or.inl ⟨c_1_0, c_1_1, rfl, rfl⟩, by rw [ht]; exact hP.sub (ws' := [(c2, .inl (c3, 1, .inr (.inl (fun _ => 0))))]) [0] rfl, va_K.moved hW.alike (hK.sub (tys' := [(c3, .long)]) [0] rfl), hD.sub (ws' := [(c2, .inl (c3, 1, .inr (.inl (fun _ => 0))))]) [0] (by decide) rfl⟩, hS.F ht⟩) hS.2.2 dL_outside_19
    · subst h9
      refine nw_catch (own := RL) (name := "java/lang/IllegalArgumentException") hown [] ⟨0, 13, 16, 13⟩ [⟨0, 13, 20, 19⟩] (htab.trans rfl) (fun z h9 => absurd h9 List.not_mem_nil) (by decide) (by decide) (hts (.classLink RL 13 "java/lang/IllegalArgumentException") (List.mem_of_getElem? (i := 5) rfl)) (va_Nw.use rfl hN.2.2.2.2.2.2.2.1) hce hcv hcl ?_
      refine W.eq (g2 := F0 m 16 ls [.ref q9]) rfl ?_
      refine W.widen (k := 1) (n := 6) (by decide +kernel) (by decide +kernel) ?_
      refine lv_astore (lv' := [(6, .ref q9), (0, .ref c0), (1, .int c4), (2, .long c5), (4, .int c6), (5, .ref c2)]) hx hb dL_outside_16 hl (by decide) rfl (fun ls hl => ?_)
      refine lv_iconst (v := 1) hx hb dL_outside_18 (by decide) ?_
      refine W.widen (k := 1) (n := 6) (by decide +kernel) (by decide +kernel) ?_
      exact W.iret (v := 1) hx hb hr (fun t ht hW => ⟨⟨1, [(c2, .inl (c3, 1, .inr (.inl (fun _ => 0))))], rfl, Or.inr (Or.inl ⟨c_1_0, c_1_1, c_1_2, rfl, rfl⟩), by rw [ht]; exact hP.sub (ws' := [(c2, .inl (c3, 1, .inr (.inl (fun _ => 0))))]) [0] rfl, va_K.moved hW.alike (hK.sub (tys' := [(c3, .long)]) [0] rfl), hD.sub (ws' := [(c2, .inl (c3, 1, .inr (.inl (fun _ => 0))))]) [0] (by decide) rfl⟩, hS.F ht⟩) hS.2.2 dL_outside_19
    · subst h9
      refine nw_catch (own := RL) (name := "java/lang/IllegalStateException") hown [⟨0, 13, 16, 13⟩] ⟨0, 13, 20, 19⟩ [] (htab.trans rfl) (fun z h9 => by rcases List.mem_singleton.mp h9 with rfl; exact Or.inr ⟨by decide, _, (hts (.classLink RL 13 "java/lang/IllegalArgumentException") (List.mem_of_getElem? (i := 5) rfl)), hN.2.2.2.2.2.2.2.2.2⟩) (by decide) (by decide) (hts (.classLink RL 19 "java/lang/IllegalStateException") (List.mem_of_getElem? (i := 6) rfl)) (va_Nw.use rfl hN.2.2.2.2.2.2.2.2.1) hce hcv hcl ?_
      refine W.eq (g2 := F0 m 20 ls [.ref q9]) rfl ?_
      refine W.widen (k := 1) (n := 6) (by decide +kernel) (by decide +kernel) ?_
      refine lv_astore (lv' := [(6, .ref q9), (0, .ref c0), (1, .int c4), (2, .long c5), (4, .int c6), (5, .ref c2)]) hx hb dL_outside_20 hl (by decide) rfl (fun ls hl => ?_)
      refine lv_iconst (v := 2) hx hb dL_outside_22 (by decide) ?_
      refine W.widen (k := 1) (n := 6) (by decide +kernel) (by decide +kernel) ?_
      exact W.iret (v := 2) hx hb hr (fun t ht hW => ⟨⟨2, [(c2, .inl (c3, 1, .inr (.inl (fun _ => 0))))], rfl, Or.inr (Or.inr (Or.inl ⟨c_1_0, c_1_1, c_1_2, rfl, rfl⟩)), by rw [ht]; exact hP.sub (ws' := [(c2, .inl (c3, 1, .inr (.inl (fun _ => 0))))]) [0] rfl, va_K.moved hW.alike (hK.sub (tys' := [(c3, .long)]) [0] rfl), hD.sub (ws' := [(c2, .inl (c3, 1, .inr (.inl (fun _ => 0))))]) [0] (by decide) rfl⟩, hS.F ht⟩) hS.2.2 dL_outside_23
    · subst h9
      refine nw_catch (own := RL) (name := "java/lang/IllegalArgumentException") hown [] ⟨0, 13, 16, 13⟩ [⟨0, 13, 20, 19⟩] (htab.trans rfl) (fun z h9 => absurd h9 List.not_mem_nil) (by decide) (by decide) (hts (.classLink RL 13 "java/lang/IllegalArgumentException") (List.mem_of_getElem? (i := 5) rfl)) (va_Nw.use rfl hN.2.2.2.2.2.2.2.1) hce hcv hcl ?_
      refine W.eq (g2 := F0 m 16 ls [.ref q9]) rfl ?_
      refine W.widen (k := 1) (n := 6) (by decide +kernel) (by decide +kernel) ?_
      refine lv_astore (lv' := [(6, .ref q9), (0, .ref c0), (1, .int c4), (2, .long c5), (4, .int c6), (5, .ref c2)]) hx hb dL_outside_16 hl (by decide) rfl (fun ls hl => ?_)
      refine lv_iconst (v := 1) hx hb dL_outside_18 (by decide) ?_
      refine W.widen (k := 1) (n := 6) (by decide +kernel) (by decide +kernel) ?_
      exact W.iret (v := 1) hx hb hr (fun t ht hW => ⟨⟨1, [(c2, .inl (c3, 1, .inr (.inl (fun _ => 0))))], rfl, Or.inr (Or.inr (Or.inr (Or.inl ⟨c_1_0, c_1_1, c_1_2, rfl, rfl⟩))), by rw [ht]; exact hP.sub (ws' := [(c2, .inl (c3, 1, .inr (.inl (fun _ => 0))))]) [0] rfl, va_K.moved hW.alike (hK.sub (tys' := [(c3, .long)]) [0] rfl), hD.sub (ws' := [(c2, .inl (c3, 1, .inr (.inl (fun _ => 0))))]) [0] (by decide) rfl⟩, hS.F ht⟩) hS.2.2 dL_outside_19
    · subst h9
      refine nw_catch (own := RL) (name := "java/lang/IllegalArgumentException") hown [] ⟨0, 13, 16, 13⟩ [⟨0, 13, 20, 19⟩] (htab.trans rfl) (fun z h9 => absurd h9 List.not_mem_nil) (by decide) (by decide) (hts (.classLink RL 13 "java/lang/IllegalArgumentException") (List.mem_of_getElem? (i := 5) rfl)) (va_Nw.use rfl hN.2.2.2.2.2.2.2.1) hce hcv hcl ?_
      refine W.eq (g2 := F0 m 16 ls [.ref q9]) rfl ?_
      refine W.widen (k := 1) (n := 6) (by decide +kernel) (by decide +kernel) ?_
      refine lv_astore (lv' := [(6, .ref q9), (0, .ref c0), (1, .int c4), (2, .long c5), (4, .int c6), (5, .ref c2)]) hx hb dL_outside_16 hl (by decide) rfl (fun ls hl => ?_)
      refine lv_iconst (v := 1) hx hb dL_outside_18 (by decide) ?_
      refine W.widen (k := 1) (n := 6) (by decide +kernel) (by decide +kernel) ?_
      exact W.iret (v := 1) hx hb hr (fun t ht hW => ⟨⟨1, [(c2, .inl (c3, 1, .inr (.inl (fun _ => 0))))], rfl, Or.inr (Or.inr (Or.inr (Or.inr (Or.inl ⟨c_1_0, c_1_1, c_1_2, c_1_3, rfl, rfl⟩)))), by rw [ht]; exact hP.sub (ws' := [(c2, .inl (c3, 1, .inr (.inl (fun _ => 0))))]) [0] rfl, va_K.moved hW.alike (hK.sub (tys' := [(c3, .long)]) [0] rfl), hD.sub (ws' := [(c2, .inl (c3, 1, .inr (.inl (fun _ => 0))))]) [0] (by decide) rfl⟩, hS.F ht⟩) hS.2.2 dL_outside_19
    · subst h9
      refine nw_catch (own := RL) (name := "java/lang/IllegalStateException") hown [⟨0, 13, 16, 13⟩] ⟨0, 13, 20, 19⟩ [] (htab.trans rfl) (fun z h9 => by rcases List.mem_singleton.mp h9 with rfl; exact Or.inr ⟨by decide, _, (hts (.classLink RL 13 "java/lang/IllegalArgumentException") (List.mem_of_getElem? (i := 5) rfl)), hN.2.2.2.2.2.2.2.2.2⟩) (by decide) (by decide) (hts (.classLink RL 19 "java/lang/IllegalStateException") (List.mem_of_getElem? (i := 6) rfl)) (va_Nw.use rfl hN.2.2.2.2.2.2.2.2.1) hce hcv hcl ?_
      refine W.eq (g2 := F0 m 20 ls [.ref q9]) rfl ?_
      refine W.widen (k := 1) (n := 6) (by decide +kernel) (by decide +kernel) ?_
      refine lv_astore (lv' := [(6, .ref q9), (0, .ref c0), (1, .int c4), (2, .long c5), (4, .int c6), (5, .ref c2)]) hx hb dL_outside_20 hl (by decide) rfl (fun ls hl => ?_)
      refine lv_iconst (v := 2) hx hb dL_outside_22 (by decide) ?_
      refine W.widen (k := 1) (n := 6) (by decide +kernel) (by decide +kernel) ?_
      exact W.iret (v := 2) hx hb hr (fun t ht hW => ⟨⟨2, [(c2, .inl (c3, 1, .inr (.inl (fun _ => 0))))], rfl, Or.inr (Or.inr (Or.inr (Or.inr (Or.inr (Or.inl ⟨c_1_0, c_1_1, c_1_2, c_1_3, rfl, rfl⟩))))), by rw [ht]; exact hP.sub (ws' := [(c2, .inl (c3, 1, .inr (.inl (fun _ => 0))))]) [0] rfl, va_K.moved hW.alike (hK.sub (tys' := [(c3, .long)]) [0] rfl), hD.sub (ws' := [(c2, .inl (c3, 1, .inr (.inl (fun _ => 0))))]) [0] (by decide) rfl⟩, hS.F ht⟩) hS.2.2 dL_outside_23
    · subst h9
      refine nw_catch (own := RL) (name := "java/lang/IllegalArgumentException") hown [] ⟨0, 13, 16, 13⟩ [⟨0, 13, 20, 19⟩] (htab.trans rfl) (fun z h9 => absurd h9 List.not_mem_nil) (by decide) (by decide) (hts (.classLink RL 13 "java/lang/IllegalArgumentException") (List.mem_of_getElem? (i := 5) rfl)) (va_Nw.use rfl hN.2.2.2.2.2.2.2.1) hce hcv hcl ?_
      refine W.eq (g2 := F0 m 16 ls [.ref q9]) rfl ?_
      refine W.widen (k := 1) (n := 6) (by decide +kernel) (by decide +kernel) ?_
      refine lv_astore (lv' := [(6, .ref q9), (0, .ref c0), (1, .int c4), (2, .long c5), (4, .int c6), (5, .ref c2)]) hx hb dL_outside_16 hl (by decide) rfl (fun ls hl => ?_)
      refine lv_iconst (v := 1) hx hb dL_outside_18 (by decide) ?_
      refine W.widen (k := 1) (n := 6) (by decide +kernel) (by decide +kernel) ?_
      exact W.iret (v := 1) hx hb hr (fun t ht hW => ⟨⟨1, [(c2, .inl (c3, 1, .inr (.inl (fun _ => 0))))], rfl, Or.inr (Or.inr (Or.inr (Or.inr (Or.inr (Or.inr (Or.inl ⟨c_1_0, c_1_1, c_1_2, c_1_3, rfl, rfl⟩)))))), by rw [ht]; exact hP.sub (ws' := [(c2, .inl (c3, 1, .inr (.inl (fun _ => 0))))]) [0] rfl, va_K.moved hW.alike (hK.sub (tys' := [(c3, .long)]) [0] rfl), hD.sub (ws' := [(c2, .inl (c3, 1, .inr (.inl (fun _ => 0))))]) [0] (by decide) rfl⟩, hS.F ht⟩) hS.2.2 dL_outside_19
    · subst h9
      refine nw_catch (own := RL) (name := "java/lang/IllegalArgumentException") hown [] ⟨0, 13, 16, 13⟩ [⟨0, 13, 20, 19⟩] (htab.trans rfl) (fun z h9 => absurd h9 List.not_mem_nil) (by decide) (by decide) (hts (.classLink RL 13 "java/lang/IllegalArgumentException") (List.mem_of_getElem? (i := 5) rfl)) (va_Nw.use rfl hN.2.2.2.2.2.2.2.1) hce hcv hcl ?_
      refine W.eq (g2 := F0 m 16 ls [.ref q9]) rfl ?_
      refine W.widen (k := 1) (n := 6) (by decide +kernel) (by decide +kernel) ?_
      refine lv_astore (lv' := [(6, .ref q9), (0, .ref c0), (1, .int c4), (2, .long c5), (4, .int c6), (5, .ref c2)]) hx hb dL_outside_16 hl (by decide) rfl (fun ls hl => ?_)
      refine lv_iconst (v := 1) hx hb dL_outside_18 (by decide) ?_
      refine W.widen (k := 1) (n := 6) (by decide +kernel) (by decide +kernel) ?_
      exact W.iret (v := 1) hx hb hr (fun t ht hW => ⟨⟨1, [(c2, .inl (c3, 1, .inr (.inl (fun _ => 0))))], rfl, Or.inr (Or.inr (Or.inr (Or.inr (Or.inr (Or.inr (Or.inr (Or.inl ⟨c_1_0, c_1_1, c_1_2, c_1_3, c_1_4, rfl, rfl⟩))))))), by rw [ht]; exact hP.sub (ws' := [(c2, .inl (c3, 1, .inr (.inl (fun _ => 0))))]) [0] rfl, va_K.moved hW.alike (hK.sub (tys' := [(c3, .long)]) [0] rfl), hD.sub (ws' := [(c2, .inl (c3, 1, .inr (.inl (fun _ => 0))))]) [0] (by decide) rfl⟩, hS.F ht⟩) hS.2.2 dL_outside_19
    · subst h9
      refine nw_catch (own := RL) (name := "java/lang/IllegalArgumentException") hown [] ⟨0, 13, 16, 13⟩ [⟨0, 13, 20, 19⟩] (htab.trans rfl) (fun z h9 => absurd h9 List.not_mem_nil) (by decide) (by decide) (hts (.classLink RL 13 "java/lang/IllegalArgumentException") (List.mem_of_getElem? (i := 5) rfl)) (va_Nw.use rfl hN.2.2.2.2.2.2.2.1) hce hcv hcl ?_
      refine W.eq (g2 := F0 m 16 ls [.ref q9]) rfl ?_
      refine W.widen (k := 1) (n := 6) (by decide +kernel) (by decide +kernel) ?_
      refine lv_astore (lv' := [(6, .ref q9), (0, .ref c0), (1, .int c4), (2, .long c5), (4, .int c6), (5, .ref c2)]) hx hb dL_outside_16 hl (by decide) rfl (fun ls hl => ?_)
      refine lv_iconst (v := 1) hx hb dL_outside_18 (by decide) ?_
      refine W.widen (k := 1) (n := 6) (by decide +kernel) (by decide +kernel) ?_
      exact W.iret (v := 1) hx hb hr (fun t ht hW => ⟨⟨1, [(c2, .inl (c3, 1, .inr (.inl (fun _ => 0))))], rfl, Or.inr (Or.inr (Or.inr (Or.inr (Or.inr (Or.inr (Or.inr (Or.inr (Or.inl ⟨c_1_0, c_1_1, c_1_2, c_1_3, c_1_4, c_1_5, rfl, rfl⟩)))))))), by rw [ht]; exact hP.sub (ws' := [(c2, .inl (c3, 1, .inr (.inl (fun _ => 0))))]) [0] rfl, va_K.moved hW.alike (hK.sub (tys' := [(c3, .long)]) [0] rfl), hD.sub (ws' := [(c2, .inl (c3, 1, .inr (.inl (fun _ => 0))))]) [0] (by decide) rfl⟩, hS.F ht⟩) hS.2.2 dL_outside_19
    · subst h9
      refine nw_catch (own := RL) (name := "java/lang/IllegalArgumentException") hown [] ⟨0, 13, 16, 13⟩ [⟨0, 13, 20, 19⟩] (htab.trans rfl) (fun z h9 => absurd h9 List.not_mem_nil) (by decide) (by decide) (hts (.classLink RL 13 "java/lang/IllegalArgumentException") (List.mem_of_getElem? (i := 5) rfl)) (va_Nw.use rfl hN.2.2.2.2.2.2.2.1) hce hcv hcl ?_
      refine W.eq (g2 := F0 m 16 ls [.ref q9]) rfl ?_
      refine W.widen (k := 1) (n := 6) (by decide +kernel) (by decide +kernel) ?_
      refine lv_astore (lv' := [(6, .ref q9), (0, .ref c0), (1, .int c4), (2, .long c5), (4, .int c6), (5, .ref c2)]) hx hb dL_outside_16 hl (by decide) rfl (fun ls hl => ?_)
      refine lv_iconst (v := 1) hx hb dL_outside_18 (by decide) ?_
      refine W.widen (k := 1) (n := 6) (by decide +kernel) (by decide +kernel) ?_
      exact W.iret (v := 1) hx hb hr (fun t ht hW => ⟨⟨1, [(c2, .inl (c3, 1, .inr (.inl (fun _ => 0))))], rfl, Or.inr (Or.inr (Or.inr (Or.inr (Or.inr (Or.inr (Or.inr (Or.inr (Or.inr (Or.inl ⟨c_1_0, c_1_1, c_1_2, c_1_3, c_1_4, c_1_5, c_1_6, rfl, rfl⟩))))))))), by rw [ht]; exact hP.sub (ws' := [(c2, .inl (c3, 1, .inr (.inl (fun _ => 0))))]) [0] rfl, va_K.moved hW.alike (hK.sub (tys' := [(c3, .long)]) [0] rfl), hD.sub (ws' := [(c2, .inl (c3, 1, .inr (.inl (fun _ => 0))))]) [0] (by decide) rfl⟩, hS.F ht⟩) hS.2.2 dL_outside_19
    · subst h9
      refine nw_catch (own := RL) (name := "java/lang/IllegalStateException") hown [⟨0, 13, 16, 13⟩] ⟨0, 13, 20, 19⟩ [] (htab.trans rfl) (fun z h9 => by rcases List.mem_singleton.mp h9 with rfl; exact Or.inr ⟨by decide, _, (hts (.classLink RL 13 "java/lang/IllegalArgumentException") (List.mem_of_getElem? (i := 5) rfl)), hN.2.2.2.2.2.2.2.2.2⟩) (by decide) (by decide) (hts (.classLink RL 19 "java/lang/IllegalStateException") (List.mem_of_getElem? (i := 6) rfl)) (va_Nw.use rfl hN.2.2.2.2.2.2.2.2.1) hce hcv hcl ?_
      refine W.eq (g2 := F0 m 20 ls [.ref q9]) rfl ?_
      refine W.widen (k := 1) (n := 6) (by decide +kernel) (by decide +kernel) ?_
      refine lv_astore (lv' := [(6, .ref q9), (0, .ref c0), (1, .int c4), (2, .long c5), (4, .int c6), (5, .ref c2)]) hx hb dL_outside_20 hl (by decide) rfl (fun ls hl => ?_)
      refine lv_iconst (v := 2) hx hb dL_outside_22 (by decide) ?_
      refine W.widen (k := 1) (n := 6) (by decide +kernel) (by decide +kernel) ?_
      exact W.iret (v := 2) hx hb hr (fun t ht hW => ⟨⟨2, [(c2, .inl (c3, 1, .inr (.inl (fun _ => 0))))], rfl, Or.inr (Or.inr (Or.inr (Or.inr (Or.inr (Or.inr (Or.inr (Or.inr (Or.inr (Or.inr (Or.inl ⟨c_1_0, c_1_1, c_1_2, c_1_3, c_1_4, c_1_5, c_1_6, rfl, rfl⟩)))))))))), by rw [ht]; exact hP.sub (ws' := [(c2, .inl (c3, 1, .inr (.inl (fun _ => 0))))]) [0] rfl, va_K.moved hW.alike (hK.sub (tys' := [(c3, .long)]) [0] rfl), hD.sub (ws' := [(c2, .inl (c3, 1, .inr (.inl (fun _ => 0))))]) [0] (by decide) rfl⟩, hS.F ht⟩) hS.2.2 dL_outside_23
    · subst h9
      refine nw_catch (own := RL) (name := "java/lang/IllegalArgumentException") hown [] ⟨0, 13, 16, 13⟩ [⟨0, 13, 20, 19⟩] (htab.trans rfl) (fun z h9 => absurd h9 List.not_mem_nil) (by decide) (by decide) (hts (.classLink RL 13 "java/lang/IllegalArgumentException") (List.mem_of_getElem? (i := 5) rfl)) (va_Nw.use rfl hN.2.2.2.2.2.2.2.1) hce hcv hcl ?_
      refine W.eq (g2 := F0 m 16 ls [.ref q9]) rfl ?_
      refine W.widen (k := 1) (n := 6) (by decide +kernel) (by decide +kernel) ?_
      refine lv_astore (lv' := [(6, .ref q9), (0, .ref c0), (1, .int c4), (2, .long c5), (4, .int c6), (5, .ref c2)]) hx hb dL_outside_16 hl (by decide) rfl (fun ls hl => ?_)
      refine lv_iconst (v := 1) hx hb dL_outside_18 (by decide) ?_
      refine W.widen (k := 1) (n := 6) (by decide +kernel) (by decide +kernel) ?_
      exact W.iret (v := 1) hx hb hr (fun t ht hW => ⟨⟨1, [(c2, .inl (c3, 1, .inr (.inl (fun _ => 0))))], rfl, Or.inr (Or.inr (Or.inr (Or.inr (Or.inr (Or.inr (Or.inr (Or.inr (Or.inr (Or.inr (Or.inr (Or.inl ⟨c_1_0, c_1_1, c_1_2, c_1_3, c_1_4, rfl, rfl⟩))))))))))), by rw [ht]; exact hP.sub (ws' := [(c2, .inl (c3, 1, .inr (.inl (fun _ => 0))))]) [0] rfl, va_K.moved hW.alike (hK.sub (tys' := [(c3, .long)]) [0] rfl), hD.sub (ws' := [(c2, .inl (c3, 1, .inr (.inl (fun _ => 0))))]) [0] (by decide) rfl⟩, hS.F ht⟩) hS.2.2 dL_outside_19
    · subst h9
      refine nw_catch (own := RL) (name := "java/lang/IllegalArgumentException") hown [] ⟨0, 13, 16, 13⟩ [⟨0, 13, 20, 19⟩] (htab.trans rfl) (fun z h9 => absurd h9 List.not_mem_nil) (by decide) (by decide) (hts (.classLink RL 13 "java/lang/IllegalArgumentException") (List.mem_of_getElem? (i := 5) rfl)) (va_Nw.use rfl hN.2.2.2.2.2.2.2.1) hce hcv hcl ?_
      refine W.eq (g2 := F0 m 16 ls [.ref q9]) rfl ?_
      refine W.widen (k := 1) (n := 6) (by decide +kernel) (by decide +kernel) ?_
      refine lv_astore (lv' := [(6, .ref q9), (0, .ref c0), (1, .int c4), (2, .long c5), (4, .int c6), (5, .ref c2)]) hx hb dL_outside_16 hl (by decide) rfl (fun ls hl => ?_)
      refine lv_iconst (v := 1) hx hb dL_outside_18 (by decide) ?_
      refine W.widen (k := 1) (n := 6) (by decide +kernel) (by decide +kernel) ?_
      exact W.iret (v := 1) hx hb hr (fun t ht hW => ⟨⟨1, [(c2, .inl (c3, 1, .inr (.inl (fun _ => 0))))], rfl, Or.inr (Or.inr (Or.inr (Or.inr (Or.inr (Or.inr (Or.inr (Or.inr (Or.inr (Or.inr (Or.inr (Or.inr (Or.inl ⟨c_1_0, c_1_1, c_1_2, c_1_3, c_1_4, c_1_5, rfl, rfl⟩)))))))))))), by rw [ht]; exact hP.sub (ws' := [(c2, .inl (c3, 1, .inr (.inl (fun _ => 0))))]) [0] rfl, va_K.moved hW.alike (hK.sub (tys' := [(c3, .long)]) [0] rfl), hD.sub (ws' := [(c2, .inl (c3, 1, .inr (.inl (fun _ => 0))))]) [0] (by decide) rfl⟩, hS.F ht⟩) hS.2.2 dL_outside_19
    · subst h9
      refine nw_catch (own := RL) (name := "java/lang/IllegalStateException") hown [⟨0, 13, 16, 13⟩] ⟨0, 13, 20, 19⟩ [] (htab.trans rfl) (fun z h9 => by rcases List.mem_singleton.mp h9 with rfl; exact Or.inr ⟨by decide, _, (hts (.classLink RL 13 "java/lang/IllegalArgumentException") (List.mem_of_getElem? (i := 5) rfl)), hN.2.2.2.2.2.2.2.2.2⟩) (by decide) (by decide) (hts (.classLink RL 19 "java/lang/IllegalStateException") (List.mem_of_getElem? (i := 6) rfl)) (va_Nw.use rfl hN.2.2.2.2.2.2.2.2.1) hce hcv hcl ?_
      refine W.eq (g2 := F0 m 20 ls [.ref q9]) rfl ?_
      refine W.widen (k := 1) (n := 6) (by decide +kernel) (by decide +kernel) ?_
      refine lv_astore (lv' := [(6, .ref q9), (0, .ref c0), (1, .int c4), (2, .long c5), (4, .int c6), (5, .ref c2)]) hx hb dL_outside_20 hl (by decide) rfl (fun ls hl => ?_)
      refine lv_iconst (v := 2) hx hb dL_outside_22 (by decide) ?_
      refine W.widen (k := 1) (n := 6) (by decide +kernel) (by decide +kernel) ?_
      exact W.iret (v := 2) hx hb hr (fun t ht hW => ⟨⟨2, [(c2, .inl (c3, 1, .inr (.inl (fun _ => 0))))], rfl, Or.inr (Or.inr (Or.inr (Or.inr (Or.inr (Or.inr (Or.inr (Or.inr (Or.inr (Or.inr (Or.inr (Or.inr (Or.inr (Or.inl ⟨c_1_0, c_1_1, c_1_2, c_1_3, c_1_4, c_1_5, rfl, rfl⟩))))))))))))), by rw [ht]; exact hP.sub (ws' := [(c2, .inl (c3, 1, .inr (.inl (fun _ => 0))))]) [0] rfl, va_K.moved hW.alike (hK.sub (tys' := [(c3, .long)]) [0] rfl), hD.sub (ws' := [(c2, .inl (c3, 1, .inr (.inl (fun _ => 0))))]) [0] (by decide) rfl⟩, hS.F ht⟩) hS.2.2 dL_outside_23
    · subst h9
      refine nw_catch (own := RL) (name := "java/lang/IllegalArgumentException") hown [] ⟨0, 13, 16, 13⟩ [⟨0, 13, 20, 19⟩] (htab.trans rfl) (fun z h9 => absurd h9 List.not_mem_nil) (by decide) (by decide) (hts (.classLink RL 13 "java/lang/IllegalArgumentException") (List.mem_of_getElem? (i := 5) rfl)) (va_Nw.use rfl hN.2.2.2.2.2.2.2.1) hce hcv hcl ?_
      refine W.eq (g2 := F0 m 16 ls [.ref q9]) rfl ?_
      refine W.widen (k := 1) (n := 6) (by decide +kernel) (by decide +kernel) ?_
      refine lv_astore (lv' := [(6, .ref q9), (0, .ref c0), (1, .int c4), (2, .long c5), (4, .int c6), (5, .ref c2)]) hx hb dL_outside_16 hl (by decide) rfl (fun ls hl => ?_)
      refine lv_iconst (v := 1) hx hb dL_outside_18 (by decide) ?_
      refine W.widen (k := 1) (n := 6) (by decide +kernel) (by decide +kernel) ?_
      exact W.iret (v := 1) hx hb hr (fun t ht hW => ⟨⟨1, [(c2, .inl (c3, 1, .inr (.inl (fun _ => 0))))], rfl, Or.inr (Or.inr (Or.inr (Or.inr (Or.inr (Or.inr (Or.inr (Or.inr (Or.inr (Or.inr (Or.inr (Or.inr (Or.inr (Or.inr (Or.inl ⟨c_1_0, c_1_1, c_1_2, c_1_3, c_1_4, rfl, rfl⟩)))))))))))))), by rw [ht]; exact hP.sub (ws' := [(c2, .inl (c3, 1, .inr (.inl (fun _ => 0))))]) [0] rfl, va_K.moved hW.alike (hK.sub (tys' := [(c3, .long)]) [0] rfl), hD.sub (ws' := [(c2, .inl (c3, 1, .inr (.inl (fun _ => 0))))]) [0] (by decide) rfl⟩, hS.F ht⟩) hS.2.2 dL_outside_19
    · subst h9
      refine nw_catch (own := RL) (name := "java/lang/IllegalStateException") hown [⟨0, 13, 16, 13⟩] ⟨0, 13, 20, 19⟩ [] (htab.trans rfl) (fun z h9 => by rcases List.mem_singleton.mp h9 with rfl; exact Or.inr ⟨by decide, _, (hts (.classLink RL 13 "java/lang/IllegalArgumentException") (List.mem_of_getElem? (i := 5) rfl)), hN.2.2.2.2.2.2.2.2.2⟩) (by decide) (by decide) (hts (.classLink RL 19 "java/lang/IllegalStateException") (List.mem_of_getElem? (i := 6) rfl)) (va_Nw.use rfl hN.2.2.2.2.2.2.2.2.1) hce hcv hcl ?_
      refine W.eq (g2 := F0 m 20 ls [.ref q9]) rfl ?_
      refine W.widen (k := 1) (n := 6) (by decide +kernel) (by decide +kernel) ?_
      refine lv_astore (lv' := [(6, .ref q9), (0, .ref c0), (1, .int c4), (2, .long c5), (4, .int c6), (5, .ref c2)]) hx hb dL_outside_20 hl (by decide) rfl (fun ls hl => ?_)
      refine lv_iconst (v := 2) hx hb dL_outside_22 (by decide) ?_
      refine W.widen (k := 1) (n := 6) (by decide +kernel) (by decide +kernel) ?_
      exact W.iret (v := 2) hx hb hr (fun t ht hW => ⟨⟨2, [(c2, .inl (c3, 1, .inr (.inl (fun _ => 0))))], rfl, Or.inr (Or.inr (Or.inr (Or.inr (Or.inr (Or.inr (Or.inr (Or.inr (Or.inr (Or.inr (Or.inr (Or.inr (Or.inr (Or.inr (Or.inr (Or.inl ⟨c_1_0, c_1_1, c_1_2, c_1_3, c_1_4, rfl, rfl⟩))))))))))))))), by rw [ht]; exact hP.sub (ws' := [(c2, .inl (c3, 1, .inr (.inl (fun _ => 0))))]) [0] rfl, va_K.moved hW.alike (hK.sub (tys' := [(c3, .long)]) [0] rfl), hD.sub (ws' := [(c2, .inl (c3, 1, .inr (.inl (fun _ => 0))))]) [0] (by decide) rfl⟩, hS.F ht⟩) hS.2.2 dL_outside_23
    · exact h9.elim
  exact hw.elim
def ow_k_X19_in_v1 : List Cond := .code yX19_in cX19_in 6 (some .boolean) :: ([] ++ [])
theorem gd_k_X19_in_v1 : ∀ w ∈ ow_k_X19_in_v1, (w.onTables && w.keeps) = true ∨ ∃ ty, w = Cond.arrayClass ty := List.forall_mem_cons.mpr ⟨good_of_word rfl, List.forall_mem_append.mpr ⟨fun w h => good_of_word (List.all_eq_true.mp (by decide +kernel) w h), fun _ h => nomatch h⟩⟩
set_option maxHeartbeats 40000000 in
set_option maxRecDepth 100000 in
theorem k_X19_in_v1 (l : Launch) (hlt : l.stackTraces = false) (dC : Nat → ClassId) (dI : Nat → Nat → Nat) (c0 : Int64) (sz : Nat) : Met l yX19_in ow_k_X19_in_v1 ({ frames := 0, cells := 0, slots := 0, locals := 0 }) (va_Pc [.long c0, .long 0, .long 1099511627776] (fun U => U.heap.size = sz ∧ va_P (dC, dI) vwCl [] U.heap ∧ va_K (dC, dI) vwCl [] U ∧ va_D (fun _ => True) [] ∧ nv_E (va_A [] sz) U)) (va_Qi (fun r _ => ((c0 < 0) ∧ r = 0) ∨ ((¬ c0 < 0) ∧ (1099511627776 < c0) ∧ r = 0) ∨ ((¬ c0 < 0) ∧ (¬ 1099511627776 < c0) ∧ r = 1) ∨ False) (fun (_ : Unit) t => va_P (dC, dI) vwCl [] t.heap ∧ va_K (dC, dI) vwCl [] t ∧ va_D (va_A [] sz) []) (va_A [] sz)) 0 0 (va_A [] sz) := by
  refine Met.ofW (cc := cX19_in) (maxL := 6) (ret := (some .boolean)) (by decide) rfl ?_
  intro p e s m args below meth c s₁ B hml hv
  obtain ⟨rfl, hsz, hP, hK, hD0, hN⟩ := hv
  have hx := B.exec
  have hb := B.bytes
  have hr := B.returns
  have hts := atoms_spec (ws := ow_k_X19_in_v1) B.pre
  have hown : s.vm.findClass RX19 = some m.cls := findClass_of_methodNamed B.named
  have hlocks := B.notSynchronized
  subst hsz
  have hD := hD0.self (sz := s.heap.size)
  generalize hAe : va_A [] s.heap.size = A at hD hN ⊢
  have hA : ∀ q : Nat, s.heap.size ≤ q → A q := fun q h => by rw [← hAe]; exact Or.inr h
  have hS : va_S A s.heap s.heap [] := va_S.rf
  have hl := lv_entry ([.long c0, .long 0, .long 1099511627776]) (n := 6) (Nat.le_of_ble_eq_true rfl)
  rw [lg_entry_eq]
  generalize (lg_sl ([.long c0, .long 0, .long 1099511627776]) ++ List.replicate (6 - (lg_sl ([.long c0, .long 0, .long 1099511627776])).length) Slot.unset).toArray = ls at hl ⊢
  have hl : lv_has ls 6 [(0, .long c0), (2, .long 0), (4, .long 1099511627776)] := hl
  refine lv_lload_n hx hb dX19_in_0 rfl (lv_at hl 0 rfl) ?_
  refine lv_lload_n hx hb dX19_in_1 rfl (lv_at hl 1 rfl) ?_
  refine W.lcmp hx hb dX19_in_2 ?_
  refine lv_if_lt (tgt := 17) hx hb dX19_in_3 (by decide) (fun h9 => (fun (c_1 : c0 < 0) => ?_) ((nv_cl_lt (a := c0) (b := 0)).mp h9)) (fun h9 => (fun (c_1 : ¬ c0 < 0) => ?_) (fun h8 => h9 ((nv_cl_lt (a := c0) (b := 0)).mpr h8)))
  · refine lv_iconst (v := 0) hx hb dX19_in_17 (by decide) ?_
    refine W.widen (k := 0) (n := 0) (by decide +kernel) (by decide +kernel) ?_
    exact W.zret (v := 0) hx hb hr (by first | rfl | decide) (fun t ht hW => ⟨⟨0, (), rfl, Or.inl ⟨c_1, rfl⟩, by rw [ht]; exact hP, va_K.moved hW.alike hK, hD⟩, hS.F ht⟩) hS.2.2 dX19_in_18
  · refine lv_lload_n hx hb dX19_in_6 rfl (lv_at hl 0 rfl) ?_
    refine lv_lload hx hb dX19_in_7 (lv_at hl 2 rfl) ?_
    refine W.lcmp hx hb dX19_in_9 ?_
    refine lv_if_gt (tgt := 17) hx hb dX19_in_10 (by decide) (fun h9 => (fun (c_2 : 1099511627776 < c0) => ?_) ((nv_cl_gt (a := c0) (b := 1099511627776)).mp h9)) (fun h9 => (fun (c_2 : ¬ 1099511627776 < c0) => ?_) (fun h8 => h9 ((nv_cl_gt (a := c0) (b := 1099511627776)).mpr h8)))
    · refine lv_iconst (v := 0) hx hb dX19_in_17 (by decide) ?_
      refine W.widen (k := 0) (n := 0) (by decide +kernel) (by decide +kernel) ?_
      exact W.zret (v := 0) hx hb hr (by first | rfl | decide) (fun t ht hW => ⟨⟨0, (), rfl, Or.inr (Or.inl ⟨c_1, c_2, rfl⟩), by rw [ht]; exact hP, va_K.moved hW.alike hK, hD⟩, hS.F ht⟩) hS.2.2 dX19_in_18
    · refine lv_iconst (v := 1) hx hb dX19_in_13 (by decide) ?_
      refine lv_goto (tgt := 18) hx hb dX19_in_14 (by decide) ?_
      refine W.widen (k := 0) (n := 0) (by decide +kernel) (by decide +kernel) ?_
      exact W.zret (v := 1) hx hb hr (by first | rfl | decide) (fun t ht hW => ⟨⟨1, (), rfl, Or.inr (Or.inr (Or.inl ⟨c_1, c_2, rfl⟩)), by rw [ht]; exact hP, va_K.moved hW.alike hK, hD⟩, hS.F ht⟩) hS.2.2 dX19_in_18
def ow_k_X19_in_v2 : List Cond := .code yX19_in cX19_in 6 (some .boolean) :: ([] ++ [])
theorem gd_k_X19_in_v2 : ∀ w ∈ ow_k_X19_in_v2, (w.onTables && w.keeps) = true ∨ ∃ ty, w = Cond.arrayClass ty := List.forall_mem_cons.mpr ⟨good_of_word rfl, List.forall_mem_append.mpr ⟨fun w h => good_of_word (List.all_eq_true.mp (by decide +kernel) w h), fun _ h => nomatch h⟩⟩
set_option maxHeartbeats 40000000 in
set_option maxRecDepth 100000 in
theorem k_X19_in_v2 (l : Launch) (hlt : l.stackTraces = false) (dC : Nat → ClassId) (dI : Nat → Nat → Nat) (c0 : Int64) (sz : Nat) : Met l yX19_in ow_k_X19_in_v2 ({ frames := 0, cells := 0, slots := 0, locals := 0 }) (va_Pc [.long c0, .long 0, .long 15] (fun U => U.heap.size = sz ∧ va_P (dC, dI) vwCl [] U.heap ∧ va_K (dC, dI) vwCl [] U ∧ va_D (fun _ => True) [] ∧ nv_E (va_A [] sz) U)) (va_Qi (fun r _ => ((c0 < 0) ∧ r = 0) ∨ ((¬ c0 < 0) ∧ (15 < c0) ∧ r = 0) ∨ ((¬ c0 < 0) ∧ (¬ 15 < c0) ∧ r = 1) ∨ False) (fun (_ : Unit) t => va_P (dC, dI) vwCl [] t.heap ∧ va_K (dC, dI) vwCl [] t ∧ va_D (va_A [] sz) []) (va_A [] sz)) 0 0 (va_A [] sz) := by
  refine Met.ofW (cc := cX19_in) (maxL := 6) (ret := (some .boolean)) (by decide) rfl ?_
  intro p e s m args below meth c s₁ B hml hv
  obtain ⟨rfl, hsz, hP, hK, hD0, hN⟩ := hv
  have hx := B.exec
  have hb := B.bytes
  have hr := B.returns
  have hts := atoms_spec (ws := ow_k_X19_in_v2) B.pre
  have hown : s.vm.findClass RX19 = some m.cls := findClass_of_methodNamed B.named
  have hlocks := B.notSynchronized
  subst hsz
  have hD := hD0.self (sz := s.heap.size)
  generalize hAe : va_A [] s.heap.size = A at hD hN ⊢
  have hA : ∀ q : Nat, s.heap.size ≤ q → A q := fun q h => by rw [← hAe]; exact Or.inr h
  have hS : va_S A s.heap s.heap [] := va_S.rf
  have hl := lv_entry ([.long c0, .long 0, .long 15]) (n := 6) (Nat.le_of_ble_eq_true rfl)
  rw [lg_entry_eq]
  generalize (lg_sl ([.long c0, .long 0, .long 15]) ++ List.replicate (6 - (lg_sl ([.long c0, .long 0, .long 15])).length) Slot.unset).toArray = ls at hl ⊢
  have hl : lv_has ls 6 [(0, .long c0), (2, .long 0), (4, .long 15)] := hl
  refine lv_lload_n hx hb dX19_in_0 rfl (lv_at hl 0 rfl) ?_
  refine lv_lload_n hx hb dX19_in_1 rfl (lv_at hl 1 rfl) ?_
  refine W.lcmp hx hb dX19_in_2 ?_
  refine lv_if_lt (tgt := 17) hx hb dX19_in_3 (by decide) (fun h9 => (fun (c_1 : c0 < 0) => ?_) ((nv_cl_lt (a := c0) (b := 0)).mp h9)) (fun h9 => (fun (c_1 : ¬ c0 < 0) => ?_) (fun h8 => h9 ((nv_cl_lt (a := c0) (b := 0)).mpr h8)))
  · refine lv_iconst (v := 0) hx hb dX19_in_17 (by decide) ?_
    refine W.widen (k := 0) (n := 0) (by decide +kernel) (by decide +kernel) ?_
    exact W.zret (v := 0) hx hb hr (by first | rfl | decide) (fun t ht hW => ⟨⟨0, (), rfl, Or.inl ⟨c_1, rfl⟩, by rw [ht]; exact hP, va_K.moved hW.alike hK, hD⟩, hS.F ht⟩) hS.2.2 dX19_in_18
  · refine lv_lload_n hx hb dX19_in_6 rfl (lv_at hl 0 rfl) ?_
    refine lv_lload hx hb dX19_in_7 (lv_at hl 2 rfl) ?_
    refine W.lcmp hx hb dX19_in_9 ?_
    refine lv_if_gt (tgt := 17) hx hb dX19_in_10 (by decide) (fun h9 => (fun (c_2 : 15 < c0) => ?_) ((nv_cl_gt (a := c0) (b := 15)).mp h9)) (fun h9 => (fun (c_2 : ¬ 15 < c0) => ?_) (fun h8 => h9 ((nv_cl_gt (a := c0) (b := 15)).mpr h8)))
    · refine lv_iconst (v := 0) hx hb dX19_in_17 (by decide) ?_
      refine W.widen (k := 0) (n := 0) (by decide +kernel) (by decide +kernel) ?_
      exact W.zret (v := 0) hx hb hr (by first | rfl | decide) (fun t ht hW => ⟨⟨0, (), rfl, Or.inr (Or.inl ⟨c_1, c_2, rfl⟩), by rw [ht]; exact hP, va_K.moved hW.alike hK, hD⟩, hS.F ht⟩) hS.2.2 dX19_in_18
    · refine lv_iconst (v := 1) hx hb dX19_in_13 (by decide) ?_
      refine lv_goto (tgt := 18) hx hb dX19_in_14 (by decide) ?_
      refine W.widen (k := 0) (n := 0) (by decide +kernel) (by decide +kernel) ?_
      exact W.zret (v := 1) hx hb hr (by first | rfl | decide) (fun t ht hW => ⟨⟨1, (), rfl, Or.inr (Or.inr (Or.inl ⟨c_1, c_2, rfl⟩)), by rw [ht]; exact hP, va_K.moved hW.alike hK, hD⟩, hS.F ht⟩) hS.2.2 dX19_in_18
def ow_k_X19_in_v3 : List Cond := .code yX19_in cX19_in 6 (some .boolean) :: ([] ++ [])
theorem gd_k_X19_in_v3 : ∀ w ∈ ow_k_X19_in_v3, (w.onTables && w.keeps) = true ∨ ∃ ty, w = Cond.arrayClass ty := List.forall_mem_cons.mpr ⟨good_of_word rfl, List.forall_mem_append.mpr ⟨fun w h => good_of_word (List.all_eq_true.mp (by decide +kernel) w h), fun _ h => nomatch h⟩⟩
set_option maxHeartbeats 40000000 in
set_option maxRecDepth 100000 in
theorem k_X19_in_v3 (l : Launch) (hlt : l.stackTraces = false) (dC : Nat → ClassId) (dI : Nat → Nat → Nat) (c0 : Int32) (sz : Nat) : Met l yX19_in ow_k_X19_in_v3 ({ frames := 0, cells := 0, slots := 0, locals := 0 }) (va_Pc [.long (c0.toInt64), .long 1, .long 31] (fun U => U.heap.size = sz ∧ va_P (dC, dI) vwCl [] U.heap ∧ va_K (dC, dI) vwCl [] U ∧ va_D (fun _ => True) [] ∧ nv_E (va_A [] sz) U)) (va_Qi (fun r _ => ((c0 < 1) ∧ r = 0) ∨ ((¬ c0 < 1) ∧ (31 < c0) ∧ r = 0) ∨ ((¬ c0 < 1) ∧ (¬ 31 < c0) ∧ r = 1) ∨ False) (fun (_ : Unit) t => va_P (dC, dI) vwCl [] t.heap ∧ va_K (dC, dI) vwCl [] t ∧ va_D (va_A [] sz) []) (va_A [] sz)) 0 0 (va_A [] sz) := by
  refine Met.ofW (cc := cX19_in) (maxL := 6) (ret := (some .boolean)) (by decide) rfl ?_
  intro p e s m args below meth c s₁ B hml hv
  obtain ⟨rfl, hsz, hP, hK, hD0, hN⟩ := hv
  have hx := B.exec
  have hb := B.bytes
  have hr := B.returns
  have hts := atoms_spec (ws := ow_k_X19_in_v3) B.pre
  have hown : s.vm.findClass RX19 = some m.cls := findClass_of_methodNamed B.named
  have hlocks := B.notSynchronized
  subst hsz
  have hD := hD0.self (sz := s.heap.size)
  generalize hAe : va_A [] s.heap.size = A at hD hN ⊢
  have hA : ∀ q : Nat, s.heap.size ≤ q → A q := fun q h => by rw [← hAe]; exact Or.inr h
  have hS : va_S A s.heap s.heap [] := va_S.rf
  have hl := lv_entry ([.long (c0.toInt64), .long 1, .long 31]) (n := 6) (Nat.le_of_ble_eq_true rfl)
  rw [lg_entry_eq]
  generalize (lg_sl ([.long (c0.toInt64), .long 1, .long 31]) ++ List.replicate (6 - (lg_sl ([.long (c0.toInt64), .long 1, .long 31])).length) Slot.unset).toArray = ls at hl ⊢
  have hl : lv_has ls 6 [(0, .long (c0.toInt64)), (2, .long 1), (4, .long 31)] := hl
  refine lv_lload_n hx hb dX19_in_0 rfl (lv_at hl 0 rfl) ?_
  refine lv_lload_n hx hb dX19_in_1 rfl (lv_at hl 1 rfl) ?_
  refine W.lcmp hx hb dX19_in_2 ?_
  refine lv_if_lt (tgt := 17) hx hb dX19_in_3 (by decide) (fun h9 => (fun (c_1 : c0 < 1) => ?_) ((nv_ci_lt (x := c0) (k := 1) (K := 1) (by decide)).mp h9)) (fun h9 => (fun (c_1 : ¬ c0 < 1) => ?_) (fun h8 => h9 ((nv_ci_lt (x := c0) (k := 1) (K := 1) (by decide)).mpr h8)))
  · refine lv_iconst (v := 0) hx hb dX19_in_17 (by decide) ?_
    refine W.widen (k := 0) (n := 0) (by decide +kernel) (by decide +kernel) ?_
    exact W.zret (v := 0) hx hb hr (by first | rfl | decide) (fun t ht hW => ⟨⟨0, (), rfl, Or.inl ⟨c_1, rfl⟩, by rw [ht]; exact hP, va_K.moved hW.alike hK, hD⟩, hS.F ht⟩) hS.2.2 dX19_in_18
  · refine lv_lload_n hx hb dX19_in_6 rfl (lv_at hl 0 rfl) ?_
    refine lv_lload hx hb dX19_in_7 (lv_at hl 2 rfl) ?_
    refine W.lcmp hx hb dX19_in_9 ?_
    refine lv_if_gt (tgt := 17) hx hb dX19_in_10 (by decide) (fun h9 => (fun (c_2 : 31 < c0) => ?_) ((nv_ci_gt (x := c0) (k := 31) (K := 31) (by decide)).mp h9)) (fun h9 => (fun (c_2 : ¬ 31 < c0) => ?_) (fun h8 => h9 ((nv_ci_gt (x := c0) (k := 31) (K := 31) (by decide)).mpr h8)))
    · refine lv_iconst (v := 0) hx hb dX19_in_17 (by decide) ?_
      refine W.widen (k := 0) (n := 0) (by decide +kernel) (by decide +kernel) ?_
      exact W.zret (v := 0) hx hb hr (by first | rfl | decide) (fun t ht hW => ⟨⟨0, (), rfl, Or.inr (Or.inl ⟨c_1, c_2, rfl⟩), by rw [ht]; exact hP, va_K.moved hW.alike hK, hD⟩, hS.F ht⟩) hS.2.2 dX19_in_18
    · refine lv_iconst (v := 1) hx hb dX19_in_13 (by decide) ?_
      refine lv_goto (tgt := 18) hx hb dX19_in_14 (by decide) ?_
      refine W.widen (k := 0) (n := 0) (by decide +kernel) (by decide +kernel) ?_
      exact W.zret (v := 1) hx hb hr (by first | rfl | decide) (fun t ht hW => ⟨⟨1, (), rfl, Or.inr (Or.inr (Or.inl ⟨c_1, c_2, rfl⟩)), by rw [ht]; exact hP, va_K.moved hW.alike hK, hD⟩, hS.F ht⟩) hS.2.2 dX19_in_18
def ow_k_X19_in_v4 : List Cond := .code yX19_in cX19_in 6 (some .boolean) :: ([] ++ [])
theorem gd_k_X19_in_v4 : ∀ w ∈ ow_k_X19_in_v4, (w.onTables && w.keeps) = true ∨ ∃ ty, w = Cond.arrayClass ty := List.forall_mem_cons.mpr ⟨good_of_word rfl, List.forall_mem_append.mpr ⟨fun w h => good_of_word (List.all_eq_true.mp (by decide +kernel) w h), fun _ h => nomatch h⟩⟩
set_option maxHeartbeats 40000000 in
set_option maxRecDepth 100000 in
theorem k_X19_in_v4 (l : Launch) (hlt : l.stackTraces = false) (dC : Nat → ClassId) (dI : Nat → Nat → Nat) (c0 : Int32) (sz : Nat) : Met l yX19_in ow_k_X19_in_v4 ({ frames := 0, cells := 0, slots := 0, locals := 0 }) (va_Pc [.long (c0.toInt64), .long 1, .long 8] (fun U => U.heap.size = sz ∧ va_P (dC, dI) vwCl [] U.heap ∧ va_K (dC, dI) vwCl [] U ∧ va_D (fun _ => True) [] ∧ nv_E (va_A [] sz) U)) (va_Qi (fun r _ => ((c0 < 1) ∧ r = 0) ∨ ((¬ c0 < 1) ∧ (8 < c0) ∧ r = 0) ∨ ((¬ c0 < 1) ∧ (¬ 8 < c0) ∧ r = 1) ∨ False) (fun (_ : Unit) t => va_P (dC, dI) vwCl [] t.heap ∧ va_K (dC, dI) vwCl [] t ∧ va_D (va_A [] sz) []) (va_A [] sz)) 0 0 (va_A [] sz) := by
  refine Met.ofW (cc := cX19_in) (maxL := 6) (ret := (some .boolean)) (by decide) rfl ?_
  intro p e s m args below meth c s₁ B hml hv
  obtain ⟨rfl, hsz, hP, hK, hD0, hN⟩ := hv
  have hx := B.exec
  have hb := B.bytes
  have hr := B.returns
  have hts := atoms_spec (ws := ow_k_X19_in_v4) B.pre
  have hown : s.vm.findClass RX19 = some m.cls := findClass_of_methodNamed B.named
  have hlocks := B.notSynchronized
  subst hsz
  have hD := hD0.self (sz := s.heap.size)
  generalize hAe : va_A [] s.heap.size = A at hD hN ⊢
  have hA : ∀ q : Nat, s.heap.size ≤ q → A q := fun q h => by rw [← hAe]; exact Or.inr h
  have hS : va_S A s.heap s.heap [] := va_S.rf
  have hl := lv_entry ([.long (c0.toInt64), .long 1, .long 8]) (n := 6) (Nat.le_of_ble_eq_true rfl)
  rw [lg_entry_eq]
  generalize (lg_sl ([.long (c0.toInt64), .long 1, .long 8]) ++ List.replicate (6 - (lg_sl ([.long (c0.toInt64), .long 1, .long 8])).length) Slot.unset).toArray = ls at hl ⊢
  have hl : lv_has ls 6 [(0, .long (c0.toInt64)), (2, .long 1), (4, .long 8)] := hl
  refine lv_lload_n hx hb dX19_in_0 rfl (lv_at hl 0 rfl) ?_
  refine lv_lload_n hx hb dX19_in_1 rfl (lv_at hl 1 rfl) ?_
  refine W.lcmp hx hb dX19_in_2 ?_
  refine lv_if_lt (tgt := 17) hx hb dX19_in_3 (by decide) (fun h9 => (fun (c_1 : c0 < 1) => ?_) ((nv_ci_lt (x := c0) (k := 1) (K := 1) (by decide)).mp h9)) (fun h9 => (fun (c_1 : ¬ c0 < 1) => ?_) (fun h8 => h9 ((nv_ci_lt (x := c0) (k := 1) (K := 1) (by decide)).mpr h8)))
  · refine lv_iconst (v := 0) hx hb dX19_in_17 (by decide) ?_
    refine W.widen (k := 0) (n := 0) (by decide +kernel) (by decide +kernel) ?_
    exact W.zret (v := 0) hx hb hr (by first | rfl | decide) (fun t ht hW => ⟨⟨0, (), rfl, Or.inl ⟨c_1, rfl⟩, by rw [ht]; exact hP, va_K.moved hW.alike hK, hD⟩, hS.F ht⟩) hS.2.2 dX19_in_18
  · refine lv_lload_n hx hb dX19_in_6 rfl (lv_at hl 0 rfl) ?_
    refine lv_lload hx hb dX19_in_7 (lv_at hl 2 rfl) ?_
    refine W.lcmp hx hb dX19_in_9 ?_
    refine lv_if_gt (tgt := 17) hx hb dX19_in_10 (by decide) (fun h9 => (fun (c_2 : 8 < c0) => ?_) ((nv_ci_gt (x := c0) (k := 8) (K := 8) (by decide)).mp h9)) (fun h9 => (fun (c_2 : ¬ 8 < c0) => ?_) (fun h8 => h9 ((nv_ci_gt (x := c0) (k := 8) (K := 8) (by decide)).mpr h8)))
    · refine lv_iconst (v := 0) hx hb dX19_in_17 (by decide) ?_
      refine W.widen (k := 0) (n := 0) (by decide +kernel) (by decide +kernel) ?_
      exact W.zret (v := 0) hx hb hr (by first | rfl | decide) (fun t ht hW => ⟨⟨0, (), rfl, Or.inr (Or.inl ⟨c_1, c_2, rfl⟩), by rw [ht]; exact hP, va_K.moved hW.alike hK, hD⟩, hS.F ht⟩) hS.2.2 dX19_in_18
    · refine lv_iconst (v := 1) hx hb dX19_in_13 (by decide) ?_
      refine lv_goto (tgt := 18) hx hb dX19_in_14 (by decide) ?_
      refine W.widen (k := 0) (n := 0) (by decide +kernel) (by decide +kernel) ?_
      exact W.zret (v := 1) hx hb hr (by first | rfl | decide) (fun t ht hW => ⟨⟨1, (), rfl, Or.inr (Or.inr (Or.inl ⟨c_1, c_2, rfl⟩)), by rw [ht]; exact hP, va_K.moved hW.alike hK, hD⟩, hS.F ht⟩) hS.2.2 dX19_in_18
def ow_k_X19_isSaid : List Cond := .code yX19_isSaid cX19_isSaid 4 (some .boolean) :: ([.constantLong RX19 261 (1099511627776), .methodLink RX19 126 yX19_in, .static yX19_in, .initialized RX19, .constantLong RX19 255 (15), .constantLong RX19 259 (31), .constantLong RX19 257 (8)] ++ (ow_k_X19_in_v1 ++ (ow_k_X19_in_v2 ++ (ow_k_X19_in_v3 ++ (ow_k_X19_in_v4 ++ [])))))
theorem gd_k_X19_isSaid : ∀ w ∈ ow_k_X19_isSaid, (w.onTables && w.keeps) = true ∨ ∃ ty, w = Cond.arrayClass ty := List.forall_mem_cons.mpr ⟨good_of_word rfl, List.forall_mem_append.mpr ⟨fun w h => good_of_word (List.all_eq_true.mp (by decide +kernel) w h), List.forall_mem_append.mpr ⟨gd_k_X19_in_v1, List.forall_mem_append.mpr ⟨gd_k_X19_in_v2, List.forall_mem_append.mpr ⟨gd_k_X19_in_v3, List.forall_mem_append.mpr ⟨gd_k_X19_in_v4, fun _ h => nomatch h⟩⟩⟩⟩⟩⟩
theorem gi_k_X19_isSaid_0 : GoodIn ow_k_X19_isSaid (wsS RX19 126 yX19_in ow_k_X19_in_v1) := goodIn_app (goodIn_of _ (by decide +kernel)) (fun w h => ⟨List.mem_cons_of_mem _ (List.mem_append_right _ (List.mem_append_left _ h)), gd_k_X19_in_v1 w h⟩)
theorem gi_k_X19_isSaid_1 : GoodIn ow_k_X19_isSaid (wsS RX19 126 yX19_in ow_k_X19_in_v2) := goodIn_app (goodIn_of _ (by decide +kernel)) (fun w h => ⟨List.mem_cons_of_mem _ (List.mem_append_right _ (List.mem_append_right _ (List.mem_append_left _ h))), gd_k_X19_in_v2 w h⟩)
theorem gi_k_X19_isSaid_2 : GoodIn ow_k_X19_isSaid (wsS RX19 126 yX19_in ow_k_X19_in_v3) := goodIn_app (goodIn_of _ (by decide +kernel)) (fun w h => ⟨List.mem_cons_of_mem _ (List.mem_append_right _ (List.mem_append_right _ (List.mem_append_right _ (List.mem_append_left _ h)))), gd_k_X19_in_v3 w h⟩)
theorem gi_k_X19_isSaid_3 : GoodIn ow_k_X19_isSaid (wsS RX19 126 yX19_in ow_k_X19_in_v4) := goodIn_app (goodIn_of _ (by decide +kernel)) (fun w h => ⟨List.mem_cons_of_mem _ (List.mem_append_right _ (List.mem_append_right _ (List.mem_append_right _ (List.mem_append_right _ (List.mem_append_left _ h))))), gd_k_X19_in_v4 w h⟩)
set_option maxHeartbeats 40000000 in
set_option maxRecDepth 100000 in
theorem k_X19_isSaid (l : Launch) (hlt : l.stackTraces = false) (dC : Nat → ClassId) (dI : Nat → Nat → Nat) (c0 : Int32) (c1 : Int64) (c2 : Int32) (sz : Nat) : Met l yX19_isSaid ow_k_X19_isSaid ({ frames := 1, cells := 0, slots := 0, locals := 25 }) (va_Pc [.int c0, .long c1, .int c2] (fun U => U.heap.size = sz ∧ va_P (dC, dI) vwCl [] U.heap ∧ va_K (dC, dI) vwCl [] U ∧ va_D (fun _ => True) [] ∧ nv_E (va_A [] sz) U)) (va_Qi (fun r _ => ((¬ c0 = 0) ∧ (¬ c0 = 1) ∧ (¬ c0 = 2) ∧ (¬ c0 = 3) ∧ (¬ c0 = 4) ∧ r = 0) ∨ ((¬ c0 = 0) ∧ (¬ c0 = 1) ∧ (¬ c0 = 2) ∧ (¬ c0 = 3) ∧ (c0 = 4) ∧ r = 1) ∨ ((¬ c0 = 0) ∧ (¬ c0 = 1) ∧ (¬ c0 = 2) ∧ (c0 = 3) ∧ (c1 < 0) ∧ r = 0) ∨ ((¬ c0 = 0) ∧ (¬ c0 = 1) ∧ (¬ c0 = 2) ∧ (c0 = 3) ∧ (¬ c1 < 0) ∧ (1099511627776 < c1) ∧ r = 0) ∨ ((¬ c0 = 0) ∧ (¬ c0 = 1) ∧ (¬ c0 = 2) ∧ (c0 = 3) ∧ (¬ c1 < 0) ∧ (¬ 1099511627776 < c1) ∧ r = 1) ∨ ((¬ c0 = 0) ∧ (¬ c0 = 1) ∧ (c0 = 2) ∧ (c1 < 0) ∧ r = 0) ∨ ((¬ c0 = 0) ∧ (¬ c0 = 1) ∧ (c0 = 2) ∧ (¬ c1 < 0) ∧ (15 < c1) ∧ r = 0) ∨ ((¬ c0 = 0) ∧ (¬ c0 = 1) ∧ (c0 = 2) ∧ (¬ c1 < 0) ∧ (¬ 15 < c1) ∧ (c2 < 1) ∧ r = 0) ∨ ((¬ c0 = 0) ∧ (¬ c0 = 1) ∧ (c0 = 2) ∧ (¬ c1 < 0) ∧ (¬ 15 < c1) ∧ (¬ c2 < 1) ∧ (31 < c2) ∧ r = 0) ∨ ((¬ c0 = 0) ∧ (¬ c0 = 1) ∧ (c0 = 2) ∧ (¬ c1 < 0) ∧ (¬ 15 < c1) ∧ (¬ c2 < 1) ∧ (¬ 31 < c2) ∧ r = 1) ∨ ((¬ c0 = 0) ∧ (c0 = 1) ∧ (c2 < 1) ∧ r = 0) ∨ ((¬ c0 = 0) ∧ (c0 = 1) ∧ (¬ c2 < 1) ∧ (8 < c2) ∧ r = 0) ∨ ((¬ c0 = 0) ∧ (c0 = 1) ∧ (¬ c2 < 1) ∧ (¬ 8 < c2) ∧ r = 1) ∨ ((c0 = 0) ∧ (c1 < 0) ∧ r = 0) ∨ ((c0 = 0) ∧ (¬ c1 < 0) ∧ (15 < c1) ∧ r = 0) ∨ ((c0 = 0) ∧ (¬ c1 < 0) ∧ (¬ 15 < c1) ∧ r = 1) ∨ False) (fun (_ : Unit) t => va_P (dC, dI) vwCl [] t.heap ∧ va_K (dC, dI) vwCl [] t ∧ va_D (va_A [] sz) []) (va_A [] sz)) 0 0 (va_A [] sz) := by
  refine Met.ofW (cc := cX19_isSaid) (maxL := 4) (ret := (some .boolean)) (by decide) rfl ?_
  intro p e s m args below meth c s₁ B hml hv
  obtain ⟨rfl, hsz, hP, hK, hD0, hN⟩ := hv
  have hx := B.exec
  have hb := B.bytes
  have hr := B.returns
  have hts := atoms_spec (ws := ow_k_X19_isSaid) B.pre
  have hown : s.vm.findClass RX19 = some m.cls := findClass_of_methodNamed B.named
  have hlocks := B.notSynchronized
  subst hsz
  have hD := hD0.self (sz := s.heap.size)
  generalize hAe : va_A [] s.heap.size = A at hD hN ⊢
  have hA : ∀ q : Nat, s.heap.size ≤ q → A q := fun q h => by rw [← hAe]; exact Or.inr h
  have hS : va_S A s.heap s.heap [] := va_S.rf
  have hl := lv_entry ([.int c0, .long c1, .int c2]) (n := 4) (Nat.le_of_ble_eq_true rfl)
  rw [lg_entry_eq]
  generalize (lg_sl ([.int c0, .long c1, .int c2]) ++ List.replicate (4 - (lg_sl ([.int c0, .long c1, .int c2])).length) Slot.unset).toArray = ls at hl ⊢
  have hl : lv_has ls 4 [(0, .int c0), (1, .long c1), (3, .int c2)] := hl
  refine lv_iload_n hx hb dX19_isSaid_0 rfl (lv_at hl 0 rfl) ?_
  refine lv_if_ne (tgt := 15) hx hb dX19_isSaid_1 (by decide) (fun c_1 => ?_) (fun c_1 => ?_)
  · refine lv_iload_n hx hb dX19_isSaid_15 rfl (lv_at hl 0 rfl) ?_
    refine lv_iconst (v := 1) hx hb dX19_isSaid_16 (by decide) ?_
    refine lv_icmp_ne (tgt := 32) hx hb dX19_isSaid_17 (by decide) (fun c_2 => ?_) (fun c_2 => ?_)
    · refine lv_iload_n hx hb dX19_isSaid_32 rfl (lv_at hl 0 rfl) ?_
      refine lv_iconst (v := 2) hx hb dX19_isSaid_33 (by decide) ?_
      refine lv_icmp_ne (tgt := 68) hx hb dX19_isSaid_34 (by decide) (fun c_3 => ?_) (fun c_3 => ?_)
      · refine lv_iload_n hx hb dX19_isSaid_68 rfl (lv_at hl 0 rfl) ?_
        refine lv_iconst (v := 3) hx hb dX19_isSaid_69 (by decide) ?_
        refine lv_icmp_ne (tgt := 84) hx hb dX19_isSaid_70 (by decide) (fun c_4 => ?_) (fun c_4 => ?_)
        · refine lv_iload_n hx hb dX19_isSaid_84 rfl (lv_at hl 0 rfl) ?_
          refine lv_iconst (v := 4) hx hb dX19_isSaid_85 (by decide) ?_
          refine lv_icmp_ne (tgt := 93) hx hb dX19_isSaid_86 (by decide) (fun c_5 => ?_) (fun c_5 => ?_)
          · refine lv_iconst (v := 0) hx hb dX19_isSaid_93 (by decide) ?_
            refine W.widen (k := 0) (n := 0) (by decide +kernel) (by decide +kernel) ?_
            exact W.zret (v := 0) hx hb hr (by first | rfl | decide) (fun t ht hW => ⟨⟨0, (), rfl, Or.inl ⟨c_1, c_2, c_3, c_4, c_5, rfl⟩, by rw [ht]; exact hP, va_K.moved hW.alike hK, hD⟩, hS.F ht⟩) hS.2.2 dX19_isSaid_94
          · refine lv_iconst (v := 1) hx hb dX19_isSaid_89 (by decide) ?_
            refine lv_goto (tgt := 94) hx hb dX19_isSaid_90 (by decide) ?_
            refine W.widen (k := 0) (n := 0) (by decide +kernel) (by decide +kernel) ?_
            exact W.zret (v := 1) hx hb hr (by first | rfl | decide) (fun t ht hW => ⟨⟨1, (), rfl, Or.inr (Or.inl ⟨c_1, c_2, c_3, c_4, c_5, rfl⟩), by rw [ht]; exact hP, va_K.moved hW.alike hK, hD⟩, hS.F ht⟩) hS.2.2 dX19_isSaid_94
        · refine lv_lload_n hx hb dX19_isSaid_73 rfl (lv_at hl 1 rfl) ?_
          refine lv_lconst (v := 0) hx hb dX19_isSaid_74 (by decide) ?_
          refine lv_ldc2 hx hb hown (hts (.constantLong RX19 261 (1099511627776)) (List.mem_of_getElem? (i := 1) rfl)) dX19_isSaid_75 ?_
          have hPc := hP.sub (ws' := []) [] rfl
          have hDc := hD.sub (ws' := []) [] (by decide) rfl
          have hKc := hK.sub (tys' := []) [] rfl
          have hFc := va_free (wc := []) hD hS hA [] rfl
          refine va_calli (va_runS (As := [.long c1, .long 0, .long 1099511627776]) (rest := []) ⟨hx, hb, hml, hown, hts⟩ (k_X19_in_v1 l hlt dC dI c1  s.heap.size) (cwS 3 hts gi_k_X19_isSaid_0 rfl rfl rfl (by decide +kernel) ⟨Nat.le_of_ble_eq_true rfl, Nat.le_of_ble_eq_true rfl⟩) ⟨fun a U g mk q => by obtain ⟨q0, q1, qP, qK, qD, qN⟩ := q; exact ⟨q0, q1, qP, va_K.moved (u := U) (U := U.calling g mk a) (Vm.Alike.refl U.vm) qK, qD, nv_same rfl rfl qN⟩, fun U hU hW => ⟨rfl, by rw [hU], by rw [hU]; exact hPc, va_K.moved hW.alike hKc, hDc.weaken (fun _ _ _ _ => trivial), nv_call hS hFc hU hW hN⟩⟩ rfl rfl hl.1 rfl (lv_room (Nat.le_of_ble_eq_true rfl)) dX19_isSaid_78 ⟨by decide +kernel, by decide +kernel⟩) hS (fun q _ h => hFc q h) hFc (fun r1 u t H1 locs ht hvm hw hB hz1 hk1 hS => ?_)
          obtain ⟨hP1, hK1, hD1⟩ := hB
          rw [ht] at hP1
          have hK1 := va_K.moved hvm.symm hK1
          obtain ⟨hP, hD⟩ := va_join (wr := []) (w1 := []) hP hD [] [] rfl rfl (by decide) (by decide) hk1 hFc hP1 hD1
          have hK := (hK.sub (tys' := []) [] rfl).app hK1
          generalize H1 = H at hP hS ⊢
          have hP : va_P (dC, dI) vwCl [] H := hP
          have hD : va_D A [] := hD
          have hK : va_K (dC, dI) vwCl [] s := hK
          refine W.widen (k := 0) (n := 0) (by decide +kernel) (by decide +kernel) ?_
          rcases hw with ⟨c_6_0, h9⟩ | ⟨c_6_0, c_6_1, h9⟩ | ⟨c_6_0, c_6_1, h9⟩ | h9
          · subst h9
            refine lv_goto (tgt := 94) hx hb dX19_isSaid_81 (by decide) ?_
            refine W.widen (k := 0) (n := 0) (by decide +kernel) (by decide +kernel) ?_
            exact W.zret (v := 0) hx hb hr (by first | rfl | decide) (fun t ht hW => ⟨⟨0, (), rfl, Or.inr (Or.inr (Or.inl ⟨c_1, c_2, c_3, c_4, c_6_0, rfl⟩)), by rw [ht]; exact hP, va_K.moved hW.alike hK, hD⟩, hS.F ht⟩) hS.2.2 dX19_isSaid_94
          · subst h9
            refine lv_goto (tgt := 94) hx hb dX19_isSaid_81 (by decide) ?_
            refine W.widen (k := 0) (n := 0) (by decide +kernel) (by decide +kernel) ?_
            exact W.zret (v := 0) hx hb hr (by first | rfl | decide) (fun t ht hW => ⟨⟨0, (), rfl, Or.inr (Or.inr (Or.inr (Or.inl ⟨c_1, c_2, c_3, c_4, c_6_0, c_6_1, rfl⟩))), by rw [ht]; exact hP, va_K.moved hW.alike hK, hD⟩, hS.F ht⟩) hS.2.2 dX19_isSaid_94
          · subst h9
            refine lv_goto (tgt := 94) hx hb dX19_isSaid_81 (by decide) ?_
            refine W.widen (k := 0) (n := 0) (by decide +kernel) (by decide +kernel) ?_
            exact W.zret (v := 1) hx hb hr (by first | rfl | decide) (fun t ht hW => ⟨⟨1, (), rfl, Or.inr (Or.inr (Or.inr (Or.inr (Or.inl ⟨c_1, c_2, c_3, c_4, c_6_0, c_6_1, rfl⟩)))), by rw [ht]; exact hP, va_K.moved hW.alike hK, hD⟩, hS.F ht⟩) hS.2.2 dX19_isSaid_94
          · exact h9.elim
      · refine lv_lload_n hx hb dX19_isSaid_37 rfl (lv_at hl 1 rfl) ?_
        refine lv_lconst (v := 0) hx hb dX19_isSaid_38 (by decide) ?_
        refine lv_ldc2 hx hb hown (hts (.constantLong RX19 255 (15)) (List.mem_of_getElem? (i := 5) rfl)) dX19_isSaid_39 ?_
        have hPc := hP.sub (ws' := []) [] rfl
        have hDc := hD.sub (ws' := []) [] (by decide) rfl
        have hKc := hK.sub (tys' := []) [] rfl
        have hFc := va_free (wc := []) hD hS hA [] rfl
        refine va_calli (va_runS (As := [.long c1, .long 0, .long 15]) (rest := []) ⟨hx, hb, hml, hown, hts⟩ (k_X19_in_v2 l hlt dC dI c1  s.heap.size) (cwS 3 hts gi_k_X19_isSaid_1 rfl rfl rfl (by decide +kernel) ⟨Nat.le_of_ble_eq_true rfl, Nat.le_of_ble_eq_true rfl⟩) ⟨fun a U g mk q => by obtain ⟨q0, q1, qP, qK, qD, qN⟩ := q; exact ⟨q0, q1, qP, va_K.moved (u := U) (U := U.calling g mk a) (Vm.Alike.refl U.vm) qK, qD, nv_same rfl rfl qN⟩, fun U hU hW => ⟨rfl, by rw [hU], by rw [hU]; exact hPc, va_K.moved hW.alike hKc, hDc.weaken (fun _ _ _ _ => trivial), nv_call hS hFc hU hW hN⟩⟩ rfl rfl hl.1 rfl (lv_room (Nat.le_of_ble_eq_true rfl)) dX19_isSaid_42 ⟨by decide +kernel, by decide +kernel⟩) hS (fun q _ h => hFc q h) hFc (fun r2 u t H1 locs ht hvm hw hB hz1 hk1 hS => ?_)
        obtain ⟨hP1, hK1, hD1⟩ := hB
        rw [ht] at hP1
        have hK1 := va_K.moved hvm.symm hK1
        obtain ⟨hP, hD⟩ := va_join (wr := []) (w1 := []) hP hD [] [] rfl rfl (by decide) (by decide) hk1 hFc hP1 hD1
        have hK := (hK.sub (tys' := []) [] rfl).app hK1
        generalize H1 = H at hP hS ⊢
        have hP : va_P (dC, dI) vwCl [] H := hP
        have hD : va_D A [] := hD
        have hK : va_K (dC, dI) vwCl [] s := hK
        refine W.widen (k := 0) (n := 0) (by decide +kernel) (by decide +kernel) ?_
        rcases hw with ⟨c_7_0, h9⟩ | ⟨c_7_0, c_7_1, h9⟩ | ⟨c_7_0, c_7_1, h9⟩ | h9
        · subst h9
          refine lv_if_eq (tgt := 64) hx hb dX19_isSaid_45 (by decide) (fun _ => ?_) (fun h9 => absurd (by decide) h9)
          refine lv_iconst (v := 0) hx hb dX19_isSaid_64 (by decide) ?_
          refine lv_goto (tgt := 94) hx hb dX19_isSaid_65 (by decide) ?_
          refine W.widen (k := 0) (n := 0) (by decide +kernel) (by decide +kernel) ?_
          exact W.zret (v := 0) hx hb hr (by first | rfl | decide) (fun t ht hW => ⟨⟨0, (), rfl, Or.inr (Or.inr (Or.inr (Or.inr (Or.inr (Or.inl ⟨c_1, c_2, c_3, c_7_0, rfl⟩))))), by rw [ht]; exact hP, va_K.moved hW.alike hK, hD⟩, hS.F ht⟩) hS.2.2 dX19_isSaid_94
        · subst h9
          refine lv_if_eq (tgt := 64) hx hb dX19_isSaid_45 (by decide) (fun _ => ?_) (fun h9 => absurd (by decide) h9)
          refine lv_iconst (v := 0) hx hb dX19_isSaid_64 (by decide) ?_
          refine lv_goto (tgt := 94) hx hb dX19_isSaid_65 (by decide) ?_
          refine W.widen (k := 0) (n := 0) (by decide +kernel) (by decide +kernel) ?_
          exact W.zret (v := 0) hx hb hr (by first | rfl | decide) (fun t ht hW => ⟨⟨0, (), rfl, Or.inr (Or.inr (Or.inr (Or.inr (Or.inr (Or.inr (Or.inl ⟨c_1, c_2, c_3, c_7_0, c_7_1, rfl⟩)))))), by rw [ht]; exact hP, va_K.moved hW.alike hK, hD⟩, hS.F ht⟩) hS.2.2 dX19_isSaid_94
        · subst h9
          refine lv_if_eq (tgt := 64) hx hb dX19_isSaid_45 (by decide) (fun h9 => absurd h9 (by decide)) (fun _ => ?_)
          refine lv_iload_n hx hb dX19_isSaid_48 rfl (lv_at hl 2 rfl) ?_
          refine lv_i2l hx hb dX19_isSaid_49 rfl ?_
          refine lv_lconst (v := 1) hx hb dX19_isSaid_50 (by decide) ?_
          refine lv_ldc2 hx hb hown (hts (.constantLong RX19 259 (31)) (List.mem_of_getElem? (i := 6) rfl)) dX19_isSaid_51 ?_
          have hPc := hP.sub (ws' := []) [] rfl
          have hDc := hD.sub (ws' := []) [] (by decide) rfl
          have hKc := hK.sub (tys' := []) [] rfl
          have hFc := va_free (wc := []) hD hS hA [] rfl
          refine va_calli (va_runS (As := [.long (c2.toInt64), .long 1, .long 31]) (rest := []) ⟨hx, hb, hml, hown, hts⟩ (k_X19_in_v3 l hlt dC dI c2  H.size) (cwS 3 hts gi_k_X19_isSaid_2 rfl rfl rfl (by decide +kernel) ⟨Nat.le_of_ble_eq_true rfl, Nat.le_of_ble_eq_true rfl⟩) ⟨fun a U g mk q => by obtain ⟨q0, q1, qP, qK, qD, qN⟩ := q; exact ⟨q0, q1, qP, va_K.moved (u := U) (U := U.calling g mk a) (Vm.Alike.refl U.vm) qK, qD, nv_same rfl rfl qN⟩, fun U hU hW => ⟨rfl, by rw [hU], by rw [hU]; exact hPc, va_K.moved hW.alike hKc, hDc.weaken (fun _ _ _ _ => trivial), nv_call hS hFc hU hW hN⟩⟩ rfl rfl hl.1 rfl (lv_room (Nat.le_of_ble_eq_true rfl)) dX19_isSaid_54 ⟨by decide +kernel, by decide +kernel⟩) hS (fun q _ h => hFc q h) hFc (fun r3 u t H1 locs ht hvm hw hB hz1 hk1 hS => ?_)
          obtain ⟨hP1, hK1, hD1⟩ := hB
          rw [ht] at hP1
          have hK1 := va_K.moved hvm.symm hK1
          obtain ⟨hP, hD⟩ := va_join (wr := []) (w1 := []) hP hD [] [] rfl rfl (by decide) (by decide) hk1 hFc hP1 hD1
          have hK := (hK.sub (tys' := []) [] rfl).app hK1
          generalize H1 = H at hP hS ⊢
          have hP : va_P (dC, dI) vwCl [] H := hP
          have hD : va_D A [] := hD
          have hK : va_K (dC, dI) vwCl [] s := hK
          refine W.widen (k := 0) (n := 0) (by decide +kernel) (by decide +kernel) ?_
          rcases hw with ⟨c_8_0, h9⟩ | ⟨c_8_0, c_8_1, h9⟩ | ⟨c_8_0, c_8_1, h9⟩ | h9
          · subst h9
            refine lv_if_eq (tgt := 64) hx hb dX19_isSaid_57 (by decide) (fun _ => ?_) (fun h9 => absurd (by decide) h9)
            refine lv_iconst (v := 0) hx hb dX19_isSaid_64 (by decide) ?_
            refine lv_goto (tgt := 94) hx hb dX19_isSaid_65 (by decide) ?_
            refine W.widen (k := 0) (n := 0) (by decide +kernel) (by decide +kernel) ?_
            exact W.zret (v := 0) hx hb hr (by first | rfl | decide) (fun t ht hW => ⟨⟨0, (), rfl, Or.inr (Or.inr (Or.inr (Or.inr (Or.inr (Or.inr (Or.inr (Or.inl ⟨c_1, c_2, c_3, c_7_0, c_7_1, c_8_0, rfl⟩))))))), by rw [ht]; exact hP, va_K.moved hW.alike hK, hD⟩, hS.F ht⟩) hS.2.2 dX19_isSaid_94
          · subst h9
            refine lv_if_eq (tgt := 64) hx hb dX19_isSaid_57 (by decide) (fun _ => ?_) (fun h9 => absurd (by decide) h9)
            refine lv_iconst (v := 0) hx hb dX19_isSaid_64 (by decide) ?_
            refine lv_goto (tgt := 94) hx hb dX19_isSaid_65 (by decide) ?_
            refine W.widen (k := 0) (n := 0) (by decide +kernel) (by decide +kernel) ?_
            exact W.zret (v := 0) hx hb hr (by first | rfl | decide) (fun t ht hW => ⟨⟨0, (), rfl, Or.inr (Or.inr (Or.inr (Or.inr (Or.inr (Or.inr (Or.inr (Or.inr (Or.inl ⟨c_1, c_2, c_3, c_7_0, c_7_1, c_8_0, c_8_1, rfl⟩)))))))), by rw [ht]; exact hP, va_K.moved hW.alike hK, hD⟩, hS.F ht⟩) hS.2.2 dX19_isSaid_94
          · subst h9
            refine lv_if_eq (tgt := 64) hx hb dX19_isSaid_57 (by decide) (fun h9 => absurd h9 (by decide)) (fun _ => ?_)
            refine lv_iconst (v := 1) hx hb dX19_isSaid_60 (by decide) ?_
            refine lv_goto (tgt := 94) hx hb dX19_isSaid_61 (by decide) ?_
            refine W.widen (k := 0) (n := 0) (by decide +kernel) (by decide +kernel) ?_
            exact W.zret (v := 1) hx hb hr (by first | rfl | decide) (fun t ht hW => ⟨⟨1, (), rfl, Or.inr (Or.inr (Or.inr (Or.inr (Or.inr (Or.inr (Or.inr (Or.inr (Or.inr (Or.inl ⟨c_1, c_2, c_3, c_7_0, c_7_1, c_8_0, c_8_1, rfl⟩))))))))), by rw [ht]; exact hP, va_K.moved hW.alike hK, hD⟩, hS.F ht⟩) hS.2.2 dX19_isSaid_94
          · exact h9.elim
        · exact h9.elim
    · refine lv_iload_n hx hb dX19_isSaid_20 rfl (lv_at hl 2 rfl) ?_
      refine lv_i2l hx hb dX19_isSaid_21 rfl ?_
      refine lv_lconst (v := 1) hx hb dX19_isSaid_22 (by decide) ?_
      refine lv_ldc2 hx hb hown (hts (.constantLong RX19 257 (8)) (List.mem_of_getElem? (i := 7) rfl)) dX19_isSaid_23 ?_
      have hPc := hP.sub (ws' := []) [] rfl
      have hDc := hD.sub (ws' := []) [] (by decide) rfl
      have hKc := hK.sub (tys' := []) [] rfl
      have hFc := va_free (wc := []) hD hS hA [] rfl
      refine va_calli (va_runS (As := [.long (c2.toInt64), .long 1, .long 8]) (rest := []) ⟨hx, hb, hml, hown, hts⟩ (k_X19_in_v4 l hlt dC dI c2  s.heap.size) (cwS 3 hts gi_k_X19_isSaid_3 rfl rfl rfl (by decide +kernel) ⟨Nat.le_of_ble_eq_true rfl, Nat.le_of_ble_eq_true rfl⟩) ⟨fun a U g mk q => by obtain ⟨q0, q1, qP, qK, qD, qN⟩ := q; exact ⟨q0, q1, qP, va_K.moved (u := U) (U := U.calling g mk a) (Vm.Alike.refl U.vm) qK, qD, nv_same rfl rfl qN⟩, fun U hU hW => ⟨rfl, by rw [hU], by rw [hU]; exact hPc, va_K.moved hW.alike hKc, hDc.weaken (fun _ _ _ _ => trivial), nv_call hS hFc hU hW hN⟩⟩ rfl rfl hl.1 rfl (lv_room (Nat.le_of_ble_eq_true rfl)) dX19_isSaid_26 ⟨by decide +kernel, by decide +kernel⟩) hS (fun q _ h => hFc q h) hFc (fun r4 u t H1 locs ht hvm hw hB hz1 hk1 hS => ?_)
      obtain ⟨hP1, hK1, hD1⟩ := hB
      rw [ht] at hP1
      have hK1 := va_K.moved hvm.symm hK1
      obtain ⟨hP, hD⟩ := va_join (wr := []) (w1 := []) hP hD [] [] rfl rfl (by decide) (by decide) hk1 hFc hP1 hD1
      have hK := (hK.sub (tys' := []) [] rfl).app hK1
      generalize H1 = H at hP hS ⊢
      have hP : va_P (dC, dI) vwCl [] H := hP
      have hD : va_D A [] := hD
      have hK : va_K (dC, dI) vwCl [] s := hK
      refine W.widen (k := 0) (n := 0) (by decide +kernel) (by decide +kernel) ?_
      rcases hw with ⟨c_9_0, h9⟩ | ⟨c_9_0, c_9_1, h9⟩ | ⟨c_9_0, c_9_1, h9⟩ | h9
      · subst h9
        refine lv_goto (tgt := 94) hx hb dX19_isSaid_29 (by decide) ?_
        refine W.widen (k := 0) (n := 0) (by decide +kernel) (by decide +kernel) ?_
        exact W.zret (v := 0) hx hb hr (by first | rfl | decide) (fun t ht hW => ⟨⟨0, (), rfl, Or.inr (Or.inr (Or.inr (Or.inr (Or.inr (Or.inr (Or.inr (Or.inr (Or.inr (Or.inr (Or.inl ⟨c_1, c_2, c_9_0, rfl⟩)))))))))), by rw [ht]; exact hP, va_K.moved hW.alike hK, hD⟩, hS.F ht⟩) hS.2.2 dX19_isSaid_94
      · subst h9
        refine lv_goto (tgt := 94) hx hb dX19_isSaid_29 (by decide) ?_
        refine W.widen (k := 0) (n := 0) (by decide +kernel) (by decide +kernel) ?_
        exact W.zret (v := 0) hx hb hr (by first | rfl | decide) (fun t ht hW => ⟨⟨0, (), rfl, Or.inr (Or.inr (Or.inr (Or.inr (Or.inr (Or.inr (Or.inr (Or.inr (Or.inr (Or.inr (Or.inr (Or.inl ⟨c_1, c_2, c_9_0, c_9_1, rfl⟩))))))))))), by rw [ht]; exact hP, va_K.moved hW.alike hK, hD⟩, hS.F ht⟩) hS.2.2 dX19_isSaid_94
      · subst h9
        refine lv_goto (tgt := 94) hx hb dX19_isSaid_29 (by decide) ?_
        refine W.widen (k := 0) (n := 0) (by decide +kernel) (by decide +kernel) ?_
        exact W.zret (v := 1) hx hb hr (by first | rfl | decide) (fun t ht hW => ⟨⟨1, (), rfl, Or.inr (Or.inr (Or.inr (Or.inr (Or.inr (Or.inr (Or.inr (Or.inr (Or.inr (Or.inr (Or.inr (Or.inr (Or.inl ⟨c_1, c_2, c_9_0, c_9_1, rfl⟩)))))))))))), by rw [ht]; exact hP, va_K.moved hW.alike hK, hD⟩, hS.F ht⟩) hS.2.2 dX19_isSaid_94
      · exact h9.elim
  · refine lv_lload_n hx hb dX19_isSaid_4 rfl (lv_at hl 1 rfl) ?_
    refine lv_lconst (v := 0) hx hb dX19_isSaid_5 (by decide) ?_
    refine lv_ldc2 hx hb hown (hts (.constantLong RX19 255 (15)) (List.mem_of_getElem? (i := 5) rfl)) dX19_isSaid_6 ?_
    have hPc := hP.sub (ws' := []) [] rfl
    have hDc := hD.sub (ws' := []) [] (by decide) rfl
    have hKc := hK.sub (tys' := []) [] rfl
    have hFc := va_free (wc := []) hD hS hA [] rfl
    refine va_calli (va_runS (As := [.long c1, .long 0, .long 15]) (rest := []) ⟨hx, hb, hml, hown, hts⟩ (k_X19_in_v2 l hlt dC dI c1  s.heap.size) (cwS 3 hts gi_k_X19_isSaid_1 rfl rfl rfl (by decide +kernel) ⟨Nat.le_of_ble_eq_true rfl, Nat.le_of_ble_eq_true rfl⟩) ⟨fun a U g mk q => by obtain ⟨q0, q1, qP, qK, qD, qN⟩ := q; exact ⟨q0, q1, qP, va_K.moved (u := U) (U := U.calling g mk a) (Vm.Alike.refl U.vm) qK, qD, nv_same rfl rfl qN⟩, fun U hU hW => ⟨rfl, by rw [hU], by rw [hU]; exact hPc, va_K.moved hW.alike hKc, hDc.weaken (fun _ _ _ _ => trivial), nv_call hS hFc hU hW hN⟩⟩ rfl rfl hl.1 rfl (lv_room (Nat.le_of_ble_eq_true rfl)) dX19_isSaid_9 ⟨by decide +kernel, by decide +kernel⟩) hS (fun q _ h => hFc q h) hFc (fun r5 u t H1 locs ht hvm hw hB hz1 hk1 hS => ?_)
    obtain ⟨hP1, hK1, hD1⟩ := hB
    rw [ht] at hP1
    have hK1 := va_K.moved hvm.symm hK1
    obtain ⟨hP, hD⟩ := va_join (wr := []) (w1 := []) hP hD [] [] rfl rfl (by decide) (by decide) hk1 hFc hP1 hD1
    have hK := (hK.sub (tys' := []) [] rfl).app hK1
    generalize H1 = H at hP hS ⊢
    have hP : va_P (dC, dI) vwCl [] H := hP
    have hD : va_D A [] := hD
    have hK : va_K (dC, dI) vwCl [] s := hK
    refine W.widen (k := 0) (n := 0) (by decide +kernel) (by decide +kernel) ?_
    rcases hw with ⟨c_10_0, h9⟩ | ⟨c_10_0, c_10_1, h9⟩ | ⟨c_10_0, c_10_1, h9⟩ | h9
    · subst h9
      refine lv_goto (tgt := 94) hx hb dX19_isSaid_12 (by decide) ?_
      refine W.widen (k := 0) (n := 0) (by decide +kernel) (by decide +kernel) ?_
      exact W.zret (v := 0) hx hb hr (by first | rfl | decide) (fun t ht hW => ⟨⟨0, (), rfl, Or.inr (Or.inr (Or.inr (Or.inr (Or.inr (Or.inr (Or.inr (Or.inr (Or.inr (Or.inr (Or.inr (Or.inr (Or.inr (Or.inl ⟨c_1, c_10_0, rfl⟩))))))))))))), by rw [ht]; exact hP, va_K.moved hW.alike hK, hD⟩, hS.F ht⟩) hS.2.2 dX19_isSaid_94
    · subst h9
      refine lv_goto (tgt := 94) hx hb dX19_isSaid_12 (by decide) ?_
      refine W.widen (k := 0) (n := 0) (by decide +kernel) (by decide +kernel) ?_
      exact W.zret (v := 0) hx hb hr (by first | rfl | decide) (fun t ht hW => ⟨⟨0, (), rfl, Or.inr (Or.inr (Or.inr (Or.inr (Or.inr (Or.inr (Or.inr (Or.inr (Or.inr (Or.inr (Or.inr (Or.inr (Or.inr (Or.inr (Or.inl ⟨c_1, c_10_0, c_10_1, rfl⟩)))))))))))))), by rw [ht]; exact hP, va_K.moved hW.alike hK, hD⟩, hS.F ht⟩) hS.2.2 dX19_isSaid_94
    · subst h9
      refine lv_goto (tgt := 94) hx hb dX19_isSaid_12 (by decide) ?_
      refine W.widen (k := 0) (n := 0) (by decide +kernel) (by decide +kernel) ?_
      exact W.zret (v := 1) hx hb hr (by first | rfl | decide) (fun t ht hW => ⟨⟨1, (), rfl, Or.inr (Or.inr (Or.inr (Or.inr (Or.inr (Or.inr (Or.inr (Or.inr (Or.inr (Or.inr (Or.inr (Or.inr (Or.inr (Or.inr (Or.inr (Or.inl ⟨c_1, c_10_0, c_10_1, rfl⟩))))))))))))))), by rw [ht]; exact hP, va_K.moved hW.alike hK, hD⟩, hS.F ht⟩) hS.2.2 dX19_isSaid_94
    · exact h9.elim
def ow_k_X19_outside : List Cond := .code yX19_outside cX19_outside 6 (some .int) :: ([.methodLink RX19 263 yX19_isSaid, .static yX19_isSaid, .initialized RX19, .methodLink RX19 136 yX19_fails, .instanceMethod yX19_fails, .selects RX19 yX19_fails yX19_fails, .fieldLink RX19 231 "TimeMachineModel" "booted" "Z"] ++ (u_ws RX19 TX19 36 ++ (ow_k_X19_isSaid ++ (ow_k_X19_fails ++ (ow_k_X19_fails_v2 ++ [])))))
theorem gd_k_X19_outside : ∀ w ∈ ow_k_X19_outside, (w.onTables && w.keeps) = true ∨ ∃ ty, w = Cond.arrayClass ty := List.forall_mem_cons.mpr ⟨good_of_word rfl, List.forall_mem_append.mpr ⟨fun w h => good_of_word (List.all_eq_true.mp (by decide +kernel) w h), List.forall_mem_append.mpr ⟨gu_X19, List.forall_mem_append.mpr ⟨gd_k_X19_isSaid, List.forall_mem_append.mpr ⟨gd_k_X19_fails, List.forall_mem_append.mpr ⟨gd_k_X19_fails_v2, fun _ h => nomatch h⟩⟩⟩⟩⟩⟩
theorem hi_k_X19_outside_X19 : ∀ w ∈ u_ws RX19 TX19 36, w ∈ ow_k_X19_outside := fun w h => List.mem_cons_of_mem _ (List.mem_append_right _ (List.mem_append_left _ h))
theorem gi_k_X19_outside_0 : GoodIn ow_k_X19_outside (wsS RX19 263 yX19_isSaid ow_k_X19_isSaid) := goodIn_app (goodIn_of _ (by decide +kernel)) (fun w h => ⟨List.mem_cons_of_mem _ (List.mem_append_right _ (List.mem_append_right _ (List.mem_append_left _ h))), gd_k_X19_isSaid w h⟩)
theorem gi_k_X19_outside_1 : GoodIn ow_k_X19_outside (wsV RX19 136 RX19 yX19_fails ow_k_X19_fails) := goodIn_app (goodIn_of _ (by decide +kernel)) (fun w h => ⟨List.mem_cons_of_mem _ (List.mem_append_right _ (List.mem_append_right _ (List.mem_append_right _ (List.mem_append_left _ h)))), gd_k_X19_fails w h⟩)
theorem gi_k_X19_outside_2 : GoodIn ow_k_X19_outside (wsV RX19 136 RX19 yX19_fails ow_k_X19_fails_v2) := goodIn_app (goodIn_of _ (by decide +kernel)) (fun w h => ⟨List.mem_cons_of_mem _ (List.mem_append_right _ (List.mem_append_right _ (List.mem_append_right _ (List.mem_append_right _ (List.mem_append_left _ h))))), gd_k_X19_fails_v2 w h⟩)
