set_option maxHeartbeats 40000000 in
set_option maxRecDepth 100000 in
theorem k_X19_init (l : Launch) (hlt : l.stackTraces = false) (dC : Nat → ClassId) (dI : Nat → Nat → Nat) (c0 : Nat) (sz : Nat) : Met l yX19_init ow_k_X19_init ({ frames := 2, cells := 96, slots := 706275, locals := 33 }) (va_Pc [.ref c0] (fun U => U.heap.size = sz ∧ va_P (dC, dI) vwCl [(c0, .inr (20, [.int 0, .null, .int 0, .int 0, .null, .null, .null, .null, .null, .null, .null, .null, .null, .null, .null, .null, .null, .int 0, .int 0, .int 0, .int 0, .int 0, .int 0, .int 0, .int 0, .int 0, .null, .null, .null, .null, .null, .null, .null, .null, .null, .int 0]))] U.heap ∧ va_K (dC, dI) vwCl [] U ∧ va_D (fun _ => True) [(c0, .inr (20, [.int 0, .null, .int 0, .int 0, .null, .null, .null, .null, .null, .null, .null, .null, .null, .null, .null, .null, .null, .int 0, .int 0, .int 0, .int 0, .int 0, .int 0, .int 0, .int 0, .int 0, .null, .null, .null, .null, .null, .null, .null, .null, .null, .int 0]))] ∧ nv_E (va_A [(c0, .inr (20, [.int 0, .null, .int 0, .int 0, .null, .null, .null, .null, .null, .null, .null, .null, .null, .null, .null, .null, .null, .int 0, .int 0, .int 0, .int 0, .int 0, .int 0, .int 0, .int 0, .int 0, .null, .null, .null, .null, .null, .null, .null, .null, .null, .int 0]))] sz) U)) (va_Qv (fun _ => True) (fun (_ : Unit) t => ∃ (q1 : Nat) (y2 : ClassId) (q3 : Nat) (y4 : ClassId) (q5 : Nat) (y6 : ClassId) (q7 : Nat) (y8 : ClassId) (q9 : Nat) (y10 : ClassId) (q11 : Nat) (y12 : ClassId) (q13 : Nat) (q15 : Nat) (y16 : ClassId) (q17 : Nat) (q24 : Nat) (q25 : Nat) (q26 : Nat) (q27 : Nat) (q28 : Nat) (q29 : Nat) (q30 : Nat) (q31 : Nat) (q32 : Nat) (q33 : Nat) (q34 : Nat) (q36 : Nat) (q73 : Nat) (q74 : Nat) (q75 : Nat) (y76 : ClassId) (q77 : Nat) (q78 : Nat) (q79 : Nat) (q80 : Nat) (q81 : Nat) (q82 : Nat) (q83 : Nat) (q84 : Nat) (q85 : Nat) (q86 : Nat) (q87 : Nat) (q88 : Nat) (q89 : Nat) (q90 : Nat) (q92 : Nat) (q93 : Nat) (q94 : Nat) (q95 : Nat) (q96 : Nat) (q97 : Nat) (y98 : ClassId) (q100 : Nat) (q104 : Nat) (q106 : Nat) (q108 : Nat) (q110 : Nat) (q112 : Nat) (q114 : Nat) (q116 : Nat) (q118 : Nat) (q120 : Nat) (y121 : ClassId), va_P (dC, dI) vwCl [(c0, .inr (20, [.int 0, .ref q1, .int 0, .int 0, .ref q3, .ref q5, .ref q7, .ref q9, .ref q11, .ref q13, .ref q15, .ref q17, .ref q24, .ref q36, .ref q73, .ref q92, .ref q100, .int 0, .int 0, .int 0, .int 0, .int 0, .int 0, .int 0, .int 0, .int 0, .ref q104, .ref q106, .ref q108, .ref q110, .ref q112, .ref q114, .ref q116, .ref q118, .ref q120, .int 0])), (q1, .inl (y2, 32768, .inl (fun _ => 0))), (q3, .inl (y4, 4, .inl (fun _ => 0))), (q5, .inl (y6, 4, .inl (fun _ => 0))), (q7, .inl (y8, 4, .inl (fun _ => 0))), (q9, .inl (y10, 4, .inl (fun _ => 0))), (q11, .inl (y12, 4, .inl (fun _ => 0))), (q15, .inl (y16, 4, .inr (.inr (.inr (.inr (fun _ => none)))))), (q24, .inr (14, [.ref q25, .ref q26, .ref q27, .ref q28, .int 0, .int 0, .int 0, .ref q29, .ref q30, .ref q31, .int 0, .ref q32, .ref q33, .int 0, .int 0, .int 0, .int 0, .int 0, .int 0, .int 0, .int 0, .int 0, .int 0, .int 0, .int 0, .int 0, .int 0, .int 0, .int 0, .null, .int 0, .int 0, .int 0, .int 0, .ref q34, .int 0, .int 0])), (q73, .inr (16, [.ref q36, .int 0, .ref q74, .ref q75, .ref q77, .ref q78, .ref q79, .ref q80, .ref q81, .int 0, .int 0, .int 0, .int 0, .int 0, .int 0, .long 0, .ref q82, .ref q83, .ref q84, .ref q85, .int 0, .int 0, .long 0, .ref q86, .ref q87, .ref q88, .ref q89, .ref q90])), (q75, .inl (y76, 8, .inl (fun _ => 0))), (q92, .inr (15, [.int 0, .ref q93, .ref q94, .ref q95, .ref q96, .ref q97, .int 0, .null, .int 0, .int 0, .int 0])), (q97, .inl (y98, 32768, .inl (fun _ => 0))), (q120, .inl (y121, 32768, .inl (fun _ => 0)))] t.heap ∧ va_K (dC, dI) vwCl [(y2, .int), (y4, .boolean), (y6, .int), (y8, .int), (y10, .int), (y12, .int), (y16, .array .int), (y76, .boolean), (y98, .int), (y121, .int)] t ∧ va_D (va_A [(c0, .inr (20, [.int 0, .null, .int 0, .int 0, .null, .null, .null, .null, .null, .null, .null, .null, .null, .null, .null, .null, .null, .int 0, .int 0, .int 0, .int 0, .int 0, .int 0, .int 0, .int 0, .int 0, .null, .null, .null, .null, .null, .null, .null, .null, .null, .int 0]))] sz) [(c0, .inr (20, [.int 0, .ref q1, .int 0, .int 0, .ref q3, .ref q5, .ref q7, .ref q9, .ref q11, .ref q13, .ref q15, .ref q17, .ref q24, .ref q36, .ref q73, .ref q92, .ref q100, .int 0, .int 0, .int 0, .int 0, .int 0, .int 0, .int 0, .int 0, .int 0, .ref q104, .ref q106, .ref q108, .ref q110, .ref q112, .ref q114, .ref q116, .ref q118, .ref q120, .int 0])), (q1, .inl (y2, 32768, .inl (fun _ => 0))), (q3, .inl (y4, 4, .inl (fun _ => 0))), (q5, .inl (y6, 4, .inl (fun _ => 0))), (q7, .inl (y8, 4, .inl (fun _ => 0))), (q9, .inl (y10, 4, .inl (fun _ => 0))), (q11, .inl (y12, 4, .inl (fun _ => 0))), (q15, .inl (y16, 4, .inr (.inr (.inr (.inr (fun _ => none)))))), (q24, .inr (14, [.ref q25, .ref q26, .ref q27, .ref q28, .int 0, .int 0, .int 0, .ref q29, .ref q30, .ref q31, .int 0, .ref q32, .ref q33, .int 0, .int 0, .int 0, .int 0, .int 0, .int 0, .int 0, .int 0, .int 0, .int 0, .int 0, .int 0, .int 0, .int 0, .int 0, .int 0, .null, .int 0, .int 0, .int 0, .int 0, .ref q34, .int 0, .int 0])), (q73, .inr (16, [.ref q36, .int 0, .ref q74, .ref q75, .ref q77, .ref q78, .ref q79, .ref q80, .ref q81, .int 0, .int 0, .int 0, .int 0, .int 0, .int 0, .long 0, .ref q82, .ref q83, .ref q84, .ref q85, .int 0, .int 0, .long 0, .ref q86, .ref q87, .ref q88, .ref q89, .ref q90])), (q75, .inl (y76, 8, .inl (fun _ => 0))), (q92, .inr (15, [.int 0, .ref q93, .ref q94, .ref q95, .ref q96, .ref q97, .int 0, .null, .int 0, .int 0, .int 0])), (q97, .inl (y98, 32768, .inl (fun _ => 0))), (q120, .inl (y121, 32768, .inl (fun _ => 0)))]) (va_A [(c0, .inr (20, [.int 0, .null, .int 0, .int 0, .null, .null, .null, .null, .null, .null, .null, .null, .null, .null, .null, .null, .null, .int 0, .int 0, .int 0, .int 0, .int 0, .int 0, .int 0, .int 0, .int 0, .null, .null, .null, .null, .null, .null, .null, .null, .null, .int 0]))] sz)) 96 706275 (va_A [(c0, .inr (20, [.int 0, .null, .int 0, .int 0, .null, .null, .null, .null, .null, .null, .null, .null, .null, .null, .null, .null, .null, .int 0, .int 0, .int 0, .int 0, .int 0, .int 0, .int 0, .int 0, .int 0, .null, .null, .null, .null, .null, .null, .null, .null, .null, .int 0]))] sz) := by
  refine Met.ofW (cc := cX19_init) (maxL := 1) (ret := none) (by decide) rfl ?_
  intro p e s m args below meth c s₁ B hml hv
  obtain ⟨rfl, hsz, hP, hK, hD0, hN⟩ := hv
  have hx := B.exec
  have hb := B.bytes
  have hr := B.returns
  have hts := atoms_spec (ws := ow_k_X19_init) B.pre
  have hown : s.vm.findClass RX19 = some m.cls := findClass_of_methodNamed B.named
  have hlocks := B.notSynchronized
  have hin : meth.name = "<init>" := (name_of_methodNamed B.named B.method).1
  subst hsz
  have hD := hD0.self (sz := s.heap.size)
  generalize hAe : va_A [(c0, .inr (20, [.int 0, .null, .int 0, .int 0, .null, .null, .null, .null, .null, .null, .null, .null, .null, .null, .null, .null, .null, .int 0, .int 0, .int 0, .int 0, .int 0, .int 0, .int 0, .int 0, .int 0, .null, .null, .null, .null, .null, .null, .null, .null, .null, .int 0]))] s.heap.size = A at hD hN ⊢
  have hA : ∀ q : Nat, s.heap.size ≤ q → A q := fun q h => by rw [← hAe]; exact Or.inr h
  have hS : va_S A s.heap s.heap [] := va_S.rf
  have hl := lv_entry ([.ref c0]) (n := 1) (Nat.le_of_ble_eq_true rfl)
  rw [lg_entry_eq]
  generalize (lg_sl ([.ref c0]) ++ List.replicate (1 - (lg_sl ([.ref c0])).length) Slot.unset).toArray = ls at hl ⊢
  have hl : lv_has ls 1 [(0, .ref c0)] := hl
  refine k_X19_init_s0 dC dI c0 hlt hx hb hml hown hts hin hN hA hK hP hD hS hl (fun q1 y2 q3 y4 q5 y6 q7 y8 q9 y10 q11 y12 q13 q15 y16 q17 q24 q25 q26 q27 q28 q29 q30 q31 q32 q33 q34 q36 q73 q74 q75 y76 q77 q78 q79 q80 q81 q82 q83 q84 q85 q86 q87 q88 q89 q90 q92 q93 q94 q95 q96 q97 y98 q100 q104 y105 q106 y107 q108 y109 q110 y111 q112 y113 H locs ls hK hP hD hS hl => ?_)
  refine va_newa (atype := .long) (ty := .long) (N' := 2048) (a0 := (2048, .inr (.inl (fun _ => 0)))) hx hb (hts (.arrayClass .long) (List.mem_of_getElem? (i := 54) rfl)) rfl hK hP hD hS hA (fun cA => vp_cell_l cA 2048 (fun _ => 0)) (by decide +kernel) (by decide +kernel) (by decide +kernel) (by decide +kernel) (by decide +kernel) dX19_init_186 (fun q114 y115 H hK hP hD hS => ?_)
  have hK : va_K (dC, dI) vwCl [(y2, .int), (y4, .boolean), (y6, .int), (y8, .int), (y10, .int), (y12, .int), (y16, .array .int), (y76, .boolean), (y98, .int), (y105, .int), (y107, .int), (y109, .int), (y111, .int), (y113, .int), (y115, .long)] s := hK
  have hP : va_P (dC, dI) vwCl [(c0, .inr (20, [.int 0, .ref q1, .int 0, .int 0, .ref q3, .ref q5, .ref q7, .ref q9, .ref q11, .ref q13, .ref q15, .ref q17, .ref q24, .ref q36, .ref q73, .ref q92, .ref q100, .int 0, .int 0, .int 0, .int 0, .int 0, .int 0, .int 0, .int 0, .int 0, .ref q104, .ref q106, .ref q108, .ref q110, .ref q112, .null, .null, .null, .null, .int 0])), (q1, .inl (y2, 32768, .inl (fun _ => 0))), (q3, .inl (y4, 4, .inl (fun _ => 0))), (q5, .inl (y6, 4, .inl (fun _ => 0))), (q7, .inl (y8, 4, .inl (fun _ => 0))), (q9, .inl (y10, 4, .inl (fun _ => 0))), (q11, .inl (y12, 4, .inl (fun _ => 0))), (q15, .inl (y16, 4, .inr (.inr (.inr (.inr (fun _ => none)))))), (q24, .inr (14, [.ref q25, .ref q26, .ref q27, .ref q28, .int 0, .int 0, .int 0, .ref q29, .ref q30, .ref q31, .int 0, .ref q32, .ref q33, .int 0, .int 0, .int 0, .int 0, .int 0, .int 0, .int 0, .int 0, .int 0, .int 0, .int 0, .int 0, .int 0, .int 0, .int 0, .int 0, .null, .int 0, .int 0, .int 0, .int 0, .ref q34, .int 0, .int 0])), (q73, .inr (16, [.ref q36, .int 0, .ref q74, .ref q75, .ref q77, .ref q78, .ref q79, .ref q80, .ref q81, .int 0, .int 0, .int 0, .int 0, .int 0, .int 0, .long 0, .ref q82, .ref q83, .ref q84, .ref q85, .int 0, .int 0, .long 0, .ref q86, .ref q87, .ref q88, .ref q89, .ref q90])), (q75, .inl (y76, 8, .inl (fun _ => 0))), (q92, .inr (15, [.int 0, .ref q93, .ref q94, .ref q95, .ref q96, .ref q97, .int 0, .null, .int 0, .int 0, .int 0])), (q97, .inl (y98, 32768, .inl (fun _ => 0))), (q104, .inl (y105, 2048, .inl (fun _ => 0))), (q106, .inl (y107, 2048, .inl (fun _ => 0))), (q108, .inl (y109, 2048, .inl (fun _ => 0))), (q110, .inl (y111, 2048, .inl (fun _ => 0))), (q112, .inl (y113, 2048, .inl (fun _ => 0))), (q114, .inl (y115, 2048, .inr (.inl (fun _ => 0))))] H := hP
  have hD : va_D A [(c0, .inr (20, [.int 0, .ref q1, .int 0, .int 0, .ref q3, .ref q5, .ref q7, .ref q9, .ref q11, .ref q13, .ref q15, .ref q17, .ref q24, .ref q36, .ref q73, .ref q92, .ref q100, .int 0, .int 0, .int 0, .int 0, .int 0, .int 0, .int 0, .int 0, .int 0, .ref q104, .ref q106, .ref q108, .ref q110, .ref q112, .null, .null, .null, .null, .int 0])), (q1, .inl (y2, 32768, .inl (fun _ => 0))), (q3, .inl (y4, 4, .inl (fun _ => 0))), (q5, .inl (y6, 4, .inl (fun _ => 0))), (q7, .inl (y8, 4, .inl (fun _ => 0))), (q9, .inl (y10, 4, .inl (fun _ => 0))), (q11, .inl (y12, 4, .inl (fun _ => 0))), (q15, .inl (y16, 4, .inr (.inr (.inr (.inr (fun _ => none)))))), (q24, .inr (14, [.ref q25, .ref q26, .ref q27, .ref q28, .int 0, .int 0, .int 0, .ref q29, .ref q30, .ref q31, .int 0, .ref q32, .ref q33, .int 0, .int 0, .int 0, .int 0, .int 0, .int 0, .int 0, .int 0, .int 0, .int 0, .int 0, .int 0, .int 0, .int 0, .int 0, .int 0, .null, .int 0, .int 0, .int 0, .int 0, .ref q34, .int 0, .int 0])), (q73, .inr (16, [.ref q36, .int 0, .ref q74, .ref q75, .ref q77, .ref q78, .ref q79, .ref q80, .ref q81, .int 0, .int 0, .int 0, .int 0, .int 0, .int 0, .long 0, .ref q82, .ref q83, .ref q84, .ref q85, .int 0, .int 0, .long 0, .ref q86, .ref q87, .ref q88, .ref q89, .ref q90])), (q75, .inl (y76, 8, .inl (fun _ => 0))), (q92, .inr (15, [.int 0, .ref q93, .ref q94, .ref q95, .ref q96, .ref q97, .int 0, .null, .int 0, .int 0, .int 0])), (q97, .inl (y98, 32768, .inl (fun _ => 0))), (q104, .inl (y105, 2048, .inl (fun _ => 0))), (q106, .inl (y107, 2048, .inl (fun _ => 0))), (q108, .inl (y109, 2048, .inl (fun _ => 0))), (q110, .inl (y111, 2048, .inl (fun _ => 0))), (q112, .inl (y113, 2048, .inl (fun _ => 0))), (q114, .inl (y115, 2048, .inr (.inl (fun _ => 0))))] := hD
  refine W.widen (k := 93) (n := 669411) (by decide +kernel) (by decide +kernel) ?_
  refine va_putF (D := (dC, dI)) (ci := 20) (v := .ref q114) (ty := .array .long) (C := RX19) (T := TX19) (N := 36) hx hb hts hi_k_X19_init_X19 tyX19 tyX19_ok nmX19 hown hK hP hD hS 0 rfl rfl 31 (by decide) (hts (.fieldLink RX19 100 "TimeMachineModel" "a" "[J") (List.mem_of_getElem? (i := 55) rfl)) (fun _ h9 => h9) rfl hin rfl (by decide +kernel) rfl rfl (Nat.le_of_ble_eq_true rfl) dX19_init_188 (fun H locs hP hD hS => ?_)
  have hP : va_P (dC, dI) vwCl [(c0, .inr (20, [.int 0, .ref q1, .int 0, .int 0, .ref q3, .ref q5, .ref q7, .ref q9, .ref q11, .ref q13, .ref q15, .ref q17, .ref q24, .ref q36, .ref q73, .ref q92, .ref q100, .int 0, .int 0, .int 0, .int 0, .int 0, .int 0, .int 0, .int 0, .int 0, .ref q104, .ref q106, .ref q108, .ref q110, .ref q112, .ref q114, .null, .null, .null, .int 0])), (q1, .inl (y2, 32768, .inl (fun _ => 0))), (q3, .inl (y4, 4, .inl (fun _ => 0))), (q5, .inl (y6, 4, .inl (fun _ => 0))), (q7, .inl (y8, 4, .inl (fun _ => 0))), (q9, .inl (y10, 4, .inl (fun _ => 0))), (q11, .inl (y12, 4, .inl (fun _ => 0))), (q15, .inl (y16, 4, .inr (.inr (.inr (.inr (fun _ => none)))))), (q24, .inr (14, [.ref q25, .ref q26, .ref q27, .ref q28, .int 0, .int 0, .int 0, .ref q29, .ref q30, .ref q31, .int 0, .ref q32, .ref q33, .int 0, .int 0, .int 0, .int 0, .int 0, .int 0, .int 0, .int 0, .int 0, .int 0, .int 0, .int 0, .int 0, .int 0, .int 0, .int 0, .null, .int 0, .int 0, .int 0, .int 0, .ref q34, .int 0, .int 0])), (q73, .inr (16, [.ref q36, .int 0, .ref q74, .ref q75, .ref q77, .ref q78, .ref q79, .ref q80, .ref q81, .int 0, .int 0, .int 0, .int 0, .int 0, .int 0, .long 0, .ref q82, .ref q83, .ref q84, .ref q85, .int 0, .int 0, .long 0, .ref q86, .ref q87, .ref q88, .ref q89, .ref q90])), (q75, .inl (y76, 8, .inl (fun _ => 0))), (q92, .inr (15, [.int 0, .ref q93, .ref q94, .ref q95, .ref q96, .ref q97, .int 0, .null, .int 0, .int 0, .int 0])), (q97, .inl (y98, 32768, .inl (fun _ => 0))), (q104, .inl (y105, 2048, .inl (fun _ => 0))), (q106, .inl (y107, 2048, .inl (fun _ => 0))), (q108, .inl (y109, 2048, .inl (fun _ => 0))), (q110, .inl (y111, 2048, .inl (fun _ => 0))), (q112, .inl (y113, 2048, .inl (fun _ => 0))), (q114, .inl (y115, 2048, .inr (.inl (fun _ => 0))))] H := hP
  have hD : va_D A [(c0, .inr (20, [.int 0, .ref q1, .int 0, .int 0, .ref q3, .ref q5, .ref q7, .ref q9, .ref q11, .ref q13, .ref q15, .ref q17, .ref q24, .ref q36, .ref q73, .ref q92, .ref q100, .int 0, .int 0, .int 0, .int 0, .int 0, .int 0, .int 0, .int 0, .int 0, .ref q104, .ref q106, .ref q108, .ref q110, .ref q112, .ref q114, .null, .null, .null, .int 0])), (q1, .inl (y2, 32768, .inl (fun _ => 0))), (q3, .inl (y4, 4, .inl (fun _ => 0))), (q5, .inl (y6, 4, .inl (fun _ => 0))), (q7, .inl (y8, 4, .inl (fun _ => 0))), (q9, .inl (y10, 4, .inl (fun _ => 0))), (q11, .inl (y12, 4, .inl (fun _ => 0))), (q15, .inl (y16, 4, .inr (.inr (.inr (.inr (fun _ => none)))))), (q24, .inr (14, [.ref q25, .ref q26, .ref q27, .ref q28, .int 0, .int 0, .int 0, .ref q29, .ref q30, .ref q31, .int 0, .ref q32, .ref q33, .int 0, .int 0, .int 0, .int 0, .int 0, .int 0, .int 0, .int 0, .int 0, .int 0, .int 0, .int 0, .int 0, .int 0, .int 0, .int 0, .null, .int 0, .int 0, .int 0, .int 0, .ref q34, .int 0, .int 0])), (q73, .inr (16, [.ref q36, .int 0, .ref q74, .ref q75, .ref q77, .ref q78, .ref q79, .ref q80, .ref q81, .int 0, .int 0, .int 0, .int 0, .int 0, .int 0, .long 0, .ref q82, .ref q83, .ref q84, .ref q85, .int 0, .int 0, .long 0, .ref q86, .ref q87, .ref q88, .ref q89, .ref q90])), (q75, .inl (y76, 8, .inl (fun _ => 0))), (q92, .inr (15, [.int 0, .ref q93, .ref q94, .ref q95, .ref q96, .ref q97, .int 0, .null, .int 0, .int 0, .int 0])), (q97, .inl (y98, 32768, .inl (fun _ => 0))), (q104, .inl (y105, 2048, .inl (fun _ => 0))), (q106, .inl (y107, 2048, .inl (fun _ => 0))), (q108, .inl (y109, 2048, .inl (fun _ => 0))), (q110, .inl (y111, 2048, .inl (fun _ => 0))), (q112, .inl (y113, 2048, .inl (fun _ => 0))), (q114, .inl (y115, 2048, .inr (.inl (fun _ => 0))))] := hD
  refine lv_aload_n hx hb dX19_init_191 rfl (lv_at hl 0 rfl) ?_
  refine lv_sipush (v := 2048) hx hb dX19_init_192 (by decide) ?_
  refine va_newa (atype := .long) (ty := .long) (N' := 2048) (a0 := (2048, .inr (.inl (fun _ => 0)))) hx hb (hts (.arrayClass .long) (List.mem_of_getElem? (i := 54) rfl)) rfl hK hP hD hS hA (fun cA => vp_cell_l cA 2048 (fun _ => 0)) (by decide +kernel) (by decide +kernel) (by decide +kernel) (by decide +kernel) (by decide +kernel) dX19_init_195 (fun q116 y117 H hK hP hD hS => ?_)
  have hK : va_K (dC, dI) vwCl [(y2, .int), (y4, .boolean), (y6, .int), (y8, .int), (y10, .int), (y12, .int), (y16, .array .int), (y76, .boolean), (y98, .int), (y105, .int), (y107, .int), (y109, .int), (y111, .int), (y113, .int), (y115, .long), (y117, .long)] s := hK
  have hP : va_P (dC, dI) vwCl [(c0, .inr (20, [.int 0, .ref q1, .int 0, .int 0, .ref q3, .ref q5, .ref q7, .ref q9, .ref q11, .ref q13, .ref q15, .ref q17, .ref q24, .ref q36, .ref q73, .ref q92, .ref q100, .int 0, .int 0, .int 0, .int 0, .int 0, .int 0, .int 0, .int 0, .int 0, .ref q104, .ref q106, .ref q108, .ref q110, .ref q112, .ref q114, .null, .null, .null, .int 0])), (q1, .inl (y2, 32768, .inl (fun _ => 0))), (q3, .inl (y4, 4, .inl (fun _ => 0))), (q5, .inl (y6, 4, .inl (fun _ => 0))), (q7, .inl (y8, 4, .inl (fun _ => 0))), (q9, .inl (y10, 4, .inl (fun _ => 0))), (q11, .inl (y12, 4, .inl (fun _ => 0))), (q15, .inl (y16, 4, .inr (.inr (.inr (.inr (fun _ => none)))))), (q24, .inr (14, [.ref q25, .ref q26, .ref q27, .ref q28, .int 0, .int 0, .int 0, .ref q29, .ref q30, .ref q31, .int 0, .ref q32, .ref q33, .int 0, .int 0, .int 0, .int 0, .int 0, .int 0, .int 0, .int 0, .int 0, .int 0, .int 0, .int 0, .int 0, .int 0, .int 0, .int 0, .null, .int 0, .int 0, .int 0, .int 0, .ref q34, .int 0, .int 0])), (q73, .inr (16, [.ref q36, .int 0, .ref q74, .ref q75, .ref q77, .ref q78, .ref q79, .ref q80, .ref q81, .int 0, .int 0, .int 0, .int 0, .int 0, .int 0, .long 0, .ref q82, .ref q83, .ref q84, .ref q85, .int 0, .int 0, .long 0, .ref q86, .ref q87, .ref q88, .ref q89, .ref q90])), (q75, .inl (y76, 8, .inl (fun _ => 0))), (q92, .inr (15, [.int 0, .ref q93, .ref q94, .ref q95, .ref q96, .ref q97, .int 0, .null, .int 0, .int 0, .int 0])), (q97, .inl (y98, 32768, .inl (fun _ => 0))), (q104, .inl (y105, 2048, .inl (fun _ => 0))), (q106, .inl (y107, 2048, .inl (fun _ => 0))), (q108, .inl (y109, 2048, .inl (fun _ => 0))), (q110, .inl (y111, 2048, .inl (fun _ => 0))), (q112, .inl (y113, 2048, .inl (fun _ => 0))), (q114, .inl (y115, 2048, .inr (.inl (fun _ => 0)))), (q116, .inl (y117, 2048, .inr (.inl (fun _ => 0))))] H := hP
  have hD : va_D A [(c0, .inr (20, [.int 0, .ref q1, .int 0, .int 0, .ref q3, .ref q5, .ref q7, .ref q9, .ref q11, .ref q13, .ref q15, .ref q17, .ref q24, .ref q36, .ref q73, .ref q92, .ref q100, .int 0, .int 0, .int 0, .int 0, .int 0, .int 0, .int 0, .int 0, .int 0, .ref q104, .ref q106, .ref q108, .ref q110, .ref q112, .ref q114, .null, .null, .null, .int 0])), (q1, .inl (y2, 32768, .inl (fun _ => 0))), (q3, .inl (y4, 4, .inl (fun _ => 0))), (q5, .inl (y6, 4, .inl (fun _ => 0))), (q7, .inl (y8, 4, .inl (fun _ => 0))), (q9, .inl (y10, 4, .inl (fun _ => 0))), (q11, .inl (y12, 4, .inl (fun _ => 0))), (q15, .inl (y16, 4, .inr (.inr (.inr (.inr (fun _ => none)))))), (q24, .inr (14, [.ref q25, .ref q26, .ref q27, .ref q28, .int 0, .int 0, .int 0, .ref q29, .ref q30, .ref q31, .int 0, .ref q32, .ref q33, .int 0, .int 0, .int 0, .int 0, .int 0, .int 0, .int 0, .int 0, .int 0, .int 0, .int 0, .int 0, .int 0, .int 0, .int 0, .int 0, .null, .int 0, .int 0, .int 0, .int 0, .ref q34, .int 0, .int 0])), (q73, .inr (16, [.ref q36, .int 0, .ref q74, .ref q75, .ref q77, .ref q78, .ref q79, .ref q80, .ref q81, .int 0, .int 0, .int 0, .int 0, .int 0, .int 0, .long 0, .ref q82, .ref q83, .ref q84, .ref q85, .int 0, .int 0, .long 0, .ref q86, .ref q87, .ref q88, .ref q89, .ref q90])), (q75, .inl (y76, 8, .inl (fun _ => 0))), (q92, .inr (15, [.int 0, .ref q93, .ref q94, .ref q95, .ref q96, .ref q97, .int 0, .null, .int 0, .int 0, .int 0])), (q97, .inl (y98, 32768, .inl (fun _ => 0))), (q104, .inl (y105, 2048, .inl (fun _ => 0))), (q106, .inl (y107, 2048, .inl (fun _ => 0))), (q108, .inl (y109, 2048, .inl (fun _ => 0))), (q110, .inl (y111, 2048, .inl (fun _ => 0))), (q112, .inl (y113, 2048, .inl (fun _ => 0))), (q114, .inl (y115, 2048, .inr (.inl (fun _ => 0)))), (q116, .inl (y117, 2048, .inr (.inl (fun _ => 0))))] := hD
  refine W.widen (k := 94) (n := 671459) (by decide +kernel) (by decide +kernel) ?_
  refine va_putF (D := (dC, dI)) (ci := 20) (v := .ref q116) (ty := .array .long) (C := RX19) (T := TX19) (N := 36) hx hb hts hi_k_X19_init_X19 tyX19 tyX19_ok nmX19 hown hK hP hD hS 0 rfl rfl 32 (by decide) (hts (.fieldLink RX19 104 "TimeMachineModel" "laterA" "[J") (List.mem_of_getElem? (i := 56) rfl)) (fun _ h9 => h9) rfl hin rfl (by decide +kernel) rfl rfl (Nat.le_of_ble_eq_true rfl) dX19_init_197 (fun H locs hP hD hS => ?_)
  have hP : va_P (dC, dI) vwCl [(c0, .inr (20, [.int 0, .ref q1, .int 0, .int 0, .ref q3, .ref q5, .ref q7, .ref q9, .ref q11, .ref q13, .ref q15, .ref q17, .ref q24, .ref q36, .ref q73, .ref q92, .ref q100, .int 0, .int 0, .int 0, .int 0, .int 0, .int 0, .int 0, .int 0, .int 0, .ref q104, .ref q106, .ref q108, .ref q110, .ref q112, .ref q114, .ref q116, .null, .null, .int 0])), (q1, .inl (y2, 32768, .inl (fun _ => 0))), (q3, .inl (y4, 4, .inl (fun _ => 0))), (q5, .inl (y6, 4, .inl (fun _ => 0))), (q7, .inl (y8, 4, .inl (fun _ => 0))), (q9, .inl (y10, 4, .inl (fun _ => 0))), (q11, .inl (y12, 4, .inl (fun _ => 0))), (q15, .inl (y16, 4, .inr (.inr (.inr (.inr (fun _ => none)))))), (q24, .inr (14, [.ref q25, .ref q26, .ref q27, .ref q28, .int 0, .int 0, .int 0, .ref q29, .ref q30, .ref q31, .int 0, .ref q32, .ref q33, .int 0, .int 0, .int 0, .int 0, .int 0, .int 0, .int 0, .int 0, .int 0, .int 0, .int 0, .int 0, .int 0, .int 0, .int 0, .int 0, .null, .int 0, .int 0, .int 0, .int 0, .ref q34, .int 0, .int 0])), (q73, .inr (16, [.ref q36, .int 0, .ref q74, .ref q75, .ref q77, .ref q78, .ref q79, .ref q80, .ref q81, .int 0, .int 0, .int 0, .int 0, .int 0, .int 0, .long 0, .ref q82, .ref q83, .ref q84, .ref q85, .int 0, .int 0, .long 0, .ref q86, .ref q87, .ref q88, .ref q89, .ref q90])), (q75, .inl (y76, 8, .inl (fun _ => 0))), (q92, .inr (15, [.int 0, .ref q93, .ref q94, .ref q95, .ref q96, .ref q97, .int 0, .null, .int 0, .int 0, .int 0])), (q97, .inl (y98, 32768, .inl (fun _ => 0))), (q104, .inl (y105, 2048, .inl (fun _ => 0))), (q106, .inl (y107, 2048, .inl (fun _ => 0))), (q108, .inl (y109, 2048, .inl (fun _ => 0))), (q110, .inl (y111, 2048, .inl (fun _ => 0))), (q112, .inl (y113, 2048, .inl (fun _ => 0))), (q114, .inl (y115, 2048, .inr (.inl (fun _ => 0)))), (q116, .inl (y117, 2048, .inr (.inl (fun _ => 0))))] H := hP
  have hD : va_D A [(c0, .inr (20, [.int 0, .ref q1, .int 0, .int 0, .ref q3, .ref q5, .ref q7, .ref q9, .ref q11, .ref q13, .ref q15, .ref q17, .ref q24, .ref q36, .ref q73, .ref q92, .ref q100, .int 0, .int 0, .int 0, .int 0, .int 0, .int 0, .int 0, .int 0, .int 0, .ref q104, .ref q106, .ref q108, .ref q110, .ref q112, .ref q114, .ref q116, .null, .null, .int 0])), (q1, .inl (y2, 32768, .inl (fun _ => 0))), (q3, .inl (y4, 4, .inl (fun _ => 0))), (q5, .inl (y6, 4, .inl (fun _ => 0))), (q7, .inl (y8, 4, .inl (fun _ => 0))), (q9, .inl (y10, 4, .inl (fun _ => 0))), (q11, .inl (y12, 4, .inl (fun _ => 0))), (q15, .inl (y16, 4, .inr (.inr (.inr (.inr (fun _ => none)))))), (q24, .inr (14, [.ref q25, .ref q26, .ref q27, .ref q28, .int 0, .int 0, .int 0, .ref q29, .ref q30, .ref q31, .int 0, .ref q32, .ref q33, .int 0, .int 0, .int 0, .int 0, .int 0, .int 0, .int 0, .int 0, .int 0, .int 0, .int 0, .int 0, .int 0, .int 0, .int 0, .int 0, .null, .int 0, .int 0, .int 0, .int 0, .ref q34, .int 0, .int 0])), (q73, .inr (16, [.ref q36, .int 0, .ref q74, .ref q75, .ref q77, .ref q78, .ref q79, .ref q80, .ref q81, .int 0, .int 0, .int 0, .int 0, .int 0, .int 0, .long 0, .ref q82, .ref q83, .ref q84, .ref q85, .int 0, .int 0, .long 0, .ref q86, .ref q87, .ref q88, .ref q89, .ref q90])), (q75, .inl (y76, 8, .inl (fun _ => 0))), (q92, .inr (15, [.int 0, .ref q93, .ref q94, .ref q95, .ref q96, .ref q97, .int 0, .null, .int 0, .int 0, .int 0])), (q97, .inl (y98, 32768, .inl (fun _ => 0))), (q104, .inl (y105, 2048, .inl (fun _ => 0))), (q106, .inl (y107, 2048, .inl (fun _ => 0))), (q108, .inl (y109, 2048, .inl (fun _ => 0))), (q110, .inl (y111, 2048, .inl (fun _ => 0))), (q112, .inl (y113, 2048, .inl (fun _ => 0))), (q114, .inl (y115, 2048, .inr (.inl (fun _ => 0)))), (q116, .inl (y117, 2048, .inr (.inl (fun _ => 0))))] := hD
  refine lv_aload_n hx hb dX19_init_200 rfl (lv_at hl 0 rfl) ?_
  refine lv_sipush (v := 2048) hx hb dX19_init_201 (by decide) ?_
  refine va_newa (atype := .long) (ty := .long) (N' := 2048) (a0 := (2048, .inr (.inl (fun _ => 0)))) hx hb (hts (.arrayClass .long) (List.mem_of_getElem? (i := 54) rfl)) rfl hK hP hD hS hA (fun cA => vp_cell_l cA 2048 (fun _ => 0)) (by decide +kernel) (by decide +kernel) (by decide +kernel) (by decide +kernel) (by decide +kernel) dX19_init_204 (fun q118 y119 H hK hP hD hS => ?_)
  have hK : va_K (dC, dI) vwCl [(y2, .int), (y4, .boolean), (y6, .int), (y8, .int), (y10, .int), (y12, .int), (y16, .array .int), (y76, .boolean), (y98, .int), (y105, .int), (y107, .int), (y109, .int), (y111, .int), (y113, .int), (y115, .long), (y117, .long), (y119, .long)] s := hK
  have hP : va_P (dC, dI) vwCl [(c0, .inr (20, [.int 0, .ref q1, .int 0, .int 0, .ref q3, .ref q5, .ref q7, .ref q9, .ref q11, .ref q13, .ref q15, .ref q17, .ref q24, .ref q36, .ref q73, .ref q92, .ref q100, .int 0, .int 0, .int 0, .int 0, .int 0, .int 0, .int 0, .int 0, .int 0, .ref q104, .ref q106, .ref q108, .ref q110, .ref q112, .ref q114, .ref q116, .null, .null, .int 0])), (q1, .inl (y2, 32768, .inl (fun _ => 0))), (q3, .inl (y4, 4, .inl (fun _ => 0))), (q5, .inl (y6, 4, .inl (fun _ => 0))), (q7, .inl (y8, 4, .inl (fun _ => 0))), (q9, .inl (y10, 4, .inl (fun _ => 0))), (q11, .inl (y12, 4, .inl (fun _ => 0))), (q15, .inl (y16, 4, .inr (.inr (.inr (.inr (fun _ => none)))))), (q24, .inr (14, [.ref q25, .ref q26, .ref q27, .ref q28, .int 0, .int 0, .int 0, .ref q29, .ref q30, .ref q31, .int 0, .ref q32, .ref q33, .int 0, .int 0, .int 0, .int 0, .int 0, .int 0, .int 0, .int 0, .int 0, .int 0, .int 0, .int 0, .int 0, .int 0, .int 0, .int 0, .null, .int 0, .int 0, .int 0, .int 0, .ref q34, .int 0, .int 0])), (q73, .inr (16, [.ref q36, .int 0, .ref q74, .ref q75, .ref q77, .ref q78, .ref q79, .ref q80, .ref q81, .int 0, .int 0, .int 0, .int 0, .int 0, .int 0, .long 0, .ref q82, .ref q83, .ref q84, .ref q85, .int 0, .int 0, .long 0, .ref q86, .ref q87, .ref q88, .ref q89, .ref q90])), (q75, .inl (y76, 8, .inl (fun _ => 0))), (q92, .inr (15, [.int 0, .ref q93, .ref q94, .ref q95, .ref q96, .ref q97, .int 0, .null, .int 0, .int 0, .int 0])), (q97, .inl (y98, 32768, .inl (fun _ => 0))), (q104, .inl (y105, 2048, .inl (fun _ => 0))), (q106, .inl (y107, 2048, .inl (fun _ => 0))), (q108, .inl (y109, 2048, .inl (fun _ => 0))), (q110, .inl (y111, 2048, .inl (fun _ => 0))), (q112, .inl (y113, 2048, .inl (fun _ => 0))), (q114, .inl (y115, 2048, .inr (.inl (fun _ => 0)))), (q116, .inl (y117, 2048, .inr (.inl (fun _ => 0)))), (q118, .inl (y119, 2048, .inr (.inl (fun _ => 0))))] H := hP
  have hD : va_D A [(c0, .inr (20, [.int 0, .ref q1, .int 0, .int 0, .ref q3, .ref q5, .ref q7, .ref q9, .ref q11, .ref q13, .ref q15, .ref q17, .ref q24, .ref q36, .ref q73, .ref q92, .ref q100, .int 0, .int 0, .int 0, .int 0, .int 0, .int 0, .int 0, .int 0, .int 0, .ref q104, .ref q106, .ref q108, .ref q110, .ref q112, .ref q114, .ref q116, .null, .null, .int 0])), (q1, .inl (y2, 32768, .inl (fun _ => 0))), (q3, .inl (y4, 4, .inl (fun _ => 0))), (q5, .inl (y6, 4, .inl (fun _ => 0))), (q7, .inl (y8, 4, .inl (fun _ => 0))), (q9, .inl (y10, 4, .inl (fun _ => 0))), (q11, .inl (y12, 4, .inl (fun _ => 0))), (q15, .inl (y16, 4, .inr (.inr (.inr (.inr (fun _ => none)))))), (q24, .inr (14, [.ref q25, .ref q26, .ref q27, .ref q28, .int 0, .int 0, .int 0, .ref q29, .ref q30, .ref q31, .int 0, .ref q32, .ref q33, .int 0, .int 0, .int 0, .int 0, .int 0, .int 0, .int 0, .int 0, .int 0, .int 0, .int 0, .int 0, .int 0, .int 0, .int 0, .int 0, .null, .int 0, .int 0, .int 0, .int 0, .ref q34, .int 0, .int 0])), (q73, .inr (16, [.ref q36, .int 0, .ref q74, .ref q75, .ref q77, .ref q78, .ref q79, .ref q80, .ref q81, .int 0, .int 0, .int 0, .int 0, .int 0, .int 0, .long 0, .ref q82, .ref q83, .ref q84, .ref q85, .int 0, .int 0, .long 0, .ref q86, .ref q87, .ref q88, .ref q89, .ref q90])), (q75, .inl (y76, 8, .inl (fun _ => 0))), (q92, .inr (15, [.int 0, .ref q93, .ref q94, .ref q95, .ref q96, .ref q97, .int 0, .null, .int 0, .int 0, .int 0])), (q97, .inl (y98, 32768, .inl (fun _ => 0))), (q104, .inl (y105, 2048, .inl (fun _ => 0))), (q106, .inl (y107, 2048, .inl (fun _ => 0))), (q108, .inl (y109, 2048, .inl (fun _ => 0))), (q110, .inl (y111, 2048, .inl (fun _ => 0))), (q112, .inl (y113, 2048, .inl (fun _ => 0))), (q114, .inl (y115, 2048, .inr (.inl (fun _ => 0)))), (q116, .inl (y117, 2048, .inr (.inl (fun _ => 0)))), (q118, .inl (y119, 2048, .inr (.inl (fun _ => 0))))] := hD
  refine W.widen (k := 95) (n := 673507) (by decide +kernel) (by decide +kernel) ?_
  refine va_putF (D := (dC, dI)) (ci := 20) (v := .ref q118) (ty := .array .long) (C := RX19) (T := TX19) (N := 36) hx hb hts hi_k_X19_init_X19 tyX19 tyX19_ok nmX19 hown hK hP hD hS 0 rfl rfl 33 (by decide) (hts (.fieldLink RX19 107 "TimeMachineModel" "laterWhen" "[J") (List.mem_of_getElem? (i := 57) rfl)) (fun _ h9 => h9) rfl hin rfl (by decide +kernel) rfl rfl (Nat.le_of_ble_eq_true rfl) dX19_init_206 (fun H locs hP hD hS => ?_)
  have hP : va_P (dC, dI) vwCl [(c0, .inr (20, [.int 0, .ref q1, .int 0, .int 0, .ref q3, .ref q5, .ref q7, .ref q9, .ref q11, .ref q13, .ref q15, .ref q17, .ref q24, .ref q36, .ref q73, .ref q92, .ref q100, .int 0, .int 0, .int 0, .int 0, .int 0, .int 0, .int 0, .int 0, .int 0, .ref q104, .ref q106, .ref q108, .ref q110, .ref q112, .ref q114, .ref q116, .ref q118, .null, .int 0])), (q1, .inl (y2, 32768, .inl (fun _ => 0))), (q3, .inl (y4, 4, .inl (fun _ => 0))), (q5, .inl (y6, 4, .inl (fun _ => 0))), (q7, .inl (y8, 4, .inl (fun _ => 0))), (q9, .inl (y10, 4, .inl (fun _ => 0))), (q11, .inl (y12, 4, .inl (fun _ => 0))), (q15, .inl (y16, 4, .inr (.inr (.inr (.inr (fun _ => none)))))), (q24, .inr (14, [.ref q25, .ref q26, .ref q27, .ref q28, .int 0, .int 0, .int 0, .ref q29, .ref q30, .ref q31, .int 0, .ref q32, .ref q33, .int 0, .int 0, .int 0, .int 0, .int 0, .int 0, .int 0, .int 0, .int 0, .int 0, .int 0, .int 0, .int 0, .int 0, .int 0, .int 0, .null, .int 0, .int 0, .int 0, .int 0, .ref q34, .int 0, .int 0])), (q73, .inr (16, [.ref q36, .int 0, .ref q74, .ref q75, .ref q77, .ref q78, .ref q79, .ref q80, .ref q81, .int 0, .int 0, .int 0, .int 0, .int 0, .int 0, .long 0, .ref q82, .ref q83, .ref q84, .ref q85, .int 0, .int 0, .long 0, .ref q86, .ref q87, .ref q88, .ref q89, .ref q90])), (q75, .inl (y76, 8, .inl (fun _ => 0))), (q92, .inr (15, [.int 0, .ref q93, .ref q94, .ref q95, .ref q96, .ref q97, .int 0, .null, .int 0, .int 0, .int 0])), (q97, .inl (y98, 32768, .inl (fun _ => 0))), (q104, .inl (y105, 2048, .inl (fun _ => 0))), (q106, .inl (y107, 2048, .inl (fun _ => 0))), (q108, .inl (y109, 2048, .inl (fun _ => 0))), (q110, .inl (y111, 2048, .inl (fun _ => 0))), (q112, .inl (y113, 2048, .inl (fun _ => 0))), (q114, .inl (y115, 2048, .inr (.inl (fun _ => 0)))), (q116, .inl (y117, 2048, .inr (.inl (fun _ => 0)))), (q118, .inl (y119, 2048, .inr (.inl (fun _ => 0))))] H := hP
  have hD : va_D A [(c0, .inr (20, [.int 0, .ref q1, .int 0, .int 0, .ref q3, .ref q5, .ref q7, .ref q9, .ref q11, .ref q13, .ref q15, .ref q17, .ref q24, .ref q36, .ref q73, .ref q92, .ref q100, .int 0, .int 0, .int 0, .int 0, .int 0, .int 0, .int 0, .int 0, .int 0, .ref q104, .ref q106, .ref q108, .ref q110, .ref q112, .ref q114, .ref q116, .ref q118, .null, .int 0])), (q1, .inl (y2, 32768, .inl (fun _ => 0))), (q3, .inl (y4, 4, .inl (fun _ => 0))), (q5, .inl (y6, 4, .inl (fun _ => 0))), (q7, .inl (y8, 4, .inl (fun _ => 0))), (q9, .inl (y10, 4, .inl (fun _ => 0))), (q11, .inl (y12, 4, .inl (fun _ => 0))), (q15, .inl (y16, 4, .inr (.inr (.inr (.inr (fun _ => none)))))), (q24, .inr (14, [.ref q25, .ref q26, .ref q27, .ref q28, .int 0, .int 0, .int 0, .ref q29, .ref q30, .ref q31, .int 0, .ref q32, .ref q33, .int 0, .int 0, .int 0, .int 0, .int 0, .int 0, .int 0, .int 0, .int 0, .int 0, .int 0, .int 0, .int 0, .int 0, .int 0, .int 0, .null, .int 0, .int 0, .int 0, .int 0, .ref q34, .int 0, .int 0])), (q73, .inr (16, [.ref q36, .int 0, .ref q74, .ref q75, .ref q77, .ref q78, .ref q79, .ref q80, .ref q81, .int 0, .int 0, .int 0, .int 0, .int 0, .int 0, .long 0, .ref q82, .ref q83, .ref q84, .ref q85, .int 0, .int 0, .long 0, .ref q86, .ref q87, .ref q88, .ref q89, .ref q90])), (q75, .inl (y76, 8, .inl (fun _ => 0))), (q92, .inr (15, [.int 0, .ref q93, .ref q94, .ref q95, .ref q96, .ref q97, .int 0, .null, .int 0, .int 0, .int 0])), (q97, .inl (y98, 32768, .inl (fun _ => 0))), (q104, .inl (y105, 2048, .inl (fun _ => 0))), (q106, .inl (y107, 2048, .inl (fun _ => 0))), (q108, .inl (y109, 2048, .inl (fun _ => 0))), (q110, .inl (y111, 2048, .inl (fun _ => 0))), (q112, .inl (y113, 2048, .inl (fun _ => 0))), (q114, .inl (y115, 2048, .inr (.inl (fun _ => 0)))), (q116, .inl (y117, 2048, .inr (.inl (fun _ => 0)))), (q118, .inl (y119, 2048, .inr (.inl (fun _ => 0))))] := hD
  refine lv_aload_n hx hb dX19_init_209 rfl (lv_at hl 0 rfl) ?_
  refine lv_ldc hx hb hown (hts (.constant RX19 9 (32768)) (List.mem_of_getElem? (i := 4) rfl)) dX19_init_210 ?_
  refine va_newa (atype := .int) (ty := .int) (N' := 32768) (a0 := (32768, .inl (fun _ => 0))) hx hb (hts (.arrayClass .int) (List.mem_of_getElem? (i := 5) rfl)) rfl hK hP hD hS hA (fun cA => vp_cell_i cA 32768 (fun _ => 0)) (by decide +kernel) (by decide +kernel) (by decide +kernel) (by decide +kernel) (by decide +kernel) dX19_init_212 (fun q120 y121 H hK hP hD hS => ?_)
  have hK : va_K (dC, dI) vwCl [(y2, .int), (y4, .boolean), (y6, .int), (y8, .int), (y10, .int), (y12, .int), (y16, .array .int), (y76, .boolean), (y98, .int), (y105, .int), (y107, .int), (y109, .int), (y111, .int), (y113, .int), (y115, .long), (y117, .long), (y119, .long), (y121, .int)] s := hK
  have hP : va_P (dC, dI) vwCl [(c0, .inr (20, [.int 0, .ref q1, .int 0, .int 0, .ref q3, .ref q5, .ref q7, .ref q9, .ref q11, .ref q13, .ref q15, .ref q17, .ref q24, .ref q36, .ref q73, .ref q92, .ref q100, .int 0, .int 0, .int 0, .int 0, .int 0, .int 0, .int 0, .int 0, .int 0, .ref q104, .ref q106, .ref q108, .ref q110, .ref q112, .ref q114, .ref q116, .ref q118, .null, .int 0])), (q1, .inl (y2, 32768, .inl (fun _ => 0))), (q3, .inl (y4, 4, .inl (fun _ => 0))), (q5, .inl (y6, 4, .inl (fun _ => 0))), (q7, .inl (y8, 4, .inl (fun _ => 0))), (q9, .inl (y10, 4, .inl (fun _ => 0))), (q11, .inl (y12, 4, .inl (fun _ => 0))), (q15, .inl (y16, 4, .inr (.inr (.inr (.inr (fun _ => none)))))), (q24, .inr (14, [.ref q25, .ref q26, .ref q27, .ref q28, .int 0, .int 0, .int 0, .ref q29, .ref q30, .ref q31, .int 0, .ref q32, .ref q33, .int 0, .int 0, .int 0, .int 0, .int 0, .int 0, .int 0, .int 0, .int 0, .int 0, .int 0, .int 0, .int 0, .int 0, .int 0, .int 0, .null, .int 0, .int 0, .int 0, .int 0, .ref q34, .int 0, .int 0])), (q73, .inr (16, [.ref q36, .int 0, .ref q74, .ref q75, .ref q77, .ref q78, .ref q79, .ref q80, .ref q81, .int 0, .int 0, .int 0, .int 0, .int 0, .int 0, .long 0, .ref q82, .ref q83, .ref q84, .ref q85, .int 0, .int 0, .long 0, .ref q86, .ref q87, .ref q88, .ref q89, .ref q90])), (q75, .inl (y76, 8, .inl (fun _ => 0))), (q92, .inr (15, [.int 0, .ref q93, .ref q94, .ref q95, .ref q96, .ref q97, .int 0, .null, .int 0, .int 0, .int 0])), (q97, .inl (y98, 32768, .inl (fun _ => 0))), (q104, .inl (y105, 2048, .inl (fun _ => 0))), (q106, .inl (y107, 2048, .inl (fun _ => 0))), (q108, .inl (y109, 2048, .inl (fun _ => 0))), (q110, .inl (y111, 2048, .inl (fun _ => 0))), (q112, .inl (y113, 2048, .inl (fun _ => 0))), (q114, .inl (y115, 2048, .inr (.inl (fun _ => 0)))), (q116, .inl (y117, 2048, .inr (.inl (fun _ => 0)))), (q118, .inl (y119, 2048, .inr (.inl (fun _ => 0)))), (q120, .inl (y121, 32768, .inl (fun _ => 0)))] H := hP
  have hD : va_D A [(c0, .inr (20, [.int 0, .ref q1, .int 0, .int 0, .ref q3, .ref q5, .ref q7, .ref q9, .ref q11, .ref q13, .ref q15, .ref q17, .ref q24, .ref q36, .ref q73, .ref q92, .ref q100, .int 0, .int 0, .int 0, .int 0, .int 0, .int 0, .int 0, .int 0, .int 0, .ref q104, .ref q106, .ref q108, .ref q110, .ref q112, .ref q114, .ref q116, .ref q118, .null, .int 0])), (q1, .inl (y2, 32768, .inl (fun _ => 0))), (q3, .inl (y4, 4, .inl (fun _ => 0))), (q5, .inl (y6, 4, .inl (fun _ => 0))), (q7, .inl (y8, 4, .inl (fun _ => 0))), (q9, .inl (y10, 4, .inl (fun _ => 0))), (q11, .inl (y12, 4, .inl (fun _ => 0))), (q15, .inl (y16, 4, .inr (.inr (.inr (.inr (fun _ => none)))))), (q24, .inr (14, [.ref q25, .ref q26, .ref q27, .ref q28, .int 0, .int 0, .int 0, .ref q29, .ref q30, .ref q31, .int 0, .ref q32, .ref q33, .int 0, .int 0, .int 0, .int 0, .int 0, .int 0, .int 0, .int 0, .int 0, .int 0, .int 0, .int 0, .int 0, .int 0, .int 0, .int 0, .null, .int 0, .int 0, .int 0, .int 0, .ref q34, .int 0, .int 0])), (q73, .inr (16, [.ref q36, .int 0, .ref q74, .ref q75, .ref q77, .ref q78, .ref q79, .ref q80, .ref q81, .int 0, .int 0, .int 0, .int 0, .int 0, .int 0, .long 0, .ref q82, .ref q83, .ref q84, .ref q85, .int 0, .int 0, .long 0, .ref q86, .ref q87, .ref q88, .ref q89, .ref q90])), (q75, .inl (y76, 8, .inl (fun _ => 0))), (q92, .inr (15, [.int 0, .ref q93, .ref q94, .ref q95, .ref q96, .ref q97, .int 0, .null, .int 0, .int 0, .int 0])), (q97, .inl (y98, 32768, .inl (fun _ => 0))), (q104, .inl (y105, 2048, .inl (fun _ => 0))), (q106, .inl (y107, 2048, .inl (fun _ => 0))), (q108, .inl (y109, 2048, .inl (fun _ => 0))), (q110, .inl (y111, 2048, .inl (fun _ => 0))), (q112, .inl (y113, 2048, .inl (fun _ => 0))), (q114, .inl (y115, 2048, .inr (.inl (fun _ => 0)))), (q116, .inl (y117, 2048, .inr (.inl (fun _ => 0)))), (q118, .inl (y119, 2048, .inr (.inl (fun _ => 0)))), (q120, .inl (y121, 32768, .inl (fun _ => 0)))] := hD
  refine W.widen (k := 96) (n := 706275) (by decide +kernel) (by decide +kernel) ?_
  refine va_putF (D := (dC, dI)) (ci := 20) (v := .ref q120) (ty := .array .int) (C := RX19) (T := TX19) (N := 36) hx hb hts hi_k_X19_init_X19 tyX19 tyX19_ok nmX19 hown hK hP hD hS 0 rfl rfl 34 (by decide) (hts (.fieldLink RX19 110 "TimeMachineModel" "log" "[I") (List.mem_of_getElem? (i := 58) rfl)) (fun _ h9 => h9) rfl hin rfl (by decide +kernel) rfl rfl (Nat.le_of_ble_eq_true rfl) dX19_init_214 (fun H locs hP hD hS => ?_)
  have hP : va_P (dC, dI) vwCl [(c0, .inr (20, [.int 0, .ref q1, .int 0, .int 0, .ref q3, .ref q5, .ref q7, .ref q9, .ref q11, .ref q13, .ref q15, .ref q17, .ref q24, .ref q36, .ref q73, .ref q92, .ref q100, .int 0, .int 0, .int 0, .int 0, .int 0, .int 0, .int 0, .int 0, .int 0, .ref q104, .ref q106, .ref q108, .ref q110, .ref q112, .ref q114, .ref q116, .ref q118, .ref q120, .int 0])), (q1, .inl (y2, 32768, .inl (fun _ => 0))), (q3, .inl (y4, 4, .inl (fun _ => 0))), (q5, .inl (y6, 4, .inl (fun _ => 0))), (q7, .inl (y8, 4, .inl (fun _ => 0))), (q9, .inl (y10, 4, .inl (fun _ => 0))), (q11, .inl (y12, 4, .inl (fun _ => 0))), (q15, .inl (y16, 4, .inr (.inr (.inr (.inr (fun _ => none)))))), (q24, .inr (14, [.ref q25, .ref q26, .ref q27, .ref q28, .int 0, .int 0, .int 0, .ref q29, .ref q30, .ref q31, .int 0, .ref q32, .ref q33, .int 0, .int 0, .int 0, .int 0, .int 0, .int 0, .int 0, .int 0, .int 0, .int 0, .int 0, .int 0, .int 0, .int 0, .int 0, .int 0, .null, .int 0, .int 0, .int 0, .int 0, .ref q34, .int 0, .int 0])), (q73, .inr (16, [.ref q36, .int 0, .ref q74, .ref q75, .ref q77, .ref q78, .ref q79, .ref q80, .ref q81, .int 0, .int 0, .int 0, .int 0, .int 0, .int 0, .long 0, .ref q82, .ref q83, .ref q84, .ref q85, .int 0, .int 0, .long 0, .ref q86, .ref q87, .ref q88, .ref q89, .ref q90])), (q75, .inl (y76, 8, .inl (fun _ => 0))), (q92, .inr (15, [.int 0, .ref q93, .ref q94, .ref q95, .ref q96, .ref q97, .int 0, .null, .int 0, .int 0, .int 0])), (q97, .inl (y98, 32768, .inl (fun _ => 0))), (q104, .inl (y105, 2048, .inl (fun _ => 0))), (q106, .inl (y107, 2048, .inl (fun _ => 0))), (q108, .inl (y109, 2048, .inl (fun _ => 0))), (q110, .inl (y111, 2048, .inl (fun _ => 0))), (q112, .inl (y113, 2048, .inl (fun _ => 0))), (q114, .inl (y115, 2048, .inr (.inl (fun _ => 0)))), (q116, .inl (y117, 2048, .inr (.inl (fun _ => 0)))), (q118, .inl (y119, 2048, .inr (.inl (fun _ => 0)))), (q120, .inl (y121, 32768, .inl (fun _ => 0)))] H := hP
  have hD : va_D A [(c0, .inr (20, [.int 0, .ref q1, .int 0, .int 0, .ref q3, .ref q5, .ref q7, .ref q9, .ref q11, .ref q13, .ref q15, .ref q17, .ref q24, .ref q36, .ref q73, .ref q92, .ref q100, .int 0, .int 0, .int 0, .int 0, .int 0, .int 0, .int 0, .int 0, .int 0, .ref q104, .ref q106, .ref q108, .ref q110, .ref q112, .ref q114, .ref q116, .ref q118, .ref q120, .int 0])), (q1, .inl (y2, 32768, .inl (fun _ => 0))), (q3, .inl (y4, 4, .inl (fun _ => 0))), (q5, .inl (y6, 4, .inl (fun _ => 0))), (q7, .inl (y8, 4, .inl (fun _ => 0))), (q9, .inl (y10, 4, .inl (fun _ => 0))), (q11, .inl (y12, 4, .inl (fun _ => 0))), (q15, .inl (y16, 4, .inr (.inr (.inr (.inr (fun _ => none)))))), (q24, .inr (14, [.ref q25, .ref q26, .ref q27, .ref q28, .int 0, .int 0, .int 0, .ref q29, .ref q30, .ref q31, .int 0, .ref q32, .ref q33, .int 0, .int 0, .int 0, .int 0, .int 0, .int 0, .int 0, .int 0, .int 0, .int 0, .int 0, .int 0, .int 0, .int 0, .int 0, .int 0, .null, .int 0, .int 0, .int 0, .int 0, .ref q34, .int 0, .int 0])), (q73, .inr (16, [.ref q36, .int 0, .ref q74, .ref q75, .ref q77, .ref q78, .ref q79, .ref q80, .ref q81, .int 0, .int 0, .int 0, .int 0, .int 0, .int 0, .long 0, .ref q82, .ref q83, .ref q84, .ref q85, .int 0, .int 0, .long 0, .ref q86, .ref q87, .ref q88, .ref q89, .ref q90])), (q75, .inl (y76, 8, .inl (fun _ => 0))), (q92, .inr (15, [.int 0, .ref q93, .ref q94, .ref q95, .ref q96, .ref q97, .int 0, .null, .int 0, .int 0, .int 0])), (q97, .inl (y98, 32768, .inl (fun _ => 0))), (q104, .inl (y105, 2048, .inl (fun _ => 0))), (q106, .inl (y107, 2048, .inl (fun _ => 0))), (q108, .inl (y109, 2048, .inl (fun _ => 0))), (q110, .inl (y111, 2048, .inl (fun _ => 0))), (q112, .inl (y113, 2048, .inl (fun _ => 0))), (q114, .inl (y115, 2048, .inr (.inl (fun _ => 0)))), (q116, .inl (y117, 2048, .inr (.inl (fun _ => 0)))), (q118, .inl (y119, 2048, .inr (.inl (fun _ => 0)))), (q120, .inl (y121, 32768, .inl (fun _ => 0)))] := hD
  have hP9 := hP.sub (ws' := [(c0, .inr (20, [.int 0, .ref q1, .int 0, .int 0, .ref q3, .ref q5, .ref q7, .ref q9, .ref q11, .ref q13, .ref q15, .ref q17, .ref q24, .ref q36, .ref q73, .ref q92, .ref q100, .int 0, .int 0, .int 0, .int 0, .int 0, .int 0, .int 0, .int 0, .int 0, .ref q104, .ref q106, .ref q108, .ref q110, .ref q112, .ref q114, .ref q116, .ref q118, .ref q120, .int 0])), (q1, .inl (y2, 32768, .inl (fun _ => 0))), (q3, .inl (y4, 4, .inl (fun _ => 0))), (q5, .inl (y6, 4, .inl (fun _ => 0))), (q7, .inl (y8, 4, .inl (fun _ => 0))), (q9, .inl (y10, 4, .inl (fun _ => 0))), (q11, .inl (y12, 4, .inl (fun _ => 0))), (q15, .inl (y16, 4, .inr (.inr (.inr (.inr (fun _ => none)))))), (q24, .inr (14, [.ref q25, .ref q26, .ref q27, .ref q28, .int 0, .int 0, .int 0, .ref q29, .ref q30, .ref q31, .int 0, .ref q32, .ref q33, .int 0, .int 0, .int 0, .int 0, .int 0, .int 0, .int 0, .int 0, .int 0, .int 0, .int 0, .int 0, .int 0, .int 0, .int 0, .int 0, .null, .int 0, .int 0, .int 0, .int 0, .ref q34, .int 0, .int 0])), (q73, .inr (16, [.ref q36, .int 0, .ref q74, .ref q75, .ref q77, .ref q78, .ref q79, .ref q80, .ref q81, .int 0, .int 0, .int 0, .int 0, .int 0, .int 0, .long 0, .ref q82, .ref q83, .ref q84, .ref q85, .int 0, .int 0, .long 0, .ref q86, .ref q87, .ref q88, .ref q89, .ref q90])), (q75, .inl (y76, 8, .inl (fun _ => 0))), (q92, .inr (15, [.int 0, .ref q93, .ref q94, .ref q95, .ref q96, .ref q97, .int 0, .null, .int 0, .int 0, .int 0])), (q97, .inl (y98, 32768, .inl (fun _ => 0))), (q120, .inl (y121, 32768, .inl (fun _ => 0)))]) [0, 1, 2, 3, 4, 5, 6, 7, 8, 9, 10, 11, 12, 21] rfl
  have hD9 := hD.sub (ws' := [(c0, .inr (20, [.int 0, .ref q1, .int 0, .int 0, .ref q3, .ref q5, .ref q7, .ref q9, .ref q11, .ref q13, .ref q15, .ref q17, .ref q24, .ref q36, .ref q73, .ref q92, .ref q100, .int 0, .int 0, .int 0, .int 0, .int 0, .int 0, .int 0, .int 0, .int 0, .ref q104, .ref q106, .ref q108, .ref q110, .ref q112, .ref q114, .ref q116, .ref q118, .ref q120, .int 0])), (q1, .inl (y2, 32768, .inl (fun _ => 0))), (q3, .inl (y4, 4, .inl (fun _ => 0))), (q5, .inl (y6, 4, .inl (fun _ => 0))), (q7, .inl (y8, 4, .inl (fun _ => 0))), (q9, .inl (y10, 4, .inl (fun _ => 0))), (q11, .inl (y12, 4, .inl (fun _ => 0))), (q15, .inl (y16, 4, .inr (.inr (.inr (.inr (fun _ => none)))))), (q24, .inr (14, [.ref q25, .ref q26, .ref q27, .ref q28, .int 0, .int 0, .int 0, .ref q29, .ref q30, .ref q31, .int 0, .ref q32, .ref q33, .int 0, .int 0, .int 0, .int 0, .int 0, .int 0, .int 0, .int 0, .int 0, .int 0, .int 0, .int 0, .int 0, .int 0, .int 0, .int 0, .null, .int 0, .int 0, .int 0, .int 0, .ref q34, .int 0, .int 0])), (q73, .inr (16, [.ref q36, .int 0, .ref q74, .ref q75, .ref q77, .ref q78, .ref q79, .ref q80, .ref q81, .int 0, .int 0, .int 0, .int 0, .int 0, .int 0, .long 0, .ref q82, .ref q83, .ref q84, .ref q85, .int 0, .int 0, .long 0, .ref q86, .ref q87, .ref q88, .ref q89, .ref q90])), (q75, .inl (y76, 8, .inl (fun _ => 0))), (q92, .inr (15, [.int 0, .ref q93, .ref q94, .ref q95, .ref q96, .ref q97, .int 0, .null, .int 0, .int 0, .int 0])), (q97, .inl (y98, 32768, .inl (fun _ => 0))), (q120, .inl (y121, 32768, .inl (fun _ => 0)))]) [0, 1, 2, 3, 4, 5, 6, 7, 8, 9, 10, 11, 12, 21] (by decide) rfl
  have hK9 := hK.sub (tys' := [(y2, .int), (y4, .boolean), (y6, .int), (y8, .int), (y10, .int), (y12, .int), (y16, .array .int), (y76, .boolean), (y98, .int), (y121, .int)]) [0, 1, 2, 3, 4, 5, 6, 7, 8, 17] rfl
  refine W.widen (k := 96) (n := 706275) (by decide +kernel) (by decide +kernel) ?_
  exact W.vret hx hb hr (fun t ht hW => ⟨⟨(), rfl, trivial, q1, y2, q3, y4, q5, y6, q7, y8, q9, y10, q11, y12, q13, q15, y16, q17, q24, q25, q26, q27, q28, q29, q30, q31, q32, q33, q34, q36, q73, q74, q75, y76, q77, q78, q79, q80, q81, q82, q83, q84, q85, q86, q87, q88, q89, q90, q92, q93, q94, q95, q96, q97, y98, q100, q104, q106, q108, q110, q112, q114, q116, q118, q120, y121, by rw [ht]; exact hP9, va_K.moved hW.alike hK9, hD9⟩, hS.F ht⟩) hS.2.2 dX19_init_217
def ow_k_X12_putOnTape : List Cond := .code yX12_putOnTape cX12_putOnTape 3 none :: ([.fieldLink RX12 58 "TimeMachine" "taped" "I", .constant RX12 9 (32768), .fieldLink RX12 10 "TimeMachine" "tape" "[B"] ++ (u_ws RX12 TX12 12 ++ []))
theorem gd_k_X12_putOnTape : ∀ w ∈ ow_k_X12_putOnTape, (w.onTables && w.keeps) = true ∨ ∃ ty, w = Cond.arrayClass ty := List.forall_mem_cons.mpr ⟨good_of_word rfl, List.forall_mem_append.mpr ⟨fun w h => good_of_word (List.all_eq_true.mp (by decide +kernel) w h), List.forall_mem_append.mpr ⟨gu_X12, fun _ h => nomatch h⟩⟩⟩
theorem hi_k_X12_putOnTape_X12 : ∀ w ∈ u_ws RX12 TX12 12, w ∈ ow_k_X12_putOnTape := fun w h => List.mem_cons_of_mem _ (List.mem_append_right _ (List.mem_append_left _ h))
set_option maxHeartbeats 40000000 in
set_option maxRecDepth 100000 in
theorem k_X12_putOnTape (l : Launch) (hlt : l.stackTraces = false) (dC : Nat → ClassId) (dI : Nat → Nat → Nat) (c0 : Nat) (c1 : Nat) (c2 : ClassId) (c3 : Int32) (c4 : Nat) (c5 : Nat) (c6 : Nat) (c7 : Nat) (c8 : Nat) (c9 : Nat) (c10 : Nat) (c11 : Nat) (sz : Nat) : Met l yX12_putOnTape ow_k_X12_putOnTape ({ frames := 0, cells := 0, slots := 0, locals := 0 }) (va_Pc [.ref c0, .int c3] (fun U => U.heap.size = sz ∧ va_P (dC, dI) vwCl [(c0, .inr (13, [.ref c1, .int 0, .int 0, .ref c4, .ref c5, .ref c6, .ref c7, .ref c8, .ref c9, .ref c10, .int 0, .ref c11])), (c1, .inl (c2, 32768, .inl (fun _ => 0)))] U.heap ∧ va_K (dC, dI) vwCl [(c2, .byte)] U ∧ va_D (fun _ => True) [(c0, .inr (13, [.ref c1, .int 0, .int 0, .ref c4, .ref c5, .ref c6, .ref c7, .ref c8, .ref c9, .ref c10, .int 0, .ref c11])), (c1, .inl (c2, 32768, .inl (fun _ => 0)))] ∧ nv_E (va_A [(c0, .inr (13, [.ref c1, .int 0, .int 0, .ref c4, .ref c5, .ref c6, .ref c7, .ref c8, .ref c9, .ref c10, .int 0, .ref c11])), (c1, .inl (c2, 32768, .inl (fun _ => 0)))] sz) U)) (va_Qv (fun _ => True) (fun (_ : Unit) t => ∃ (f15 : Nat → Int32), va_P (dC, dI) vwCl [(c0, .inr (13, [.ref c1, .int 4, .int 0, .ref c4, .ref c5, .ref c6, .ref c7, .ref c8, .ref c9, .ref c10, .int 0, .ref c11])), (c1, .inl (c2, 32768, .inl f15))] t.heap ∧ va_K (dC, dI) vwCl [(c2, .byte)] t ∧ va_D (va_A [(c0, .inr (13, [.ref c1, .int 0, .int 0, .ref c4, .ref c5, .ref c6, .ref c7, .ref c8, .ref c9, .ref c10, .int 0, .ref c11])), (c1, .inl (c2, 32768, .inl (fun _ => 0)))] sz) [(c0, .inr (13, [.ref c1, .int 4, .int 0, .ref c4, .ref c5, .ref c6, .ref c7, .ref c8, .ref c9, .ref c10, .int 0, .ref c11])), (c1, .inl (c2, 32768, .inl f15))]) (va_A [(c0, .inr (13, [.ref c1, .int 0, .int 0, .ref c4, .ref c5, .ref c6, .ref c7, .ref c8, .ref c9, .ref c10, .int 0, .ref c11])), (c1, .inl (c2, 32768, .inl (fun _ => 0)))] sz)) 0 0 (va_A [(c0, .inr (13, [.ref c1, .int 0, .int 0, .ref c4, .ref c5, .ref c6, .ref c7, .ref c8, .ref c9, .ref c10, .int 0, .ref c11])), (c1, .inl (c2, 32768, .inl (fun _ => 0)))] sz) := by
  refine Met.ofW (cc := cX12_putOnTape) (maxL := 3) (ret := none) (by decide) rfl ?_
  intro p e s m args below meth c s₁ B hml hv
  obtain ⟨rfl, hsz, hP, hK, hD0, hN⟩ := hv
  have hx := B.exec
  have hb := B.bytes
  have hr := B.returns
  have hts := atoms_spec (ws := ow_k_X12_putOnTape) B.pre
  have hown : s.vm.findClass RX12 = some m.cls := findClass_of_methodNamed B.named
  have hlocks := B.notSynchronized
  subst hsz
  have hD := hD0.self (sz := s.heap.size)
  generalize hAe : va_A [(c0, .inr (13, [.ref c1, .int 0, .int 0, .ref c4, .ref c5, .ref c6, .ref c7, .ref c8, .ref c9, .ref c10, .int 0, .ref c11])), (c1, .inl (c2, 32768, .inl (fun _ => 0)))] s.heap.size = A at hD hN ⊢
  have hA : ∀ q : Nat, s.heap.size ≤ q → A q := fun q h => by rw [← hAe]; exact Or.inr h
  have hS : va_S A s.heap s.heap [] := va_S.rf
  have hl := lv_entry ([.ref c0, .int c3]) (n := 3) (Nat.le_of_ble_eq_true rfl)
  rw [lg_entry_eq]
  generalize (lg_sl ([.ref c0, .int c3]) ++ List.replicate (3 - (lg_sl ([.ref c0, .int c3])).length) Slot.unset).toArray = ls at hl ⊢
  have hl : lv_has ls 3 [(0, .ref c0), (1, .int c3)] := hl
  refine lv_bipush (v := 24) hx hb dX12_putOnTape_0 (by decide) ?_
  refine lv_istore_n (lv' := [(2, .int 24), (0, .ref c0), (1, .int c3)]) hx hb dX12_putOnTape_2 rfl hl (by decide) rfl (fun ls hl => ?_)
  refine lv_iload_n hx hb dX12_putOnTape_3 rfl (lv_at hl 0 rfl) ?_
  refine lv_if_lt (tgt := 45) hx hb dX12_putOnTape_4 (by decide) (fun h9 => absurd h9 (by decide)) (fun _ => ?_)
  refine lv_aload_n hx hb dX12_putOnTape_7 rfl (lv_at hl 1 rfl) ?_
  refine va_get (D := (dC, dI)) (ci := 13) (v := .int 0) (C := RX12) (T := TX12) (N := 12) hx hb hts hi_k_X12_putOnTape_X12 hown hK hP 0 rfl rfl 1 (by decide) (hts (.fieldLink RX12 58 "TimeMachine" "taped" "I") (List.mem_of_getElem? (i := 1) rfl)) (fun _ h9 => h9) rfl dX12_putOnTape_8 ?_
  refine lv_ldc hx hb hown (hts (.constant RX12 9 (32768)) (List.mem_of_getElem? (i := 2) rfl)) dX12_putOnTape_11 ?_
  refine lv_icmp_ge (tgt := 39) hx hb dX12_putOnTape_13 (by decide) (fun h9 => absurd h9 (by decide)) (fun _ => ?_)
  refine lv_aload_n hx hb dX12_putOnTape_16 rfl (lv_at hl 1 rfl) ?_
  refine va_get (D := (dC, dI)) (ci := 13) (v := .ref c1) (C := RX12) (T := TX12) (N := 12) hx hb hts hi_k_X12_putOnTape_X12 hown hK hP 0 rfl rfl 0 (by decide) (hts (.fieldLink RX12 10 "TimeMachine" "tape" "[B") (List.mem_of_getElem? (i := 3) rfl)) (fun _ h9 => h9) rfl dX12_putOnTape_17 ?_
  refine lv_aload_n hx hb dX12_putOnTape_20 rfl (lv_at hl 1 rfl) ?_
  refine va_get (D := (dC, dI)) (ci := 13) (v := .int 0) (C := RX12) (T := TX12) (N := 12) hx hb hts hi_k_X12_putOnTape_X12 hown hK hP 0 rfl rfl 1 (by decide) (hts (.fieldLink RX12 58 "TimeMachine" "taped" "I") (List.mem_of_getElem? (i := 1) rfl)) (fun _ h9 => h9) rfl dX12_putOnTape_21 ?_
  refine lv_iload_n hx hb dX12_putOnTape_24 rfl (lv_at hl 2 rfl) ?_
  refine lv_iload_n hx hb dX12_putOnTape_25 rfl (lv_at hl 0 rfl) ?_
  refine lv_ishr hx hb dX12_putOnTape_26 ?_
  refine lv_topi (fun z1 ez1 => ?_)
  refine lv_i2b hx hb dX12_putOnTape_27 rfl ?_
  refine lv_topi (fun z2 ez2 => ?_)
  refine va_bast (i := 0) (x := z2) hx hb hK hP hD hS 1 0 rfl rfl (vp_in_iff.mpr ⟨by decide, by decide⟩) dX12_putOnTape_28 (fun H locs hP hD hS => ?_)
  generalize hf3 : upd (fun _ => 0) (Int32.toNatClampNeg 0) (vp_nar .byte z2) = f3 at hP hD
  have hP : va_P (dC, dI) vwCl [(c0, .inr (13, [.ref c1, .int 0, .int 0, .ref c4, .ref c5, .ref c6, .ref c7, .ref c8, .ref c9, .ref c10, .int 0, .ref c11])), (c1, .inl (c2, 32768, .inl f3))] H := hP
  have hD : va_D A [(c0, .inr (13, [.ref c1, .int 0, .int 0, .ref c4, .ref c5, .ref c6, .ref c7, .ref c8, .ref c9, .ref c10, .int 0, .ref c11])), (c1, .inl (c2, 32768, .inl f3))] := hD
  refine lv_aload_n hx hb dX12_putOnTape_29 rfl (lv_at hl 1 rfl) ?_
  refine lv_dup hx hb dX12_putOnTape_30 rfl ?_
  refine va_get (D := (dC, dI)) (ci := 13) (v := .int 0) (C := RX12) (T := TX12) (N := 12) hx hb hts hi_k_X12_putOnTape_X12 hown hK hP 0 rfl rfl 1 (by decide) (hts (.fieldLink RX12 58 "TimeMachine" "taped" "I") (List.mem_of_getElem? (i := 1) rfl)) (fun _ h9 => h9) rfl dX12_putOnTape_31 ?_
  refine lv_iconst (v := 1) hx hb dX12_putOnTape_34 (by decide) ?_
  refine lv_iadd hx hb dX12_putOnTape_35 ?_
  refine lv_topi (fun z4 ez4 => ?_)
  obtain rfl : z4 = 1 := ez4.trans (by decide)
  refine va_put (D := (dC, dI)) (ci := 13) (v := .int 1) (ty := .int) (C := RX12) (T := TX12) (N := 12) hx hb hts hi_k_X12_putOnTape_X12 tyX12 tyX12_ok nmX12 hown hK hP hD hS 0 rfl rfl 1 (by decide) (hts (.fieldLink RX12 58 "TimeMachine" "taped" "I") (List.mem_of_getElem? (i := 1) rfl)) (fun _ h9 => h9) rfl (by decide +kernel) rfl rfl (Nat.le_of_ble_eq_true rfl) dX12_putOnTape_36 (fun H locs hP hD hS => ?_)
  have hP : va_P (dC, dI) vwCl [(c0, .inr (13, [.ref c1, .int 1, .int 0, .ref c4, .ref c5, .ref c6, .ref c7, .ref c8, .ref c9, .ref c10, .int 0, .ref c11])), (c1, .inl (c2, 32768, .inl f3))] H := hP
  have hD : va_D A [(c0, .inr (13, [.ref c1, .int 1, .int 0, .ref c4, .ref c5, .ref c6, .ref c7, .ref c8, .ref c9, .ref c10, .int 0, .ref c11])), (c1, .inl (c2, 32768, .inl f3))] := hD
  refine lv_iinc (v := 16) (lv' := [(2, .int 16), (0, .ref c0), (1, .int c3)]) hx hb dX12_putOnTape_39 hl (k := 0) rfl (by decide) (by decide) rfl (fun ls hl => ?_)
  refine lv_goto (tgt := 3) hx hb dX12_putOnTape_42 (by decide) ?_
  refine lv_iload_n hx hb dX12_putOnTape_3 rfl (lv_at hl 0 rfl) ?_
  refine lv_if_lt (tgt := 45) hx hb dX12_putOnTape_4 (by decide) (fun h9 => absurd h9 (by decide)) (fun _ => ?_)
  refine lv_aload_n hx hb dX12_putOnTape_7 rfl (lv_at hl 1 rfl) ?_
  refine va_get (D := (dC, dI)) (ci := 13) (v := .int 1) (C := RX12) (T := TX12) (N := 12) hx hb hts hi_k_X12_putOnTape_X12 hown hK hP 0 rfl rfl 1 (by decide) (hts (.fieldLink RX12 58 "TimeMachine" "taped" "I") (List.mem_of_getElem? (i := 1) rfl)) (fun _ h9 => h9) rfl dX12_putOnTape_8 ?_
  refine lv_ldc hx hb hown (hts (.constant RX12 9 (32768)) (List.mem_of_getElem? (i := 2) rfl)) dX12_putOnTape_11 ?_
  refine lv_icmp_ge (tgt := 39) hx hb dX12_putOnTape_13 (by decide) (fun h9 => absurd h9 (by decide)) (fun _ => ?_)
  refine lv_aload_n hx hb dX12_putOnTape_16 rfl (lv_at hl 1 rfl) ?_
  refine va_get (D := (dC, dI)) (ci := 13) (v := .ref c1) (C := RX12) (T := TX12) (N := 12) hx hb hts hi_k_X12_putOnTape_X12 hown hK hP 0 rfl rfl 0 (by decide) (hts (.fieldLink RX12 10 "TimeMachine" "tape" "[B") (List.mem_of_getElem? (i := 3) rfl)) (fun _ h9 => h9) rfl dX12_putOnTape_17 ?_
  refine lv_aload_n hx hb dX12_putOnTape_20 rfl (lv_at hl 1 rfl) ?_
  refine va_get (D := (dC, dI)) (ci := 13) (v := .int 1) (C := RX12) (T := TX12) (N := 12) hx hb hts hi_k_X12_putOnTape_X12 hown hK hP 0 rfl rfl 1 (by decide) (hts (.fieldLink RX12 58 "TimeMachine" "taped" "I") (List.mem_of_getElem? (i := 1) rfl)) (fun _ h9 => h9) rfl dX12_putOnTape_21 ?_
  refine lv_iload_n hx hb dX12_putOnTape_24 rfl (lv_at hl 2 rfl) ?_
  refine lv_iload_n hx hb dX12_putOnTape_25 rfl (lv_at hl 0 rfl) ?_
  refine lv_ishr hx hb dX12_putOnTape_26 ?_
  refine lv_topi (fun z5 ez5 => ?_)
  refine lv_i2b hx hb dX12_putOnTape_27 rfl ?_
  refine lv_topi (fun z6 ez6 => ?_)
  refine va_bast (i := 1) (x := z6) hx hb hK hP hD hS 1 0 rfl rfl (vp_in_iff.mpr ⟨by decide, by decide⟩) dX12_putOnTape_28 (fun H locs hP hD hS => ?_)
  generalize hf7 : upd f3 (Int32.toNatClampNeg 1) (vp_nar .byte z6) = f7 at hP hD
  have hP : va_P (dC, dI) vwCl [(c0, .inr (13, [.ref c1, .int 1, .int 0, .ref c4, .ref c5, .ref c6, .ref c7, .ref c8, .ref c9, .ref c10, .int 0, .ref c11])), (c1, .inl (c2, 32768, .inl f7))] H := hP
  have hD : va_D A [(c0, .inr (13, [.ref c1, .int 1, .int 0, .ref c4, .ref c5, .ref c6, .ref c7, .ref c8, .ref c9, .ref c10, .int 0, .ref c11])), (c1, .inl (c2, 32768, .inl f7))] := hD
  refine lv_aload_n hx hb dX12_putOnTape_29 rfl (lv_at hl 1 rfl) ?_
  refine lv_dup hx hb dX12_putOnTape_30 rfl ?_
  refine va_get (D := (dC, dI)) (ci := 13) (v := .int 1) (C := RX12) (T := TX12) (N := 12) hx hb hts hi_k_X12_putOnTape_X12 hown hK hP 0 rfl rfl 1 (by decide) (hts (.fieldLink RX12 58 "TimeMachine" "taped" "I") (List.mem_of_getElem? (i := 1) rfl)) (fun _ h9 => h9) rfl dX12_putOnTape_31 ?_
  refine lv_iconst (v := 1) hx hb dX12_putOnTape_34 (by decide) ?_
  refine lv_iadd hx hb dX12_putOnTape_35 ?_
  refine lv_topi (fun z8 ez8 => ?_)
  obtain rfl : z8 = 2 := ez8.trans (by decide)
  refine va_put (D := (dC, dI)) (ci := 13) (v := .int 2) (ty := .int) (C := RX12) (T := TX12) (N := 12) hx hb hts hi_k_X12_putOnTape_X12 tyX12 tyX12_ok nmX12 hown hK hP hD hS 0 rfl rfl 1 (by decide) (hts (.fieldLink RX12 58 "TimeMachine" "taped" "I") (List.mem_of_getElem? (i := 1) rfl)) (fun _ h9 => h9) rfl (by decide +kernel) rfl rfl (Nat.le_of_ble_eq_true rfl) dX12_putOnTape_36 (fun H locs hP hD hS => ?_)
  have hP : va_P (dC, dI) vwCl [(c0, .inr (13, [.ref c1, .int 2, .int 0, .ref c4, .ref c5, .ref c6, .ref c7, .ref c8, .ref c9, .ref c10, .int 0, .ref c11])), (c1, .inl (c2, 32768, .inl f7))] H := hP
  have hD : va_D A [(c0, .inr (13, [.ref c1, .int 2, .int 0, .ref c4, .ref c5, .ref c6, .ref c7, .ref c8, .ref c9, .ref c10, .int 0, .ref c11])), (c1, .inl (c2, 32768, .inl f7))] := hD
  refine lv_iinc (v := 8) (lv' := [(2, .int 8), (0, .ref c0), (1, .int c3)]) hx hb dX12_putOnTape_39 hl (k := 0) rfl (by decide) (by decide) rfl (fun ls hl => ?_)
  refine lv_goto (tgt := 3) hx hb dX12_putOnTape_42 (by decide) ?_
  refine lv_iload_n hx hb dX12_putOnTape_3 rfl (lv_at hl 0 rfl) ?_
  refine lv_if_lt (tgt := 45) hx hb dX12_putOnTape_4 (by decide) (fun h9 => absurd h9 (by decide)) (fun _ => ?_)
  refine lv_aload_n hx hb dX12_putOnTape_7 rfl (lv_at hl 1 rfl) ?_
  refine va_get (D := (dC, dI)) (ci := 13) (v := .int 2) (C := RX12) (T := TX12) (N := 12) hx hb hts hi_k_X12_putOnTape_X12 hown hK hP 0 rfl rfl 1 (by decide) (hts (.fieldLink RX12 58 "TimeMachine" "taped" "I") (List.mem_of_getElem? (i := 1) rfl)) (fun _ h9 => h9) rfl dX12_putOnTape_8 ?_
  refine lv_ldc hx hb hown (hts (.constant RX12 9 (32768)) (List.mem_of_getElem? (i := 2) rfl)) dX12_putOnTape_11 ?_
  refine lv_icmp_ge (tgt := 39) hx hb dX12_putOnTape_13 (by decide) (fun h9 => absurd h9 (by decide)) (fun _ => ?_)
  refine lv_aload_n hx hb dX12_putOnTape_16 rfl (lv_at hl 1 rfl) ?_
  refine va_get (D := (dC, dI)) (ci := 13) (v := .ref c1) (C := RX12) (T := TX12) (N := 12) hx hb hts hi_k_X12_putOnTape_X12 hown hK hP 0 rfl rfl 0 (by decide) (hts (.fieldLink RX12 10 "TimeMachine" "tape" "[B") (List.mem_of_getElem? (i := 3) rfl)) (fun _ h9 => h9) rfl dX12_putOnTape_17 ?_
  refine lv_aload_n hx hb dX12_putOnTape_20 rfl (lv_at hl 1 rfl) ?_
  refine va_get (D := (dC, dI)) (ci := 13) (v := .int 2) (C := RX12) (T := TX12) (N := 12) hx hb hts hi_k_X12_putOnTape_X12 hown hK hP 0 rfl rfl 1 (by decide) (hts (.fieldLink RX12 58 "TimeMachine" "taped" "I") (List.mem_of_getElem? (i := 1) rfl)) (fun _ h9 => h9) rfl dX12_putOnTape_21 ?_
  refine lv_iload_n hx hb dX12_putOnTape_24 rfl (lv_at hl 2 rfl) ?_
  refine lv_iload_n hx hb dX12_putOnTape_25 rfl (lv_at hl 0 rfl) ?_
  refine lv_ishr hx hb dX12_putOnTape_26 ?_
  refine lv_topi (fun z9 ez9 => ?_)
  refine lv_i2b hx hb dX12_putOnTape_27 rfl ?_
  refine lv_topi (fun z10 ez10 => ?_)
  refine va_bast (i := 2) (x := z10) hx hb hK hP hD hS 1 0 rfl rfl (vp_in_iff.mpr ⟨by decide, by decide⟩) dX12_putOnTape_28 (fun H locs hP hD hS => ?_)
  generalize hf11 : upd f7 (Int32.toNatClampNeg 2) (vp_nar .byte z10) = f11 at hP hD
  have hP : va_P (dC, dI) vwCl [(c0, .inr (13, [.ref c1, .int 2, .int 0, .ref c4, .ref c5, .ref c6, .ref c7, .ref c8, .ref c9, .ref c10, .int 0, .ref c11])), (c1, .inl (c2, 32768, .inl f11))] H := hP
  have hD : va_D A [(c0, .inr (13, [.ref c1, .int 2, .int 0, .ref c4, .ref c5, .ref c6, .ref c7, .ref c8, .ref c9, .ref c10, .int 0, .ref c11])), (c1, .inl (c2, 32768, .inl f11))] := hD
  refine lv_aload_n hx hb dX12_putOnTape_29 rfl (lv_at hl 1 rfl) ?_
  refine lv_dup hx hb dX12_putOnTape_30 rfl ?_
  refine va_get (D := (dC, dI)) (ci := 13) (v := .int 2) (C := RX12) (T := TX12) (N := 12) hx hb hts hi_k_X12_putOnTape_X12 hown hK hP 0 rfl rfl 1 (by decide) (hts (.fieldLink RX12 58 "TimeMachine" "taped" "I") (List.mem_of_getElem? (i := 1) rfl)) (fun _ h9 => h9) rfl dX12_putOnTape_31 ?_
  refine lv_iconst (v := 1) hx hb dX12_putOnTape_34 (by decide) ?_
  refine lv_iadd hx hb dX12_putOnTape_35 ?_
  refine lv_topi (fun z12 ez12 => ?_)
  obtain rfl : z12 = 3 := ez12.trans (by decide)
  refine va_put (D := (dC, dI)) (ci := 13) (v := .int 3) (ty := .int) (C := RX12) (T := TX12) (N := 12) hx hb hts hi_k_X12_putOnTape_X12 tyX12 tyX12_ok nmX12 hown hK hP hD hS 0 rfl rfl 1 (by decide) (hts (.fieldLink RX12 58 "TimeMachine" "taped" "I") (List.mem_of_getElem? (i := 1) rfl)) (fun _ h9 => h9) rfl (by decide +kernel) rfl rfl (Nat.le_of_ble_eq_true rfl) dX12_putOnTape_36 (fun H locs hP hD hS => ?_)
  have hP : va_P (dC, dI) vwCl [(c0, .inr (13, [.ref c1, .int 3, .int 0, .ref c4, .ref c5, .ref c6, .ref c7, .ref c8, .ref c9, .ref c10, .int 0, .ref c11])), (c1, .inl (c2, 32768, .inl f11))] H := hP
  have hD : va_D A [(c0, .inr (13, [.ref c1, .int 3, .int 0, .ref c4, .ref c5, .ref c6, .ref c7, .ref c8, .ref c9, .ref c10, .int 0, .ref c11])), (c1, .inl (c2, 32768, .inl f11))] := hD
  refine lv_iinc (v := 0) (lv' := [(2, .int 0), (0, .ref c0), (1, .int c3)]) hx hb dX12_putOnTape_39 hl (k := 0) rfl (by decide) (by decide) rfl (fun ls hl => ?_)
  refine lv_goto (tgt := 3) hx hb dX12_putOnTape_42 (by decide) ?_
  refine lv_iload_n hx hb dX12_putOnTape_3 rfl (lv_at hl 0 rfl) ?_
  refine lv_if_lt (tgt := 45) hx hb dX12_putOnTape_4 (by decide) (fun h9 => absurd h9 (by decide)) (fun _ => ?_)
  refine lv_aload_n hx hb dX12_putOnTape_7 rfl (lv_at hl 1 rfl) ?_
  refine va_get (D := (dC, dI)) (ci := 13) (v := .int 3) (C := RX12) (T := TX12) (N := 12) hx hb hts hi_k_X12_putOnTape_X12 hown hK hP 0 rfl rfl 1 (by decide) (hts (.fieldLink RX12 58 "TimeMachine" "taped" "I") (List.mem_of_getElem? (i := 1) rfl)) (fun _ h9 => h9) rfl dX12_putOnTape_8 ?_
  refine lv_ldc hx hb hown (hts (.constant RX12 9 (32768)) (List.mem_of_getElem? (i := 2) rfl)) dX12_putOnTape_11 ?_
  refine lv_icmp_ge (tgt := 39) hx hb dX12_putOnTape_13 (by decide) (fun h9 => absurd h9 (by decide)) (fun _ => ?_)
  refine lv_aload_n hx hb dX12_putOnTape_16 rfl (lv_at hl 1 rfl) ?_
  refine va_get (D := (dC, dI)) (ci := 13) (v := .ref c1) (C := RX12) (T := TX12) (N := 12) hx hb hts hi_k_X12_putOnTape_X12 hown hK hP 0 rfl rfl 0 (by decide) (hts (.fieldLink RX12 10 "TimeMachine" "tape" "[B") (List.mem_of_getElem? (i := 3) rfl)) (fun _ h9 => h9) rfl dX12_putOnTape_17 ?_
  refine lv_aload_n hx hb dX12_putOnTape_20 rfl (lv_at hl 1 rfl) ?_
  refine va_get (D := (dC, dI)) (ci := 13) (v := .int 3) (C := RX12) (T := TX12) (N := 12) hx hb hts hi_k_X12_putOnTape_X12 hown hK hP 0 rfl rfl 1 (by decide) (hts (.fieldLink RX12 58 "TimeMachine" "taped" "I") (List.mem_of_getElem? (i := 1) rfl)) (fun _ h9 => h9) rfl dX12_putOnTape_21 ?_
  refine lv_iload_n hx hb dX12_putOnTape_24 rfl (lv_at hl 2 rfl) ?_
  refine lv_iload_n hx hb dX12_putOnTape_25 rfl (lv_at hl 0 rfl) ?_
  refine lv_ishr hx hb dX12_putOnTape_26 ?_
  refine lv_topi (fun z13 ez13 => ?_)
  refine lv_i2b hx hb dX12_putOnTape_27 rfl ?_
  refine lv_topi (fun z14 ez14 => ?_)
  refine va_bast (i := 3) (x := z14) hx hb hK hP hD hS 1 0 rfl rfl (vp_in_iff.mpr ⟨by decide, by decide⟩) dX12_putOnTape_28 (fun H locs hP hD hS => ?_)
  generalize hf15 : upd f11 (Int32.toNatClampNeg 3) (vp_nar .byte z14) = f15 at hP hD
  have hP : va_P (dC, dI) vwCl [(c0, .inr (13, [.ref c1, .int 3, .int 0, .ref c4, .ref c5, .ref c6, .ref c7, .ref c8, .ref c9, .ref c10, .int 0, .ref c11])), (c1, .inl (c2, 32768, .inl f15))] H := hP
  have hD : va_D A [(c0, .inr (13, [.ref c1, .int 3, .int 0, .ref c4, .ref c5, .ref c6, .ref c7, .ref c8, .ref c9, .ref c10, .int 0, .ref c11])), (c1, .inl (c2, 32768, .inl f15))] := hD
  refine lv_aload_n hx hb dX12_putOnTape_29 rfl (lv_at hl 1 rfl) ?_
  refine lv_dup hx hb dX12_putOnTape_30 rfl ?_
  refine va_get (D := (dC, dI)) (ci := 13) (v := .int 3) (C := RX12) (T := TX12) (N := 12) hx hb hts hi_k_X12_putOnTape_X12 hown hK hP 0 rfl rfl 1 (by decide) (hts (.fieldLink RX12 58 "TimeMachine" "taped" "I") (List.mem_of_getElem? (i := 1) rfl)) (fun _ h9 => h9) rfl dX12_putOnTape_31 ?_
  refine lv_iconst (v := 1) hx hb dX12_putOnTape_34 (by decide) ?_
  refine lv_iadd hx hb dX12_putOnTape_35 ?_
  refine lv_topi (fun z16 ez16 => ?_)
  obtain rfl : z16 = 4 := ez16.trans (by decide)
  refine va_put (D := (dC, dI)) (ci := 13) (v := .int 4) (ty := .int) (C := RX12) (T := TX12) (N := 12) hx hb hts hi_k_X12_putOnTape_X12 tyX12 tyX12_ok nmX12 hown hK hP hD hS 0 rfl rfl 1 (by decide) (hts (.fieldLink RX12 58 "TimeMachine" "taped" "I") (List.mem_of_getElem? (i := 1) rfl)) (fun _ h9 => h9) rfl (by decide +kernel) rfl rfl (Nat.le_of_ble_eq_true rfl) dX12_putOnTape_36 (fun H locs hP hD hS => ?_)
  have hP : va_P (dC, dI) vwCl [(c0, .inr (13, [.ref c1, .int 4, .int 0, .ref c4, .ref c5, .ref c6, .ref c7, .ref c8, .ref c9, .ref c10, .int 0, .ref c11])), (c1, .inl (c2, 32768, .inl f15))] H := hP
  have hD : va_D A [(c0, .inr (13, [.ref c1, .int 4, .int 0, .ref c4, .ref c5, .ref c6, .ref c7, .ref c8, .ref c9, .ref c10, .int 0, .ref c11])), (c1, .inl (c2, 32768, .inl f15))] := hD
  refine lv_iinc (v := (-8)) (lv' := [(2, .int (-8)), (0, .ref c0), (1, .int c3)]) hx hb dX12_putOnTape_39 hl (k := 0) rfl (by decide) (by decide) rfl (fun ls hl => ?_)
  refine lv_goto (tgt := 3) hx hb dX12_putOnTape_42 (by decide) ?_
  refine lv_iload_n hx hb dX12_putOnTape_3 rfl (lv_at hl 0 rfl) ?_
  refine lv_if_lt (tgt := 45) hx hb dX12_putOnTape_4 (by decide) (fun _ => ?_) (fun h9 => absurd (by decide) h9)
  have hP9 := hP.sub (ws' := [(c0, .inr (13, [.ref c1, .int 4, .int 0, .ref c4, .ref c5, .ref c6, .ref c7, .ref c8, .ref c9, .ref c10, .int 0, .ref c11])), (c1, .inl (c2, 32768, .inl f15))]) [0, 1] rfl
  have hD9 := hD.sub (ws' := [(c0, .inr (13, [.ref c1, .int 4, .int 0, .ref c4, .ref c5, .ref c6, .ref c7, .ref c8, .ref c9, .ref c10, .int 0, .ref c11])), (c1, .inl (c2, 32768, .inl f15))]) [0, 1] (by decide) rfl
  have hK9 := hK.sub (tys' := [(c2, .byte)]) [0] rfl
  refine W.widen (k := 0) (n := 0) (by decide +kernel) (by decide +kernel) ?_
  exact W.vret hx hb hr (fun t ht hW => ⟨⟨(), rfl, trivial, f15, by rw [ht]; exact hP9, va_K.moved hW.alike hK9, hD9⟩, hS.F ht⟩) hS.2.2 dX12_putOnTape_45
def ow_k_X12_putOnTape_v1 : List Cond := .code yX12_putOnTape cX12_putOnTape 3 none :: ([.fieldLink RX12 58 "TimeMachine" "taped" "I", .constant RX12 9 (32768), .fieldLink RX12 10 "TimeMachine" "tape" "[B"] ++ (u_ws RX12 TX12 12 ++ []))
theorem gd_k_X12_putOnTape_v1 : ∀ w ∈ ow_k_X12_putOnTape_v1, (w.onTables && w.keeps) = true ∨ ∃ ty, w = Cond.arrayClass ty := List.forall_mem_cons.mpr ⟨good_of_word rfl, List.forall_mem_append.mpr ⟨fun w h => good_of_word (List.all_eq_true.mp (by decide +kernel) w h), List.forall_mem_append.mpr ⟨gu_X12, fun _ h => nomatch h⟩⟩⟩
theorem hi_k_X12_putOnTape_v1_X12 : ∀ w ∈ u_ws RX12 TX12 12, w ∈ ow_k_X12_putOnTape_v1 := fun w h => List.mem_cons_of_mem _ (List.mem_append_right _ (List.mem_append_left _ h))
set_option maxHeartbeats 40000000 in
set_option maxRecDepth 100000 in
theorem k_X12_putOnTape_v1 (l : Launch) (hlt : l.stackTraces = false) (dC : Nat → ClassId) (dI : Nat → Nat → Nat) (c0 : Nat) (c1 : Nat) (c2 : ClassId) (c3 : Nat → Int32) (c4 : Int32) (c5 : Nat) (c6 : Nat) (c7 : Nat) (c8 : Nat) (c9 : Nat) (c10 : Nat) (c11 : Nat) (c12 : Nat) (sz : Nat) : Met l yX12_putOnTape ow_k_X12_putOnTape_v1 ({ frames := 0, cells := 0, slots := 0, locals := 0 }) (va_Pc [.ref c0, .int c4] (fun U => U.heap.size = sz ∧ va_P (dC, dI) vwCl [(c0, .inr (13, [.ref c1, .int 4, .int 0, .ref c5, .ref c6, .ref c7, .ref c8, .ref c9, .ref c10, .ref c11, .int 0, .ref c12])), (c1, .inl (c2, 32768, .inl c3))] U.heap ∧ va_K (dC, dI) vwCl [(c2, .byte)] U ∧ va_D (fun _ => True) [(c0, .inr (13, [.ref c1, .int 4, .int 0, .ref c5, .ref c6, .ref c7, .ref c8, .ref c9, .ref c10, .ref c11, .int 0, .ref c12])), (c1, .inl (c2, 32768, .inl c3))] ∧ nv_E (va_A [(c0, .inr (13, [.ref c1, .int 4, .int 0, .ref c5, .ref c6, .ref c7, .ref c8, .ref c9, .ref c10, .ref c11, .int 0, .ref c12])), (c1, .inl (c2, 32768, .inl c3))] sz) U)) (va_Qv (fun _ => True) (fun (_ : Unit) t => ∃ (f15 : Nat → Int32), va_P (dC, dI) vwCl [(c0, .inr (13, [.ref c1, .int 8, .int 0, .ref c5, .ref c6, .ref c7, .ref c8, .ref c9, .ref c10, .ref c11, .int 0, .ref c12])), (c1, .inl (c2, 32768, .inl f15))] t.heap ∧ va_K (dC, dI) vwCl [(c2, .byte)] t ∧ va_D (va_A [(c0, .inr (13, [.ref c1, .int 4, .int 0, .ref c5, .ref c6, .ref c7, .ref c8, .ref c9, .ref c10, .ref c11, .int 0, .ref c12])), (c1, .inl (c2, 32768, .inl c3))] sz) [(c0, .inr (13, [.ref c1, .int 8, .int 0, .ref c5, .ref c6, .ref c7, .ref c8, .ref c9, .ref c10, .ref c11, .int 0, .ref c12])), (c1, .inl (c2, 32768, .inl f15))]) (va_A [(c0, .inr (13, [.ref c1, .int 4, .int 0, .ref c5, .ref c6, .ref c7, .ref c8, .ref c9, .ref c10, .ref c11, .int 0, .ref c12])), (c1, .inl (c2, 32768, .inl c3))] sz)) 0 0 (va_A [(c0, .inr (13, [.ref c1, .int 4, .int 0, .ref c5, .ref c6, .ref c7, .ref c8, .ref c9, .ref c10, .ref c11, .int 0, .ref c12])), (c1, .inl (c2, 32768, .inl c3))] sz) := by
  refine Met.ofW (cc := cX12_putOnTape) (maxL := 3) (ret := none) (by decide) rfl ?_
  intro p e s m args below meth c s₁ B hml hv
  obtain ⟨rfl, hsz, hP, hK, hD0, hN⟩ := hv
  have hx := B.exec
  have hb := B.bytes
  have hr := B.returns
  have hts := atoms_spec (ws := ow_k_X12_putOnTape_v1) B.pre
  have hown : s.vm.findClass RX12 = some m.cls := findClass_of_methodNamed B.named
  have hlocks := B.notSynchronized
  subst hsz
  have hD := hD0.self (sz := s.heap.size)
  generalize hAe : va_A [(c0, .inr (13, [.ref c1, .int 4, .int 0, .ref c5, .ref c6, .ref c7, .ref c8, .ref c9, .ref c10, .ref c11, .int 0, .ref c12])), (c1, .inl (c2, 32768, .inl c3))] s.heap.size = A at hD hN ⊢
  have hA : ∀ q : Nat, s.heap.size ≤ q → A q := fun q h => by rw [← hAe]; exact Or.inr h
  have hS : va_S A s.heap s.heap [] := va_S.rf
  have hl := lv_entry ([.ref c0, .int c4]) (n := 3) (Nat.le_of_ble_eq_true rfl)
  rw [lg_entry_eq]
  generalize (lg_sl ([.ref c0, .int c4]) ++ List.replicate (3 - (lg_sl ([.ref c0, .int c4])).length) Slot.unset).toArray = ls at hl ⊢
  have hl : lv_has ls 3 [(0, .ref c0), (1, .int c4)] := hl
  refine lv_bipush (v := 24) hx hb dX12_putOnTape_0 (by decide) ?_
  refine lv_istore_n (lv' := [(2, .int 24), (0, .ref c0), (1, .int c4)]) hx hb dX12_putOnTape_2 rfl hl (by decide) rfl (fun ls hl => ?_)
  refine lv_iload_n hx hb dX12_putOnTape_3 rfl (lv_at hl 0 rfl) ?_
  refine lv_if_lt (tgt := 45) hx hb dX12_putOnTape_4 (by decide) (fun h9 => absurd h9 (by decide)) (fun _ => ?_)
  refine lv_aload_n hx hb dX12_putOnTape_7 rfl (lv_at hl 1 rfl) ?_
  refine va_get (D := (dC, dI)) (ci := 13) (v := .int 4) (C := RX12) (T := TX12) (N := 12) hx hb hts hi_k_X12_putOnTape_v1_X12 hown hK hP 0 rfl rfl 1 (by decide) (hts (.fieldLink RX12 58 "TimeMachine" "taped" "I") (List.mem_of_getElem? (i := 1) rfl)) (fun _ h9 => h9) rfl dX12_putOnTape_8 ?_
  refine lv_ldc hx hb hown (hts (.constant RX12 9 (32768)) (List.mem_of_getElem? (i := 2) rfl)) dX12_putOnTape_11 ?_
  refine lv_icmp_ge (tgt := 39) hx hb dX12_putOnTape_13 (by decide) (fun h9 => absurd h9 (by decide)) (fun _ => ?_)
  refine lv_aload_n hx hb dX12_putOnTape_16 rfl (lv_at hl 1 rfl) ?_
  refine va_get (D := (dC, dI)) (ci := 13) (v := .ref c1) (C := RX12) (T := TX12) (N := 12) hx hb hts hi_k_X12_putOnTape_v1_X12 hown hK hP 0 rfl rfl 0 (by decide) (hts (.fieldLink RX12 10 "TimeMachine" "tape" "[B") (List.mem_of_getElem? (i := 3) rfl)) (fun _ h9 => h9) rfl dX12_putOnTape_17 ?_
  refine lv_aload_n hx hb dX12_putOnTape_20 rfl (lv_at hl 1 rfl) ?_
  refine va_get (D := (dC, dI)) (ci := 13) (v := .int 4) (C := RX12) (T := TX12) (N := 12) hx hb hts hi_k_X12_putOnTape_v1_X12 hown hK hP 0 rfl rfl 1 (by decide) (hts (.fieldLink RX12 58 "TimeMachine" "taped" "I") (List.mem_of_getElem? (i := 1) rfl)) (fun _ h9 => h9) rfl dX12_putOnTape_21 ?_
  refine lv_iload_n hx hb dX12_putOnTape_24 rfl (lv_at hl 2 rfl) ?_
  refine lv_iload_n hx hb dX12_putOnTape_25 rfl (lv_at hl 0 rfl) ?_
  refine lv_ishr hx hb dX12_putOnTape_26 ?_
  refine lv_topi (fun z1 ez1 => ?_)
  refine lv_i2b hx hb dX12_putOnTape_27 rfl ?_
  refine lv_topi (fun z2 ez2 => ?_)
  refine va_bast (i := 4) (x := z2) hx hb hK hP hD hS 1 0 rfl rfl (vp_in_iff.mpr ⟨by decide, by decide⟩) dX12_putOnTape_28 (fun H locs hP hD hS => ?_)
  generalize hf3 : upd c3 (Int32.toNatClampNeg 4) (vp_nar .byte z2) = f3 at hP hD
  have hP : va_P (dC, dI) vwCl [(c0, .inr (13, [.ref c1, .int 4, .int 0, .ref c5, .ref c6, .ref c7, .ref c8, .ref c9, .ref c10, .ref c11, .int 0, .ref c12])), (c1, .inl (c2, 32768, .inl f3))] H := hP
  have hD : va_D A [(c0, .inr (13, [.ref c1, .int 4, .int 0, .ref c5, .ref c6, .ref c7, .ref c8, .ref c9, .ref c10, .ref c11, .int 0, .ref c12])), (c1, .inl (c2, 32768, .inl f3))] := hD
  refine lv_aload_n hx hb dX12_putOnTape_29 rfl (lv_at hl 1 rfl) ?_
  refine lv_dup hx hb dX12_putOnTape_30 rfl ?_
  refine va_get (D := (dC, dI)) (ci := 13) (v := .int 4) (C := RX12) (T := TX12) (N := 12) hx hb hts hi_k_X12_putOnTape_v1_X12 hown hK hP 0 rfl rfl 1 (by decide) (hts (.fieldLink RX12 58 "TimeMachine" "taped" "I") (List.mem_of_getElem? (i := 1) rfl)) (fun _ h9 => h9) rfl dX12_putOnTape_31 ?_
  refine lv_iconst (v := 1) hx hb dX12_putOnTape_34 (by decide) ?_
  refine lv_iadd hx hb dX12_putOnTape_35 ?_
  refine lv_topi (fun z4 ez4 => ?_)
  obtain rfl : z4 = 5 := ez4.trans (by decide)
  refine va_put (D := (dC, dI)) (ci := 13) (v := .int 5) (ty := .int) (C := RX12) (T := TX12) (N := 12) hx hb hts hi_k_X12_putOnTape_v1_X12 tyX12 tyX12_ok nmX12 hown hK hP hD hS 0 rfl rfl 1 (by decide) (hts (.fieldLink RX12 58 "TimeMachine" "taped" "I") (List.mem_of_getElem? (i := 1) rfl)) (fun _ h9 => h9) rfl (by decide +kernel) rfl rfl (Nat.le_of_ble_eq_true rfl) dX12_putOnTape_36 (fun H locs hP hD hS => ?_)
  have hP : va_P (dC, dI) vwCl [(c0, .inr (13, [.ref c1, .int 5, .int 0, .ref c5, .ref c6, .ref c7, .ref c8, .ref c9, .ref c10, .ref c11, .int 0, .ref c12])), (c1, .inl (c2, 32768, .inl f3))] H := hP
  have hD : va_D A [(c0, .inr (13, [.ref c1, .int 5, .int 0, .ref c5, .ref c6, .ref c7, .ref c8, .ref c9, .ref c10, .ref c11, .int 0, .ref c12])), (c1, .inl (c2, 32768, .inl f3))] := hD
  refine lv_iinc (v := 16) (lv' := [(2, .int 16), (0, .ref c0), (1, .int c4)]) hx hb dX12_putOnTape_39 hl (k := 0) rfl (by decide) (by decide) rfl (fun ls hl => ?_)
  refine lv_goto (tgt := 3) hx hb dX12_putOnTape_42 (by decide) ?_
  refine lv_iload_n hx hb dX12_putOnTape_3 rfl (lv_at hl 0 rfl) ?_
  refine lv_if_lt (tgt := 45) hx hb dX12_putOnTape_4 (by decide) (fun h9 => absurd h9 (by decide)) (fun _ => ?_)
  refine lv_aload_n hx hb dX12_putOnTape_7 rfl (lv_at hl 1 rfl) ?_
  refine va_get (D := (dC, dI)) (ci := 13) (v := .int 5) (C := RX12) (T := TX12) (N := 12) hx hb hts hi_k_X12_putOnTape_v1_X12 hown hK hP 0 rfl rfl 1 (by decide) (hts (.fieldLink RX12 58 "TimeMachine" "taped" "I") (List.mem_of_getElem? (i := 1) rfl)) (fun _ h9 => h9) rfl dX12_putOnTape_8 ?_
  refine lv_ldc hx hb hown (hts (.constant RX12 9 (32768)) (List.mem_of_getElem? (i := 2) rfl)) dX12_putOnTape_11 ?_
  refine lv_icmp_ge (tgt := 39) hx hb dX12_putOnTape_13 (by decide) (fun h9 => absurd h9 (by decide)) (fun _ => ?_)
  refine lv_aload_n hx hb dX12_putOnTape_16 rfl (lv_at hl 1 rfl) ?_
  refine va_get (D := (dC, dI)) (ci := 13) (v := .ref c1) (C := RX12) (T := TX12) (N := 12) hx hb hts hi_k_X12_putOnTape_v1_X12 hown hK hP 0 rfl rfl 0 (by decide) (hts (.fieldLink RX12 10 "TimeMachine" "tape" "[B") (List.mem_of_getElem? (i := 3) rfl)) (fun _ h9 => h9) rfl dX12_putOnTape_17 ?_
  refine lv_aload_n hx hb dX12_putOnTape_20 rfl (lv_at hl 1 rfl) ?_
  refine va_get (D := (dC, dI)) (ci := 13) (v := .int 5) (C := RX12) (T := TX12) (N := 12) hx hb hts hi_k_X12_putOnTape_v1_X12 hown hK hP 0 rfl rfl 1 (by decide) (hts (.fieldLink RX12 58 "TimeMachine" "taped" "I") (List.mem_of_getElem? (i := 1) rfl)) (fun _ h9 => h9) rfl dX12_putOnTape_21 ?_
  refine lv_iload_n hx hb dX12_putOnTape_24 rfl (lv_at hl 2 rfl) ?_
  refine lv_iload_n hx hb dX12_putOnTape_25 rfl (lv_at hl 0 rfl) ?_
  refine lv_ishr hx hb dX12_putOnTape_26 ?_
  refine lv_topi (fun z5 ez5 => ?_)
  refine lv_i2b hx hb dX12_putOnTape_27 rfl ?_
  refine lv_topi (fun z6 ez6 => ?_)
  refine va_bast (i := 5) (x := z6) hx hb hK hP hD hS 1 0 rfl rfl (vp_in_iff.mpr ⟨by decide, by decide⟩) dX12_putOnTape_28 (fun H locs hP hD hS => ?_)
  generalize hf7 : upd f3 (Int32.toNatClampNeg 5) (vp_nar .byte z6) = f7 at hP hD
  have hP : va_P (dC, dI) vwCl [(c0, .inr (13, [.ref c1, .int 5, .int 0, .ref c5, .ref c6, .ref c7, .ref c8, .ref c9, .ref c10, .ref c11, .int 0, .ref c12])), (c1, .inl (c2, 32768, .inl f7))] H := hP
  have hD : va_D A [(c0, .inr (13, [.ref c1, .int 5, .int 0, .ref c5, .ref c6, .ref c7, .ref c8, .ref c9, .ref c10, .ref c11, .int 0, .ref c12])), (c1, .inl (c2, 32768, .inl f7))] := hD
  refine lv_aload_n hx hb dX12_putOnTape_29 rfl (lv_at hl 1 rfl) ?_
  refine lv_dup hx hb dX12_putOnTape_30 rfl ?_
  refine va_get (D := (dC, dI)) (ci := 13) (v := .int 5) (C := RX12) (T := TX12) (N := 12) hx hb hts hi_k_X12_putOnTape_v1_X12 hown hK hP 0 rfl rfl 1 (by decide) (hts (.fieldLink RX12 58 "TimeMachine" "taped" "I") (List.mem_of_getElem? (i := 1) rfl)) (fun _ h9 => h9) rfl dX12_putOnTape_31 ?_
  refine lv_iconst (v := 1) hx hb dX12_putOnTape_34 (by decide) ?_
  refine lv_iadd hx hb dX12_putOnTape_35 ?_
  refine lv_topi (fun z8 ez8 => ?_)
  obtain rfl : z8 = 6 := ez8.trans (by decide)
  refine va_put (D := (dC, dI)) (ci := 13) (v := .int 6) (ty := .int) (C := RX12) (T := TX12) (N := 12) hx hb hts hi_k_X12_putOnTape_v1_X12 tyX12 tyX12_ok nmX12 hown hK hP hD hS 0 rfl rfl 1 (by decide) (hts (.fieldLink RX12 58 "TimeMachine" "taped" "I") (List.mem_of_getElem? (i := 1) rfl)) (fun _ h9 => h9) rfl (by decide +kernel) rfl rfl (Nat.le_of_ble_eq_true rfl) dX12_putOnTape_36 (fun H locs hP hD hS => ?_)
  have hP : va_P (dC, dI) vwCl [(c0, .inr (13, [.ref c1, .int 6, .int 0, .ref c5, .ref c6, .ref c7, .ref c8, .ref c9, .ref c10, .ref c11, .int 0, .ref c12])), (c1, .inl (c2, 32768, .inl f7))] H := hP
  have hD : va_D A [(c0, .inr (13, [.ref c1, .int 6, .int 0, .ref c5, .ref c6, .ref c7, .ref c8, .ref c9, .ref c10, .ref c11, .int 0, .ref c12])), (c1, .inl (c2, 32768, .inl f7))] := hD
  refine lv_iinc (v := 8) (lv' := [(2, .int 8), (0, .ref c0), (1, .int c4)]) hx hb dX12_putOnTape_39 hl (k := 0) rfl (by decide) (by decide) rfl (fun ls hl => ?_)
  refine lv_goto (tgt := 3) hx hb dX12_putOnTape_42 (by decide) ?_
  refine lv_iload_n hx hb dX12_putOnTape_3 rfl (lv_at hl 0 rfl) ?_
  refine lv_if_lt (tgt := 45) hx hb dX12_putOnTape_4 (by decide) (fun h9 => absurd h9 (by decide)) (fun _ => ?_)
  refine lv_aload_n hx hb dX12_putOnTape_7 rfl (lv_at hl 1 rfl) ?_
  refine va_get (D := (dC, dI)) (ci := 13) (v := .int 6) (C := RX12) (T := TX12) (N := 12) hx hb hts hi_k_X12_putOnTape_v1_X12 hown hK hP 0 rfl rfl 1 (by decide) (hts (.fieldLink RX12 58 "TimeMachine" "taped" "I") (List.mem_of_getElem? (i := 1) rfl)) (fun _ h9 => h9) rfl dX12_putOnTape_8 ?_
  refine lv_ldc hx hb hown (hts (.constant RX12 9 (32768)) (List.mem_of_getElem? (i := 2) rfl)) dX12_putOnTape_11 ?_
  refine lv_icmp_ge (tgt := 39) hx hb dX12_putOnTape_13 (by decide) (fun h9 => absurd h9 (by decide)) (fun _ => ?_)
  refine lv_aload_n hx hb dX12_putOnTape_16 rfl (lv_at hl 1 rfl) ?_
  refine va_get (D := (dC, dI)) (ci := 13) (v := .ref c1) (C := RX12) (T := TX12) (N := 12) hx hb hts hi_k_X12_putOnTape_v1_X12 hown hK hP 0 rfl rfl 0 (by decide) (hts (.fieldLink RX12 10 "TimeMachine" "tape" "[B") (List.mem_of_getElem? (i := 3) rfl)) (fun _ h9 => h9) rfl dX12_putOnTape_17 ?_
  refine lv_aload_n hx hb dX12_putOnTape_20 rfl (lv_at hl 1 rfl) ?_
  refine va_get (D := (dC, dI)) (ci := 13) (v := .int 6) (C := RX12) (T := TX12) (N := 12) hx hb hts hi_k_X12_putOnTape_v1_X12 hown hK hP 0 rfl rfl 1 (by decide) (hts (.fieldLink RX12 58 "TimeMachine" "taped" "I") (List.mem_of_getElem? (i := 1) rfl)) (fun _ h9 => h9) rfl dX12_putOnTape_21 ?_
  refine lv_iload_n hx hb dX12_putOnTape_24 rfl (lv_at hl 2 rfl) ?_
  refine lv_iload_n hx hb dX12_putOnTape_25 rfl (lv_at hl 0 rfl) ?_
  refine lv_ishr hx hb dX12_putOnTape_26 ?_
  refine lv_topi (fun z9 ez9 => ?_)
  refine lv_i2b hx hb dX12_putOnTape_27 rfl ?_
  refine lv_topi (fun z10 ez10 => ?_)
  refine va_bast (i := 6) (x := z10) hx hb hK hP hD hS 1 0 rfl rfl (vp_in_iff.mpr ⟨by decide, by decide⟩) dX12_putOnTape_28 (fun H locs hP hD hS => ?_)
  generalize hf11 : upd f7 (Int32.toNatClampNeg 6) (vp_nar .byte z10) = f11 at hP hD
  have hP : va_P (dC, dI) vwCl [(c0, .inr (13, [.ref c1, .int 6, .int 0, .ref c5, .ref c6, .ref c7, .ref c8, .ref c9, .ref c10, .ref c11, .int 0, .ref c12])), (c1, .inl (c2, 32768, .inl f11))] H := hP
  have hD : va_D A [(c0, .inr (13, [.ref c1, .int 6, .int 0, .ref c5, .ref c6, .ref c7, .ref c8, .ref c9, .ref c10, .ref c11, .int 0, .ref c12])), (c1, .inl (c2, 32768, .inl f11))] := hD
  refine lv_aload_n hx hb dX12_putOnTape_29 rfl (lv_at hl 1 rfl) ?_
  refine lv_dup hx hb dX12_putOnTape_30 rfl ?_
  refine va_get (D := (dC, dI)) (ci := 13) (v := .int 6) (C := RX12) (T := TX12) (N := 12) hx hb hts hi_k_X12_putOnTape_v1_X12 hown hK hP 0 rfl rfl 1 (by decide) (hts (.fieldLink RX12 58 "TimeMachine" "taped" "I") (List.mem_of_getElem? (i := 1) rfl)) (fun _ h9 => h9) rfl dX12_putOnTape_31 ?_
  refine lv_iconst (v := 1) hx hb dX12_putOnTape_34 (by decide) ?_
  refine lv_iadd hx hb dX12_putOnTape_35 ?_
  refine lv_topi (fun z12 ez12 => ?_)
  obtain rfl : z12 = 7 := ez12.trans (by decide)
  refine va_put (D := (dC, dI)) (ci := 13) (v := .int 7) (ty := .int) (C := RX12) (T := TX12) (N := 12) hx hb hts hi_k_X12_putOnTape_v1_X12 tyX12 tyX12_ok nmX12 hown hK hP hD hS 0 rfl rfl 1 (by decide) (hts (.fieldLink RX12 58 "TimeMachine" "taped" "I") (List.mem_of_getElem? (i := 1) rfl)) (fun _ h9 => h9) rfl (by decide +kernel) rfl rfl (Nat.le_of_ble_eq_true rfl) dX12_putOnTape_36 (fun H locs hP hD hS => ?_)
  have hP : va_P (dC, dI) vwCl [(c0, .inr (13, [.ref c1, .int 7, .int 0, .ref c5, .ref c6, .ref c7, .ref c8, .ref c9, .ref c10, .ref c11, .int 0, .ref c12])), (c1, .inl (c2, 32768, .inl f11))] H := hP
  have hD : va_D A [(c0, .inr (13, [.ref c1, .int 7, .int 0, .ref c5, .ref c6, .ref c7, .ref c8, .ref c9, .ref c10, .ref c11, .int 0, .ref c12])), (c1, .inl (c2, 32768, .inl f11))] := hD
  refine lv_iinc (v := 0) (lv' := [(2, .int 0), (0, .ref c0), (1, .int c4)]) hx hb dX12_putOnTape_39 hl (k := 0) rfl (by decide) (by decide) rfl (fun ls hl => ?_)
  refine lv_goto (tgt := 3) hx hb dX12_putOnTape_42 (by decide) ?_
  refine lv_iload_n hx hb dX12_putOnTape_3 rfl (lv_at hl 0 rfl) ?_
  refine lv_if_lt (tgt := 45) hx hb dX12_putOnTape_4 (by decide) (fun h9 => absurd h9 (by decide)) (fun _ => ?_)
  refine lv_aload_n hx hb dX12_putOnTape_7 rfl (lv_at hl 1 rfl) ?_
  refine va_get (D := (dC, dI)) (ci := 13) (v := .int 7) (C := RX12) (T := TX12) (N := 12) hx hb hts hi_k_X12_putOnTape_v1_X12 hown hK hP 0 rfl rfl 1 (by decide) (hts (.fieldLink RX12 58 "TimeMachine" "taped" "I") (List.mem_of_getElem? (i := 1) rfl)) (fun _ h9 => h9) rfl dX12_putOnTape_8 ?_
  refine lv_ldc hx hb hown (hts (.constant RX12 9 (32768)) (List.mem_of_getElem? (i := 2) rfl)) dX12_putOnTape_11 ?_
  refine lv_icmp_ge (tgt := 39) hx hb dX12_putOnTape_13 (by decide) (fun h9 => absurd h9 (by decide)) (fun _ => ?_)
  refine lv_aload_n hx hb dX12_putOnTape_16 rfl (lv_at hl 1 rfl) ?_
  refine va_get (D := (dC, dI)) (ci := 13) (v := .ref c1) (C := RX12) (T := TX12) (N := 12) hx hb hts hi_k_X12_putOnTape_v1_X12 hown hK hP 0 rfl rfl 0 (by decide) (hts (.fieldLink RX12 10 "TimeMachine" "tape" "[B") (List.mem_of_getElem? (i := 3) rfl)) (fun _ h9 => h9) rfl dX12_putOnTape_17 ?_
  refine lv_aload_n hx hb dX12_putOnTape_20 rfl (lv_at hl 1 rfl) ?_
  refine va_get (D := (dC, dI)) (ci := 13) (v := .int 7) (C := RX12) (T := TX12) (N := 12) hx hb hts hi_k_X12_putOnTape_v1_X12 hown hK hP 0 rfl rfl 1 (by decide) (hts (.fieldLink RX12 58 "TimeMachine" "taped" "I") (List.mem_of_getElem? (i := 1) rfl)) (fun _ h9 => h9) rfl dX12_putOnTape_21 ?_
  refine lv_iload_n hx hb dX12_putOnTape_24 rfl (lv_at hl 2 rfl) ?_
  refine lv_iload_n hx hb dX12_putOnTape_25 rfl (lv_at hl 0 rfl) ?_
  refine lv_ishr hx hb dX12_putOnTape_26 ?_
  refine lv_topi (fun z13 ez13 => ?_)
  refine lv_i2b hx hb dX12_putOnTape_27 rfl ?_
  refine lv_topi (fun z14 ez14 => ?_)
  refine va_bast (i := 7) (x := z14) hx hb hK hP hD hS 1 0 rfl rfl (vp_in_iff.mpr ⟨by decide, by decide⟩) dX12_putOnTape_28 (fun H locs hP hD hS => ?_)
  generalize hf15 : upd f11 (Int32.toNatClampNeg 7) (vp_nar .byte z14) = f15 at hP hD
  have hP : va_P (dC, dI) vwCl [(c0, .inr (13, [.ref c1, .int 7, .int 0, .ref c5, .ref c6, .ref c7, .ref c8, .ref c9, .ref c10, .ref c11, .int 0, .ref c12])), (c1, .inl (c2, 32768, .inl f15))] H := hP
  have hD : va_D A [(c0, .inr (13, [.ref c1, .int 7, .int 0, .ref c5, .ref c6, .ref c7, .ref c8, .ref c9, .ref c10, .ref c11, .int 0, .ref c12])), (c1, .inl (c2, 32768, .inl f15))] := hD
  refine lv_aload_n hx hb dX12_putOnTape_29 rfl (lv_at hl 1 rfl) ?_
  refine lv_dup hx hb dX12_putOnTape_30 rfl ?_
  refine va_get (D := (dC, dI)) (ci := 13) (v := .int 7) (C := RX12) (T := TX12) (N := 12) hx hb hts hi_k_X12_putOnTape_v1_X12 hown hK hP 0 rfl rfl 1 (by decide) (hts (.fieldLink RX12 58 "TimeMachine" "taped" "I") (List.mem_of_getElem? (i := 1) rfl)) (fun _ h9 => h9) rfl dX12_putOnTape_31 ?_
  refine lv_iconst (v := 1) hx hb dX12_putOnTape_34 (by decide) ?_
  refine lv_iadd hx hb dX12_putOnTape_35 ?_
  refine lv_topi (fun z16 ez16 => ?_)
  obtain rfl : z16 = 8 := ez16.trans (by decide)
  refine va_put (D := (dC, dI)) (ci := 13) (v := .int 8) (ty := .int) (C := RX12) (T := TX12) (N := 12) hx hb hts hi_k_X12_putOnTape_v1_X12 tyX12 tyX12_ok nmX12 hown hK hP hD hS 0 rfl rfl 1 (by decide) (hts (.fieldLink RX12 58 "TimeMachine" "taped" "I") (List.mem_of_getElem? (i := 1) rfl)) (fun _ h9 => h9) rfl (by decide +kernel) rfl rfl (Nat.le_of_ble_eq_true rfl) dX12_putOnTape_36 (fun H locs hP hD hS => ?_)
  have hP : va_P (dC, dI) vwCl [(c0, .inr (13, [.ref c1, .int 8, .int 0, .ref c5, .ref c6, .ref c7, .ref c8, .ref c9, .ref c10, .ref c11, .int 0, .ref c12])), (c1, .inl (c2, 32768, .inl f15))] H := hP
  have hD : va_D A [(c0, .inr (13, [.ref c1, .int 8, .int 0, .ref c5, .ref c6, .ref c7, .ref c8, .ref c9, .ref c10, .ref c11, .int 0, .ref c12])), (c1, .inl (c2, 32768, .inl f15))] := hD
  refine lv_iinc (v := (-8)) (lv' := [(2, .int (-8)), (0, .ref c0), (1, .int c4)]) hx hb dX12_putOnTape_39 hl (k := 0) rfl (by decide) (by decide) rfl (fun ls hl => ?_)
  refine lv_goto (tgt := 3) hx hb dX12_putOnTape_42 (by decide) ?_
  refine lv_iload_n hx hb dX12_putOnTape_3 rfl (lv_at hl 0 rfl) ?_
  refine lv_if_lt (tgt := 45) hx hb dX12_putOnTape_4 (by decide) (fun _ => ?_) (fun h9 => absurd (by decide) h9)
  have hP9 := hP.sub (ws' := [(c0, .inr (13, [.ref c1, .int 8, .int 0, .ref c5, .ref c6, .ref c7, .ref c8, .ref c9, .ref c10, .ref c11, .int 0, .ref c12])), (c1, .inl (c2, 32768, .inl f15))]) [0, 1] rfl
  have hD9 := hD.sub (ws' := [(c0, .inr (13, [.ref c1, .int 8, .int 0, .ref c5, .ref c6, .ref c7, .ref c8, .ref c9, .ref c10, .ref c11, .int 0, .ref c12])), (c1, .inl (c2, 32768, .inl f15))]) [0, 1] (by decide) rfl
  have hK9 := hK.sub (tys' := [(c2, .byte)]) [0] rfl
  refine W.widen (k := 0) (n := 0) (by decide +kernel) (by decide +kernel) ?_
  exact W.vret hx hb hr (fun t ht hW => ⟨⟨(), rfl, trivial, f15, by rw [ht]; exact hP9, va_K.moved hW.alike hK9, hD9⟩, hS.F ht⟩) hS.2.2 dX12_putOnTape_45
def ow_k_X12_putOnTape_v2 : List Cond := .code yX12_putOnTape cX12_putOnTape 3 none :: ([.fieldLink RX12 58 "TimeMachine" "taped" "I", .constant RX12 9 (32768), .fieldLink RX12 10 "TimeMachine" "tape" "[B"] ++ (u_ws RX12 TX12 12 ++ []))
theorem gd_k_X12_putOnTape_v2 : ∀ w ∈ ow_k_X12_putOnTape_v2, (w.onTables && w.keeps) = true ∨ ∃ ty, w = Cond.arrayClass ty := List.forall_mem_cons.mpr ⟨good_of_word rfl, List.forall_mem_append.mpr ⟨fun w h => good_of_word (List.all_eq_true.mp (by decide +kernel) w h), List.forall_mem_append.mpr ⟨gu_X12, fun _ h => nomatch h⟩⟩⟩
theorem hi_k_X12_putOnTape_v2_X12 : ∀ w ∈ u_ws RX12 TX12 12, w ∈ ow_k_X12_putOnTape_v2 := fun w h => List.mem_cons_of_mem _ (List.mem_append_right _ (List.mem_append_left _ h))
set_option maxHeartbeats 40000000 in
set_option maxRecDepth 100000 in
theorem k_X12_putOnTape_v2 (l : Launch) (hlt : l.stackTraces = false) (dC : Nat → ClassId) (dI : Nat → Nat → Nat) (c0 : Nat) (c1 : Nat) (c2 : ClassId) (c3 : Nat → Int32) (c4 : Int32) (c5 : Nat) (c6 : Nat) (c7 : Nat) (c8 : Nat) (c9 : Nat) (c10 : Nat) (c11 : Nat) (c12 : Nat) (sz : Nat) : Met l yX12_putOnTape ow_k_X12_putOnTape_v2 ({ frames := 0, cells := 0, slots := 0, locals := 0 }) (va_Pc [.ref c0, .int c4] (fun U => U.heap.size = sz ∧ va_P (dC, dI) vwCl [(c0, .inr (13, [.ref c1, .int 8, .int 0, .ref c5, .ref c6, .ref c7, .ref c8, .ref c9, .ref c10, .ref c11, .int 0, .ref c12])), (c1, .inl (c2, 32768, .inl c3))] U.heap ∧ va_K (dC, dI) vwCl [(c2, .byte)] U ∧ va_D (fun _ => True) [(c0, .inr (13, [.ref c1, .int 8, .int 0, .ref c5, .ref c6, .ref c7, .ref c8, .ref c9, .ref c10, .ref c11, .int 0, .ref c12])), (c1, .inl (c2, 32768, .inl c3))] ∧ nv_E (va_A [(c0, .inr (13, [.ref c1, .int 8, .int 0, .ref c5, .ref c6, .ref c7, .ref c8, .ref c9, .ref c10, .ref c11, .int 0, .ref c12])), (c1, .inl (c2, 32768, .inl c3))] sz) U)) (va_Qv (fun _ => True) (fun (_ : Unit) t => ∃ (f15 : Nat → Int32), va_P (dC, dI) vwCl [(c0, .inr (13, [.ref c1, .int 12, .int 0, .ref c5, .ref c6, .ref c7, .ref c8, .ref c9, .ref c10, .ref c11, .int 0, .ref c12])), (c1, .inl (c2, 32768, .inl f15))] t.heap ∧ va_K (dC, dI) vwCl [(c2, .byte)] t ∧ va_D (va_A [(c0, .inr (13, [.ref c1, .int 8, .int 0, .ref c5, .ref c6, .ref c7, .ref c8, .ref c9, .ref c10, .ref c11, .int 0, .ref c12])), (c1, .inl (c2, 32768, .inl c3))] sz) [(c0, .inr (13, [.ref c1, .int 12, .int 0, .ref c5, .ref c6, .ref c7, .ref c8, .ref c9, .ref c10, .ref c11, .int 0, .ref c12])), (c1, .inl (c2, 32768, .inl f15))]) (va_A [(c0, .inr (13, [.ref c1, .int 8, .int 0, .ref c5, .ref c6, .ref c7, .ref c8, .ref c9, .ref c10, .ref c11, .int 0, .ref c12])), (c1, .inl (c2, 32768, .inl c3))] sz)) 0 0 (va_A [(c0, .inr (13, [.ref c1, .int 8, .int 0, .ref c5, .ref c6, .ref c7, .ref c8, .ref c9, .ref c10, .ref c11, .int 0, .ref c12])), (c1, .inl (c2, 32768, .inl c3))] sz) := by
  refine Met.ofW (cc := cX12_putOnTape) (maxL := 3) (ret := none) (by decide) rfl ?_
  intro p e s m args below meth c s₁ B hml hv
  obtain ⟨rfl, hsz, hP, hK, hD0, hN⟩ := hv
  have hx := B.exec
  have hb := B.bytes
  have hr := B.returns
  have hts := atoms_spec (ws := ow_k_X12_putOnTape_v2) B.pre
  have hown : s.vm.findClass RX12 = some m.cls := findClass_of_methodNamed B.named
  have hlocks := B.notSynchronized
  subst hsz
  have hD := hD0.self (sz := s.heap.size)
  generalize hAe : va_A [(c0, .inr (13, [.ref c1, .int 8, .int 0, .ref c5, .ref c6, .ref c7, .ref c8, .ref c9, .ref c10, .ref c11, .int 0, .ref c12])), (c1, .inl (c2, 32768, .inl c3))] s.heap.size = A at hD hN ⊢
  have hA : ∀ q : Nat, s.heap.size ≤ q → A q := fun q h => by rw [← hAe]; exact Or.inr h
  have hS : va_S A s.heap s.heap [] := va_S.rf
  have hl := lv_entry ([.ref c0, .int c4]) (n := 3) (Nat.le_of_ble_eq_true rfl)
  rw [lg_entry_eq]
  generalize (lg_sl ([.ref c0, .int c4]) ++ List.replicate (3 - (lg_sl ([.ref c0, .int c4])).length) Slot.unset).toArray = ls at hl ⊢
  have hl : lv_has ls 3 [(0, .ref c0), (1, .int c4)] := hl
  refine lv_bipush (v := 24) hx hb dX12_putOnTape_0 (by decide) ?_
  refine lv_istore_n (lv' := [(2, .int 24), (0, .ref c0), (1, .int c4)]) hx hb dX12_putOnTape_2 rfl hl (by decide) rfl (fun ls hl => ?_)
  refine lv_iload_n hx hb dX12_putOnTape_3 rfl (lv_at hl 0 rfl) ?_
  refine lv_if_lt (tgt := 45) hx hb dX12_putOnTape_4 (by decide) (fun h9 => absurd h9 (by decide)) (fun _ => ?_)
  refine lv_aload_n hx hb dX12_putOnTape_7 rfl (lv_at hl 1 rfl) ?_
  refine va_get (D := (dC, dI)) (ci := 13) (v := .int 8) (C := RX12) (T := TX12) (N := 12) hx hb hts hi_k_X12_putOnTape_v2_X12 hown hK hP 0 rfl rfl 1 (by decide) (hts (.fieldLink RX12 58 "TimeMachine" "taped" "I") (List.mem_of_getElem? (i := 1) rfl)) (fun _ h9 => h9) rfl dX12_putOnTape_8 ?_
  refine lv_ldc hx hb hown (hts (.constant RX12 9 (32768)) (List.mem_of_getElem? (i := 2) rfl)) dX12_putOnTape_11 ?_
  refine lv_icmp_ge (tgt := 39) hx hb dX12_putOnTape_13 (by decide) (fun h9 => absurd h9 (by decide)) (fun _ => ?_)
  refine lv_aload_n hx hb dX12_putOnTape_16 rfl (lv_at hl 1 rfl) ?_
  refine va_get (D := (dC, dI)) (ci := 13) (v := .ref c1) (C := RX12) (T := TX12) (N := 12) hx hb hts hi_k_X12_putOnTape_v2_X12 hown hK hP 0 rfl rfl 0 (by decide) (hts (.fieldLink RX12 10 "TimeMachine" "tape" "[B") (List.mem_of_getElem? (i := 3) rfl)) (fun _ h9 => h9) rfl dX12_putOnTape_17 ?_
  refine lv_aload_n hx hb dX12_putOnTape_20 rfl (lv_at hl 1 rfl) ?_
  refine va_get (D := (dC, dI)) (ci := 13) (v := .int 8) (C := RX12) (T := TX12) (N := 12) hx hb hts hi_k_X12_putOnTape_v2_X12 hown hK hP 0 rfl rfl 1 (by decide) (hts (.fieldLink RX12 58 "TimeMachine" "taped" "I") (List.mem_of_getElem? (i := 1) rfl)) (fun _ h9 => h9) rfl dX12_putOnTape_21 ?_
  refine lv_iload_n hx hb dX12_putOnTape_24 rfl (lv_at hl 2 rfl) ?_
  refine lv_iload_n hx hb dX12_putOnTape_25 rfl (lv_at hl 0 rfl) ?_
  refine lv_ishr hx hb dX12_putOnTape_26 ?_
  refine lv_topi (fun z1 ez1 => ?_)
  refine lv_i2b hx hb dX12_putOnTape_27 rfl ?_
  refine lv_topi (fun z2 ez2 => ?_)
  refine va_bast (i := 8) (x := z2) hx hb hK hP hD hS 1 0 rfl rfl (vp_in_iff.mpr ⟨by decide, by decide⟩) dX12_putOnTape_28 (fun H locs hP hD hS => ?_)
  generalize hf3 : upd c3 (Int32.toNatClampNeg 8) (vp_nar .byte z2) = f3 at hP hD
  have hP : va_P (dC, dI) vwCl [(c0, .inr (13, [.ref c1, .int 8, .int 0, .ref c5, .ref c6, .ref c7, .ref c8, .ref c9, .ref c10, .ref c11, .int 0, .ref c12])), (c1, .inl (c2, 32768, .inl f3))] H := hP
  have hD : va_D A [(c0, .inr (13, [.ref c1, .int 8, .int 0, .ref c5, .ref c6, .ref c7, .ref c8, .ref c9, .ref c10, .ref c11, .int 0, .ref c12])), (c1, .inl (c2, 32768, .inl f3))] := hD
  refine lv_aload_n hx hb dX12_putOnTape_29 rfl (lv_at hl 1 rfl) ?_
  refine lv_dup hx hb dX12_putOnTape_30 rfl ?_
  refine va_get (D := (dC, dI)) (ci := 13) (v := .int 8) (C := RX12) (T := TX12) (N := 12) hx hb hts hi_k_X12_putOnTape_v2_X12 hown hK hP 0 rfl rfl 1 (by decide) (hts (.fieldLink RX12 58 "TimeMachine" "taped" "I") (List.mem_of_getElem? (i := 1) rfl)) (fun _ h9 => h9) rfl dX12_putOnTape_31 ?_
  refine lv_iconst (v := 1) hx hb dX12_putOnTape_34 (by decide) ?_
  refine lv_iadd hx hb dX12_putOnTape_35 ?_
  refine lv_topi (fun z4 ez4 => ?_)
  obtain rfl : z4 = 9 := ez4.trans (by decide)
  refine va_put (D := (dC, dI)) (ci := 13) (v := .int 9) (ty := .int) (C := RX12) (T := TX12) (N := 12) hx hb hts hi_k_X12_putOnTape_v2_X12 tyX12 tyX12_ok nmX12 hown hK hP hD hS 0 rfl rfl 1 (by decide) (hts (.fieldLink RX12 58 "TimeMachine" "taped" "I") (List.mem_of_getElem? (i := 1) rfl)) (fun _ h9 => h9) rfl (by decide +kernel) rfl rfl (Nat.le_of_ble_eq_true rfl) dX12_putOnTape_36 (fun H locs hP hD hS => ?_)
  have hP : va_P (dC, dI) vwCl [(c0, .inr (13, [.ref c1, .int 9, .int 0, .ref c5, .ref c6, .ref c7, .ref c8, .ref c9, .ref c10, .ref c11, .int 0, .ref c12])), (c1, .inl (c2, 32768, .inl f3))] H := hP
  have hD : va_D A [(c0, .inr (13, [.ref c1, .int 9, .int 0, .ref c5, .ref c6, .ref c7, .ref c8, .ref c9, .ref c10, .ref c11, .int 0, .ref c12])), (c1, .inl (c2, 32768, .inl f3))] := hD
  refine lv_iinc (v := 16) (lv' := [(2, .int 16), (0, .ref c0), (1, .int c4)]) hx hb dX12_putOnTape_39 hl (k := 0) rfl (by decide) (by decide) rfl (fun ls hl => ?_)
  refine lv_goto (tgt := 3) hx hb dX12_putOnTape_42 (by decide) ?_
  refine lv_iload_n hx hb dX12_putOnTape_3 rfl (lv_at hl 0 rfl) ?_
  refine lv_if_lt (tgt := 45) hx hb dX12_putOnTape_4 (by decide) (fun h9 => absurd h9 (by decide)) (fun _ => ?_)
  refine lv_aload_n hx hb dX12_putOnTape_7 rfl (lv_at hl 1 rfl) ?_
  refine va_get (D := (dC, dI)) (ci := 13) (v := .int 9) (C := RX12) (T := TX12) (N := 12) hx hb hts hi_k_X12_putOnTape_v2_X12 hown hK hP 0 rfl rfl 1 (by decide) (hts (.fieldLink RX12 58 "TimeMachine" "taped" "I") (List.mem_of_getElem? (i := 1) rfl)) (fun _ h9 => h9) rfl dX12_putOnTape_8 ?_
  refine lv_ldc hx hb hown (hts (.constant RX12 9 (32768)) (List.mem_of_getElem? (i := 2) rfl)) dX12_putOnTape_11 ?_
  refine lv_icmp_ge (tgt := 39) hx hb dX12_putOnTape_13 (by decide) (fun h9 => absurd h9 (by decide)) (fun _ => ?_)
  refine lv_aload_n hx hb dX12_putOnTape_16 rfl (lv_at hl 1 rfl) ?_
  refine va_get (D := (dC, dI)) (ci := 13) (v := .ref c1) (C := RX12) (T := TX12) (N := 12) hx hb hts hi_k_X12_putOnTape_v2_X12 hown hK hP 0 rfl rfl 0 (by decide) (hts (.fieldLink RX12 10 "TimeMachine" "tape" "[B") (List.mem_of_getElem? (i := 3) rfl)) (fun _ h9 => h9) rfl dX12_putOnTape_17 ?_
  refine lv_aload_n hx hb dX12_putOnTape_20 rfl (lv_at hl 1 rfl) ?_
  refine va_get (D := (dC, dI)) (ci := 13) (v := .int 9) (C := RX12) (T := TX12) (N := 12) hx hb hts hi_k_X12_putOnTape_v2_X12 hown hK hP 0 rfl rfl 1 (by decide) (hts (.fieldLink RX12 58 "TimeMachine" "taped" "I") (List.mem_of_getElem? (i := 1) rfl)) (fun _ h9 => h9) rfl dX12_putOnTape_21 ?_
  refine lv_iload_n hx hb dX12_putOnTape_24 rfl (lv_at hl 2 rfl) ?_
  refine lv_iload_n hx hb dX12_putOnTape_25 rfl (lv_at hl 0 rfl) ?_
  refine lv_ishr hx hb dX12_putOnTape_26 ?_
  refine lv_topi (fun z5 ez5 => ?_)
  refine lv_i2b hx hb dX12_putOnTape_27 rfl ?_
  refine lv_topi (fun z6 ez6 => ?_)
  refine va_bast (i := 9) (x := z6) hx hb hK hP hD hS 1 0 rfl rfl (vp_in_iff.mpr ⟨by decide, by decide⟩) dX12_putOnTape_28 (fun H locs hP hD hS => ?_)
  generalize hf7 : upd f3 (Int32.toNatClampNeg 9) (vp_nar .byte z6) = f7 at hP hD
  have hP : va_P (dC, dI) vwCl [(c0, .inr (13, [.ref c1, .int 9, .int 0, .ref c5, .ref c6, .ref c7, .ref c8, .ref c9, .ref c10, .ref c11, .int 0, .ref c12])), (c1, .inl (c2, 32768, .inl f7))] H := hP
  have hD : va_D A [(c0, .inr (13, [.ref c1, .int 9, .int 0, .ref c5, .ref c6, .ref c7, .ref c8, .ref c9, .ref c10, .ref c11, .int 0, .ref c12])), (c1, .inl (c2, 32768, .inl f7))] := hD
  refine lv_aload_n hx hb dX12_putOnTape_29 rfl (lv_at hl 1 rfl) ?_
  refine lv_dup hx hb dX12_putOnTape_30 rfl ?_
  refine va_get (D := (dC, dI)) (ci := 13) (v := .int 9) (C := RX12) (T := TX12) (N := 12) hx hb hts hi_k_X12_putOnTape_v2_X12 hown hK hP 0 rfl rfl 1 (by decide) (hts (.fieldLink RX12 58 "TimeMachine" "taped" "I") (List.mem_of_getElem? (i := 1) rfl)) (fun _ h9 => h9) rfl dX12_putOnTape_31 ?_
  refine lv_iconst (v := 1) hx hb dX12_putOnTape_34 (by decide) ?_
  refine lv_iadd hx hb dX12_putOnTape_35 ?_
  refine lv_topi (fun z8 ez8 => ?_)
  obtain rfl : z8 = 10 := ez8.trans (by decide)
  refine va_put (D := (dC, dI)) (ci := 13) (v := .int 10) (ty := .int) (C := RX12) (T := TX12) (N := 12) hx hb hts hi_k_X12_putOnTape_v2_X12 tyX12 tyX12_ok nmX12 hown hK hP hD hS 0 rfl rfl 1 (by decide) (hts (.fieldLink RX12 58 "TimeMachine" "taped" "I") (List.mem_of_getElem? (i := 1) rfl)) (fun _ h9 => h9) rfl (by decide +kernel) rfl rfl (Nat.le_of_ble_eq_true rfl) dX12_putOnTape_36 (fun H locs hP hD hS => ?_)
  have hP : va_P (dC, dI) vwCl [(c0, .inr (13, [.ref c1, .int 10, .int 0, .ref c5, .ref c6, .ref c7, .ref c8, .ref c9, .ref c10, .ref c11, .int 0, .ref c12])), (c1, .inl (c2, 32768, .inl f7))] H := hP
  have hD : va_D A [(c0, .inr (13, [.ref c1, .int 10, .int 0, .ref c5, .ref c6, .ref c7, .ref c8, .ref c9, .ref c10, .ref c11, .int 0, .ref c12])), (c1, .inl (c2, 32768, .inl f7))] := hD
  refine lv_iinc (v := 8) (lv' := [(2, .int 8), (0, .ref c0), (1, .int c4)]) hx hb dX12_putOnTape_39 hl (k := 0) rfl (by decide) (by decide) rfl (fun ls hl => ?_)
  refine lv_goto (tgt := 3) hx hb dX12_putOnTape_42 (by decide) ?_
  refine lv_iload_n hx hb dX12_putOnTape_3 rfl (lv_at hl 0 rfl) ?_
  refine lv_if_lt (tgt := 45) hx hb dX12_putOnTape_4 (by decide) (fun h9 => absurd h9 (by decide)) (fun _ => ?_)
  refine lv_aload_n hx hb dX12_putOnTape_7 rfl (lv_at hl 1 rfl) ?_
  refine va_get (D := (dC, dI)) (ci := 13) (v := .int 10) (C := RX12) (T := TX12) (N := 12) hx hb hts hi_k_X12_putOnTape_v2_X12 hown hK hP 0 rfl rfl 1 (by decide) (hts (.fieldLink RX12 58 "TimeMachine" "taped" "I") (List.mem_of_getElem? (i := 1) rfl)) (fun _ h9 => h9) rfl dX12_putOnTape_8 ?_
  refine lv_ldc hx hb hown (hts (.constant RX12 9 (32768)) (List.mem_of_getElem? (i := 2) rfl)) dX12_putOnTape_11 ?_
  refine lv_icmp_ge (tgt := 39) hx hb dX12_putOnTape_13 (by decide) (fun h9 => absurd h9 (by decide)) (fun _ => ?_)
  refine lv_aload_n hx hb dX12_putOnTape_16 rfl (lv_at hl 1 rfl) ?_
  refine va_get (D := (dC, dI)) (ci := 13) (v := .ref c1) (C := RX12) (T := TX12) (N := 12) hx hb hts hi_k_X12_putOnTape_v2_X12 hown hK hP 0 rfl rfl 0 (by decide) (hts (.fieldLink RX12 10 "TimeMachine" "tape" "[B") (List.mem_of_getElem? (i := 3) rfl)) (fun _ h9 => h9) rfl dX12_putOnTape_17 ?_
  refine lv_aload_n hx hb dX12_putOnTape_20 rfl (lv_at hl 1 rfl) ?_
  refine va_get (D := (dC, dI)) (ci := 13) (v := .int 10) (C := RX12) (T := TX12) (N := 12) hx hb hts hi_k_X12_putOnTape_v2_X12 hown hK hP 0 rfl rfl 1 (by decide) (hts (.fieldLink RX12 58 "TimeMachine" "taped" "I") (List.mem_of_getElem? (i := 1) rfl)) (fun _ h9 => h9) rfl dX12_putOnTape_21 ?_
  refine lv_iload_n hx hb dX12_putOnTape_24 rfl (lv_at hl 2 rfl) ?_
  refine lv_iload_n hx hb dX12_putOnTape_25 rfl (lv_at hl 0 rfl) ?_
  refine lv_ishr hx hb dX12_putOnTape_26 ?_
  refine lv_topi (fun z9 ez9 => ?_)
  refine lv_i2b hx hb dX12_putOnTape_27 rfl ?_
  refine lv_topi (fun z10 ez10 => ?_)
  refine va_bast (i := 10) (x := z10) hx hb hK hP hD hS 1 0 rfl rfl (vp_in_iff.mpr ⟨by decide, by decide⟩) dX12_putOnTape_28 (fun H locs hP hD hS => ?_)
  generalize hf11 : upd f7 (Int32.toNatClampNeg 10) (vp_nar .byte z10) = f11 at hP hD
  have hP : va_P (dC, dI) vwCl [(c0, .inr (13, [.ref c1, .int 10, .int 0, .ref c5, .ref c6, .ref c7, .ref c8, .ref c9, .ref c10, .ref c11, .int 0, .ref c12])), (c1, .inl (c2, 32768, .inl f11))] H := hP
  have hD : va_D A [(c0, .inr (13, [.ref c1, .int 10, .int 0, .ref c5, .ref c6, .ref c7, .ref c8, .ref c9, .ref c10, .ref c11, .int 0, .ref c12])), (c1, .inl (c2, 32768, .inl f11))] := hD
  refine lv_aload_n hx hb dX12_putOnTape_29 rfl (lv_at hl 1 rfl) ?_
  refine lv_dup hx hb dX12_putOnTape_30 rfl ?_
  refine va_get (D := (dC, dI)) (ci := 13) (v := .int 10) (C := RX12) (T := TX12) (N := 12) hx hb hts hi_k_X12_putOnTape_v2_X12 hown hK hP 0 rfl rfl 1 (by decide) (hts (.fieldLink RX12 58 "TimeMachine" "taped" "I") (List.mem_of_getElem? (i := 1) rfl)) (fun _ h9 => h9) rfl dX12_putOnTape_31 ?_
  refine lv_iconst (v := 1) hx hb dX12_putOnTape_34 (by decide) ?_
  refine lv_iadd hx hb dX12_putOnTape_35 ?_
  refine lv_topi (fun z12 ez12 => ?_)
  obtain rfl : z12 = 11 := ez12.trans (by decide)
  refine va_put (D := (dC, dI)) (ci := 13) (v := .int 11) (ty := .int) (C := RX12) (T := TX12) (N := 12) hx hb hts hi_k_X12_putOnTape_v2_X12 tyX12 tyX12_ok nmX12 hown hK hP hD hS 0 rfl rfl 1 (by decide) (hts (.fieldLink RX12 58 "TimeMachine" "taped" "I") (List.mem_of_getElem? (i := 1) rfl)) (fun _ h9 => h9) rfl (by decide +kernel) rfl rfl (Nat.le_of_ble_eq_true rfl) dX12_putOnTape_36 (fun H locs hP hD hS => ?_)
  have hP : va_P (dC, dI) vwCl [(c0, .inr (13, [.ref c1, .int 11, .int 0, .ref c5, .ref c6, .ref c7, .ref c8, .ref c9, .ref c10, .ref c11, .int 0, .ref c12])), (c1, .inl (c2, 32768, .inl f11))] H := hP
  have hD : va_D A [(c0, .inr (13, [.ref c1, .int 11, .int 0, .ref c5, .ref c6, .ref c7, .ref c8, .ref c9, .ref c10, .ref c11, .int 0, .ref c12])), (c1, .inl (c2, 32768, .inl f11))] := hD
  refine lv_iinc (v := 0) (lv' := [(2, .int 0), (0, .ref c0), (1, .int c4)]) hx hb dX12_putOnTape_39 hl (k := 0) rfl (by decide) (by decide) rfl (fun ls hl => ?_)
  refine lv_goto (tgt := 3) hx hb dX12_putOnTape_42 (by decide) ?_
  refine lv_iload_n hx hb dX12_putOnTape_3 rfl (lv_at hl 0 rfl) ?_
  refine lv_if_lt (tgt := 45) hx hb dX12_putOnTape_4 (by decide) (fun h9 => absurd h9 (by decide)) (fun _ => ?_)
  refine lv_aload_n hx hb dX12_putOnTape_7 rfl (lv_at hl 1 rfl) ?_
  refine va_get (D := (dC, dI)) (ci := 13) (v := .int 11) (C := RX12) (T := TX12) (N := 12) hx hb hts hi_k_X12_putOnTape_v2_X12 hown hK hP 0 rfl rfl 1 (by decide) (hts (.fieldLink RX12 58 "TimeMachine" "taped" "I") (List.mem_of_getElem? (i := 1) rfl)) (fun _ h9 => h9) rfl dX12_putOnTape_8 ?_
  refine lv_ldc hx hb hown (hts (.constant RX12 9 (32768)) (List.mem_of_getElem? (i := 2) rfl)) dX12_putOnTape_11 ?_
  refine lv_icmp_ge (tgt := 39) hx hb dX12_putOnTape_13 (by decide) (fun h9 => absurd h9 (by decide)) (fun _ => ?_)
  refine lv_aload_n hx hb dX12_putOnTape_16 rfl (lv_at hl 1 rfl) ?_
  refine va_get (D := (dC, dI)) (ci := 13) (v := .ref c1) (C := RX12) (T := TX12) (N := 12) hx hb hts hi_k_X12_putOnTape_v2_X12 hown hK hP 0 rfl rfl 0 (by decide) (hts (.fieldLink RX12 10 "TimeMachine" "tape" "[B") (List.mem_of_getElem? (i := 3) rfl)) (fun _ h9 => h9) rfl dX12_putOnTape_17 ?_
  refine lv_aload_n hx hb dX12_putOnTape_20 rfl (lv_at hl 1 rfl) ?_
  refine va_get (D := (dC, dI)) (ci := 13) (v := .int 11) (C := RX12) (T := TX12) (N := 12) hx hb hts hi_k_X12_putOnTape_v2_X12 hown hK hP 0 rfl rfl 1 (by decide) (hts (.fieldLink RX12 58 "TimeMachine" "taped" "I") (List.mem_of_getElem? (i := 1) rfl)) (fun _ h9 => h9) rfl dX12_putOnTape_21 ?_
  refine lv_iload_n hx hb dX12_putOnTape_24 rfl (lv_at hl 2 rfl) ?_
  refine lv_iload_n hx hb dX12_putOnTape_25 rfl (lv_at hl 0 rfl) ?_
  refine lv_ishr hx hb dX12_putOnTape_26 ?_
  refine lv_topi (fun z13 ez13 => ?_)
  refine lv_i2b hx hb dX12_putOnTape_27 rfl ?_
  refine lv_topi (fun z14 ez14 => ?_)
  refine va_bast (i := 11) (x := z14) hx hb hK hP hD hS 1 0 rfl rfl (vp_in_iff.mpr ⟨by decide, by decide⟩) dX12_putOnTape_28 (fun H locs hP hD hS => ?_)
  generalize hf15 : upd f11 (Int32.toNatClampNeg 11) (vp_nar .byte z14) = f15 at hP hD
  have hP : va_P (dC, dI) vwCl [(c0, .inr (13, [.ref c1, .int 11, .int 0, .ref c5, .ref c6, .ref c7, .ref c8, .ref c9, .ref c10, .ref c11, .int 0, .ref c12])), (c1, .inl (c2, 32768, .inl f15))] H := hP
  have hD : va_D A [(c0, .inr (13, [.ref c1, .int 11, .int 0, .ref c5, .ref c6, .ref c7, .ref c8, .ref c9, .ref c10, .ref c11, .int 0, .ref c12])), (c1, .inl (c2, 32768, .inl f15))] := hD
  refine lv_aload_n hx hb dX12_putOnTape_29 rfl (lv_at hl 1 rfl) ?_
  refine lv_dup hx hb dX12_putOnTape_30 rfl ?_
  refine va_get (D := (dC, dI)) (ci := 13) (v := .int 11) (C := RX12) (T := TX12) (N := 12) hx hb hts hi_k_X12_putOnTape_v2_X12 hown hK hP 0 rfl rfl 1 (by decide) (hts (.fieldLink RX12 58 "TimeMachine" "taped" "I") (List.mem_of_getElem? (i := 1) rfl)) (fun _ h9 => h9) rfl dX12_putOnTape_31 ?_
  refine lv_iconst (v := 1) hx hb dX12_putOnTape_34 (by decide) ?_
  refine lv_iadd hx hb dX12_putOnTape_35 ?_
  refine lv_topi (fun z16 ez16 => ?_)
  obtain rfl : z16 = 12 := ez16.trans (by decide)
  refine va_put (D := (dC, dI)) (ci := 13) (v := .int 12) (ty := .int) (C := RX12) (T := TX12) (N := 12) hx hb hts hi_k_X12_putOnTape_v2_X12 tyX12 tyX12_ok nmX12 hown hK hP hD hS 0 rfl rfl 1 (by decide) (hts (.fieldLink RX12 58 "TimeMachine" "taped" "I") (List.mem_of_getElem? (i := 1) rfl)) (fun _ h9 => h9) rfl (by decide +kernel) rfl rfl (Nat.le_of_ble_eq_true rfl) dX12_putOnTape_36 (fun H locs hP hD hS => ?_)
  have hP : va_P (dC, dI) vwCl [(c0, .inr (13, [.ref c1, .int 12, .int 0, .ref c5, .ref c6, .ref c7, .ref c8, .ref c9, .ref c10, .ref c11, .int 0, .ref c12])), (c1, .inl (c2, 32768, .inl f15))] H := hP
  have hD : va_D A [(c0, .inr (13, [.ref c1, .int 12, .int 0, .ref c5, .ref c6, .ref c7, .ref c8, .ref c9, .ref c10, .ref c11, .int 0, .ref c12])), (c1, .inl (c2, 32768, .inl f15))] := hD
  refine lv_iinc (v := (-8)) (lv' := [(2, .int (-8)), (0, .ref c0), (1, .int c4)]) hx hb dX12_putOnTape_39 hl (k := 0) rfl (by decide) (by decide) rfl (fun ls hl => ?_)
  refine lv_goto (tgt := 3) hx hb dX12_putOnTape_42 (by decide) ?_
  refine lv_iload_n hx hb dX12_putOnTape_3 rfl (lv_at hl 0 rfl) ?_
  refine lv_if_lt (tgt := 45) hx hb dX12_putOnTape_4 (by decide) (fun _ => ?_) (fun h9 => absurd (by decide) h9)
  have hP9 := hP.sub (ws' := [(c0, .inr (13, [.ref c1, .int 12, .int 0, .ref c5, .ref c6, .ref c7, .ref c8, .ref c9, .ref c10, .ref c11, .int 0, .ref c12])), (c1, .inl (c2, 32768, .inl f15))]) [0, 1] rfl
  have hD9 := hD.sub (ws' := [(c0, .inr (13, [.ref c1, .int 12, .int 0, .ref c5, .ref c6, .ref c7, .ref c8, .ref c9, .ref c10, .ref c11, .int 0, .ref c12])), (c1, .inl (c2, 32768, .inl f15))]) [0, 1] (by decide) rfl
  have hK9 := hK.sub (tys' := [(c2, .byte)]) [0] rfl
  refine W.widen (k := 0) (n := 0) (by decide +kernel) (by decide +kernel) ?_
  exact W.vret hx hb hr (fun t ht hW => ⟨⟨(), rfl, trivial, f15, by rw [ht]; exact hP9, va_K.moved hW.alike hK9, hD9⟩, hS.F ht⟩) hS.2.2 dX12_putOnTape_45
def ow_k_X12_putOnTape_v3 : List Cond := .code yX12_putOnTape cX12_putOnTape 3 none :: ([.fieldLink RX12 58 "TimeMachine" "taped" "I", .constant RX12 9 (32768), .fieldLink RX12 10 "TimeMachine" "tape" "[B"] ++ (u_ws RX12 TX12 12 ++ []))
theorem gd_k_X12_putOnTape_v3 : ∀ w ∈ ow_k_X12_putOnTape_v3, (w.onTables && w.keeps) = true ∨ ∃ ty, w = Cond.arrayClass ty := List.forall_mem_cons.mpr ⟨good_of_word rfl, List.forall_mem_append.mpr ⟨fun w h => good_of_word (List.all_eq_true.mp (by decide +kernel) w h), List.forall_mem_append.mpr ⟨gu_X12, fun _ h => nomatch h⟩⟩⟩
theorem hi_k_X12_putOnTape_v3_X12 : ∀ w ∈ u_ws RX12 TX12 12, w ∈ ow_k_X12_putOnTape_v3 := fun w h => List.mem_cons_of_mem _ (List.mem_append_right _ (List.mem_append_left _ h))
set_option maxHeartbeats 40000000 in
set_option maxRecDepth 100000 in
theorem k_X12_putOnTape_v3 (l : Launch) (hlt : l.stackTraces = false) (dC : Nat → ClassId) (dI : Nat → Nat → Nat) (c0 : Nat) (c1 : Nat) (c2 : ClassId) (c3 : Nat → Int32) (c4 : Int32) (c5 : Nat) (c6 : Nat) (c7 : Nat) (c8 : Nat) (c9 : Nat) (c10 : Nat) (c11 : Nat) (c12 : Nat) (sz : Nat) : Met l yX12_putOnTape ow_k_X12_putOnTape_v3 ({ frames := 0, cells := 0, slots := 0, locals := 0 }) (va_Pc [.ref c0, .int c4] (fun U => U.heap.size = sz ∧ va_P (dC, dI) vwCl [(c0, .inr (13, [.ref c1, .int 12, .int 0, .ref c5, .ref c6, .ref c7, .ref c8, .ref c9, .ref c10, .ref c11, .int 0, .ref c12])), (c1, .inl (c2, 32768, .inl c3))] U.heap ∧ va_K (dC, dI) vwCl [(c2, .byte)] U ∧ va_D (fun _ => True) [(c0, .inr (13, [.ref c1, .int 12, .int 0, .ref c5, .ref c6, .ref c7, .ref c8, .ref c9, .ref c10, .ref c11, .int 0, .ref c12])), (c1, .inl (c2, 32768, .inl c3))] ∧ nv_E (va_A [(c0, .inr (13, [.ref c1, .int 12, .int 0, .ref c5, .ref c6, .ref c7, .ref c8, .ref c9, .ref c10, .ref c11, .int 0, .ref c12])), (c1, .inl (c2, 32768, .inl c3))] sz) U)) (va_Qv (fun _ => True) (fun (_ : Unit) t => ∃ (f15 : Nat → Int32), va_P (dC, dI) vwCl [(c0, .inr (13, [.ref c1, .int 16, .int 0, .ref c5, .ref c6, .ref c7, .ref c8, .ref c9, .ref c10, .ref c11, .int 0, .ref c12])), (c1, .inl (c2, 32768, .inl f15))] t.heap ∧ va_K (dC, dI) vwCl [(c2, .byte)] t ∧ va_D (va_A [(c0, .inr (13, [.ref c1, .int 12, .int 0, .ref c5, .ref c6, .ref c7, .ref c8, .ref c9, .ref c10, .ref c11, .int 0, .ref c12])), (c1, .inl (c2, 32768, .inl c3))] sz) [(c0, .inr (13, [.ref c1, .int 16, .int 0, .ref c5, .ref c6, .ref c7, .ref c8, .ref c9, .ref c10, .ref c11, .int 0, .ref c12])), (c1, .inl (c2, 32768, .inl f15))]) (va_A [(c0, .inr (13, [.ref c1, .int 12, .int 0, .ref c5, .ref c6, .ref c7, .ref c8, .ref c9, .ref c10, .ref c11, .int 0, .ref c12])), (c1, .inl (c2, 32768, .inl c3))] sz)) 0 0 (va_A [(c0, .inr (13, [.ref c1, .int 12, .int 0, .ref c5, .ref c6, .ref c7, .ref c8, .ref c9, .ref c10, .ref c11, .int 0, .ref c12])), (c1, .inl (c2, 32768, .inl c3))] sz) := by
  refine Met.ofW (cc := cX12_putOnTape) (maxL := 3) (ret := none) (by decide) rfl ?_
  intro p e s m args below meth c s₁ B hml hv
  obtain ⟨rfl, hsz, hP, hK, hD0, hN⟩ := hv
  have hx := B.exec
  have hb := B.bytes
  have hr := B.returns
  have hts := atoms_spec (ws := ow_k_X12_putOnTape_v3) B.pre
  have hown : s.vm.findClass RX12 = some m.cls := findClass_of_methodNamed B.named
  have hlocks := B.notSynchronized
  subst hsz
  have hD := hD0.self (sz := s.heap.size)
  generalize hAe : va_A [(c0, .inr (13, [.ref c1, .int 12, .int 0, .ref c5, .ref c6, .ref c7, .ref c8, .ref c9, .ref c10, .ref c11, .int 0, .ref c12])), (c1, .inl (c2, 32768, .inl c3))] s.heap.size = A at hD hN ⊢
  have hA : ∀ q : Nat, s.heap.size ≤ q → A q := fun q h => by rw [← hAe]; exact Or.inr h
  have hS : va_S A s.heap s.heap [] := va_S.rf
  have hl := lv_entry ([.ref c0, .int c4]) (n := 3) (Nat.le_of_ble_eq_true rfl)
  rw [lg_entry_eq]
  generalize (lg_sl ([.ref c0, .int c4]) ++ List.replicate (3 - (lg_sl ([.ref c0, .int c4])).length) Slot.unset).toArray = ls at hl ⊢
  have hl : lv_has ls 3 [(0, .ref c0), (1, .int c4)] := hl
  refine lv_bipush (v := 24) hx hb dX12_putOnTape_0 (by decide) ?_
  refine lv_istore_n (lv' := [(2, .int 24), (0, .ref c0), (1, .int c4)]) hx hb dX12_putOnTape_2 rfl hl (by decide) rfl (fun ls hl => ?_)
  refine lv_iload_n hx hb dX12_putOnTape_3 rfl (lv_at hl 0 rfl) ?_
  refine lv_if_lt (tgt := 45) hx hb dX12_putOnTape_4 (by decide) (fun h9 => absurd h9 (by decide)) (fun _ => ?_)
  refine lv_aload_n hx hb dX12_putOnTape_7 rfl (lv_at hl 1 rfl) ?_
  refine va_get (D := (dC, dI)) (ci := 13) (v := .int 12) (C := RX12) (T := TX12) (N := 12) hx hb hts hi_k_X12_putOnTape_v3_X12 hown hK hP 0 rfl rfl 1 (by decide) (hts (.fieldLink RX12 58 "TimeMachine" "taped" "I") (List.mem_of_getElem? (i := 1) rfl)) (fun _ h9 => h9) rfl dX12_putOnTape_8 ?_
  refine lv_ldc hx hb hown (hts (.constant RX12 9 (32768)) (List.mem_of_getElem? (i := 2) rfl)) dX12_putOnTape_11 ?_
  refine lv_icmp_ge (tgt := 39) hx hb dX12_putOnTape_13 (by decide) (fun h9 => absurd h9 (by decide)) (fun _ => ?_)
  refine lv_aload_n hx hb dX12_putOnTape_16 rfl (lv_at hl 1 rfl) ?_
  refine va_get (D := (dC, dI)) (ci := 13) (v := .ref c1) (C := RX12) (T := TX12) (N := 12) hx hb hts hi_k_X12_putOnTape_v3_X12 hown hK hP 0 rfl rfl 0 (by decide) (hts (.fieldLink RX12 10 "TimeMachine" "tape" "[B") (List.mem_of_getElem? (i := 3) rfl)) (fun _ h9 => h9) rfl dX12_putOnTape_17 ?_
  refine lv_aload_n hx hb dX12_putOnTape_20 rfl (lv_at hl 1 rfl) ?_
  refine va_get (D := (dC, dI)) (ci := 13) (v := .int 12) (C := RX12) (T := TX12) (N := 12) hx hb hts hi_k_X12_putOnTape_v3_X12 hown hK hP 0 rfl rfl 1 (by decide) (hts (.fieldLink RX12 58 "TimeMachine" "taped" "I") (List.mem_of_getElem? (i := 1) rfl)) (fun _ h9 => h9) rfl dX12_putOnTape_21 ?_
  refine lv_iload_n hx hb dX12_putOnTape_24 rfl (lv_at hl 2 rfl) ?_
  refine lv_iload_n hx hb dX12_putOnTape_25 rfl (lv_at hl 0 rfl) ?_
  refine lv_ishr hx hb dX12_putOnTape_26 ?_
  refine lv_topi (fun z1 ez1 => ?_)
  refine lv_i2b hx hb dX12_putOnTape_27 rfl ?_
  refine lv_topi (fun z2 ez2 => ?_)
  refine va_bast (i := 12) (x := z2) hx hb hK hP hD hS 1 0 rfl rfl (vp_in_iff.mpr ⟨by decide, by decide⟩) dX12_putOnTape_28 (fun H locs hP hD hS => ?_)
  generalize hf3 : upd c3 (Int32.toNatClampNeg 12) (vp_nar .byte z2) = f3 at hP hD
  have hP : va_P (dC, dI) vwCl [(c0, .inr (13, [.ref c1, .int 12, .int 0, .ref c5, .ref c6, .ref c7, .ref c8, .ref c9, .ref c10, .ref c11, .int 0, .ref c12])), (c1, .inl (c2, 32768, .inl f3))] H := hP
  have hD : va_D A [(c0, .inr (13, [.ref c1, .int 12, .int 0, .ref c5, .ref c6, .ref c7, .ref c8, .ref c9, .ref c10, .ref c11, .int 0, .ref c12])), (c1, .inl (c2, 32768, .inl f3))] := hD
  refine lv_aload_n hx hb dX12_putOnTape_29 rfl (lv_at hl 1 rfl) ?_
  refine lv_dup hx hb dX12_putOnTape_30 rfl ?_
  refine va_get (D := (dC, dI)) (ci := 13) (v := .int 12) (C := RX12) (T := TX12) (N := 12) hx hb hts hi_k_X12_putOnTape_v3_X12 hown hK hP 0 rfl rfl 1 (by decide) (hts (.fieldLink RX12 58 "TimeMachine" "taped" "I") (List.mem_of_getElem? (i := 1) rfl)) (fun _ h9 => h9) rfl dX12_putOnTape_31 ?_
  refine lv_iconst (v := 1) hx hb dX12_putOnTape_34 (by decide) ?_
  refine lv_iadd hx hb dX12_putOnTape_35 ?_
  refine lv_topi (fun z4 ez4 => ?_)
  obtain rfl : z4 = 13 := ez4.trans (by decide)
  refine va_put (D := (dC, dI)) (ci := 13) (v := .int 13) (ty := .int) (C := RX12) (T := TX12) (N := 12) hx hb hts hi_k_X12_putOnTape_v3_X12 tyX12 tyX12_ok nmX12 hown hK hP hD hS 0 rfl rfl 1 (by decide) (hts (.fieldLink RX12 58 "TimeMachine" "taped" "I") (List.mem_of_getElem? (i := 1) rfl)) (fun _ h9 => h9) rfl (by decide +kernel) rfl rfl (Nat.le_of_ble_eq_true rfl) dX12_putOnTape_36 (fun H locs hP hD hS => ?_)
  have hP : va_P (dC, dI) vwCl [(c0, .inr (13, [.ref c1, .int 13, .int 0, .ref c5, .ref c6, .ref c7, .ref c8, .ref c9, .ref c10, .ref c11, .int 0, .ref c12])), (c1, .inl (c2, 32768, .inl f3))] H := hP
  have hD : va_D A [(c0, .inr (13, [.ref c1, .int 13, .int 0, .ref c5, .ref c6, .ref c7, .ref c8, .ref c9, .ref c10, .ref c11, .int 0, .ref c12])), (c1, .inl (c2, 32768, .inl f3))] := hD
  refine lv_iinc (v := 16) (lv' := [(2, .int 16), (0, .ref c0), (1, .int c4)]) hx hb dX12_putOnTape_39 hl (k := 0) rfl (by decide) (by decide) rfl (fun ls hl => ?_)
  refine lv_goto (tgt := 3) hx hb dX12_putOnTape_42 (by decide) ?_
  refine lv_iload_n hx hb dX12_putOnTape_3 rfl (lv_at hl 0 rfl) ?_
  refine lv_if_lt (tgt := 45) hx hb dX12_putOnTape_4 (by decide) (fun h9 => absurd h9 (by decide)) (fun _ => ?_)
  refine lv_aload_n hx hb dX12_putOnTape_7 rfl (lv_at hl 1 rfl) ?_
  refine va_get (D := (dC, dI)) (ci := 13) (v := .int 13) (C := RX12) (T := TX12) (N := 12) hx hb hts hi_k_X12_putOnTape_v3_X12 hown hK hP 0 rfl rfl 1 (by decide) (hts (.fieldLink RX12 58 "TimeMachine" "taped" "I") (List.mem_of_getElem? (i := 1) rfl)) (fun _ h9 => h9) rfl dX12_putOnTape_8 ?_
  refine lv_ldc hx hb hown (hts (.constant RX12 9 (32768)) (List.mem_of_getElem? (i := 2) rfl)) dX12_putOnTape_11 ?_
  refine lv_icmp_ge (tgt := 39) hx hb dX12_putOnTape_13 (by decide) (fun h9 => absurd h9 (by decide)) (fun _ => ?_)
  refine lv_aload_n hx hb dX12_putOnTape_16 rfl (lv_at hl 1 rfl) ?_
  refine va_get (D := (dC, dI)) (ci := 13) (v := .ref c1) (C := RX12) (T := TX12) (N := 12) hx hb hts hi_k_X12_putOnTape_v3_X12 hown hK hP 0 rfl rfl 0 (by decide) (hts (.fieldLink RX12 10 "TimeMachine" "tape" "[B") (List.mem_of_getElem? (i := 3) rfl)) (fun _ h9 => h9) rfl dX12_putOnTape_17 ?_
  refine lv_aload_n hx hb dX12_putOnTape_20 rfl (lv_at hl 1 rfl) ?_
  refine va_get (D := (dC, dI)) (ci := 13) (v := .int 13) (C := RX12) (T := TX12) (N := 12) hx hb hts hi_k_X12_putOnTape_v3_X12 hown hK hP 0 rfl rfl 1 (by decide) (hts (.fieldLink RX12 58 "TimeMachine" "taped" "I") (List.mem_of_getElem? (i := 1) rfl)) (fun _ h9 => h9) rfl dX12_putOnTape_21 ?_
  refine lv_iload_n hx hb dX12_putOnTape_24 rfl (lv_at hl 2 rfl) ?_
  refine lv_iload_n hx hb dX12_putOnTape_25 rfl (lv_at hl 0 rfl) ?_
  refine lv_ishr hx hb dX12_putOnTape_26 ?_
  refine lv_topi (fun z5 ez5 => ?_)
  refine lv_i2b hx hb dX12_putOnTape_27 rfl ?_
  refine lv_topi (fun z6 ez6 => ?_)
  refine va_bast (i := 13) (x := z6) hx hb hK hP hD hS 1 0 rfl rfl (vp_in_iff.mpr ⟨by decide, by decide⟩) dX12_putOnTape_28 (fun H locs hP hD hS => ?_)
  generalize hf7 : upd f3 (Int32.toNatClampNeg 13) (vp_nar .byte z6) = f7 at hP hD
  have hP : va_P (dC, dI) vwCl [(c0, .inr (13, [.ref c1, .int 13, .int 0, .ref c5, .ref c6, .ref c7, .ref c8, .ref c9, .ref c10, .ref c11, .int 0, .ref c12])), (c1, .inl (c2, 32768, .inl f7))] H := hP
  have hD : va_D A [(c0, .inr (13, [.ref c1, .int 13, .int 0, .ref c5, .ref c6, .ref c7, .ref c8, .ref c9, .ref c10, .ref c11, .int 0, .ref c12])), (c1, .inl (c2, 32768, .inl f7))] := hD
  refine lv_aload_n hx hb dX12_putOnTape_29 rfl (lv_at hl 1 rfl) ?_
  refine lv_dup hx hb dX12_putOnTape_30 rfl ?_
  refine va_get (D := (dC, dI)) (ci := 13) (v := .int 13) (C := RX12) (T := TX12) (N := 12) hx hb hts hi_k_X12_putOnTape_v3_X12 hown hK hP 0 rfl rfl 1 (by decide) (hts (.fieldLink RX12 58 "TimeMachine" "taped" "I") (List.mem_of_getElem? (i := 1) rfl)) (fun _ h9 => h9) rfl dX12_putOnTape_31 ?_
  refine lv_iconst (v := 1) hx hb dX12_putOnTape_34 (by decide) ?_
  refine lv_iadd hx hb dX12_putOnTape_35 ?_
  refine lv_topi (fun z8 ez8 => ?_)
  obtain rfl : z8 = 14 := ez8.trans (by decide)
  refine va_put (D := (dC, dI)) (ci := 13) (v := .int 14) (ty := .int) (C := RX12) (T := TX12) (N := 12) hx hb hts hi_k_X12_putOnTape_v3_X12 tyX12 tyX12_ok nmX12 hown hK hP hD hS 0 rfl rfl 1 (by decide) (hts (.fieldLink RX12 58 "TimeMachine" "taped" "I") (List.mem_of_getElem? (i := 1) rfl)) (fun _ h9 => h9) rfl (by decide +kernel) rfl rfl (Nat.le_of_ble_eq_true rfl) dX12_putOnTape_36 (fun H locs hP hD hS => ?_)
  have hP : va_P (dC, dI) vwCl [(c0, .inr (13, [.ref c1, .int 14, .int 0, .ref c5, .ref c6, .ref c7, .ref c8, .ref c9, .ref c10, .ref c11, .int 0, .ref c12])), (c1, .inl (c2, 32768, .inl f7))] H := hP
  have hD : va_D A [(c0, .inr (13, [.ref c1, .int 14, .int 0, .ref c5, .ref c6, .ref c7, .ref c8, .ref c9, .ref c10, .ref c11, .int 0, .ref c12])), (c1, .inl (c2, 32768, .inl f7))] := hD
  refine lv_iinc (v := 8) (lv' := [(2, .int 8), (0, .ref c0), (1, .int c4)]) hx hb dX12_putOnTape_39 hl (k := 0) rfl (by decide) (by decide) rfl (fun ls hl => ?_)
  refine lv_goto (tgt := 3) hx hb dX12_putOnTape_42 (by decide) ?_
  refine lv_iload_n hx hb dX12_putOnTape_3 rfl (lv_at hl 0 rfl) ?_
  refine lv_if_lt (tgt := 45) hx hb dX12_putOnTape_4 (by decide) (fun h9 => absurd h9 (by decide)) (fun _ => ?_)
  refine lv_aload_n hx hb dX12_putOnTape_7 rfl (lv_at hl 1 rfl) ?_
  refine va_get (D := (dC, dI)) (ci := 13) (v := .int 14) (C := RX12) (T := TX12) (N := 12) hx hb hts hi_k_X12_putOnTape_v3_X12 hown hK hP 0 rfl rfl 1 (by decide) (hts (.fieldLink RX12 58 "TimeMachine" "taped" "I") (List.mem_of_getElem? (i := 1) rfl)) (fun _ h9 => h9) rfl dX12_putOnTape_8 ?_
  refine lv_ldc hx hb hown (hts (.constant RX12 9 (32768)) (List.mem_of_getElem? (i := 2) rfl)) dX12_putOnTape_11 ?_
  refine lv_icmp_ge (tgt := 39) hx hb dX12_putOnTape_13 (by decide) (fun h9 => absurd h9 (by decide)) (fun _ => ?_)
  refine lv_aload_n hx hb dX12_putOnTape_16 rfl (lv_at hl 1 rfl) ?_
  refine va_get (D := (dC, dI)) (ci := 13) (v := .ref c1) (C := RX12) (T := TX12) (N := 12) hx hb hts hi_k_X12_putOnTape_v3_X12 hown hK hP 0 rfl rfl 0 (by decide) (hts (.fieldLink RX12 10 "TimeMachine" "tape" "[B") (List.mem_of_getElem? (i := 3) rfl)) (fun _ h9 => h9) rfl dX12_putOnTape_17 ?_
  refine lv_aload_n hx hb dX12_putOnTape_20 rfl (lv_at hl 1 rfl) ?_
  refine va_get (D := (dC, dI)) (ci := 13) (v := .int 14) (C := RX12) (T := TX12) (N := 12) hx hb hts hi_k_X12_putOnTape_v3_X12 hown hK hP 0 rfl rfl 1 (by decide) (hts (.fieldLink RX12 58 "TimeMachine" "taped" "I") (List.mem_of_getElem? (i := 1) rfl)) (fun _ h9 => h9) rfl dX12_putOnTape_21 ?_
  refine lv_iload_n hx hb dX12_putOnTape_24 rfl (lv_at hl 2 rfl) ?_
  refine lv_iload_n hx hb dX12_putOnTape_25 rfl (lv_at hl 0 rfl) ?_
  refine lv_ishr hx hb dX12_putOnTape_26 ?_
  refine lv_topi (fun z9 ez9 => ?_)
  refine lv_i2b hx hb dX12_putOnTape_27 rfl ?_
  refine lv_topi (fun z10 ez10 => ?_)
  refine va_bast (i := 14) (x := z10) hx hb hK hP hD hS 1 0 rfl rfl (vp_in_iff.mpr ⟨by decide, by decide⟩) dX12_putOnTape_28 (fun H locs hP hD hS => ?_)
  generalize hf11 : upd f7 (Int32.toNatClampNeg 14) (vp_nar .byte z10) = f11 at hP hD
  have hP : va_P (dC, dI) vwCl [(c0, .inr (13, [.ref c1, .int 14, .int 0, .ref c5, .ref c6, .ref c7, .ref c8, .ref c9, .ref c10, .ref c11, .int 0, .ref c12])), (c1, .inl (c2, 32768, .inl f11))] H := hP
  have hD : va_D A [(c0, .inr (13, [.ref c1, .int 14, .int 0, .ref c5, .ref c6, .ref c7, .ref c8, .ref c9, .ref c10, .ref c11, .int 0, .ref c12])), (c1, .inl (c2, 32768, .inl f11))] := hD
  refine lv_aload_n hx hb dX12_putOnTape_29 rfl (lv_at hl 1 rfl) ?_
  refine lv_dup hx hb dX12_putOnTape_30 rfl ?_
  refine va_get (D := (dC, dI)) (ci := 13) (v := .int 14) (C := RX12) (T := TX12) (N := 12) hx hb hts hi_k_X12_putOnTape_v3_X12 hown hK hP 0 rfl rfl 1 (by decide) (hts (.fieldLink RX12 58 "TimeMachine" "taped" "I") (List.mem_of_getElem? (i := 1) rfl)) (fun _ h9 => h9) rfl dX12_putOnTape_31 ?_
  refine lv_iconst (v := 1) hx hb dX12_putOnTape_34 (by decide) ?_
  refine lv_iadd hx hb dX12_putOnTape_35 ?_
  refine lv_topi (fun z12 ez12 => ?_)
  obtain rfl : z12 = 15 := ez12.trans (by decide)
  refine va_put (D := (dC, dI)) (ci := 13) (v := .int 15) (ty := .int) (C := RX12) (T := TX12) (N := 12) hx hb hts hi_k_X12_putOnTape_v3_X12 tyX12 tyX12_ok nmX12 hown hK hP hD hS 0 rfl rfl 1 (by decide) (hts (.fieldLink RX12 58 "TimeMachine" "taped" "I") (List.mem_of_getElem? (i := 1) rfl)) (fun _ h9 => h9) rfl (by decide +kernel) rfl rfl (Nat.le_of_ble_eq_true rfl) dX12_putOnTape_36 (fun H locs hP hD hS => ?_)
  have hP : va_P (dC, dI) vwCl [(c0, .inr (13, [.ref c1, .int 15, .int 0, .ref c5, .ref c6, .ref c7, .ref c8, .ref c9, .ref c10, .ref c11, .int 0, .ref c12])), (c1, .inl (c2, 32768, .inl f11))] H := hP
  have hD : va_D A [(c0, .inr (13, [.ref c1, .int 15, .int 0, .ref c5, .ref c6, .ref c7, .ref c8, .ref c9, .ref c10, .ref c11, .int 0, .ref c12])), (c1, .inl (c2, 32768, .inl f11))] := hD
  refine lv_iinc (v := 0) (lv' := [(2, .int 0), (0, .ref c0), (1, .int c4)]) hx hb dX12_putOnTape_39 hl (k := 0) rfl (by decide) (by decide) rfl (fun ls hl => ?_)
  refine lv_goto (tgt := 3) hx hb dX12_putOnTape_42 (by decide) ?_
  refine lv_iload_n hx hb dX12_putOnTape_3 rfl (lv_at hl 0 rfl) ?_
  refine lv_if_lt (tgt := 45) hx hb dX12_putOnTape_4 (by decide) (fun h9 => absurd h9 (by decide)) (fun _ => ?_)
  refine lv_aload_n hx hb dX12_putOnTape_7 rfl (lv_at hl 1 rfl) ?_
  refine va_get (D := (dC, dI)) (ci := 13) (v := .int 15) (C := RX12) (T := TX12) (N := 12) hx hb hts hi_k_X12_putOnTape_v3_X12 hown hK hP 0 rfl rfl 1 (by decide) (hts (.fieldLink RX12 58 "TimeMachine" "taped" "I") (List.mem_of_getElem? (i := 1) rfl)) (fun _ h9 => h9) rfl dX12_putOnTape_8 ?_
  refine lv_ldc hx hb hown (hts (.constant RX12 9 (32768)) (List.mem_of_getElem? (i := 2) rfl)) dX12_putOnTape_11 ?_
  refine lv_icmp_ge (tgt := 39) hx hb dX12_putOnTape_13 (by decide) (fun h9 => absurd h9 (by decide)) (fun _ => ?_)
  refine lv_aload_n hx hb dX12_putOnTape_16 rfl (lv_at hl 1 rfl) ?_
  refine va_get (D := (dC, dI)) (ci := 13) (v := .ref c1) (C := RX12) (T := TX12) (N := 12) hx hb hts hi_k_X12_putOnTape_v3_X12 hown hK hP 0 rfl rfl 0 (by decide) (hts (.fieldLink RX12 10 "TimeMachine" "tape" "[B") (List.mem_of_getElem? (i := 3) rfl)) (fun _ h9 => h9) rfl dX12_putOnTape_17 ?_
  refine lv_aload_n hx hb dX12_putOnTape_20 rfl (lv_at hl 1 rfl) ?_
  refine va_get (D := (dC, dI)) (ci := 13) (v := .int 15) (C := RX12) (T := TX12) (N := 12) hx hb hts hi_k_X12_putOnTape_v3_X12 hown hK hP 0 rfl rfl 1 (by decide) (hts (.fieldLink RX12 58 "TimeMachine" "taped" "I") (List.mem_of_getElem? (i := 1) rfl)) (fun _ h9 => h9) rfl dX12_putOnTape_21 ?_
  refine lv_iload_n hx hb dX12_putOnTape_24 rfl (lv_at hl 2 rfl) ?_
  refine lv_iload_n hx hb dX12_putOnTape_25 rfl (lv_at hl 0 rfl) ?_
  refine lv_ishr hx hb dX12_putOnTape_26 ?_
  refine lv_topi (fun z13 ez13 => ?_)
  refine lv_i2b hx hb dX12_putOnTape_27 rfl ?_
  refine lv_topi (fun z14 ez14 => ?_)
  refine va_bast (i := 15) (x := z14) hx hb hK hP hD hS 1 0 rfl rfl (vp_in_iff.mpr ⟨by decide, by decide⟩) dX12_putOnTape_28 (fun H locs hP hD hS => ?_)
  generalize hf15 : upd f11 (Int32.toNatClampNeg 15) (vp_nar .byte z14) = f15 at hP hD
  have hP : va_P (dC, dI) vwCl [(c0, .inr (13, [.ref c1, .int 15, .int 0, .ref c5, .ref c6, .ref c7, .ref c8, .ref c9, .ref c10, .ref c11, .int 0, .ref c12])), (c1, .inl (c2, 32768, .inl f15))] H := hP
  have hD : va_D A [(c0, .inr (13, [.ref c1, .int 15, .int 0, .ref c5, .ref c6, .ref c7, .ref c8, .ref c9, .ref c10, .ref c11, .int 0, .ref c12])), (c1, .inl (c2, 32768, .inl f15))] := hD
  refine lv_aload_n hx hb dX12_putOnTape_29 rfl (lv_at hl 1 rfl) ?_
  refine lv_dup hx hb dX12_putOnTape_30 rfl ?_
  refine va_get (D := (dC, dI)) (ci := 13) (v := .int 15) (C := RX12) (T := TX12) (N := 12) hx hb hts hi_k_X12_putOnTape_v3_X12 hown hK hP 0 rfl rfl 1 (by decide) (hts (.fieldLink RX12 58 "TimeMachine" "taped" "I") (List.mem_of_getElem? (i := 1) rfl)) (fun _ h9 => h9) rfl dX12_putOnTape_31 ?_
  refine lv_iconst (v := 1) hx hb dX12_putOnTape_34 (by decide) ?_
  refine lv_iadd hx hb dX12_putOnTape_35 ?_
  refine lv_topi (fun z16 ez16 => ?_)
  obtain rfl : z16 = 16 := ez16.trans (by decide)
  refine va_put (D := (dC, dI)) (ci := 13) (v := .int 16) (ty := .int) (C := RX12) (T := TX12) (N := 12) hx hb hts hi_k_X12_putOnTape_v3_X12 tyX12 tyX12_ok nmX12 hown hK hP hD hS 0 rfl rfl 1 (by decide) (hts (.fieldLink RX12 58 "TimeMachine" "taped" "I") (List.mem_of_getElem? (i := 1) rfl)) (fun _ h9 => h9) rfl (by decide +kernel) rfl rfl (Nat.le_of_ble_eq_true rfl) dX12_putOnTape_36 (fun H locs hP hD hS => ?_)
  have hP : va_P (dC, dI) vwCl [(c0, .inr (13, [.ref c1, .int 16, .int 0, .ref c5, .ref c6, .ref c7, .ref c8, .ref c9, .ref c10, .ref c11, .int 0, .ref c12])), (c1, .inl (c2, 32768, .inl f15))] H := hP
  have hD : va_D A [(c0, .inr (13, [.ref c1, .int 16, .int 0, .ref c5, .ref c6, .ref c7, .ref c8, .ref c9, .ref c10, .ref c11, .int 0, .ref c12])), (c1, .inl (c2, 32768, .inl f15))] := hD
  refine lv_iinc (v := (-8)) (lv' := [(2, .int (-8)), (0, .ref c0), (1, .int c4)]) hx hb dX12_putOnTape_39 hl (k := 0) rfl (by decide) (by decide) rfl (fun ls hl => ?_)
  refine lv_goto (tgt := 3) hx hb dX12_putOnTape_42 (by decide) ?_
  refine lv_iload_n hx hb dX12_putOnTape_3 rfl (lv_at hl 0 rfl) ?_
  refine lv_if_lt (tgt := 45) hx hb dX12_putOnTape_4 (by decide) (fun _ => ?_) (fun h9 => absurd (by decide) h9)
  have hP9 := hP.sub (ws' := [(c0, .inr (13, [.ref c1, .int 16, .int 0, .ref c5, .ref c6, .ref c7, .ref c8, .ref c9, .ref c10, .ref c11, .int 0, .ref c12])), (c1, .inl (c2, 32768, .inl f15))]) [0, 1] rfl
  have hD9 := hD.sub (ws' := [(c0, .inr (13, [.ref c1, .int 16, .int 0, .ref c5, .ref c6, .ref c7, .ref c8, .ref c9, .ref c10, .ref c11, .int 0, .ref c12])), (c1, .inl (c2, 32768, .inl f15))]) [0, 1] (by decide) rfl
  have hK9 := hK.sub (tys' := [(c2, .byte)]) [0] rfl
  refine W.widen (k := 0) (n := 0) (by decide +kernel) (by decide +kernel) ?_
  exact W.vret hx hb hr (fun t ht hW => ⟨⟨(), rfl, trivial, f15, by rw [ht]; exact hP9, va_K.moved hW.alike hK9, hD9⟩, hS.F ht⟩) hS.2.2 dX12_putOnTape_45
def ow_k_X12_putOnTape_v4 : List Cond := .code yX12_putOnTape cX12_putOnTape 3 none :: ([.fieldLink RX12 58 "TimeMachine" "taped" "I", .constant RX12 9 (32768), .fieldLink RX12 10 "TimeMachine" "tape" "[B"] ++ (u_ws RX12 TX12 12 ++ []))
theorem gd_k_X12_putOnTape_v4 : ∀ w ∈ ow_k_X12_putOnTape_v4, (w.onTables && w.keeps) = true ∨ ∃ ty, w = Cond.arrayClass ty := List.forall_mem_cons.mpr ⟨good_of_word rfl, List.forall_mem_append.mpr ⟨fun w h => good_of_word (List.all_eq_true.mp (by decide +kernel) w h), List.forall_mem_append.mpr ⟨gu_X12, fun _ h => nomatch h⟩⟩⟩
theorem hi_k_X12_putOnTape_v4_X12 : ∀ w ∈ u_ws RX12 TX12 12, w ∈ ow_k_X12_putOnTape_v4 := fun w h => List.mem_cons_of_mem _ (List.mem_append_right _ (List.mem_append_left _ h))
set_option maxHeartbeats 40000000 in
set_option maxRecDepth 100000 in
theorem k_X12_putOnTape_v4 (l : Launch) (hlt : l.stackTraces = false) (dC : Nat → ClassId) (dI : Nat → Nat → Nat) (c0 : Nat) (c1 : Nat) (c2 : ClassId) (c3 : Nat → Int32) (c4 : Int32) (c5 : Nat) (c6 : Nat) (c7 : Nat) (c8 : Nat) (c9 : Nat) (c10 : Nat) (c11 : Nat) (c12 : Nat) (sz : Nat) : Met l yX12_putOnTape ow_k_X12_putOnTape_v4 ({ frames := 0, cells := 0, slots := 0, locals := 0 }) (va_Pc [.ref c0, .int c4] (fun U => U.heap.size = sz ∧ va_P (dC, dI) vwCl [(c0, .inr (13, [.ref c1, .int 16, .int 0, .ref c5, .ref c6, .ref c7, .ref c8, .ref c9, .ref c10, .ref c11, .int 0, .ref c12])), (c1, .inl (c2, 32768, .inl c3))] U.heap ∧ va_K (dC, dI) vwCl [(c2, .byte)] U ∧ va_D (fun _ => True) [(c0, .inr (13, [.ref c1, .int 16, .int 0, .ref c5, .ref c6, .ref c7, .ref c8, .ref c9, .ref c10, .ref c11, .int 0, .ref c12])), (c1, .inl (c2, 32768, .inl c3))] ∧ nv_E (va_A [(c0, .inr (13, [.ref c1, .int 16, .int 0, .ref c5, .ref c6, .ref c7, .ref c8, .ref c9, .ref c10, .ref c11, .int 0, .ref c12])), (c1, .inl (c2, 32768, .inl c3))] sz) U)) (va_Qv (fun _ => True) (fun (_ : Unit) t => ∃ (f15 : Nat → Int32), va_P (dC, dI) vwCl [(c0, .inr (13, [.ref c1, .int 20, .int 0, .ref c5, .ref c6, .ref c7, .ref c8, .ref c9, .ref c10, .ref c11, .int 0, .ref c12])), (c1, .inl (c2, 32768, .inl f15))] t.heap ∧ va_K (dC, dI) vwCl [(c2, .byte)] t ∧ va_D (va_A [(c0, .inr (13, [.ref c1, .int 16, .int 0, .ref c5, .ref c6, .ref c7, .ref c8, .ref c9, .ref c10, .ref c11, .int 0, .ref c12])), (c1, .inl (c2, 32768, .inl c3))] sz) [(c0, .inr (13, [.ref c1, .int 20, .int 0, .ref c5, .ref c6, .ref c7, .ref c8, .ref c9, .ref c10, .ref c11, .int 0, .ref c12])), (c1, .inl (c2, 32768, .inl f15))]) (va_A [(c0, .inr (13, [.ref c1, .int 16, .int 0, .ref c5, .ref c6, .ref c7, .ref c8, .ref c9, .ref c10, .ref c11, .int 0, .ref c12])), (c1, .inl (c2, 32768, .inl c3))] sz)) 0 0 (va_A [(c0, .inr (13, [.ref c1, .int 16, .int 0, .ref c5, .ref c6, .ref c7, .ref c8, .ref c9, .ref c10, .ref c11, .int 0, .ref c12])), (c1, .inl (c2, 32768, .inl c3))] sz) := by
  refine Met.ofW (cc := cX12_putOnTape) (maxL := 3) (ret := none) (by decide) rfl ?_
  intro p e s m args below meth c s₁ B hml hv
  obtain ⟨rfl, hsz, hP, hK, hD0, hN⟩ := hv
  have hx := B.exec
  have hb := B.bytes
  have hr := B.returns
  have hts := atoms_spec (ws := ow_k_X12_putOnTape_v4) B.pre
  have hown : s.vm.findClass RX12 = some m.cls := findClass_of_methodNamed B.named
  have hlocks := B.notSynchronized
  subst hsz
  have hD := hD0.self (sz := s.heap.size)
  generalize hAe : va_A [(c0, .inr (13, [.ref c1, .int 16, .int 0, .ref c5, .ref c6, .ref c7, .ref c8, .ref c9, .ref c10, .ref c11, .int 0, .ref c12])), (c1, .inl (c2, 32768, .inl c3))] s.heap.size = A at hD hN ⊢
  have hA : ∀ q : Nat, s.heap.size ≤ q → A q := fun q h => by rw [← hAe]; exact Or.inr h
  have hS : va_S A s.heap s.heap [] := va_S.rf
  have hl := lv_entry ([.ref c0, .int c4]) (n := 3) (Nat.le_of_ble_eq_true rfl)
  rw [lg_entry_eq]
  generalize (lg_sl ([.ref c0, .int c4]) ++ List.replicate (3 - (lg_sl ([.ref c0, .int c4])).length) Slot.unset).toArray = ls at hl ⊢
  have hl : lv_has ls 3 [(0, .ref c0), (1, .int c4)] := hl
  refine lv_bipush (v := 24) hx hb dX12_putOnTape_0 (by decide) ?_
  refine lv_istore_n (lv' := [(2, .int 24), (0, .ref c0), (1, .int c4)]) hx hb dX12_putOnTape_2 rfl hl (by decide) rfl (fun ls hl => ?_)
  refine lv_iload_n hx hb dX12_putOnTape_3 rfl (lv_at hl 0 rfl) ?_
  refine lv_if_lt (tgt := 45) hx hb dX12_putOnTape_4 (by decide) (fun h9 => absurd h9 (by decide)) (fun _ => ?_)
  refine lv_aload_n hx hb dX12_putOnTape_7 rfl (lv_at hl 1 rfl) ?_
  refine va_get (D := (dC, dI)) (ci := 13) (v := .int 16) (C := RX12) (T := TX12) (N := 12) hx hb hts hi_k_X12_putOnTape_v4_X12 hown hK hP 0 rfl rfl 1 (by decide) (hts (.fieldLink RX12 58 "TimeMachine" "taped" "I") (List.mem_of_getElem? (i := 1) rfl)) (fun _ h9 => h9) rfl dX12_putOnTape_8 ?_
  refine lv_ldc hx hb hown (hts (.constant RX12 9 (32768)) (List.mem_of_getElem? (i := 2) rfl)) dX12_putOnTape_11 ?_
  refine lv_icmp_ge (tgt := 39) hx hb dX12_putOnTape_13 (by decide) (fun h9 => absurd h9 (by decide)) (fun _ => ?_)
  refine lv_aload_n hx hb dX12_putOnTape_16 rfl (lv_at hl 1 rfl) ?_
  refine va_get (D := (dC, dI)) (ci := 13) (v := .ref c1) (C := RX12) (T := TX12) (N := 12) hx hb hts hi_k_X12_putOnTape_v4_X12 hown hK hP 0 rfl rfl 0 (by decide) (hts (.fieldLink RX12 10 "TimeMachine" "tape" "[B") (List.mem_of_getElem? (i := 3) rfl)) (fun _ h9 => h9) rfl dX12_putOnTape_17 ?_
  refine lv_aload_n hx hb dX12_putOnTape_20 rfl (lv_at hl 1 rfl) ?_
  refine va_get (D := (dC, dI)) (ci := 13) (v := .int 16) (C := RX12) (T := TX12) (N := 12) hx hb hts hi_k_X12_putOnTape_v4_X12 hown hK hP 0 rfl rfl 1 (by decide) (hts (.fieldLink RX12 58 "TimeMachine" "taped" "I") (List.mem_of_getElem? (i := 1) rfl)) (fun _ h9 => h9) rfl dX12_putOnTape_21 ?_
  refine lv_iload_n hx hb dX12_putOnTape_24 rfl (lv_at hl 2 rfl) ?_
  refine lv_iload_n hx hb dX12_putOnTape_25 rfl (lv_at hl 0 rfl) ?_
  refine lv_ishr hx hb dX12_putOnTape_26 ?_
  refine lv_topi (fun z1 ez1 => ?_)
  refine lv_i2b hx hb dX12_putOnTape_27 rfl ?_
  refine lv_topi (fun z2 ez2 => ?_)
  refine va_bast (i := 16) (x := z2) hx hb hK hP hD hS 1 0 rfl rfl (vp_in_iff.mpr ⟨by decide, by decide⟩) dX12_putOnTape_28 (fun H locs hP hD hS => ?_)
  generalize hf3 : upd c3 (Int32.toNatClampNeg 16) (vp_nar .byte z2) = f3 at hP hD
  have hP : va_P (dC, dI) vwCl [(c0, .inr (13, [.ref c1, .int 16, .int 0, .ref c5, .ref c6, .ref c7, .ref c8, .ref c9, .ref c10, .ref c11, .int 0, .ref c12])), (c1, .inl (c2, 32768, .inl f3))] H := hP
  have hD : va_D A [(c0, .inr (13, [.ref c1, .int 16, .int 0, .ref c5, .ref c6, .ref c7, .ref c8, .ref c9, .ref c10, .ref c11, .int 0, .ref c12])), (c1, .inl (c2, 32768, .inl f3))] := hD
  refine lv_aload_n hx hb dX12_putOnTape_29 rfl (lv_at hl 1 rfl) ?_
  refine lv_dup hx hb dX12_putOnTape_30 rfl ?_
  refine va_get (D := (dC, dI)) (ci := 13) (v := .int 16) (C := RX12) (T := TX12) (N := 12) hx hb hts hi_k_X12_putOnTape_v4_X12 hown hK hP 0 rfl rfl 1 (by decide) (hts (.fieldLink RX12 58 "TimeMachine" "taped" "I") (List.mem_of_getElem? (i := 1) rfl)) (fun _ h9 => h9) rfl dX12_putOnTape_31 ?_
  refine lv_iconst (v := 1) hx hb dX12_putOnTape_34 (by decide) ?_
  refine lv_iadd hx hb dX12_putOnTape_35 ?_
  refine lv_topi (fun z4 ez4 => ?_)
  obtain rfl : z4 = 17 := ez4.trans (by decide)
  refine va_put (D := (dC, dI)) (ci := 13) (v := .int 17) (ty := .int) (C := RX12) (T := TX12) (N := 12) hx hb hts hi_k_X12_putOnTape_v4_X12 tyX12 tyX12_ok nmX12 hown hK hP hD hS 0 rfl rfl 1 (by decide) (hts (.fieldLink RX12 58 "TimeMachine" "taped" "I") (List.mem_of_getElem? (i := 1) rfl)) (fun _ h9 => h9) rfl (by decide +kernel) rfl rfl (Nat.le_of_ble_eq_true rfl) dX12_putOnTape_36 (fun H locs hP hD hS => ?_)
  have hP : va_P (dC, dI) vwCl [(c0, .inr (13, [.ref c1, .int 17, .int 0, .ref c5, .ref c6, .ref c7, .ref c8, .ref c9, .ref c10, .ref c11, .int 0, .ref c12])), (c1, .inl (c2, 32768, .inl f3))] H := hP
  have hD : va_D A [(c0, .inr (13, [.ref c1, .int 17, .int 0, .ref c5, .ref c6, .ref c7, .ref c8, .ref c9, .ref c10, .ref c11, .int 0, .ref c12])), (c1, .inl (c2, 32768, .inl f3))] := hD
  refine lv_iinc (v := 16) (lv' := [(2, .int 16), (0, .ref c0), (1, .int c4)]) hx hb dX12_putOnTape_39 hl (k := 0) rfl (by decide) (by decide) rfl (fun ls hl => ?_)
  refine lv_goto (tgt := 3) hx hb dX12_putOnTape_42 (by decide) ?_
  refine lv_iload_n hx hb dX12_putOnTape_3 rfl (lv_at hl 0 rfl) ?_
  refine lv_if_lt (tgt := 45) hx hb dX12_putOnTape_4 (by decide) (fun h9 => absurd h9 (by decide)) (fun _ => ?_)
  refine lv_aload_n hx hb dX12_putOnTape_7 rfl (lv_at hl 1 rfl) ?_
  refine va_get (D := (dC, dI)) (ci := 13) (v := .int 17) (C := RX12) (T := TX12) (N := 12) hx hb hts hi_k_X12_putOnTape_v4_X12 hown hK hP 0 rfl rfl 1 (by decide) (hts (.fieldLink RX12 58 "TimeMachine" "taped" "I") (List.mem_of_getElem? (i := 1) rfl)) (fun _ h9 => h9) rfl dX12_putOnTape_8 ?_
  refine lv_ldc hx hb hown (hts (.constant RX12 9 (32768)) (List.mem_of_getElem? (i := 2) rfl)) dX12_putOnTape_11 ?_
  refine lv_icmp_ge (tgt := 39) hx hb dX12_putOnTape_13 (by decide) (fun h9 => absurd h9 (by decide)) (fun _ => ?_)
  refine lv_aload_n hx hb dX12_putOnTape_16 rfl (lv_at hl 1 rfl) ?_
  refine va_get (D := (dC, dI)) (ci := 13) (v := .ref c1) (C := RX12) (T := TX12) (N := 12) hx hb hts hi_k_X12_putOnTape_v4_X12 hown hK hP 0 rfl rfl 0 (by decide) (hts (.fieldLink RX12 10 "TimeMachine" "tape" "[B") (List.mem_of_getElem? (i := 3) rfl)) (fun _ h9 => h9) rfl dX12_putOnTape_17 ?_
  refine lv_aload_n hx hb dX12_putOnTape_20 rfl (lv_at hl 1 rfl) ?_
  refine va_get (D := (dC, dI)) (ci := 13) (v := .int 17) (C := RX12) (T := TX12) (N := 12) hx hb hts hi_k_X12_putOnTape_v4_X12 hown hK hP 0 rfl rfl 1 (by decide) (hts (.fieldLink RX12 58 "TimeMachine" "taped" "I") (List.mem_of_getElem? (i := 1) rfl)) (fun _ h9 => h9) rfl dX12_putOnTape_21 ?_
  refine lv_iload_n hx hb dX12_putOnTape_24 rfl (lv_at hl 2 rfl) ?_
  refine lv_iload_n hx hb dX12_putOnTape_25 rfl (lv_at hl 0 rfl) ?_
  refine lv_ishr hx hb dX12_putOnTape_26 ?_
  refine lv_topi (fun z5 ez5 => ?_)
  refine lv_i2b hx hb dX12_putOnTape_27 rfl ?_
  refine lv_topi (fun z6 ez6 => ?_)
  refine va_bast (i := 17) (x := z6) hx hb hK hP hD hS 1 0 rfl rfl (vp_in_iff.mpr ⟨by decide, by decide⟩) dX12_putOnTape_28 (fun H locs hP hD hS => ?_)
  generalize hf7 : upd f3 (Int32.toNatClampNeg 17) (vp_nar .byte z6) = f7 at hP hD
  have hP : va_P (dC, dI) vwCl [(c0, .inr (13, [.ref c1, .int 17, .int 0, .ref c5, .ref c6, .ref c7, .ref c8, .ref c9, .ref c10, .ref c11, .int 0, .ref c12])), (c1, .inl (c2, 32768, .inl f7))] H := hP
  have hD : va_D A [(c0, .inr (13, [.ref c1, .int 17, .int 0, .ref c5, .ref c6, .ref c7, .ref c8, .ref c9, .ref c10, .ref c11, .int 0, .ref c12])), (c1, .inl (c2, 32768, .inl f7))] := hD
  refine lv_aload_n hx hb dX12_putOnTape_29 rfl (lv_at hl 1 rfl) ?_
  refine lv_dup hx hb dX12_putOnTape_30 rfl ?_
  refine va_get (D := (dC, dI)) (ci := 13) (v := .int 17) (C := RX12) (T := TX12) (N := 12) hx hb hts hi_k_X12_putOnTape_v4_X12 hown hK hP 0 rfl rfl 1 (by decide) (hts (.fieldLink RX12 58 "TimeMachine" "taped" "I") (List.mem_of_getElem? (i := 1) rfl)) (fun _ h9 => h9) rfl dX12_putOnTape_31 ?_
  refine lv_iconst (v := 1) hx hb dX12_putOnTape_34 (by decide) ?_
  refine lv_iadd hx hb dX12_putOnTape_35 ?_
  refine lv_topi (fun z8 ez8 => ?_)
  obtain rfl : z8 = 18 := ez8.trans (by decide)
  refine va_put (D := (dC, dI)) (ci := 13) (v := .int 18) (ty := .int) (C := RX12) (T := TX12) (N := 12) hx hb hts hi_k_X12_putOnTape_v4_X12 tyX12 tyX12_ok nmX12 hown hK hP hD hS 0 rfl rfl 1 (by decide) (hts (.fieldLink RX12 58 "TimeMachine" "taped" "I") (List.mem_of_getElem? (i := 1) rfl)) (fun _ h9 => h9) rfl (by decide +kernel) rfl rfl (Nat.le_of_ble_eq_true rfl) dX12_putOnTape_36 (fun H locs hP hD hS => ?_)
  have hP : va_P (dC, dI) vwCl [(c0, .inr (13, [.ref c1, .int 18, .int 0, .ref c5, .ref c6, .ref c7, .ref c8, .ref c9, .ref c10, .ref c11, .int 0, .ref c12])), (c1, .inl (c2, 32768, .inl f7))] H := hP
  have hD : va_D A [(c0, .inr (13, [.ref c1, .int 18, .int 0, .ref c5, .ref c6, .ref c7, .ref c8, .ref c9, .ref c10, .ref c11, .int 0, .ref c12])), (c1, .inl (c2, 32768, .inl f7))] := hD
  refine lv_iinc (v := 8) (lv' := [(2, .int 8), (0, .ref c0), (1, .int c4)]) hx hb dX12_putOnTape_39 hl (k := 0) rfl (by decide) (by decide) rfl (fun ls hl => ?_)
  refine lv_goto (tgt := 3) hx hb dX12_putOnTape_42 (by decide) ?_
  refine lv_iload_n hx hb dX12_putOnTape_3 rfl (lv_at hl 0 rfl) ?_
  refine lv_if_lt (tgt := 45) hx hb dX12_putOnTape_4 (by decide) (fun h9 => absurd h9 (by decide)) (fun _ => ?_)
  refine lv_aload_n hx hb dX12_putOnTape_7 rfl (lv_at hl 1 rfl) ?_
  refine va_get (D := (dC, dI)) (ci := 13) (v := .int 18) (C := RX12) (T := TX12) (N := 12) hx hb hts hi_k_X12_putOnTape_v4_X12 hown hK hP 0 rfl rfl 1 (by decide) (hts (.fieldLink RX12 58 "TimeMachine" "taped" "I") (List.mem_of_getElem? (i := 1) rfl)) (fun _ h9 => h9) rfl dX12_putOnTape_8 ?_
  refine lv_ldc hx hb hown (hts (.constant RX12 9 (32768)) (List.mem_of_getElem? (i := 2) rfl)) dX12_putOnTape_11 ?_
  refine lv_icmp_ge (tgt := 39) hx hb dX12_putOnTape_13 (by decide) (fun h9 => absurd h9 (by decide)) (fun _ => ?_)
  refine lv_aload_n hx hb dX12_putOnTape_16 rfl (lv_at hl 1 rfl) ?_
  refine va_get (D := (dC, dI)) (ci := 13) (v := .ref c1) (C := RX12) (T := TX12) (N := 12) hx hb hts hi_k_X12_putOnTape_v4_X12 hown hK hP 0 rfl rfl 0 (by decide) (hts (.fieldLink RX12 10 "TimeMachine" "tape" "[B") (List.mem_of_getElem? (i := 3) rfl)) (fun _ h9 => h9) rfl dX12_putOnTape_17 ?_
  refine lv_aload_n hx hb dX12_putOnTape_20 rfl (lv_at hl 1 rfl) ?_
  refine va_get (D := (dC, dI)) (ci := 13) (v := .int 18) (C := RX12) (T := TX12) (N := 12) hx hb hts hi_k_X12_putOnTape_v4_X12 hown hK hP 0 rfl rfl 1 (by decide) (hts (.fieldLink RX12 58 "TimeMachine" "taped" "I") (List.mem_of_getElem? (i := 1) rfl)) (fun _ h9 => h9) rfl dX12_putOnTape_21 ?_
  refine lv_iload_n hx hb dX12_putOnTape_24 rfl (lv_at hl 2 rfl) ?_
  refine lv_iload_n hx hb dX12_putOnTape_25 rfl (lv_at hl 0 rfl) ?_
  refine lv_ishr hx hb dX12_putOnTape_26 ?_
  refine lv_topi (fun z9 ez9 => ?_)
  refine lv_i2b hx hb dX12_putOnTape_27 rfl ?_
  refine lv_topi (fun z10 ez10 => ?_)
  refine va_bast (i := 18) (x := z10) hx hb hK hP hD hS 1 0 rfl rfl (vp_in_iff.mpr ⟨by decide, by decide⟩) dX12_putOnTape_28 (fun H locs hP hD hS => ?_)
  generalize hf11 : upd f7 (Int32.toNatClampNeg 18) (vp_nar .byte z10) = f11 at hP hD
  have hP : va_P (dC, dI) vwCl [(c0, .inr (13, [.ref c1, .int 18, .int 0, .ref c5, .ref c6, .ref c7, .ref c8, .ref c9, .ref c10, .ref c11, .int 0, .ref c12])), (c1, .inl (c2, 32768, .inl f11))] H := hP
  have hD : va_D A [(c0, .inr (13, [.ref c1, .int 18, .int 0, .ref c5, .ref c6, .ref c7, .ref c8, .ref c9, .ref c10, .ref c11, .int 0, .ref c12])), (c1, .inl (c2, 32768, .inl f11))] := hD
  refine lv_aload_n hx hb dX12_putOnTape_29 rfl (lv_at hl 1 rfl) ?_
  refine lv_dup hx hb dX12_putOnTape_30 rfl ?_
  refine va_get (D := (dC, dI)) (ci := 13) (v := .int 18) (C := RX12) (T := TX12) (N := 12) hx hb hts hi_k_X12_putOnTape_v4_X12 hown hK hP 0 rfl rfl 1 (by decide) (hts (.fieldLink RX12 58 "TimeMachine" "taped" "I") (List.mem_of_getElem? (i := 1) rfl)) (fun _ h9 => h9) rfl dX12_putOnTape_31 ?_
  refine lv_iconst (v := 1) hx hb dX12_putOnTape_34 (by decide) ?_
  refine lv_iadd hx hb dX12_putOnTape_35 ?_
  refine lv_topi (fun z12 ez12 => ?_)
  obtain rfl : z12 = 19 := ez12.trans (by decide)
  refine va_put (D := (dC, dI)) (ci := 13) (v := .int 19) (ty := .int) (C := RX12) (T := TX12) (N := 12) hx hb hts hi_k_X12_putOnTape_v4_X12 tyX12 tyX12_ok nmX12 hown hK hP hD hS 0 rfl rfl 1 (by decide) (hts (.fieldLink RX12 58 "TimeMachine" "taped" "I") (List.mem_of_getElem? (i := 1) rfl)) (fun _ h9 => h9) rfl (by decide +kernel) rfl rfl (Nat.le_of_ble_eq_true rfl) dX12_putOnTape_36 (fun H locs hP hD hS => ?_)
  have hP : va_P (dC, dI) vwCl [(c0, .inr (13, [.ref c1, .int 19, .int 0, .ref c5, .ref c6, .ref c7, .ref c8, .ref c9, .ref c10, .ref c11, .int 0, .ref c12])), (c1, .inl (c2, 32768, .inl f11))] H := hP
  have hD : va_D A [(c0, .inr (13, [.ref c1, .int 19, .int 0, .ref c5, .ref c6, .ref c7, .ref c8, .ref c9, .ref c10, .ref c11, .int 0, .ref c12])), (c1, .inl (c2, 32768, .inl f11))] := hD
  refine lv_iinc (v := 0) (lv' := [(2, .int 0), (0, .ref c0), (1, .int c4)]) hx hb dX12_putOnTape_39 hl (k := 0) rfl (by decide) (by decide) rfl (fun ls hl => ?_)
  refine lv_goto (tgt := 3) hx hb dX12_putOnTape_42 (by decide) ?_
  refine lv_iload_n hx hb dX12_putOnTape_3 rfl (lv_at hl 0 rfl) ?_
  refine lv_if_lt (tgt := 45) hx hb dX12_putOnTape_4 (by decide) (fun h9 => absurd h9 (by decide)) (fun _ => ?_)
  refine lv_aload_n hx hb dX12_putOnTape_7 rfl (lv_at hl 1 rfl) ?_
  refine va_get (D := (dC, dI)) (ci := 13) (v := .int 19) (C := RX12) (T := TX12) (N := 12) hx hb hts hi_k_X12_putOnTape_v4_X12 hown hK hP 0 rfl rfl 1 (by decide) (hts (.fieldLink RX12 58 "TimeMachine" "taped" "I") (List.mem_of_getElem? (i := 1) rfl)) (fun _ h9 => h9) rfl dX12_putOnTape_8 ?_
  refine lv_ldc hx hb hown (hts (.constant RX12 9 (32768)) (List.mem_of_getElem? (i := 2) rfl)) dX12_putOnTape_11 ?_
  refine lv_icmp_ge (tgt := 39) hx hb dX12_putOnTape_13 (by decide) (fun h9 => absurd h9 (by decide)) (fun _ => ?_)
  refine lv_aload_n hx hb dX12_putOnTape_16 rfl (lv_at hl 1 rfl) ?_
  refine va_get (D := (dC, dI)) (ci := 13) (v := .ref c1) (C := RX12) (T := TX12) (N := 12) hx hb hts hi_k_X12_putOnTape_v4_X12 hown hK hP 0 rfl rfl 0 (by decide) (hts (.fieldLink RX12 10 "TimeMachine" "tape" "[B") (List.mem_of_getElem? (i := 3) rfl)) (fun _ h9 => h9) rfl dX12_putOnTape_17 ?_
  refine lv_aload_n hx hb dX12_putOnTape_20 rfl (lv_at hl 1 rfl) ?_
  refine va_get (D := (dC, dI)) (ci := 13) (v := .int 19) (C := RX12) (T := TX12) (N := 12) hx hb hts hi_k_X12_putOnTape_v4_X12 hown hK hP 0 rfl rfl 1 (by decide) (hts (.fieldLink RX12 58 "TimeMachine" "taped" "I") (List.mem_of_getElem? (i := 1) rfl)) (fun _ h9 => h9) rfl dX12_putOnTape_21 ?_
  refine lv_iload_n hx hb dX12_putOnTape_24 rfl (lv_at hl 2 rfl) ?_
  refine lv_iload_n hx hb dX12_putOnTape_25 rfl (lv_at hl 0 rfl) ?_
  refine lv_ishr hx hb dX12_putOnTape_26 ?_
  refine lv_topi (fun z13 ez13 => ?_)
  refine lv_i2b hx hb dX12_putOnTape_27 rfl ?_
  refine lv_topi (fun z14 ez14 => ?_)
  refine va_bast (i := 19) (x := z14) hx hb hK hP hD hS 1 0 rfl rfl (vp_in_iff.mpr ⟨by decide, by decide⟩) dX12_putOnTape_28 (fun H locs hP hD hS => ?_)
  generalize hf15 : upd f11 (Int32.toNatClampNeg 19) (vp_nar .byte z14) = f15 at hP hD
  have hP : va_P (dC, dI) vwCl [(c0, .inr (13, [.ref c1, .int 19, .int 0, .ref c5, .ref c6, .ref c7, .ref c8, .ref c9, .ref c10, .ref c11, .int 0, .ref c12])), (c1, .inl (c2, 32768, .inl f15))] H := hP
  have hD : va_D A [(c0, .inr (13, [.ref c1, .int 19, .int 0, .ref c5, .ref c6, .ref c7, .ref c8, .ref c9, .ref c10, .ref c11, .int 0, .ref c12])), (c1, .inl (c2, 32768, .inl f15))] := hD
  refine lv_aload_n hx hb dX12_putOnTape_29 rfl (lv_at hl 1 rfl) ?_
  refine lv_dup hx hb dX12_putOnTape_30 rfl ?_
  refine va_get (D := (dC, dI)) (ci := 13) (v := .int 19) (C := RX12) (T := TX12) (N := 12) hx hb hts hi_k_X12_putOnTape_v4_X12 hown hK hP 0 rfl rfl 1 (by decide) (hts (.fieldLink RX12 58 "TimeMachine" "taped" "I") (List.mem_of_getElem? (i := 1) rfl)) (fun _ h9 => h9) rfl dX12_putOnTape_31 ?_
  refine lv_iconst (v := 1) hx hb dX12_putOnTape_34 (by decide) ?_
  refine lv_iadd hx hb dX12_putOnTape_35 ?_
  refine lv_topi (fun z16 ez16 => ?_)
  obtain rfl : z16 = 20 := ez16.trans (by decide)
  refine va_put (D := (dC, dI)) (ci := 13) (v := .int 20) (ty := .int) (C := RX12) (T := TX12) (N := 12) hx hb hts hi_k_X12_putOnTape_v4_X12 tyX12 tyX12_ok nmX12 hown hK hP hD hS 0 rfl rfl 1 (by decide) (hts (.fieldLink RX12 58 "TimeMachine" "taped" "I") (List.mem_of_getElem? (i := 1) rfl)) (fun _ h9 => h9) rfl (by decide +kernel) rfl rfl (Nat.le_of_ble_eq_true rfl) dX12_putOnTape_36 (fun H locs hP hD hS => ?_)
  have hP : va_P (dC, dI) vwCl [(c0, .inr (13, [.ref c1, .int 20, .int 0, .ref c5, .ref c6, .ref c7, .ref c8, .ref c9, .ref c10, .ref c11, .int 0, .ref c12])), (c1, .inl (c2, 32768, .inl f15))] H := hP
  have hD : va_D A [(c0, .inr (13, [.ref c1, .int 20, .int 0, .ref c5, .ref c6, .ref c7, .ref c8, .ref c9, .ref c10, .ref c11, .int 0, .ref c12])), (c1, .inl (c2, 32768, .inl f15))] := hD
  refine lv_iinc (v := (-8)) (lv' := [(2, .int (-8)), (0, .ref c0), (1, .int c4)]) hx hb dX12_putOnTape_39 hl (k := 0) rfl (by decide) (by decide) rfl (fun ls hl => ?_)
  refine lv_goto (tgt := 3) hx hb dX12_putOnTape_42 (by decide) ?_
  refine lv_iload_n hx hb dX12_putOnTape_3 rfl (lv_at hl 0 rfl) ?_
  refine lv_if_lt (tgt := 45) hx hb dX12_putOnTape_4 (by decide) (fun _ => ?_) (fun h9 => absurd (by decide) h9)
  have hP9 := hP.sub (ws' := [(c0, .inr (13, [.ref c1, .int 20, .int 0, .ref c5, .ref c6, .ref c7, .ref c8, .ref c9, .ref c10, .ref c11, .int 0, .ref c12])), (c1, .inl (c2, 32768, .inl f15))]) [0, 1] rfl
  have hD9 := hD.sub (ws' := [(c0, .inr (13, [.ref c1, .int 20, .int 0, .ref c5, .ref c6, .ref c7, .ref c8, .ref c9, .ref c10, .ref c11, .int 0, .ref c12])), (c1, .inl (c2, 32768, .inl f15))]) [0, 1] (by decide) rfl
  have hK9 := hK.sub (tys' := [(c2, .byte)]) [0] rfl
  refine W.widen (k := 0) (n := 0) (by decide +kernel) (by decide +kernel) ?_
  exact W.vret hx hb hr (fun t ht hW => ⟨⟨(), rfl, trivial, f15, by rw [ht]; exact hP9, va_K.moved hW.alike hK9, hD9⟩, hS.F ht⟩) hS.2.2 dX12_putOnTape_45
def ow_k_X12_feed : List Cond := .code yX12_feed cX12_feed 6 (some .int) :: ([.fieldLink RX12 58 "TimeMachine" "taped" "I", .constant RX12 9 (32768), .methodLink RX12 62 yX12_putOnTape, .instanceMethod yX12_putOnTape, .selects RX12 yX12_putOnTape yX12_putOnTape, .initialized RX12, .fieldLink RX12 66 "TimeMachine" "fresh" "Z"] ++ (u_ws RX12 TX12 12 ++ (ow_k_X12_putOnTape ++ (ow_k_X12_putOnTape_v1 ++ (ow_k_X12_putOnTape_v2 ++ (ow_k_X12_putOnTape_v3 ++ (ow_k_X12_putOnTape_v4 ++ [])))))))
theorem gd_k_X12_feed : ∀ w ∈ ow_k_X12_feed, (w.onTables && w.keeps) = true ∨ ∃ ty, w = Cond.arrayClass ty := List.forall_mem_cons.mpr ⟨good_of_word rfl, List.forall_mem_append.mpr ⟨fun w h => good_of_word (List.all_eq_true.mp (by decide +kernel) w h), List.forall_mem_append.mpr ⟨gu_X12, List.forall_mem_append.mpr ⟨gd_k_X12_putOnTape, List.forall_mem_append.mpr ⟨gd_k_X12_putOnTape_v1, List.forall_mem_append.mpr ⟨gd_k_X12_putOnTape_v2, List.forall_mem_append.mpr ⟨gd_k_X12_putOnTape_v3, List.forall_mem_append.mpr ⟨gd_k_X12_putOnTape_v4, fun _ h => nomatch h⟩⟩⟩⟩⟩⟩⟩⟩
theorem hi_k_X12_feed_X12 : ∀ w ∈ u_ws RX12 TX12 12, w ∈ ow_k_X12_feed := fun w h => List.mem_cons_of_mem _ (List.mem_append_right _ (List.mem_append_left _ h))
theorem gi_k_X12_feed_0 : GoodIn ow_k_X12_feed (wsV RX12 62 RX12 yX12_putOnTape ow_k_X12_putOnTape) := goodIn_app (goodIn_of _ (by decide +kernel)) (fun w h => ⟨List.mem_cons_of_mem _ (List.mem_append_right _ (List.mem_append_right _ (List.mem_append_left _ h))), gd_k_X12_putOnTape w h⟩)
theorem gi_k_X12_feed_1 : GoodIn ow_k_X12_feed (wsV RX12 62 RX12 yX12_putOnTape ow_k_X12_putOnTape_v1) := goodIn_app (goodIn_of _ (by decide +kernel)) (fun w h => ⟨List.mem_cons_of_mem _ (List.mem_append_right _ (List.mem_append_right _ (List.mem_append_right _ (List.mem_append_left _ h)))), gd_k_X12_putOnTape_v1 w h⟩)
theorem gi_k_X12_feed_2 : GoodIn ow_k_X12_feed (wsV RX12 62 RX12 yX12_putOnTape ow_k_X12_putOnTape_v2) := goodIn_app (goodIn_of _ (by decide +kernel)) (fun w h => ⟨List.mem_cons_of_mem _ (List.mem_append_right _ (List.mem_append_right _ (List.mem_append_right _ (List.mem_append_right _ (List.mem_append_left _ h))))), gd_k_X12_putOnTape_v2 w h⟩)
theorem gi_k_X12_feed_3 : GoodIn ow_k_X12_feed (wsV RX12 62 RX12 yX12_putOnTape ow_k_X12_putOnTape_v3) := goodIn_app (goodIn_of _ (by decide +kernel)) (fun w h => ⟨List.mem_cons_of_mem _ (List.mem_append_right _ (List.mem_append_right _ (List.mem_append_right _ (List.mem_append_right _ (List.mem_append_right _ (List.mem_append_left _ h)))))), gd_k_X12_putOnTape_v3 w h⟩)
theorem gi_k_X12_feed_4 : GoodIn ow_k_X12_feed (wsV RX12 62 RX12 yX12_putOnTape ow_k_X12_putOnTape_v4) := goodIn_app (goodIn_of _ (by decide +kernel)) (fun w h => ⟨List.mem_cons_of_mem _ (List.mem_append_right _ (List.mem_append_right _ (List.mem_append_right _ (List.mem_append_right _ (List.mem_append_right _ (List.mem_append_right _ (List.mem_append_left _ h))))))), gd_k_X12_putOnTape_v4 w h⟩)
