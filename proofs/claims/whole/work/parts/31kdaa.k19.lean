def tbL (T : Nat → Int64) (n k : Nat) : Int64 := if k < n then T k else 0
def tbI (T : Nat → Int32) (n k : Nat) : Int32 := if k < n then T k else 0
theorem tbL_s (T : Nat → Int64) (i : Nat) {j : Int32} {v : Int64} (hj : Int32.toNatClampNeg j = i) (hv : v = T i) : vp_updL (tbL T i) (Int32.toNatClampNeg j) v = tbL T (i + 1) := by
  rw [hj, hv]
  funext k
  unfold vp_updL tbL
  by_cases h : k = i
  · rw [if_pos h, if_pos (by omega), h]
  · rw [if_neg h]
    by_cases g : k < i
    · rw [if_pos g, if_pos (by omega)]
    · rw [if_neg g, if_neg (by omega)]
theorem tbL_z (T : Nat → Int64) {j : Int32} {v : Int64} (hj : Int32.toNatClampNeg j = 0) (hv : v = T 0) : vp_updL (fun _ => 0) (Int32.toNatClampNeg j) v = tbL T 1 := by
  have e : (fun _ => 0) = tbL T 0 := funext fun k => (if_neg (Nat.not_lt_zero k)).symm
  rw [e]
  exact tbL_s T 0 hj hv
theorem tbL_l {T : Nat → Int64} {n k : Nat} (h : k < n) : tbL T n k = T k := if_pos h
theorem tbI_s (T : Nat → Int32) (i : Nat) {j : Int32} {v : Int32} (hj : Int32.toNatClampNeg j = i) (hv : v = T i) : upd (tbI T i) (Int32.toNatClampNeg j) v = tbI T (i + 1) := by
  rw [hj, hv]
  funext k
  unfold upd tbI
  by_cases h : k = i
  · rw [if_pos h, if_pos (by omega), h]
  · rw [if_neg h]
    by_cases g : k < i
    · rw [if_pos g, if_pos (by omega)]
    · rw [if_neg g, if_neg (by omega)]
theorem tbI_z (T : Nat → Int32) {j : Int32} {v : Int32} (hj : Int32.toNatClampNeg j = 0) (hv : v = T 0) : upd (fun _ => 0) (Int32.toNatClampNeg j) v = tbI T 1 := by
  have e : (fun _ => 0) = tbI T 0 := funext fun k => (if_neg (Nat.not_lt_zero k)).symm
  rw [e]
  exact tbI_s T 0 hj hv
theorem tbI_l {T : Nat → Int32} {n k : Nat} (h : k < n) : tbI T n k = T k := if_pos h
def ow_k_X17_init : List Cond := Cond.code yX17_init cX17_init 1 none :: ([Cond.methodLink RX17 1 objectInit, Cond.instanceMethod objectInit, Cond.code objectInit ⟨#[0xb1]⟩ 1 none, Cond.arrayClass .boolean, Cond.fieldLink RX17 7 "TimeMachineModel$Programs" "assembled" "[Z", Cond.arrayClass .int, Cond.fieldLink RX17 13 "TimeMachineModel$Programs" "textSize" "[I", Cond.fieldLink RX17 17 "TimeMachineModel$Programs" "dataBegin" "[I", Cond.fieldLink RX17 20 "TimeMachineModel$Programs" "size" "[I", Cond.constant RX17 23 (32768), Cond.fieldLink RX17 24 "TimeMachineModel$Programs" "image" "[I"] ++ (u_ws RX17 TX17 5 ++ []))
theorem gd_k_X17_init : ∀ w ∈ ow_k_X17_init, (w.onTables && w.keeps) = true ∨ ∃ ty, w = Cond.arrayClass ty := List.forall_mem_cons.mpr ⟨good_of_word rfl, List.forall_mem_append.mpr ⟨fun w h => good_of_word (List.all_eq_true.mp (by decide +kernel) w h), List.forall_mem_append.mpr ⟨gu_X17, fun _ h => nomatch h⟩⟩⟩
theorem hi_k_X17_init_X17 : ∀ w ∈ u_ws RX17 TX17 5, w ∈ ow_k_X17_init := fun w h => List.mem_cons_of_mem _ (List.mem_append_right _ (List.mem_append_left _ h))

set_option maxHeartbeats 40000000 in
set_option maxRecDepth 100000 in
theorem k_X17_init (l : Launch) (hlt : l.stackTraces = false) (dC : Nat → ClassId) (dI : Nat → Nat → Nat) (c0 : Nat) (sz : Nat) : Met l yX17_init ow_k_X17_init ({ frames := 1, cells := 5, slots := 32784, locals := 12 }) (va_Pc [.ref c0] (fun U => U.heap.size = sz ∧ va_P (dC, dI) vwCl [(c0, .inr (18, [.null, .null, .null, .null, .null]))] U.heap ∧ va_K (dC, dI) vwCl [] U ∧ va_D (fun _ => True) [(c0, .inr (18, [.null, .null, .null, .null, .null]))] ∧ nv_E dI (va_A [(c0, .inr (18, [.null, .null, .null, .null, .null]))] sz) U)) (va_Qv (fun _ => True) (fun (_ : Unit) t => ∃ (q1 : Nat) (y2 : ClassId) (q3 : Nat) (y4 : ClassId) (q5 : Nat) (y6 : ClassId) (q7 : Nat) (y8 : ClassId) (q9 : Nat) (y10 : ClassId), va_P (dC, dI) vwCl [(c0, .inr (18, [.ref q1, .ref q3, .ref q5, .ref q7, .ref q9])), (q1, .inl (y2, 4, .inl (fun _ => 0))), (q3, .inl (y4, 4, .inl (fun _ => 0))), (q5, .inl (y6, 4, .inl (fun _ => 0))), (q7, .inl (y8, 4, .inl (fun _ => 0))), (q9, .inl (y10, 32768, .inl (fun _ => 0)))] t.heap ∧ va_K (dC, dI) vwCl [(y2, .boolean), (y4, .int), (y6, .int), (y8, .int), (y10, .int)] t ∧ va_D (va_A [(c0, .inr (18, [.null, .null, .null, .null, .null]))] sz) [(c0, .inr (18, [.ref q1, .ref q3, .ref q5, .ref q7, .ref q9])), (q1, .inl (y2, 4, .inl (fun _ => 0))), (q3, .inl (y4, 4, .inl (fun _ => 0))), (q5, .inl (y6, 4, .inl (fun _ => 0))), (q7, .inl (y8, 4, .inl (fun _ => 0))), (q9, .inl (y10, 32768, .inl (fun _ => 0)))]) (va_A [(c0, .inr (18, [.null, .null, .null, .null, .null]))] sz)) 5 32784 (va_A [(c0, .inr (18, [.null, .null, .null, .null, .null]))] sz) := by
  refine Met.ofW (cc := cX17_init) (maxL := 1) (ret := none) (by decide) rfl ?_
  intro p e s m args below meth c s₁ B hml hv
  obtain ⟨rfl, hsz, hP, hK, hD0, hN⟩ := hv
  have hx := B.exec
  have hb := B.bytes
  have hr := B.returns
  have hts := atoms_spec (ws := ow_k_X17_init) B.pre
  have hown : s.vm.findClass RX17 = some m.cls := findClass_of_methodNamed B.named
  have hlocks := B.notSynchronized
  have hin : meth.name = "<init>" := (name_of_methodNamed B.named B.method).1
  subst hsz
  have hD := hD0.self (sz := s.heap.size)
  generalize hAe : va_A [(c0, .inr (18, [.null, .null, .null, .null, .null]))] s.heap.size = A at hD hN ⊢
  have hA : ∀ q : Nat, s.heap.size ≤ q → A q := fun q h => by rw [← hAe]; exact Or.inr h
  have hS : va_S A s.heap s.heap [] := va_S.rf
  have hl := lv_entry ([.ref c0]) (n := 1) (Nat.le_of_ble_eq_true rfl)
  rw [lg_entry_eq]
  generalize (lg_sl ([.ref c0]) ++ List.replicate (1 - (lg_sl ([.ref c0])).length) Slot.unset).toArray = ls at hl ⊢
  have hl : lv_has ls 1 [(0, .ref c0)] := hl
  refine lv_aload_n hx hb dX17_init_0 rfl (lv_at hl 0 rfl) ?_
  refine W.objInit hx hb hown (hts (.methodLink RX17 1 objectInit) (List.mem_of_getElem? (i := 1) rfl)) (hts (.instanceMethod objectInit) (List.mem_of_getElem? (i := 2) rfl)) (hts (.code objectInit ⟨#[0xb1]⟩ 1 none) (List.mem_of_getElem? (i := 3) rfl)) rfl (by rw [hml]; exact hl.1) rfl dX17_init_1 (Nat.le_of_ble_eq_true rfl) (Nat.le_of_ble_eq_true rfl) ?_
  refine W.eq (g2 := F0 m 4 ls []) rfl ?_
  refine lv_aload_n hx hb dX17_init_4 rfl (lv_at hl 0 rfl) ?_
  refine lv_iconst (v := 4) hx hb dX17_init_5 (by decide) ?_
  refine va_newa (atype := .boolean) (ty := .boolean) (N' := 4) (a0 := (4, .inl (fun _ => 0))) hx hb (hts (.arrayClass .boolean) (List.mem_of_getElem? (i := 4) rfl)) rfl hK hP hD hS hA (fun cA => vp_cell_i cA 4 (fun _ => 0)) (by decide +kernel) (by decide +kernel) (by decide +kernel) (by decide +kernel) (by decide +kernel) dX17_init_6 (fun q1 y2 H hK hP hD hS => ?_)
  have hK : va_K (dC, dI) vwCl [(y2, .boolean)] s := hK
  have hP : va_P (dC, dI) vwCl [(c0, .inr (18, [.null, .null, .null, .null, .null])), (q1, .inl (y2, 4, .inl (fun _ => 0)))] H := hP
  have hD : va_D A [(c0, .inr (18, [.null, .null, .null, .null, .null])), (q1, .inl (y2, 4, .inl (fun _ => 0)))] := hD
  refine W.widen (k := 1) (n := 4) (by decide +kernel) (by decide +kernel) ?_
  refine va_putF (D := (dC, dI)) (ci := 18) (v := .ref q1) (ty := .array .boolean) (C := RX17) (T := TX17) (N := 5) hx hb hts hi_k_X17_init_X17 tyX17 tyX17_ok nmX17 hown hK hP hD hS 0 rfl rfl 0 (by decide) (hts (.fieldLink RX17 7 "TimeMachineModel$Programs" "assembled" "[Z") (List.mem_of_getElem? (i := 5) rfl)) (fun _ h9 => h9) rfl hin rfl (by decide +kernel) rfl rfl (Nat.le_of_ble_eq_true rfl) dX17_init_8 (fun H locs hP hD hS => ?_)
  have hP : va_P (dC, dI) vwCl [(c0, .inr (18, [.ref q1, .null, .null, .null, .null])), (q1, .inl (y2, 4, .inl (fun _ => 0)))] H := hP
  have hD : va_D A [(c0, .inr (18, [.ref q1, .null, .null, .null, .null])), (q1, .inl (y2, 4, .inl (fun _ => 0)))] := hD
  refine lv_aload_n hx hb dX17_init_11 rfl (lv_at hl 0 rfl) ?_
  refine lv_iconst (v := 4) hx hb dX17_init_12 (by decide) ?_
  refine va_newa (atype := .int) (ty := .int) (N' := 4) (a0 := (4, .inl (fun _ => 0))) hx hb (hts (.arrayClass .int) (List.mem_of_getElem? (i := 6) rfl)) rfl hK hP hD hS hA (fun cA => vp_cell_i cA 4 (fun _ => 0)) (by decide +kernel) (by decide +kernel) (by decide +kernel) (by decide +kernel) (by decide +kernel) dX17_init_13 (fun q3 y4 H hK hP hD hS => ?_)
  have hK : va_K (dC, dI) vwCl [(y2, .boolean), (y4, .int)] s := hK
  have hP : va_P (dC, dI) vwCl [(c0, .inr (18, [.ref q1, .null, .null, .null, .null])), (q1, .inl (y2, 4, .inl (fun _ => 0))), (q3, .inl (y4, 4, .inl (fun _ => 0)))] H := hP
  have hD : va_D A [(c0, .inr (18, [.ref q1, .null, .null, .null, .null])), (q1, .inl (y2, 4, .inl (fun _ => 0))), (q3, .inl (y4, 4, .inl (fun _ => 0)))] := hD
  refine W.widen (k := 2) (n := 8) (by decide +kernel) (by decide +kernel) ?_
  refine va_putF (D := (dC, dI)) (ci := 18) (v := .ref q3) (ty := .array .int) (C := RX17) (T := TX17) (N := 5) hx hb hts hi_k_X17_init_X17 tyX17 tyX17_ok nmX17 hown hK hP hD hS 0 rfl rfl 1 (by decide) (hts (.fieldLink RX17 13 "TimeMachineModel$Programs" "textSize" "[I") (List.mem_of_getElem? (i := 7) rfl)) (fun _ h9 => h9) rfl hin rfl (by decide +kernel) rfl rfl (Nat.le_of_ble_eq_true rfl) dX17_init_15 (fun H locs hP hD hS => ?_)
  have hP : va_P (dC, dI) vwCl [(c0, .inr (18, [.ref q1, .ref q3, .null, .null, .null])), (q1, .inl (y2, 4, .inl (fun _ => 0))), (q3, .inl (y4, 4, .inl (fun _ => 0)))] H := hP
  have hD : va_D A [(c0, .inr (18, [.ref q1, .ref q3, .null, .null, .null])), (q1, .inl (y2, 4, .inl (fun _ => 0))), (q3, .inl (y4, 4, .inl (fun _ => 0)))] := hD
  refine lv_aload_n hx hb dX17_init_18 rfl (lv_at hl 0 rfl) ?_
  refine lv_iconst (v := 4) hx hb dX17_init_19 (by decide) ?_
  refine va_newa (atype := .int) (ty := .int) (N' := 4) (a0 := (4, .inl (fun _ => 0))) hx hb (hts (.arrayClass .int) (List.mem_of_getElem? (i := 6) rfl)) rfl hK hP hD hS hA (fun cA => vp_cell_i cA 4 (fun _ => 0)) (by decide +kernel) (by decide +kernel) (by decide +kernel) (by decide +kernel) (by decide +kernel) dX17_init_20 (fun q5 y6 H hK hP hD hS => ?_)
  have hK : va_K (dC, dI) vwCl [(y2, .boolean), (y4, .int), (y6, .int)] s := hK
  have hP : va_P (dC, dI) vwCl [(c0, .inr (18, [.ref q1, .ref q3, .null, .null, .null])), (q1, .inl (y2, 4, .inl (fun _ => 0))), (q3, .inl (y4, 4, .inl (fun _ => 0))), (q5, .inl (y6, 4, .inl (fun _ => 0)))] H := hP
  have hD : va_D A [(c0, .inr (18, [.ref q1, .ref q3, .null, .null, .null])), (q1, .inl (y2, 4, .inl (fun _ => 0))), (q3, .inl (y4, 4, .inl (fun _ => 0))), (q5, .inl (y6, 4, .inl (fun _ => 0)))] := hD
  refine W.widen (k := 3) (n := 12) (by decide +kernel) (by decide +kernel) ?_
  refine va_putF (D := (dC, dI)) (ci := 18) (v := .ref q5) (ty := .array .int) (C := RX17) (T := TX17) (N := 5) hx hb hts hi_k_X17_init_X17 tyX17 tyX17_ok nmX17 hown hK hP hD hS 0 rfl rfl 2 (by decide) (hts (.fieldLink RX17 17 "TimeMachineModel$Programs" "dataBegin" "[I") (List.mem_of_getElem? (i := 8) rfl)) (fun _ h9 => h9) rfl hin rfl (by decide +kernel) rfl rfl (Nat.le_of_ble_eq_true rfl) dX17_init_22 (fun H locs hP hD hS => ?_)
  have hP : va_P (dC, dI) vwCl [(c0, .inr (18, [.ref q1, .ref q3, .ref q5, .null, .null])), (q1, .inl (y2, 4, .inl (fun _ => 0))), (q3, .inl (y4, 4, .inl (fun _ => 0))), (q5, .inl (y6, 4, .inl (fun _ => 0)))] H := hP
  have hD : va_D A [(c0, .inr (18, [.ref q1, .ref q3, .ref q5, .null, .null])), (q1, .inl (y2, 4, .inl (fun _ => 0))), (q3, .inl (y4, 4, .inl (fun _ => 0))), (q5, .inl (y6, 4, .inl (fun _ => 0)))] := hD
  refine lv_aload_n hx hb dX17_init_25 rfl (lv_at hl 0 rfl) ?_
  refine lv_iconst (v := 4) hx hb dX17_init_26 (by decide) ?_
  refine va_newa (atype := .int) (ty := .int) (N' := 4) (a0 := (4, .inl (fun _ => 0))) hx hb (hts (.arrayClass .int) (List.mem_of_getElem? (i := 6) rfl)) rfl hK hP hD hS hA (fun cA => vp_cell_i cA 4 (fun _ => 0)) (by decide +kernel) (by decide +kernel) (by decide +kernel) (by decide +kernel) (by decide +kernel) dX17_init_27 (fun q7 y8 H hK hP hD hS => ?_)
  have hK : va_K (dC, dI) vwCl [(y2, .boolean), (y4, .int), (y6, .int), (y8, .int)] s := hK
  have hP : va_P (dC, dI) vwCl [(c0, .inr (18, [.ref q1, .ref q3, .ref q5, .null, .null])), (q1, .inl (y2, 4, .inl (fun _ => 0))), (q3, .inl (y4, 4, .inl (fun _ => 0))), (q5, .inl (y6, 4, .inl (fun _ => 0))), (q7, .inl (y8, 4, .inl (fun _ => 0)))] H := hP
  have hD : va_D A [(c0, .inr (18, [.ref q1, .ref q3, .ref q5, .null, .null])), (q1, .inl (y2, 4, .inl (fun _ => 0))), (q3, .inl (y4, 4, .inl (fun _ => 0))), (q5, .inl (y6, 4, .inl (fun _ => 0))), (q7, .inl (y8, 4, .inl (fun _ => 0)))] := hD
  refine W.widen (k := 4) (n := 16) (by decide +kernel) (by decide +kernel) ?_
  refine va_putF (D := (dC, dI)) (ci := 18) (v := .ref q7) (ty := .array .int) (C := RX17) (T := TX17) (N := 5) hx hb hts hi_k_X17_init_X17 tyX17 tyX17_ok nmX17 hown hK hP hD hS 0 rfl rfl 3 (by decide) (hts (.fieldLink RX17 20 "TimeMachineModel$Programs" "size" "[I") (List.mem_of_getElem? (i := 9) rfl)) (fun _ h9 => h9) rfl hin rfl (by decide +kernel) rfl rfl (Nat.le_of_ble_eq_true rfl) dX17_init_29 (fun H locs hP hD hS => ?_)
  have hP : va_P (dC, dI) vwCl [(c0, .inr (18, [.ref q1, .ref q3, .ref q5, .ref q7, .null])), (q1, .inl (y2, 4, .inl (fun _ => 0))), (q3, .inl (y4, 4, .inl (fun _ => 0))), (q5, .inl (y6, 4, .inl (fun _ => 0))), (q7, .inl (y8, 4, .inl (fun _ => 0)))] H := hP
  have hD : va_D A [(c0, .inr (18, [.ref q1, .ref q3, .ref q5, .ref q7, .null])), (q1, .inl (y2, 4, .inl (fun _ => 0))), (q3, .inl (y4, 4, .inl (fun _ => 0))), (q5, .inl (y6, 4, .inl (fun _ => 0))), (q7, .inl (y8, 4, .inl (fun _ => 0)))] := hD
  refine lv_aload_n hx hb dX17_init_32 rfl (lv_at hl 0 rfl) ?_
  refine lv_ldc hx hb hown (hts (.constant RX17 23 (32768)) (List.mem_of_getElem? (i := 10) rfl)) dX17_init_33 ?_
  refine va_newa (atype := .int) (ty := .int) (N' := 32768) (a0 := (32768, .inl (fun _ => 0))) hx hb (hts (.arrayClass .int) (List.mem_of_getElem? (i := 6) rfl)) rfl hK hP hD hS hA (fun cA => vp_cell_i cA 32768 (fun _ => 0)) (by decide +kernel) (by decide +kernel) (by decide +kernel) (by decide +kernel) (by decide +kernel) dX17_init_35 (fun q9 y10 H hK hP hD hS => ?_)
  have hK : va_K (dC, dI) vwCl [(y2, .boolean), (y4, .int), (y6, .int), (y8, .int), (y10, .int)] s := hK
  have hP : va_P (dC, dI) vwCl [(c0, .inr (18, [.ref q1, .ref q3, .ref q5, .ref q7, .null])), (q1, .inl (y2, 4, .inl (fun _ => 0))), (q3, .inl (y4, 4, .inl (fun _ => 0))), (q5, .inl (y6, 4, .inl (fun _ => 0))), (q7, .inl (y8, 4, .inl (fun _ => 0))), (q9, .inl (y10, 32768, .inl (fun _ => 0)))] H := hP
  have hD : va_D A [(c0, .inr (18, [.ref q1, .ref q3, .ref q5, .ref q7, .null])), (q1, .inl (y2, 4, .inl (fun _ => 0))), (q3, .inl (y4, 4, .inl (fun _ => 0))), (q5, .inl (y6, 4, .inl (fun _ => 0))), (q7, .inl (y8, 4, .inl (fun _ => 0))), (q9, .inl (y10, 32768, .inl (fun _ => 0)))] := hD
  refine W.widen (k := 5) (n := 32784) (by decide +kernel) (by decide +kernel) ?_
  refine va_putF (D := (dC, dI)) (ci := 18) (v := .ref q9) (ty := .array .int) (C := RX17) (T := TX17) (N := 5) hx hb hts hi_k_X17_init_X17 tyX17 tyX17_ok nmX17 hown hK hP hD hS 0 rfl rfl 4 (by decide) (hts (.fieldLink RX17 24 "TimeMachineModel$Programs" "image" "[I") (List.mem_of_getElem? (i := 11) rfl)) (fun _ h9 => h9) rfl hin rfl (by decide +kernel) rfl rfl (Nat.le_of_ble_eq_true rfl) dX17_init_37 (fun H locs hP hD hS => ?_)
  have hP : va_P (dC, dI) vwCl [(c0, .inr (18, [.ref q1, .ref q3, .ref q5, .ref q7, .ref q9])), (q1, .inl (y2, 4, .inl (fun _ => 0))), (q3, .inl (y4, 4, .inl (fun _ => 0))), (q5, .inl (y6, 4, .inl (fun _ => 0))), (q7, .inl (y8, 4, .inl (fun _ => 0))), (q9, .inl (y10, 32768, .inl (fun _ => 0)))] H := hP
  have hD : va_D A [(c0, .inr (18, [.ref q1, .ref q3, .ref q5, .ref q7, .ref q9])), (q1, .inl (y2, 4, .inl (fun _ => 0))), (q3, .inl (y4, 4, .inl (fun _ => 0))), (q5, .inl (y6, 4, .inl (fun _ => 0))), (q7, .inl (y8, 4, .inl (fun _ => 0))), (q9, .inl (y10, 32768, .inl (fun _ => 0)))] := hD
  have hP9 := hP.sub (ws' := [(c0, .inr (18, [.ref q1, .ref q3, .ref q5, .ref q7, .ref q9])), (q1, .inl (y2, 4, .inl (fun _ => 0))), (q3, .inl (y4, 4, .inl (fun _ => 0))), (q5, .inl (y6, 4, .inl (fun _ => 0))), (q7, .inl (y8, 4, .inl (fun _ => 0))), (q9, .inl (y10, 32768, .inl (fun _ => 0)))]) [0, 1, 2, 3, 4, 5] rfl
  have hD9 := hD.sub (ws' := [(c0, .inr (18, [.ref q1, .ref q3, .ref q5, .ref q7, .ref q9])), (q1, .inl (y2, 4, .inl (fun _ => 0))), (q3, .inl (y4, 4, .inl (fun _ => 0))), (q5, .inl (y6, 4, .inl (fun _ => 0))), (q7, .inl (y8, 4, .inl (fun _ => 0))), (q9, .inl (y10, 32768, .inl (fun _ => 0)))]) [0, 1, 2, 3, 4, 5] (by decide) rfl
  have hK9 := hK.sub (tys' := [(y2, .boolean), (y4, .int), (y6, .int), (y8, .int), (y10, .int)]) [0, 1, 2, 3, 4] rfl
  refine W.widen (k := 5) (n := 32784) (by decide +kernel) (by decide +kernel) ?_
  exact W.vret hx hb hr (fun t ht hW => ⟨⟨(), rfl, trivial, q1, y2, q3, y4, q5, y6, q7, y8, q9, y10, by rw [ht]; exact hP9, va_K.moved hW.alike hK9, hD9⟩, hS.F ht⟩) hS.2.2 dX17_init_40
def ow_k_X13_init : List Cond := Cond.code yX13_init cX13_init 1 none :: ([Cond.methodLink RX13 1 objectInit, Cond.instanceMethod objectInit, Cond.code objectInit ⟨#[0xb1]⟩ 1 none, Cond.arrayClass .long, Cond.constantLong RX13 7 (16641), Cond.constantLong RX13 9 (9555), Cond.constantLong RX13 11 (49939), Cond.constantLong RX13 13 (82707), Cond.constantLong RX13 15 (5587731), Cond.constantLong RX13 17 (74712), Cond.constantLong RX13 19 (50323), Cond.constantLong RX13 21 (5267), Cond.constantLong RX13 23 (1167), Cond.constantLong RX13 25 (17281), Cond.constantLong RX13 27 (50509), Cond.constantLong RX13 29 (2147661), Cond.constantLong RX13 31 (22869493069), Cond.constantLong RX13 33 (354469197), Cond.constantLong RX13 35 (90692), Cond.constantLong RX13 37 (5595716), Cond.constantLong RX13 39 (53586), Cond.constantLong RX13 41 (5558610), Cond.constantLong RX13 43 (2375937), Cond.constantLong RX13 45 (2442003), Cond.constantLong RX13 47 (354763539), Cond.constantLong RX13 49 (2434008), Cond.constantLong RX13 51 (38031), Cond.constantLong RX13 53 (2376577), Cond.constantLong RX13 55 (2409235), Cond.constantLong RX13 57 (2409619), Cond.constantLong RX13 59 (2364563), Cond.constantLong RX13 61 (140), Cond.constantLong RX13 63 (524), Cond.constantLong RX13 65 (1484), Cond.constantLong RX13 67 (86156), Cond.constantLong RX13 69 (86540), Cond.constantLong RX13 71 (4767818), Cond.constantLong RX13 73 (147), Cond.constantLong RX13 75 (531), Cond.constantLong RX13 77 (1491), Cond.constantLong RX13 79 (38220), Cond.constantLong RX13 81 (54564161), Cond.constantLong RX13 83 (69954), Cond.constantLong RX13 85 (21378), Cond.constantLong RX13 87 (82690), Cond.constantLong RX13 89 (20930), Cond.constantLong RX13 91 (5587714), Cond.constantLong RX13 93 (5525954), Cond.constantLong RX13 95 (49226), Cond.constantLong RX13 97 (6181075), Cond.constantLong RX13 99 (6637753161544513), Cond.constantLong RX13 101 (103702052795201), Cond.constantLong RX13 103 (103717275759425), Cond.constantLong RX13 105 (103702220567361), Cond.constantLong RX13 107 (1620582396737), Cond.constantLong RX13 109 (103712877245249), Cond.constantLong RX13 111 (103723480445761), Cond.constantLong RX13 113 (6638110481118017), Cond.constantLong RX13 115 (6638121084318529), Cond.constantLong RX13 117 (6182028), Cond.constantLong RX13 119 (356539183378), Cond.constantLong RX13 121 (5589254418), Cond.constantLong RX13 123 (5652748514660626), Cond.constantLong RX13 125 (35540911272210), Cond.constantLong RX13 127 (555345068306), Cond.constantLong RX13 129 (149767936590516498), Cond.constantLong RX13 131 (84730182), Cond.constantLong RX13 133 (658288468294), Cond.constantLong RX13 135 (204476613), Cond.constantLong RX13 137 (11829321861), Cond.constantLong RX13 139 (66510), Cond.constantLong RX13 141 (82258), Cond.constantLong RX13 143 (256790881679448387), Cond.constantLong RX13 145 (6080835), Cond.constantLong RX13 147 (6109507), Cond.constantLong RX13 149 (272427331), Cond.constantLong RX13 151 (48452902345027), Cond.constantLong RX13 153 (9731840323), Cond.constantLong RX13 155 (2410819), Cond.constantLong RX13 157 (156551491), Cond.constantLong RX13 159 (201632067), Cond.constantLong RX13 161 (43331), Cond.constantLong RX13 163 (293725470121269571), Cond.constantLong RX13 165 (9869801795), Cond.constantLong RX13 167 (9685252419), Cond.constantLong RX13 169 (9734461763), Cond.constantLong RX13 171 (39139651), Cond.constantLong RX13 173 (306022723), Cond.constantLong RX13 175 (4782403), Cond.constantLong RX13 177 (70785347), Cond.constantLong RX13 179 (28203821379), Cond.constantLong RX13 181 (28004854083), Cond.constantLong RX13 183 (9868228931), Cond.constantLong RX13 185 (17504717123), Cond.constantLong RX13 187 (4761923), Cond.constantLong RX13 189 (19528984899), Cond.constantLong RX13 191 (5822787), Cond.constantLong RX13 193 (68163907), Cond.constantLong RX13 195 (17504745795), Cond.constantLong RX13 197 (1421), Cond.constantLong RX13 199 (82894), Cond.constantLong RX13 201 (6885715), Cond.constantLong RX13 203 (6898451), Cond.constantLong RX13 205 (29006), Cond.constantLong RX13 207 (6837139), Cond.constantLong RX13 209 (6898131), Cond.constantLong RX13 211 (1162), Cond.constantLong RX13 213 (3194947), Cond.constantLong RX13 215 (10), Cond.constantLong RX13 217 (3182676), Cond.constantLong RX13 219 (6885698), Cond.constantLong RX13 221 (6837122), Cond.constantLong RX13 223 (6836674), Cond.constantLong RX13 225 (6898434), Cond.constantLong RX13 227 (6836994), Cond.constantLong RX13 229 (6898114), Cond.constantLong RX13 231 (82370), Cond.constantLong RX13 233 (21250), Cond.constantLong RX13 235 (5587394), Cond.constantLong RX13 237 (5526274), Cond.constantLong RX13 239 (76), Cond.constantLong RX13 241 (588), Cond.constantLong RX13 243 (341857573), Cond.constantLong RX13 245 (22024485), Cond.constantLong RX13 247 (5575013), Cond.constantLong RX13 249 (89231525), Cond.constantLong RX13 251 (103813669), Cond.constantLong RX13 253 (71890405), Cond.constantLong RX13 255 (9815535717), Cond.constantLong RX13 257 (28069146725), Cond.constantLong RX13 259 (5419369701), Cond.constantLong RX13 261 (15152234597), Cond.fieldLink RX13 263 "TimeMachineModel$Assembler" "names" "[J", Cond.arrayClass .byte, Cond.fieldLink RX13 269 "TimeMachineModel$Assembler" "shapes" "[B", Cond.arrayClass .int, Cond.constant RX13 273 (1073741875), Cond.constant RX13 274 (1073762355), Cond.constant RX13 275 (33554483), Cond.constant RX13 276 (33558579), Cond.constant RX13 277 (33562675), Cond.constant RX13 278 (33566771), Cond.constant RX13 279 (33570867), Cond.constant RX13 280 (33574963), Cond.constant RX13 281 (33579059), Cond.constant RX13 282 (33583155), Cond.constant RX13 283 (1073762323), Cond.constant RX13 284 (402661423), Cond.constant RX13 285 (134225967), Cond.constant RX13 286 (536879151), Cond.constant RX13 287 (1610620975), Cond.constant RX13 288 (1073750063), Cond.constant RX13 289 (-2147475409), Cond.constant RX13 290 (-1610604497), Cond.constant RX13 291 (-1073733585), Cond.constant RX13 292 (-536862673), Cond.constant RX13 293 (268443695), Cond.constant RX13 294 (-1073733517), Cond.constant RX13 295 (-1072684941), Cond.constant RX13 296 (-1071636365), Cond.constant RX13 297 (-939515789), Cond.constant RX13 298 (-938467213), Cond.constant RX13 299 (-937418637), Cond.constant RX13 300 (267386895), Cond.constant RX13 301 (1048691), Cond.constant RX13 302 (32871), Cond.constant RX13 303 (49152), Cond.constant RX13 304 (36866), Cond.constant RX13 305 (40961), Cond.constant RX13 306 (32769), Cond.constant RX13 307 (33793), Cond.constant RX13 308 (34817), Cond.constant RX13 309 (35841), Cond.constant RX13 310 (35873), Cond.constant RX13 311 (35905), Cond.constant RX13 312 (35937), Cond.constant RX13 313 (49153), Cond.constant RX13 314 (57345), Cond.constant RX13 315 (32770), Cond.constant RX13 316 (49154), Cond.constant RX13 317 (-1032173), Cond.constant RX13 318 (1060883), Cond.fieldLink RX13 319 "TimeMachineModel$Assembler" "patterns" "[I", Cond.constant RX13 323 (32772), Cond.arrayClass .char, Cond.fieldLink RX13 324 "TimeMachineModel$Assembler" "text" "[C", Cond.fieldLink RX13 328 "TimeMachineModel$Assembler" "place" "[I", Cond.fieldLink RX13 331 "TimeMachineModel$Assembler" "offset" "[I", Cond.fieldLink RX13 334 "TimeMachineModel$Assembler" "bytes" "[I", Cond.fieldLink RX13 337 "TimeMachineModel$Assembler" "label" "[I", Cond.fieldLink RX13 340 "TimeMachineModel$Assembler" "where" "[I", Cond.constant RX13 343 (32800), Cond.fieldLink RX13 344 "TimeMachineModel$Assembler" "pile" "[I"] ++ (u_ws RX13 TX13 37 ++ []))
theorem gd_k_X13_init : ∀ w ∈ ow_k_X13_init, (w.onTables && w.keeps) = true ∨ ∃ ty, w = Cond.arrayClass ty := List.forall_mem_cons.mpr ⟨good_of_word rfl, List.forall_mem_append.mpr ⟨fun w h => good_of_word (List.all_eq_true.mp (by decide +kernel) w h), List.forall_mem_append.mpr ⟨gu_X13, fun _ h => nomatch h⟩⟩⟩
theorem hi_k_X13_init_X13 : ∀ w ∈ u_ws RX13 TX13 37, w ∈ ow_k_X13_init := fun w h => List.mem_cons_of_mem _ (List.mem_append_right _ (List.mem_append_left _ h))

set_option maxHeartbeats 40000000 in
set_option maxRecDepth 100000 in
theorem k_X13_init_s0 {p : Program} {l : Launch} {e : Env} {s : State} {m : MethodId} {args : Array Value} {below : List Frame} {meth : Method} {c : Code} {Q : State → Prop} {A : Nat → Prop} (dC : Nat → ClassId) (dI : Nat → Nat → Nat) (c0 : Nat) (hlt : l.stackTraces = false) (hx : p.tables.exec = Jvm.exec) (hb : c.code = cX13_init) (hml : c.maxLocals = 1) (hown : s.vm.findClass RX13 = some m.cls) (hts : ∀ w ∈ ow_k_X13_init, w.before args s = true) (hin : meth.name = "<init>") (hN : nv_E dI A s) (hA : ∀ q : Nat, s.heap.size ≤ q → A q) {H : Heap} {locs : List Loc} {ls : Array Slot} (hK : va_K (dC, dI) vwCl [] s) (hP : va_P (dC, dI) vwCl [(c0, .inr (14, [.null, .null, .null, .null, .int 0, .int 0, .int 0, .null, .null, .null, .int 0, .null, .null, .int 0, .int 0, .int 0, .int 0, .int 0, .int 0, .int 0, .int 0, .int 0, .int 0, .int 0, .int 0, .int 0, .int 0, .int 0, .int 0, .null, .int 0, .int 0, .int 0, .int 0, .null, .int 0, .int 0]))] H) (hD : va_D A [(c0, .inr (14, [.null, .null, .null, .null, .int 0, .int 0, .int 0, .null, .null, .null, .int 0, .null, .null, .int 0, .int 0, .int 0, .int 0, .int 0, .int 0, .int 0, .int 0, .int 0, .int 0, .int 0, .int 0, .int 0, .int 0, .int 0, .int 0, .null, .int 0, .int 0, .int 0, .int 0, .null, .int 0, .int 0]))]) (hS : va_S A s.heap H locs) (hl : lv_has ls 1 [(0, .ref c0)]) (kk : ∀ (q1 : Nat) (y2 : ClassId) (H : Heap) (locs : List Loc) (ls : Array Slot), va_K (dC, dI) vwCl [(y2, .long)] s → va_P (dC, dI) vwCl [(c0, .inr (14, [.null, .null, .null, .null, .int 0, .int 0, .int 0, .null, .null, .null, .int 0, .null, .null, .int 0, .int 0, .int 0, .int 0, .int 0, .int 0, .int 0, .int 0, .int 0, .int 0, .int 0, .int 0, .int 0, .int 0, .int 0, .int 0, .null, .int 0, .int 0, .int 0, .int 0, .null, .int 0, .int 0])), (q1, .inl (y2, 128, .inr (.inl (tbL nmT 21))))] H → va_D A [(c0, .inr (14, [.null, .null, .null, .null, .int 0, .int 0, .int 0, .null, .null, .null, .int 0, .null, .null, .int 0, .int 0, .int 0, .int 0, .int 0, .int 0, .int 0, .int 0, .int 0, .int 0, .int 0, .int 0, .int 0, .int 0, .int 0, .int 0, .null, .int 0, .int 0, .int 0, .int 0, .null, .int 0, .int 0])), (q1, .inl (y2, 128, .inr (.inl (tbL nmT 21))))] → va_S A s.heap H locs → lv_has ls 1 [(0, .ref c0)] → W p l e (headSpec ow_k_X13_init ({ frames := 1, cells := 10, slots := 131956, locals := 12 })).room s m args below meth c H locs 1 128 Q (F0 m 152 ls [.ref q1, .ref q1, .ref c0])) : W p l e (headSpec ow_k_X13_init ({ frames := 1, cells := 10, slots := 131956, locals := 12 })).room s m args below meth c H locs 0 0 Q (F0 m 0 ls []) := by
  refine lv_aload_n hx hb dX13_init_0 rfl (lv_at hl 0 rfl) ?_
  refine W.objInit hx hb hown (hts (.methodLink RX13 1 objectInit) (List.mem_of_getElem? (i := 1) rfl)) (hts (.instanceMethod objectInit) (List.mem_of_getElem? (i := 2) rfl)) (hts (.code objectInit ⟨#[0xb1]⟩ 1 none) (List.mem_of_getElem? (i := 3) rfl)) rfl (by rw [hml]; exact hl.1) rfl dX13_init_1 (Nat.le_of_ble_eq_true rfl) (Nat.le_of_ble_eq_true rfl) ?_
  refine W.eq (g2 := F0 m 4 ls []) rfl ?_
  refine lv_aload_n hx hb dX13_init_4 rfl (lv_at hl 0 rfl) ?_
  refine lv_sipush (v := 128) hx hb dX13_init_5 (by decide) ?_
  refine va_newa (atype := .long) (ty := .long) (N' := 128) (a0 := (128, .inr (.inl (fun _ => 0)))) hx hb (hts (.arrayClass .long) (List.mem_of_getElem? (i := 4) rfl)) rfl hK hP hD hS hA (fun cA => vp_cell_l cA 128 (fun _ => 0)) (by decide +kernel) (by decide +kernel) (by decide +kernel) (by decide +kernel) (by decide +kernel) dX13_init_8 (fun q1 y2 H hK hP hD hS => ?_)
  have hK : va_K (dC, dI) vwCl [(y2, .long)] s := hK
  have hP : va_P (dC, dI) vwCl [(c0, .inr (14, [.null, .null, .null, .null, .int 0, .int 0, .int 0, .null, .null, .null, .int 0, .null, .null, .int 0, .int 0, .int 0, .int 0, .int 0, .int 0, .int 0, .int 0, .int 0, .int 0, .int 0, .int 0, .int 0, .int 0, .int 0, .int 0, .null, .int 0, .int 0, .int 0, .int 0, .null, .int 0, .int 0])), (q1, .inl (y2, 128, .inr (.inl (fun _ => 0))))] H := hP
  have hD : va_D A [(c0, .inr (14, [.null, .null, .null, .null, .int 0, .int 0, .int 0, .null, .null, .null, .int 0, .null, .null, .int 0, .int 0, .int 0, .int 0, .int 0, .int 0, .int 0, .int 0, .int 0, .int 0, .int 0, .int 0, .int 0, .int 0, .int 0, .int 0, .null, .int 0, .int 0, .int 0, .int 0, .null, .int 0, .int 0])), (q1, .inl (y2, 128, .inr (.inl (fun _ => 0))))] := hD
  refine W.widen (k := 1) (n := 128) (by decide +kernel) (by decide +kernel) ?_
  refine lv_dup hx hb dX13_init_10 rfl ?_
  refine lv_iconst (v := 0) hx hb dX13_init_11 (by decide) ?_
  refine lv_ldc2 hx hb hown (hts (.constantLong RX13 7 (16641)) (List.mem_of_getElem? (i := 5) rfl)) dX13_init_12 ?_
  refine va_last (i := 0) (x := 16641) hx hb hK hP hD hS 1 0 rfl rfl (vp_in_iff.mpr ⟨by decide, by decide⟩) dX13_init_15 (fun H locs hP hD hS => ?_)
  rw [tbL_z nmT (j := 0) (v := 16641) (by decide) (by decide +kernel)] at hP hD
  have hP : va_P (dC, dI) vwCl [(c0, .inr (14, [.null, .null, .null, .null, .int 0, .int 0, .int 0, .null, .null, .null, .int 0, .null, .null, .int 0, .int 0, .int 0, .int 0, .int 0, .int 0, .int 0, .int 0, .int 0, .int 0, .int 0, .int 0, .int 0, .int 0, .int 0, .int 0, .null, .int 0, .int 0, .int 0, .int 0, .null, .int 0, .int 0])), (q1, .inl (y2, 128, .inr (.inl (tbL nmT 1))))] H := hP
  have hD : va_D A [(c0, .inr (14, [.null, .null, .null, .null, .int 0, .int 0, .int 0, .null, .null, .null, .int 0, .null, .null, .int 0, .int 0, .int 0, .int 0, .int 0, .int 0, .int 0, .int 0, .int 0, .int 0, .int 0, .int 0, .int 0, .int 0, .int 0, .int 0, .null, .int 0, .int 0, .int 0, .int 0, .null, .int 0, .int 0])), (q1, .inl (y2, 128, .inr (.inl (tbL nmT 1))))] := hD
  refine lv_dup hx hb dX13_init_16 rfl ?_
  refine lv_iconst (v := 1) hx hb dX13_init_17 (by decide) ?_
  refine lv_ldc2 hx hb hown (hts (.constantLong RX13 9 (9555)) (List.mem_of_getElem? (i := 6) rfl)) dX13_init_18 ?_
  refine va_last (i := 1) (x := 9555) hx hb hK hP hD hS 1 0 rfl rfl (vp_in_iff.mpr ⟨by decide, by decide⟩) dX13_init_21 (fun H locs hP hD hS => ?_)
  rw [tbL_s nmT 1 (j := 1) (v := 9555) (by decide) (by decide +kernel)] at hP hD
  have hP : va_P (dC, dI) vwCl [(c0, .inr (14, [.null, .null, .null, .null, .int 0, .int 0, .int 0, .null, .null, .null, .int 0, .null, .null, .int 0, .int 0, .int 0, .int 0, .int 0, .int 0, .int 0, .int 0, .int 0, .int 0, .int 0, .int 0, .int 0, .int 0, .int 0, .int 0, .null, .int 0, .int 0, .int 0, .int 0, .null, .int 0, .int 0])), (q1, .inl (y2, 128, .inr (.inl (tbL nmT 2))))] H := hP
  have hD : va_D A [(c0, .inr (14, [.null, .null, .null, .null, .int 0, .int 0, .int 0, .null, .null, .null, .int 0, .null, .null, .int 0, .int 0, .int 0, .int 0, .int 0, .int 0, .int 0, .int 0, .int 0, .int 0, .int 0, .int 0, .int 0, .int 0, .int 0, .int 0, .null, .int 0, .int 0, .int 0, .int 0, .null, .int 0, .int 0])), (q1, .inl (y2, 128, .inr (.inl (tbL nmT 2))))] := hD
  refine lv_dup hx hb dX13_init_22 rfl ?_
  refine lv_iconst (v := 2) hx hb dX13_init_23 (by decide) ?_
  refine lv_ldc2 hx hb hown (hts (.constantLong RX13 11 (49939)) (List.mem_of_getElem? (i := 7) rfl)) dX13_init_24 ?_
  refine va_last (i := 2) (x := 49939) hx hb hK hP hD hS 1 0 rfl rfl (vp_in_iff.mpr ⟨by decide, by decide⟩) dX13_init_27 (fun H locs hP hD hS => ?_)
  rw [tbL_s nmT 2 (j := 2) (v := 49939) (by decide) (by decide +kernel)] at hP hD
  have hP : va_P (dC, dI) vwCl [(c0, .inr (14, [.null, .null, .null, .null, .int 0, .int 0, .int 0, .null, .null, .null, .int 0, .null, .null, .int 0, .int 0, .int 0, .int 0, .int 0, .int 0, .int 0, .int 0, .int 0, .int 0, .int 0, .int 0, .int 0, .int 0, .int 0, .int 0, .null, .int 0, .int 0, .int 0, .int 0, .null, .int 0, .int 0])), (q1, .inl (y2, 128, .inr (.inl (tbL nmT 3))))] H := hP
  have hD : va_D A [(c0, .inr (14, [.null, .null, .null, .null, .int 0, .int 0, .int 0, .null, .null, .null, .int 0, .null, .null, .int 0, .int 0, .int 0, .int 0, .int 0, .int 0, .int 0, .int 0, .int 0, .int 0, .int 0, .int 0, .int 0, .int 0, .int 0, .int 0, .null, .int 0, .int 0, .int 0, .int 0, .null, .int 0, .int 0])), (q1, .inl (y2, 128, .inr (.inl (tbL nmT 3))))] := hD
  refine lv_dup hx hb dX13_init_28 rfl ?_
  refine lv_iconst (v := 3) hx hb dX13_init_29 (by decide) ?_
  refine lv_ldc2 hx hb hown (hts (.constantLong RX13 13 (82707)) (List.mem_of_getElem? (i := 8) rfl)) dX13_init_30 ?_
  refine va_last (i := 3) (x := 82707) hx hb hK hP hD hS 1 0 rfl rfl (vp_in_iff.mpr ⟨by decide, by decide⟩) dX13_init_33 (fun H locs hP hD hS => ?_)
  rw [tbL_s nmT 3 (j := 3) (v := 82707) (by decide) (by decide +kernel)] at hP hD
  have hP : va_P (dC, dI) vwCl [(c0, .inr (14, [.null, .null, .null, .null, .int 0, .int 0, .int 0, .null, .null, .null, .int 0, .null, .null, .int 0, .int 0, .int 0, .int 0, .int 0, .int 0, .int 0, .int 0, .int 0, .int 0, .int 0, .int 0, .int 0, .int 0, .int 0, .int 0, .null, .int 0, .int 0, .int 0, .int 0, .null, .int 0, .int 0])), (q1, .inl (y2, 128, .inr (.inl (tbL nmT 4))))] H := hP
  have hD : va_D A [(c0, .inr (14, [.null, .null, .null, .null, .int 0, .int 0, .int 0, .null, .null, .null, .int 0, .null, .null, .int 0, .int 0, .int 0, .int 0, .int 0, .int 0, .int 0, .int 0, .int 0, .int 0, .int 0, .int 0, .int 0, .int 0, .int 0, .int 0, .null, .int 0, .int 0, .int 0, .int 0, .null, .int 0, .int 0])), (q1, .inl (y2, 128, .inr (.inl (tbL nmT 4))))] := hD
  refine lv_dup hx hb dX13_init_34 rfl ?_
  refine lv_iconst (v := 4) hx hb dX13_init_35 (by decide) ?_
  refine lv_ldc2 hx hb hown (hts (.constantLong RX13 15 (5587731)) (List.mem_of_getElem? (i := 9) rfl)) dX13_init_36 ?_
  refine va_last (i := 4) (x := 5587731) hx hb hK hP hD hS 1 0 rfl rfl (vp_in_iff.mpr ⟨by decide, by decide⟩) dX13_init_39 (fun H locs hP hD hS => ?_)
  rw [tbL_s nmT 4 (j := 4) (v := 5587731) (by decide) (by decide +kernel)] at hP hD
  have hP : va_P (dC, dI) vwCl [(c0, .inr (14, [.null, .null, .null, .null, .int 0, .int 0, .int 0, .null, .null, .null, .int 0, .null, .null, .int 0, .int 0, .int 0, .int 0, .int 0, .int 0, .int 0, .int 0, .int 0, .int 0, .int 0, .int 0, .int 0, .int 0, .int 0, .int 0, .null, .int 0, .int 0, .int 0, .int 0, .null, .int 0, .int 0])), (q1, .inl (y2, 128, .inr (.inl (tbL nmT 5))))] H := hP
  have hD : va_D A [(c0, .inr (14, [.null, .null, .null, .null, .int 0, .int 0, .int 0, .null, .null, .null, .int 0, .null, .null, .int 0, .int 0, .int 0, .int 0, .int 0, .int 0, .int 0, .int 0, .int 0, .int 0, .int 0, .int 0, .int 0, .int 0, .int 0, .int 0, .null, .int 0, .int 0, .int 0, .int 0, .null, .int 0, .int 0])), (q1, .inl (y2, 128, .inr (.inl (tbL nmT 5))))] := hD
  refine lv_dup hx hb dX13_init_40 rfl ?_
  refine lv_iconst (v := 5) hx hb dX13_init_41 (by decide) ?_
  refine lv_ldc2 hx hb hown (hts (.constantLong RX13 17 (74712)) (List.mem_of_getElem? (i := 10) rfl)) dX13_init_42 ?_
  refine va_last (i := 5) (x := 74712) hx hb hK hP hD hS 1 0 rfl rfl (vp_in_iff.mpr ⟨by decide, by decide⟩) dX13_init_45 (fun H locs hP hD hS => ?_)
  rw [tbL_s nmT 5 (j := 5) (v := 74712) (by decide) (by decide +kernel)] at hP hD
  have hP : va_P (dC, dI) vwCl [(c0, .inr (14, [.null, .null, .null, .null, .int 0, .int 0, .int 0, .null, .null, .null, .int 0, .null, .null, .int 0, .int 0, .int 0, .int 0, .int 0, .int 0, .int 0, .int 0, .int 0, .int 0, .int 0, .int 0, .int 0, .int 0, .int 0, .int 0, .null, .int 0, .int 0, .int 0, .int 0, .null, .int 0, .int 0])), (q1, .inl (y2, 128, .inr (.inl (tbL nmT 6))))] H := hP
  have hD : va_D A [(c0, .inr (14, [.null, .null, .null, .null, .int 0, .int 0, .int 0, .null, .null, .null, .int 0, .null, .null, .int 0, .int 0, .int 0, .int 0, .int 0, .int 0, .int 0, .int 0, .int 0, .int 0, .int 0, .int 0, .int 0, .int 0, .int 0, .int 0, .null, .int 0, .int 0, .int 0, .int 0, .null, .int 0, .int 0])), (q1, .inl (y2, 128, .inr (.inl (tbL nmT 6))))] := hD
  refine lv_dup hx hb dX13_init_46 rfl ?_
  refine lv_bipush (v := 6) hx hb dX13_init_47 (by decide) ?_
  refine lv_ldc2 hx hb hown (hts (.constantLong RX13 19 (50323)) (List.mem_of_getElem? (i := 11) rfl)) dX13_init_49 ?_
  refine va_last (i := 6) (x := 50323) hx hb hK hP hD hS 1 0 rfl rfl (vp_in_iff.mpr ⟨by decide, by decide⟩) dX13_init_52 (fun H locs hP hD hS => ?_)
  rw [tbL_s nmT 6 (j := 6) (v := 50323) (by decide) (by decide +kernel)] at hP hD
  have hP : va_P (dC, dI) vwCl [(c0, .inr (14, [.null, .null, .null, .null, .int 0, .int 0, .int 0, .null, .null, .null, .int 0, .null, .null, .int 0, .int 0, .int 0, .int 0, .int 0, .int 0, .int 0, .int 0, .int 0, .int 0, .int 0, .int 0, .int 0, .int 0, .int 0, .int 0, .null, .int 0, .int 0, .int 0, .int 0, .null, .int 0, .int 0])), (q1, .inl (y2, 128, .inr (.inl (tbL nmT 7))))] H := hP
  have hD : va_D A [(c0, .inr (14, [.null, .null, .null, .null, .int 0, .int 0, .int 0, .null, .null, .null, .int 0, .null, .null, .int 0, .int 0, .int 0, .int 0, .int 0, .int 0, .int 0, .int 0, .int 0, .int 0, .int 0, .int 0, .int 0, .int 0, .int 0, .int 0, .null, .int 0, .int 0, .int 0, .int 0, .null, .int 0, .int 0])), (q1, .inl (y2, 128, .inr (.inl (tbL nmT 7))))] := hD
  refine lv_dup hx hb dX13_init_53 rfl ?_
  refine lv_bipush (v := 7) hx hb dX13_init_54 (by decide) ?_
  refine lv_ldc2 hx hb hown (hts (.constantLong RX13 21 (5267)) (List.mem_of_getElem? (i := 12) rfl)) dX13_init_56 ?_
  refine va_last (i := 7) (x := 5267) hx hb hK hP hD hS 1 0 rfl rfl (vp_in_iff.mpr ⟨by decide, by decide⟩) dX13_init_59 (fun H locs hP hD hS => ?_)
  rw [tbL_s nmT 7 (j := 7) (v := 5267) (by decide) (by decide +kernel)] at hP hD
  have hP : va_P (dC, dI) vwCl [(c0, .inr (14, [.null, .null, .null, .null, .int 0, .int 0, .int 0, .null, .null, .null, .int 0, .null, .null, .int 0, .int 0, .int 0, .int 0, .int 0, .int 0, .int 0, .int 0, .int 0, .int 0, .int 0, .int 0, .int 0, .int 0, .int 0, .int 0, .null, .int 0, .int 0, .int 0, .int 0, .null, .int 0, .int 0])), (q1, .inl (y2, 128, .inr (.inl (tbL nmT 8))))] H := hP
  have hD : va_D A [(c0, .inr (14, [.null, .null, .null, .null, .int 0, .int 0, .int 0, .null, .null, .null, .int 0, .null, .null, .int 0, .int 0, .int 0, .int 0, .int 0, .int 0, .int 0, .int 0, .int 0, .int 0, .int 0, .int 0, .int 0, .int 0, .int 0, .int 0, .null, .int 0, .int 0, .int 0, .int 0, .null, .int 0, .int 0])), (q1, .inl (y2, 128, .inr (.inl (tbL nmT 8))))] := hD
  refine lv_dup hx hb dX13_init_60 rfl ?_
  refine lv_bipush (v := 8) hx hb dX13_init_61 (by decide) ?_
  refine lv_ldc2 hx hb hown (hts (.constantLong RX13 23 (1167)) (List.mem_of_getElem? (i := 13) rfl)) dX13_init_63 ?_
  refine va_last (i := 8) (x := 1167) hx hb hK hP hD hS 1 0 rfl rfl (vp_in_iff.mpr ⟨by decide, by decide⟩) dX13_init_66 (fun H locs hP hD hS => ?_)
  rw [tbL_s nmT 8 (j := 8) (v := 1167) (by decide) (by decide +kernel)] at hP hD
  have hP : va_P (dC, dI) vwCl [(c0, .inr (14, [.null, .null, .null, .null, .int 0, .int 0, .int 0, .null, .null, .null, .int 0, .null, .null, .int 0, .int 0, .int 0, .int 0, .int 0, .int 0, .int 0, .int 0, .int 0, .int 0, .int 0, .int 0, .int 0, .int 0, .int 0, .int 0, .null, .int 0, .int 0, .int 0, .int 0, .null, .int 0, .int 0])), (q1, .inl (y2, 128, .inr (.inl (tbL nmT 9))))] H := hP
  have hD : va_D A [(c0, .inr (14, [.null, .null, .null, .null, .int 0, .int 0, .int 0, .null, .null, .null, .int 0, .null, .null, .int 0, .int 0, .int 0, .int 0, .int 0, .int 0, .int 0, .int 0, .int 0, .int 0, .int 0, .int 0, .int 0, .int 0, .int 0, .int 0, .null, .int 0, .int 0, .int 0, .int 0, .null, .int 0, .int 0])), (q1, .inl (y2, 128, .inr (.inl (tbL nmT 9))))] := hD
  refine lv_dup hx hb dX13_init_67 rfl ?_
  refine lv_bipush (v := 9) hx hb dX13_init_68 (by decide) ?_
  refine lv_ldc2 hx hb hown (hts (.constantLong RX13 25 (17281)) (List.mem_of_getElem? (i := 14) rfl)) dX13_init_70 ?_
  refine va_last (i := 9) (x := 17281) hx hb hK hP hD hS 1 0 rfl rfl (vp_in_iff.mpr ⟨by decide, by decide⟩) dX13_init_73 (fun H locs hP hD hS => ?_)
  rw [tbL_s nmT 9 (j := 9) (v := 17281) (by decide) (by decide +kernel)] at hP hD
  have hP : va_P (dC, dI) vwCl [(c0, .inr (14, [.null, .null, .null, .null, .int 0, .int 0, .int 0, .null, .null, .null, .int 0, .null, .null, .int 0, .int 0, .int 0, .int 0, .int 0, .int 0, .int 0, .int 0, .int 0, .int 0, .int 0, .int 0, .int 0, .int 0, .int 0, .int 0, .null, .int 0, .int 0, .int 0, .int 0, .null, .int 0, .int 0])), (q1, .inl (y2, 128, .inr (.inl (tbL nmT 10))))] H := hP
  have hD : va_D A [(c0, .inr (14, [.null, .null, .null, .null, .int 0, .int 0, .int 0, .null, .null, .null, .int 0, .null, .null, .int 0, .int 0, .int 0, .int 0, .int 0, .int 0, .int 0, .int 0, .int 0, .int 0, .int 0, .int 0, .int 0, .int 0, .int 0, .int 0, .null, .int 0, .int 0, .int 0, .int 0, .null, .int 0, .int 0])), (q1, .inl (y2, 128, .inr (.inl (tbL nmT 10))))] := hD
  refine lv_dup hx hb dX13_init_74 rfl ?_
  refine lv_bipush (v := 10) hx hb dX13_init_75 (by decide) ?_
  refine lv_ldc2 hx hb hown (hts (.constantLong RX13 27 (50509)) (List.mem_of_getElem? (i := 15) rfl)) dX13_init_77 ?_
  refine va_last (i := 10) (x := 50509) hx hb hK hP hD hS 1 0 rfl rfl (vp_in_iff.mpr ⟨by decide, by decide⟩) dX13_init_80 (fun H locs hP hD hS => ?_)
  rw [tbL_s nmT 10 (j := 10) (v := 50509) (by decide) (by decide +kernel)] at hP hD
  have hP : va_P (dC, dI) vwCl [(c0, .inr (14, [.null, .null, .null, .null, .int 0, .int 0, .int 0, .null, .null, .null, .int 0, .null, .null, .int 0, .int 0, .int 0, .int 0, .int 0, .int 0, .int 0, .int 0, .int 0, .int 0, .int 0, .int 0, .int 0, .int 0, .int 0, .int 0, .null, .int 0, .int 0, .int 0, .int 0, .null, .int 0, .int 0])), (q1, .inl (y2, 128, .inr (.inl (tbL nmT 11))))] H := hP
  have hD : va_D A [(c0, .inr (14, [.null, .null, .null, .null, .int 0, .int 0, .int 0, .null, .null, .null, .int 0, .null, .null, .int 0, .int 0, .int 0, .int 0, .int 0, .int 0, .int 0, .int 0, .int 0, .int 0, .int 0, .int 0, .int 0, .int 0, .int 0, .int 0, .null, .int 0, .int 0, .int 0, .int 0, .null, .int 0, .int 0])), (q1, .inl (y2, 128, .inr (.inl (tbL nmT 11))))] := hD
  refine lv_dup hx hb dX13_init_81 rfl ?_
  refine lv_bipush (v := 11) hx hb dX13_init_82 (by decide) ?_
  refine lv_ldc2 hx hb hown (hts (.constantLong RX13 29 (2147661)) (List.mem_of_getElem? (i := 16) rfl)) dX13_init_84 ?_
  refine va_last (i := 11) (x := 2147661) hx hb hK hP hD hS 1 0 rfl rfl (vp_in_iff.mpr ⟨by decide, by decide⟩) dX13_init_87 (fun H locs hP hD hS => ?_)
  rw [tbL_s nmT 11 (j := 11) (v := 2147661) (by decide) (by decide +kernel)] at hP hD
  have hP : va_P (dC, dI) vwCl [(c0, .inr (14, [.null, .null, .null, .null, .int 0, .int 0, .int 0, .null, .null, .null, .int 0, .null, .null, .int 0, .int 0, .int 0, .int 0, .int 0, .int 0, .int 0, .int 0, .int 0, .int 0, .int 0, .int 0, .int 0, .int 0, .int 0, .int 0, .null, .int 0, .int 0, .int 0, .int 0, .null, .int 0, .int 0])), (q1, .inl (y2, 128, .inr (.inl (tbL nmT 12))))] H := hP
  have hD : va_D A [(c0, .inr (14, [.null, .null, .null, .null, .int 0, .int 0, .int 0, .null, .null, .null, .int 0, .null, .null, .int 0, .int 0, .int 0, .int 0, .int 0, .int 0, .int 0, .int 0, .int 0, .int 0, .int 0, .int 0, .int 0, .int 0, .int 0, .int 0, .null, .int 0, .int 0, .int 0, .int 0, .null, .int 0, .int 0])), (q1, .inl (y2, 128, .inr (.inl (tbL nmT 12))))] := hD
  refine lv_dup hx hb dX13_init_88 rfl ?_
  refine lv_bipush (v := 12) hx hb dX13_init_89 (by decide) ?_
  refine lv_ldc2 hx hb hown (hts (.constantLong RX13 31 (22869493069)) (List.mem_of_getElem? (i := 17) rfl)) dX13_init_91 ?_
  refine va_last (i := 12) (x := 22869493069) hx hb hK hP hD hS 1 0 rfl rfl (vp_in_iff.mpr ⟨by decide, by decide⟩) dX13_init_94 (fun H locs hP hD hS => ?_)
  rw [tbL_s nmT 12 (j := 12) (v := 22869493069) (by decide) (by decide +kernel)] at hP hD
  have hP : va_P (dC, dI) vwCl [(c0, .inr (14, [.null, .null, .null, .null, .int 0, .int 0, .int 0, .null, .null, .null, .int 0, .null, .null, .int 0, .int 0, .int 0, .int 0, .int 0, .int 0, .int 0, .int 0, .int 0, .int 0, .int 0, .int 0, .int 0, .int 0, .int 0, .int 0, .null, .int 0, .int 0, .int 0, .int 0, .null, .int 0, .int 0])), (q1, .inl (y2, 128, .inr (.inl (tbL nmT 13))))] H := hP
  have hD : va_D A [(c0, .inr (14, [.null, .null, .null, .null, .int 0, .int 0, .int 0, .null, .null, .null, .int 0, .null, .null, .int 0, .int 0, .int 0, .int 0, .int 0, .int 0, .int 0, .int 0, .int 0, .int 0, .int 0, .int 0, .int 0, .int 0, .int 0, .int 0, .null, .int 0, .int 0, .int 0, .int 0, .null, .int 0, .int 0])), (q1, .inl (y2, 128, .inr (.inl (tbL nmT 13))))] := hD
  refine lv_dup hx hb dX13_init_95 rfl ?_
  refine lv_bipush (v := 13) hx hb dX13_init_96 (by decide) ?_
  refine lv_ldc2 hx hb hown (hts (.constantLong RX13 33 (354469197)) (List.mem_of_getElem? (i := 18) rfl)) dX13_init_98 ?_
  refine va_last (i := 13) (x := 354469197) hx hb hK hP hD hS 1 0 rfl rfl (vp_in_iff.mpr ⟨by decide, by decide⟩) dX13_init_101 (fun H locs hP hD hS => ?_)
  rw [tbL_s nmT 13 (j := 13) (v := 354469197) (by decide) (by decide +kernel)] at hP hD
  have hP : va_P (dC, dI) vwCl [(c0, .inr (14, [.null, .null, .null, .null, .int 0, .int 0, .int 0, .null, .null, .null, .int 0, .null, .null, .int 0, .int 0, .int 0, .int 0, .int 0, .int 0, .int 0, .int 0, .int 0, .int 0, .int 0, .int 0, .int 0, .int 0, .int 0, .int 0, .null, .int 0, .int 0, .int 0, .int 0, .null, .int 0, .int 0])), (q1, .inl (y2, 128, .inr (.inl (tbL nmT 14))))] H := hP
  have hD : va_D A [(c0, .inr (14, [.null, .null, .null, .null, .int 0, .int 0, .int 0, .null, .null, .null, .int 0, .null, .null, .int 0, .int 0, .int 0, .int 0, .int 0, .int 0, .int 0, .int 0, .int 0, .int 0, .int 0, .int 0, .int 0, .int 0, .int 0, .int 0, .null, .int 0, .int 0, .int 0, .int 0, .null, .int 0, .int 0])), (q1, .inl (y2, 128, .inr (.inl (tbL nmT 14))))] := hD
  refine lv_dup hx hb dX13_init_102 rfl ?_
  refine lv_bipush (v := 14) hx hb dX13_init_103 (by decide) ?_
  refine lv_ldc2 hx hb hown (hts (.constantLong RX13 35 (90692)) (List.mem_of_getElem? (i := 19) rfl)) dX13_init_105 ?_
  refine va_last (i := 14) (x := 90692) hx hb hK hP hD hS 1 0 rfl rfl (vp_in_iff.mpr ⟨by decide, by decide⟩) dX13_init_108 (fun H locs hP hD hS => ?_)
  rw [tbL_s nmT 14 (j := 14) (v := 90692) (by decide) (by decide +kernel)] at hP hD
  have hP : va_P (dC, dI) vwCl [(c0, .inr (14, [.null, .null, .null, .null, .int 0, .int 0, .int 0, .null, .null, .null, .int 0, .null, .null, .int 0, .int 0, .int 0, .int 0, .int 0, .int 0, .int 0, .int 0, .int 0, .int 0, .int 0, .int 0, .int 0, .int 0, .int 0, .int 0, .null, .int 0, .int 0, .int 0, .int 0, .null, .int 0, .int 0])), (q1, .inl (y2, 128, .inr (.inl (tbL nmT 15))))] H := hP
  have hD : va_D A [(c0, .inr (14, [.null, .null, .null, .null, .int 0, .int 0, .int 0, .null, .null, .null, .int 0, .null, .null, .int 0, .int 0, .int 0, .int 0, .int 0, .int 0, .int 0, .int 0, .int 0, .int 0, .int 0, .int 0, .int 0, .int 0, .int 0, .int 0, .null, .int 0, .int 0, .int 0, .int 0, .null, .int 0, .int 0])), (q1, .inl (y2, 128, .inr (.inl (tbL nmT 15))))] := hD
  refine lv_dup hx hb dX13_init_109 rfl ?_
  refine lv_bipush (v := 15) hx hb dX13_init_110 (by decide) ?_
  refine lv_ldc2 hx hb hown (hts (.constantLong RX13 37 (5595716)) (List.mem_of_getElem? (i := 20) rfl)) dX13_init_112 ?_
  refine va_last (i := 15) (x := 5595716) hx hb hK hP hD hS 1 0 rfl rfl (vp_in_iff.mpr ⟨by decide, by decide⟩) dX13_init_115 (fun H locs hP hD hS => ?_)
  rw [tbL_s nmT 15 (j := 15) (v := 5595716) (by decide) (by decide +kernel)] at hP hD
  have hP : va_P (dC, dI) vwCl [(c0, .inr (14, [.null, .null, .null, .null, .int 0, .int 0, .int 0, .null, .null, .null, .int 0, .null, .null, .int 0, .int 0, .int 0, .int 0, .int 0, .int 0, .int 0, .int 0, .int 0, .int 0, .int 0, .int 0, .int 0, .int 0, .int 0, .int 0, .null, .int 0, .int 0, .int 0, .int 0, .null, .int 0, .int 0])), (q1, .inl (y2, 128, .inr (.inl (tbL nmT 16))))] H := hP
  have hD : va_D A [(c0, .inr (14, [.null, .null, .null, .null, .int 0, .int 0, .int 0, .null, .null, .null, .int 0, .null, .null, .int 0, .int 0, .int 0, .int 0, .int 0, .int 0, .int 0, .int 0, .int 0, .int 0, .int 0, .int 0, .int 0, .int 0, .int 0, .int 0, .null, .int 0, .int 0, .int 0, .int 0, .null, .int 0, .int 0])), (q1, .inl (y2, 128, .inr (.inl (tbL nmT 16))))] := hD
  refine lv_dup hx hb dX13_init_116 rfl ?_
  refine lv_bipush (v := 16) hx hb dX13_init_117 (by decide) ?_
  refine lv_ldc2 hx hb hown (hts (.constantLong RX13 39 (53586)) (List.mem_of_getElem? (i := 21) rfl)) dX13_init_119 ?_
  refine va_last (i := 16) (x := 53586) hx hb hK hP hD hS 1 0 rfl rfl (vp_in_iff.mpr ⟨by decide, by decide⟩) dX13_init_122 (fun H locs hP hD hS => ?_)
  rw [tbL_s nmT 16 (j := 16) (v := 53586) (by decide) (by decide +kernel)] at hP hD
  have hP : va_P (dC, dI) vwCl [(c0, .inr (14, [.null, .null, .null, .null, .int 0, .int 0, .int 0, .null, .null, .null, .int 0, .null, .null, .int 0, .int 0, .int 0, .int 0, .int 0, .int 0, .int 0, .int 0, .int 0, .int 0, .int 0, .int 0, .int 0, .int 0, .int 0, .int 0, .null, .int 0, .int 0, .int 0, .int 0, .null, .int 0, .int 0])), (q1, .inl (y2, 128, .inr (.inl (tbL nmT 17))))] H := hP
  have hD : va_D A [(c0, .inr (14, [.null, .null, .null, .null, .int 0, .int 0, .int 0, .null, .null, .null, .int 0, .null, .null, .int 0, .int 0, .int 0, .int 0, .int 0, .int 0, .int 0, .int 0, .int 0, .int 0, .int 0, .int 0, .int 0, .int 0, .int 0, .int 0, .null, .int 0, .int 0, .int 0, .int 0, .null, .int 0, .int 0])), (q1, .inl (y2, 128, .inr (.inl (tbL nmT 17))))] := hD
  refine lv_dup hx hb dX13_init_123 rfl ?_
  refine lv_bipush (v := 17) hx hb dX13_init_124 (by decide) ?_
  refine lv_ldc2 hx hb hown (hts (.constantLong RX13 41 (5558610)) (List.mem_of_getElem? (i := 22) rfl)) dX13_init_126 ?_
  refine va_last (i := 17) (x := 5558610) hx hb hK hP hD hS 1 0 rfl rfl (vp_in_iff.mpr ⟨by decide, by decide⟩) dX13_init_129 (fun H locs hP hD hS => ?_)
  rw [tbL_s nmT 17 (j := 17) (v := 5558610) (by decide) (by decide +kernel)] at hP hD
  have hP : va_P (dC, dI) vwCl [(c0, .inr (14, [.null, .null, .null, .null, .int 0, .int 0, .int 0, .null, .null, .null, .int 0, .null, .null, .int 0, .int 0, .int 0, .int 0, .int 0, .int 0, .int 0, .int 0, .int 0, .int 0, .int 0, .int 0, .int 0, .int 0, .int 0, .int 0, .null, .int 0, .int 0, .int 0, .int 0, .null, .int 0, .int 0])), (q1, .inl (y2, 128, .inr (.inl (tbL nmT 18))))] H := hP
  have hD : va_D A [(c0, .inr (14, [.null, .null, .null, .null, .int 0, .int 0, .int 0, .null, .null, .null, .int 0, .null, .null, .int 0, .int 0, .int 0, .int 0, .int 0, .int 0, .int 0, .int 0, .int 0, .int 0, .int 0, .int 0, .int 0, .int 0, .int 0, .int 0, .null, .int 0, .int 0, .int 0, .int 0, .null, .int 0, .int 0])), (q1, .inl (y2, 128, .inr (.inl (tbL nmT 18))))] := hD
  refine lv_dup hx hb dX13_init_130 rfl ?_
  refine lv_bipush (v := 18) hx hb dX13_init_131 (by decide) ?_
  refine lv_ldc2 hx hb hown (hts (.constantLong RX13 43 (2375937)) (List.mem_of_getElem? (i := 23) rfl)) dX13_init_133 ?_
  refine va_last (i := 18) (x := 2375937) hx hb hK hP hD hS 1 0 rfl rfl (vp_in_iff.mpr ⟨by decide, by decide⟩) dX13_init_136 (fun H locs hP hD hS => ?_)
  rw [tbL_s nmT 18 (j := 18) (v := 2375937) (by decide) (by decide +kernel)] at hP hD
  have hP : va_P (dC, dI) vwCl [(c0, .inr (14, [.null, .null, .null, .null, .int 0, .int 0, .int 0, .null, .null, .null, .int 0, .null, .null, .int 0, .int 0, .int 0, .int 0, .int 0, .int 0, .int 0, .int 0, .int 0, .int 0, .int 0, .int 0, .int 0, .int 0, .int 0, .int 0, .null, .int 0, .int 0, .int 0, .int 0, .null, .int 0, .int 0])), (q1, .inl (y2, 128, .inr (.inl (tbL nmT 19))))] H := hP
  have hD : va_D A [(c0, .inr (14, [.null, .null, .null, .null, .int 0, .int 0, .int 0, .null, .null, .null, .int 0, .null, .null, .int 0, .int 0, .int 0, .int 0, .int 0, .int 0, .int 0, .int 0, .int 0, .int 0, .int 0, .int 0, .int 0, .int 0, .int 0, .int 0, .null, .int 0, .int 0, .int 0, .int 0, .null, .int 0, .int 0])), (q1, .inl (y2, 128, .inr (.inl (tbL nmT 19))))] := hD
  refine lv_dup hx hb dX13_init_137 rfl ?_
  refine lv_bipush (v := 19) hx hb dX13_init_138 (by decide) ?_
  refine lv_ldc2 hx hb hown (hts (.constantLong RX13 45 (2442003)) (List.mem_of_getElem? (i := 24) rfl)) dX13_init_140 ?_
  refine va_last (i := 19) (x := 2442003) hx hb hK hP hD hS 1 0 rfl rfl (vp_in_iff.mpr ⟨by decide, by decide⟩) dX13_init_143 (fun H locs hP hD hS => ?_)
  rw [tbL_s nmT 19 (j := 19) (v := 2442003) (by decide) (by decide +kernel)] at hP hD
  have hP : va_P (dC, dI) vwCl [(c0, .inr (14, [.null, .null, .null, .null, .int 0, .int 0, .int 0, .null, .null, .null, .int 0, .null, .null, .int 0, .int 0, .int 0, .int 0, .int 0, .int 0, .int 0, .int 0, .int 0, .int 0, .int 0, .int 0, .int 0, .int 0, .int 0, .int 0, .null, .int 0, .int 0, .int 0, .int 0, .null, .int 0, .int 0])), (q1, .inl (y2, 128, .inr (.inl (tbL nmT 20))))] H := hP
  have hD : va_D A [(c0, .inr (14, [.null, .null, .null, .null, .int 0, .int 0, .int 0, .null, .null, .null, .int 0, .null, .null, .int 0, .int 0, .int 0, .int 0, .int 0, .int 0, .int 0, .int 0, .int 0, .int 0, .int 0, .int 0, .int 0, .int 0, .int 0, .int 0, .null, .int 0, .int 0, .int 0, .int 0, .null, .int 0, .int 0])), (q1, .inl (y2, 128, .inr (.inl (tbL nmT 20))))] := hD
  refine lv_dup hx hb dX13_init_144 rfl ?_
  refine lv_bipush (v := 20) hx hb dX13_init_145 (by decide) ?_
  refine lv_ldc2 hx hb hown (hts (.constantLong RX13 47 (354763539)) (List.mem_of_getElem? (i := 25) rfl)) dX13_init_147 ?_
  refine va_last (i := 20) (x := 354763539) hx hb hK hP hD hS 1 0 rfl rfl (vp_in_iff.mpr ⟨by decide, by decide⟩) dX13_init_150 (fun H locs hP hD hS => ?_)
  rw [tbL_s nmT 20 (j := 20) (v := 354763539) (by decide) (by decide +kernel)] at hP hD
  have hP : va_P (dC, dI) vwCl [(c0, .inr (14, [.null, .null, .null, .null, .int 0, .int 0, .int 0, .null, .null, .null, .int 0, .null, .null, .int 0, .int 0, .int 0, .int 0, .int 0, .int 0, .int 0, .int 0, .int 0, .int 0, .int 0, .int 0, .int 0, .int 0, .int 0, .int 0, .null, .int 0, .int 0, .int 0, .int 0, .null, .int 0, .int 0])), (q1, .inl (y2, 128, .inr (.inl (tbL nmT 21))))] H := hP
  have hD : va_D A [(c0, .inr (14, [.null, .null, .null, .null, .int 0, .int 0, .int 0, .null, .null, .null, .int 0, .null, .null, .int 0, .int 0, .int 0, .int 0, .int 0, .int 0, .int 0, .int 0, .int 0, .int 0, .int 0, .int 0, .int 0, .int 0, .int 0, .int 0, .null, .int 0, .int 0, .int 0, .int 0, .null, .int 0, .int 0])), (q1, .inl (y2, 128, .inr (.inl (tbL nmT 21))))] := hD
  refine lv_dup hx hb dX13_init_151 rfl ?_
  exact kk q1 y2 _ _ _ hK hP hD hS hl


set_option maxHeartbeats 40000000 in
set_option maxRecDepth 100000 in
theorem k_X13_init_s1 {p : Program} {l : Launch} {e : Env} {s : State} {m : MethodId} {args : Array Value} {below : List Frame} {meth : Method} {c : Code} {Q : State → Prop} {A : Nat → Prop} (dC : Nat → ClassId) (dI : Nat → Nat → Nat) (c0 : Nat) (q1 : Nat) (y2 : ClassId) (hlt : l.stackTraces = false) (hx : p.tables.exec = Jvm.exec) (hb : c.code = cX13_init) (hml : c.maxLocals = 1) (hown : s.vm.findClass RX13 = some m.cls) (hts : ∀ w ∈ ow_k_X13_init, w.before args s = true) (hin : meth.name = "<init>") (hN : nv_E dI A s) (hA : ∀ q : Nat, s.heap.size ≤ q → A q) {H : Heap} {locs : List Loc} {ls : Array Slot} (hK : va_K (dC, dI) vwCl [(y2, .long)] s) (hP : va_P (dC, dI) vwCl [(c0, .inr (14, [.null, .null, .null, .null, .int 0, .int 0, .int 0, .null, .null, .null, .int 0, .null, .null, .int 0, .int 0, .int 0, .int 0, .int 0, .int 0, .int 0, .int 0, .int 0, .int 0, .int 0, .int 0, .int 0, .int 0, .int 0, .int 0, .null, .int 0, .int 0, .int 0, .int 0, .null, .int 0, .int 0])), (q1, .inl (y2, 128, .inr (.inl (tbL nmT 21))))] H) (hD : va_D A [(c0, .inr (14, [.null, .null, .null, .null, .int 0, .int 0, .int 0, .null, .null, .null, .int 0, .null, .null, .int 0, .int 0, .int 0, .int 0, .int 0, .int 0, .int 0, .int 0, .int 0, .int 0, .int 0, .int 0, .int 0, .int 0, .int 0, .int 0, .null, .int 0, .int 0, .int 0, .int 0, .null, .int 0, .int 0])), (q1, .inl (y2, 128, .inr (.inl (tbL nmT 21))))]) (hS : va_S A s.heap H locs) (hl : lv_has ls 1 [(0, .ref c0)]) (kk : ∀ (H : Heap) (locs : List Loc) (ls : Array Slot), va_K (dC, dI) vwCl [(y2, .long)] s → va_P (dC, dI) vwCl [(c0, .inr (14, [.null, .null, .null, .null, .int 0, .int 0, .int 0, .null, .null, .null, .int 0, .null, .null, .int 0, .int 0, .int 0, .int 0, .int 0, .int 0, .int 0, .int 0, .int 0, .int 0, .int 0, .int 0, .int 0, .int 0, .int 0, .int 0, .null, .int 0, .int 0, .int 0, .int 0, .null, .int 0, .int 0])), (q1, .inl (y2, 128, .inr (.inl (tbL nmT 43))))] H → va_D A [(c0, .inr (14, [.null, .null, .null, .null, .int 0, .int 0, .int 0, .null, .null, .null, .int 0, .null, .null, .int 0, .int 0, .int 0, .int 0, .int 0, .int 0, .int 0, .int 0, .int 0, .int 0, .int 0, .int 0, .int 0, .int 0, .int 0, .int 0, .null, .int 0, .int 0, .int 0, .int 0, .null, .int 0, .int 0])), (q1, .inl (y2, 128, .inr (.inl (tbL nmT 43))))] → va_S A s.heap H locs → lv_has ls 1 [(0, .ref c0)] → W p l e (headSpec ow_k_X13_init ({ frames := 1, cells := 10, slots := 131956, locals := 12 })).room s m args below meth c H locs 1 128 Q (F0 m 311 ls [.long 5525954, .int 43, .ref q1, .ref q1, .ref c0])) : W p l e (headSpec ow_k_X13_init ({ frames := 1, cells := 10, slots := 131956, locals := 12 })).room s m args below meth c H locs 1 128 Q (F0 m 152 ls [.ref q1, .ref q1, .ref c0]) := by
  refine lv_bipush (v := 21) hx hb dX13_init_152 (by decide) ?_
  refine lv_ldc2 hx hb hown (hts (.constantLong RX13 49 (2434008)) (List.mem_of_getElem? (i := 26) rfl)) dX13_init_154 ?_
  refine va_last (i := 21) (x := 2434008) hx hb hK hP hD hS 1 0 rfl rfl (vp_in_iff.mpr ⟨by decide, by decide⟩) dX13_init_157 (fun H locs hP hD hS => ?_)
  rw [tbL_s nmT 21 (j := 21) (v := 2434008) (by decide) (by decide +kernel)] at hP hD
  have hP : va_P (dC, dI) vwCl [(c0, .inr (14, [.null, .null, .null, .null, .int 0, .int 0, .int 0, .null, .null, .null, .int 0, .null, .null, .int 0, .int 0, .int 0, .int 0, .int 0, .int 0, .int 0, .int 0, .int 0, .int 0, .int 0, .int 0, .int 0, .int 0, .int 0, .int 0, .null, .int 0, .int 0, .int 0, .int 0, .null, .int 0, .int 0])), (q1, .inl (y2, 128, .inr (.inl (tbL nmT 22))))] H := hP
  have hD : va_D A [(c0, .inr (14, [.null, .null, .null, .null, .int 0, .int 0, .int 0, .null, .null, .null, .int 0, .null, .null, .int 0, .int 0, .int 0, .int 0, .int 0, .int 0, .int 0, .int 0, .int 0, .int 0, .int 0, .int 0, .int 0, .int 0, .int 0, .int 0, .null, .int 0, .int 0, .int 0, .int 0, .null, .int 0, .int 0])), (q1, .inl (y2, 128, .inr (.inl (tbL nmT 22))))] := hD
  refine lv_dup hx hb dX13_init_158 rfl ?_
  refine lv_bipush (v := 22) hx hb dX13_init_159 (by decide) ?_
  refine lv_ldc2 hx hb hown (hts (.constantLong RX13 51 (38031)) (List.mem_of_getElem? (i := 27) rfl)) dX13_init_161 ?_
  refine va_last (i := 22) (x := 38031) hx hb hK hP hD hS 1 0 rfl rfl (vp_in_iff.mpr ⟨by decide, by decide⟩) dX13_init_164 (fun H locs hP hD hS => ?_)
  rw [tbL_s nmT 22 (j := 22) (v := 38031) (by decide) (by decide +kernel)] at hP hD
  have hP : va_P (dC, dI) vwCl [(c0, .inr (14, [.null, .null, .null, .null, .int 0, .int 0, .int 0, .null, .null, .null, .int 0, .null, .null, .int 0, .int 0, .int 0, .int 0, .int 0, .int 0, .int 0, .int 0, .int 0, .int 0, .int 0, .int 0, .int 0, .int 0, .int 0, .int 0, .null, .int 0, .int 0, .int 0, .int 0, .null, .int 0, .int 0])), (q1, .inl (y2, 128, .inr (.inl (tbL nmT 23))))] H := hP
  have hD : va_D A [(c0, .inr (14, [.null, .null, .null, .null, .int 0, .int 0, .int 0, .null, .null, .null, .int 0, .null, .null, .int 0, .int 0, .int 0, .int 0, .int 0, .int 0, .int 0, .int 0, .int 0, .int 0, .int 0, .int 0, .int 0, .int 0, .int 0, .int 0, .null, .int 0, .int 0, .int 0, .int 0, .null, .int 0, .int 0])), (q1, .inl (y2, 128, .inr (.inl (tbL nmT 23))))] := hD
  refine lv_dup hx hb dX13_init_165 rfl ?_
  refine lv_bipush (v := 23) hx hb dX13_init_166 (by decide) ?_
  refine lv_ldc2 hx hb hown (hts (.constantLong RX13 53 (2376577)) (List.mem_of_getElem? (i := 28) rfl)) dX13_init_168 ?_
  refine va_last (i := 23) (x := 2376577) hx hb hK hP hD hS 1 0 rfl rfl (vp_in_iff.mpr ⟨by decide, by decide⟩) dX13_init_171 (fun H locs hP hD hS => ?_)
  rw [tbL_s nmT 23 (j := 23) (v := 2376577) (by decide) (by decide +kernel)] at hP hD
  have hP : va_P (dC, dI) vwCl [(c0, .inr (14, [.null, .null, .null, .null, .int 0, .int 0, .int 0, .null, .null, .null, .int 0, .null, .null, .int 0, .int 0, .int 0, .int 0, .int 0, .int 0, .int 0, .int 0, .int 0, .int 0, .int 0, .int 0, .int 0, .int 0, .int 0, .int 0, .null, .int 0, .int 0, .int 0, .int 0, .null, .int 0, .int 0])), (q1, .inl (y2, 128, .inr (.inl (tbL nmT 24))))] H := hP
  have hD : va_D A [(c0, .inr (14, [.null, .null, .null, .null, .int 0, .int 0, .int 0, .null, .null, .null, .int 0, .null, .null, .int 0, .int 0, .int 0, .int 0, .int 0, .int 0, .int 0, .int 0, .int 0, .int 0, .int 0, .int 0, .int 0, .int 0, .int 0, .int 0, .null, .int 0, .int 0, .int 0, .int 0, .null, .int 0, .int 0])), (q1, .inl (y2, 128, .inr (.inl (tbL nmT 24))))] := hD
  refine lv_dup hx hb dX13_init_172 rfl ?_
  refine lv_bipush (v := 24) hx hb dX13_init_173 (by decide) ?_
  refine lv_ldc2 hx hb hown (hts (.constantLong RX13 55 (2409235)) (List.mem_of_getElem? (i := 29) rfl)) dX13_init_175 ?_
  refine va_last (i := 24) (x := 2409235) hx hb hK hP hD hS 1 0 rfl rfl (vp_in_iff.mpr ⟨by decide, by decide⟩) dX13_init_178 (fun H locs hP hD hS => ?_)
  rw [tbL_s nmT 24 (j := 24) (v := 2409235) (by decide) (by decide +kernel)] at hP hD
  have hP : va_P (dC, dI) vwCl [(c0, .inr (14, [.null, .null, .null, .null, .int 0, .int 0, .int 0, .null, .null, .null, .int 0, .null, .null, .int 0, .int 0, .int 0, .int 0, .int 0, .int 0, .int 0, .int 0, .int 0, .int 0, .int 0, .int 0, .int 0, .int 0, .int 0, .int 0, .null, .int 0, .int 0, .int 0, .int 0, .null, .int 0, .int 0])), (q1, .inl (y2, 128, .inr (.inl (tbL nmT 25))))] H := hP
  have hD : va_D A [(c0, .inr (14, [.null, .null, .null, .null, .int 0, .int 0, .int 0, .null, .null, .null, .int 0, .null, .null, .int 0, .int 0, .int 0, .int 0, .int 0, .int 0, .int 0, .int 0, .int 0, .int 0, .int 0, .int 0, .int 0, .int 0, .int 0, .int 0, .null, .int 0, .int 0, .int 0, .int 0, .null, .int 0, .int 0])), (q1, .inl (y2, 128, .inr (.inl (tbL nmT 25))))] := hD
  refine lv_dup hx hb dX13_init_179 rfl ?_
  refine lv_bipush (v := 25) hx hb dX13_init_180 (by decide) ?_
  refine lv_ldc2 hx hb hown (hts (.constantLong RX13 57 (2409619)) (List.mem_of_getElem? (i := 30) rfl)) dX13_init_182 ?_
  refine va_last (i := 25) (x := 2409619) hx hb hK hP hD hS 1 0 rfl rfl (vp_in_iff.mpr ⟨by decide, by decide⟩) dX13_init_185 (fun H locs hP hD hS => ?_)
  rw [tbL_s nmT 25 (j := 25) (v := 2409619) (by decide) (by decide +kernel)] at hP hD
  have hP : va_P (dC, dI) vwCl [(c0, .inr (14, [.null, .null, .null, .null, .int 0, .int 0, .int 0, .null, .null, .null, .int 0, .null, .null, .int 0, .int 0, .int 0, .int 0, .int 0, .int 0, .int 0, .int 0, .int 0, .int 0, .int 0, .int 0, .int 0, .int 0, .int 0, .int 0, .null, .int 0, .int 0, .int 0, .int 0, .null, .int 0, .int 0])), (q1, .inl (y2, 128, .inr (.inl (tbL nmT 26))))] H := hP
  have hD : va_D A [(c0, .inr (14, [.null, .null, .null, .null, .int 0, .int 0, .int 0, .null, .null, .null, .int 0, .null, .null, .int 0, .int 0, .int 0, .int 0, .int 0, .int 0, .int 0, .int 0, .int 0, .int 0, .int 0, .int 0, .int 0, .int 0, .int 0, .int 0, .null, .int 0, .int 0, .int 0, .int 0, .null, .int 0, .int 0])), (q1, .inl (y2, 128, .inr (.inl (tbL nmT 26))))] := hD
  refine lv_dup hx hb dX13_init_186 rfl ?_
  refine lv_bipush (v := 26) hx hb dX13_init_187 (by decide) ?_
  refine lv_ldc2 hx hb hown (hts (.constantLong RX13 59 (2364563)) (List.mem_of_getElem? (i := 31) rfl)) dX13_init_189 ?_
  refine va_last (i := 26) (x := 2364563) hx hb hK hP hD hS 1 0 rfl rfl (vp_in_iff.mpr ⟨by decide, by decide⟩) dX13_init_192 (fun H locs hP hD hS => ?_)
  rw [tbL_s nmT 26 (j := 26) (v := 2364563) (by decide) (by decide +kernel)] at hP hD
  have hP : va_P (dC, dI) vwCl [(c0, .inr (14, [.null, .null, .null, .null, .int 0, .int 0, .int 0, .null, .null, .null, .int 0, .null, .null, .int 0, .int 0, .int 0, .int 0, .int 0, .int 0, .int 0, .int 0, .int 0, .int 0, .int 0, .int 0, .int 0, .int 0, .int 0, .int 0, .null, .int 0, .int 0, .int 0, .int 0, .null, .int 0, .int 0])), (q1, .inl (y2, 128, .inr (.inl (tbL nmT 27))))] H := hP
  have hD : va_D A [(c0, .inr (14, [.null, .null, .null, .null, .int 0, .int 0, .int 0, .null, .null, .null, .int 0, .null, .null, .int 0, .int 0, .int 0, .int 0, .int 0, .int 0, .int 0, .int 0, .int 0, .int 0, .int 0, .int 0, .int 0, .int 0, .int 0, .int 0, .null, .int 0, .int 0, .int 0, .int 0, .null, .int 0, .int 0])), (q1, .inl (y2, 128, .inr (.inl (tbL nmT 27))))] := hD
  refine lv_dup hx hb dX13_init_193 rfl ?_
  refine lv_bipush (v := 27) hx hb dX13_init_194 (by decide) ?_
  refine lv_ldc2 hx hb hown (hts (.constantLong RX13 61 (140)) (List.mem_of_getElem? (i := 32) rfl)) dX13_init_196 ?_
  refine va_last (i := 27) (x := 140) hx hb hK hP hD hS 1 0 rfl rfl (vp_in_iff.mpr ⟨by decide, by decide⟩) dX13_init_199 (fun H locs hP hD hS => ?_)
  rw [tbL_s nmT 27 (j := 27) (v := 140) (by decide) (by decide +kernel)] at hP hD
  have hP : va_P (dC, dI) vwCl [(c0, .inr (14, [.null, .null, .null, .null, .int 0, .int 0, .int 0, .null, .null, .null, .int 0, .null, .null, .int 0, .int 0, .int 0, .int 0, .int 0, .int 0, .int 0, .int 0, .int 0, .int 0, .int 0, .int 0, .int 0, .int 0, .int 0, .int 0, .null, .int 0, .int 0, .int 0, .int 0, .null, .int 0, .int 0])), (q1, .inl (y2, 128, .inr (.inl (tbL nmT 28))))] H := hP
  have hD : va_D A [(c0, .inr (14, [.null, .null, .null, .null, .int 0, .int 0, .int 0, .null, .null, .null, .int 0, .null, .null, .int 0, .int 0, .int 0, .int 0, .int 0, .int 0, .int 0, .int 0, .int 0, .int 0, .int 0, .int 0, .int 0, .int 0, .int 0, .int 0, .null, .int 0, .int 0, .int 0, .int 0, .null, .int 0, .int 0])), (q1, .inl (y2, 128, .inr (.inl (tbL nmT 28))))] := hD
  refine lv_dup hx hb dX13_init_200 rfl ?_
  refine lv_bipush (v := 28) hx hb dX13_init_201 (by decide) ?_
  refine lv_ldc2 hx hb hown (hts (.constantLong RX13 63 (524)) (List.mem_of_getElem? (i := 33) rfl)) dX13_init_203 ?_
  refine va_last (i := 28) (x := 524) hx hb hK hP hD hS 1 0 rfl rfl (vp_in_iff.mpr ⟨by decide, by decide⟩) dX13_init_206 (fun H locs hP hD hS => ?_)
  rw [tbL_s nmT 28 (j := 28) (v := 524) (by decide) (by decide +kernel)] at hP hD
  have hP : va_P (dC, dI) vwCl [(c0, .inr (14, [.null, .null, .null, .null, .int 0, .int 0, .int 0, .null, .null, .null, .int 0, .null, .null, .int 0, .int 0, .int 0, .int 0, .int 0, .int 0, .int 0, .int 0, .int 0, .int 0, .int 0, .int 0, .int 0, .int 0, .int 0, .int 0, .null, .int 0, .int 0, .int 0, .int 0, .null, .int 0, .int 0])), (q1, .inl (y2, 128, .inr (.inl (tbL nmT 29))))] H := hP
  have hD : va_D A [(c0, .inr (14, [.null, .null, .null, .null, .int 0, .int 0, .int 0, .null, .null, .null, .int 0, .null, .null, .int 0, .int 0, .int 0, .int 0, .int 0, .int 0, .int 0, .int 0, .int 0, .int 0, .int 0, .int 0, .int 0, .int 0, .int 0, .int 0, .null, .int 0, .int 0, .int 0, .int 0, .null, .int 0, .int 0])), (q1, .inl (y2, 128, .inr (.inl (tbL nmT 29))))] := hD
  refine lv_dup hx hb dX13_init_207 rfl ?_
  refine lv_bipush (v := 29) hx hb dX13_init_208 (by decide) ?_
  refine lv_ldc2 hx hb hown (hts (.constantLong RX13 65 (1484)) (List.mem_of_getElem? (i := 34) rfl)) dX13_init_210 ?_
  refine va_last (i := 29) (x := 1484) hx hb hK hP hD hS 1 0 rfl rfl (vp_in_iff.mpr ⟨by decide, by decide⟩) dX13_init_213 (fun H locs hP hD hS => ?_)
  rw [tbL_s nmT 29 (j := 29) (v := 1484) (by decide) (by decide +kernel)] at hP hD
  have hP : va_P (dC, dI) vwCl [(c0, .inr (14, [.null, .null, .null, .null, .int 0, .int 0, .int 0, .null, .null, .null, .int 0, .null, .null, .int 0, .int 0, .int 0, .int 0, .int 0, .int 0, .int 0, .int 0, .int 0, .int 0, .int 0, .int 0, .int 0, .int 0, .int 0, .int 0, .null, .int 0, .int 0, .int 0, .int 0, .null, .int 0, .int 0])), (q1, .inl (y2, 128, .inr (.inl (tbL nmT 30))))] H := hP
  have hD : va_D A [(c0, .inr (14, [.null, .null, .null, .null, .int 0, .int 0, .int 0, .null, .null, .null, .int 0, .null, .null, .int 0, .int 0, .int 0, .int 0, .int 0, .int 0, .int 0, .int 0, .int 0, .int 0, .int 0, .int 0, .int 0, .int 0, .int 0, .int 0, .null, .int 0, .int 0, .int 0, .int 0, .null, .int 0, .int 0])), (q1, .inl (y2, 128, .inr (.inl (tbL nmT 30))))] := hD
  refine lv_dup hx hb dX13_init_214 rfl ?_
  refine lv_bipush (v := 30) hx hb dX13_init_215 (by decide) ?_
  refine lv_ldc2 hx hb hown (hts (.constantLong RX13 67 (86156)) (List.mem_of_getElem? (i := 35) rfl)) dX13_init_217 ?_
  refine va_last (i := 30) (x := 86156) hx hb hK hP hD hS 1 0 rfl rfl (vp_in_iff.mpr ⟨by decide, by decide⟩) dX13_init_220 (fun H locs hP hD hS => ?_)
  rw [tbL_s nmT 30 (j := 30) (v := 86156) (by decide) (by decide +kernel)] at hP hD
  have hP : va_P (dC, dI) vwCl [(c0, .inr (14, [.null, .null, .null, .null, .int 0, .int 0, .int 0, .null, .null, .null, .int 0, .null, .null, .int 0, .int 0, .int 0, .int 0, .int 0, .int 0, .int 0, .int 0, .int 0, .int 0, .int 0, .int 0, .int 0, .int 0, .int 0, .int 0, .null, .int 0, .int 0, .int 0, .int 0, .null, .int 0, .int 0])), (q1, .inl (y2, 128, .inr (.inl (tbL nmT 31))))] H := hP
  have hD : va_D A [(c0, .inr (14, [.null, .null, .null, .null, .int 0, .int 0, .int 0, .null, .null, .null, .int 0, .null, .null, .int 0, .int 0, .int 0, .int 0, .int 0, .int 0, .int 0, .int 0, .int 0, .int 0, .int 0, .int 0, .int 0, .int 0, .int 0, .int 0, .null, .int 0, .int 0, .int 0, .int 0, .null, .int 0, .int 0])), (q1, .inl (y2, 128, .inr (.inl (tbL nmT 31))))] := hD
  refine lv_dup hx hb dX13_init_221 rfl ?_
  refine lv_bipush (v := 31) hx hb dX13_init_222 (by decide) ?_
  refine lv_ldc2 hx hb hown (hts (.constantLong RX13 69 (86540)) (List.mem_of_getElem? (i := 36) rfl)) dX13_init_224 ?_
  refine va_last (i := 31) (x := 86540) hx hb hK hP hD hS 1 0 rfl rfl (vp_in_iff.mpr ⟨by decide, by decide⟩) dX13_init_227 (fun H locs hP hD hS => ?_)
  rw [tbL_s nmT 31 (j := 31) (v := 86540) (by decide) (by decide +kernel)] at hP hD
  have hP : va_P (dC, dI) vwCl [(c0, .inr (14, [.null, .null, .null, .null, .int 0, .int 0, .int 0, .null, .null, .null, .int 0, .null, .null, .int 0, .int 0, .int 0, .int 0, .int 0, .int 0, .int 0, .int 0, .int 0, .int 0, .int 0, .int 0, .int 0, .int 0, .int 0, .int 0, .null, .int 0, .int 0, .int 0, .int 0, .null, .int 0, .int 0])), (q1, .inl (y2, 128, .inr (.inl (tbL nmT 32))))] H := hP
  have hD : va_D A [(c0, .inr (14, [.null, .null, .null, .null, .int 0, .int 0, .int 0, .null, .null, .null, .int 0, .null, .null, .int 0, .int 0, .int 0, .int 0, .int 0, .int 0, .int 0, .int 0, .int 0, .int 0, .int 0, .int 0, .int 0, .int 0, .int 0, .int 0, .null, .int 0, .int 0, .int 0, .int 0, .null, .int 0, .int 0])), (q1, .inl (y2, 128, .inr (.inl (tbL nmT 32))))] := hD
  refine lv_dup hx hb dX13_init_228 rfl ?_
  refine lv_bipush (v := 32) hx hb dX13_init_229 (by decide) ?_
  refine lv_ldc2 hx hb hown (hts (.constantLong RX13 71 (4767818)) (List.mem_of_getElem? (i := 37) rfl)) dX13_init_231 ?_
  refine va_last (i := 32) (x := 4767818) hx hb hK hP hD hS 1 0 rfl rfl (vp_in_iff.mpr ⟨by decide, by decide⟩) dX13_init_234 (fun H locs hP hD hS => ?_)
  rw [tbL_s nmT 32 (j := 32) (v := 4767818) (by decide) (by decide +kernel)] at hP hD
  have hP : va_P (dC, dI) vwCl [(c0, .inr (14, [.null, .null, .null, .null, .int 0, .int 0, .int 0, .null, .null, .null, .int 0, .null, .null, .int 0, .int 0, .int 0, .int 0, .int 0, .int 0, .int 0, .int 0, .int 0, .int 0, .int 0, .int 0, .int 0, .int 0, .int 0, .int 0, .null, .int 0, .int 0, .int 0, .int 0, .null, .int 0, .int 0])), (q1, .inl (y2, 128, .inr (.inl (tbL nmT 33))))] H := hP
  have hD : va_D A [(c0, .inr (14, [.null, .null, .null, .null, .int 0, .int 0, .int 0, .null, .null, .null, .int 0, .null, .null, .int 0, .int 0, .int 0, .int 0, .int 0, .int 0, .int 0, .int 0, .int 0, .int 0, .int 0, .int 0, .int 0, .int 0, .int 0, .int 0, .null, .int 0, .int 0, .int 0, .int 0, .null, .int 0, .int 0])), (q1, .inl (y2, 128, .inr (.inl (tbL nmT 33))))] := hD
  refine lv_dup hx hb dX13_init_235 rfl ?_
  refine lv_bipush (v := 33) hx hb dX13_init_236 (by decide) ?_
  refine lv_ldc2 hx hb hown (hts (.constantLong RX13 73 (147)) (List.mem_of_getElem? (i := 38) rfl)) dX13_init_238 ?_
  refine va_last (i := 33) (x := 147) hx hb hK hP hD hS 1 0 rfl rfl (vp_in_iff.mpr ⟨by decide, by decide⟩) dX13_init_241 (fun H locs hP hD hS => ?_)
  rw [tbL_s nmT 33 (j := 33) (v := 147) (by decide) (by decide +kernel)] at hP hD
  have hP : va_P (dC, dI) vwCl [(c0, .inr (14, [.null, .null, .null, .null, .int 0, .int 0, .int 0, .null, .null, .null, .int 0, .null, .null, .int 0, .int 0, .int 0, .int 0, .int 0, .int 0, .int 0, .int 0, .int 0, .int 0, .int 0, .int 0, .int 0, .int 0, .int 0, .int 0, .null, .int 0, .int 0, .int 0, .int 0, .null, .int 0, .int 0])), (q1, .inl (y2, 128, .inr (.inl (tbL nmT 34))))] H := hP
  have hD : va_D A [(c0, .inr (14, [.null, .null, .null, .null, .int 0, .int 0, .int 0, .null, .null, .null, .int 0, .null, .null, .int 0, .int 0, .int 0, .int 0, .int 0, .int 0, .int 0, .int 0, .int 0, .int 0, .int 0, .int 0, .int 0, .int 0, .int 0, .int 0, .null, .int 0, .int 0, .int 0, .int 0, .null, .int 0, .int 0])), (q1, .inl (y2, 128, .inr (.inl (tbL nmT 34))))] := hD
  refine lv_dup hx hb dX13_init_242 rfl ?_
  refine lv_bipush (v := 34) hx hb dX13_init_243 (by decide) ?_
  refine lv_ldc2 hx hb hown (hts (.constantLong RX13 75 (531)) (List.mem_of_getElem? (i := 39) rfl)) dX13_init_245 ?_
  refine va_last (i := 34) (x := 531) hx hb hK hP hD hS 1 0 rfl rfl (vp_in_iff.mpr ⟨by decide, by decide⟩) dX13_init_248 (fun H locs hP hD hS => ?_)
  rw [tbL_s nmT 34 (j := 34) (v := 531) (by decide) (by decide +kernel)] at hP hD
  have hP : va_P (dC, dI) vwCl [(c0, .inr (14, [.null, .null, .null, .null, .int 0, .int 0, .int 0, .null, .null, .null, .int 0, .null, .null, .int 0, .int 0, .int 0, .int 0, .int 0, .int 0, .int 0, .int 0, .int 0, .int 0, .int 0, .int 0, .int 0, .int 0, .int 0, .int 0, .null, .int 0, .int 0, .int 0, .int 0, .null, .int 0, .int 0])), (q1, .inl (y2, 128, .inr (.inl (tbL nmT 35))))] H := hP
  have hD : va_D A [(c0, .inr (14, [.null, .null, .null, .null, .int 0, .int 0, .int 0, .null, .null, .null, .int 0, .null, .null, .int 0, .int 0, .int 0, .int 0, .int 0, .int 0, .int 0, .int 0, .int 0, .int 0, .int 0, .int 0, .int 0, .int 0, .int 0, .int 0, .null, .int 0, .int 0, .int 0, .int 0, .null, .int 0, .int 0])), (q1, .inl (y2, 128, .inr (.inl (tbL nmT 35))))] := hD
  refine lv_dup hx hb dX13_init_249 rfl ?_
  refine lv_bipush (v := 35) hx hb dX13_init_250 (by decide) ?_
  refine lv_ldc2 hx hb hown (hts (.constantLong RX13 77 (1491)) (List.mem_of_getElem? (i := 40) rfl)) dX13_init_252 ?_
  refine va_last (i := 35) (x := 1491) hx hb hK hP hD hS 1 0 rfl rfl (vp_in_iff.mpr ⟨by decide, by decide⟩) dX13_init_255 (fun H locs hP hD hS => ?_)
  rw [tbL_s nmT 35 (j := 35) (v := 1491) (by decide) (by decide +kernel)] at hP hD
  have hP : va_P (dC, dI) vwCl [(c0, .inr (14, [.null, .null, .null, .null, .int 0, .int 0, .int 0, .null, .null, .null, .int 0, .null, .null, .int 0, .int 0, .int 0, .int 0, .int 0, .int 0, .int 0, .int 0, .int 0, .int 0, .int 0, .int 0, .int 0, .int 0, .int 0, .int 0, .null, .int 0, .int 0, .int 0, .int 0, .null, .int 0, .int 0])), (q1, .inl (y2, 128, .inr (.inl (tbL nmT 36))))] H := hP
  have hD : va_D A [(c0, .inr (14, [.null, .null, .null, .null, .int 0, .int 0, .int 0, .null, .null, .null, .int 0, .null, .null, .int 0, .int 0, .int 0, .int 0, .int 0, .int 0, .int 0, .int 0, .int 0, .int 0, .int 0, .int 0, .int 0, .int 0, .int 0, .int 0, .null, .int 0, .int 0, .int 0, .int 0, .null, .int 0, .int 0])), (q1, .inl (y2, 128, .inr (.inl (tbL nmT 36))))] := hD
  refine lv_dup hx hb dX13_init_256 rfl ?_
  refine lv_bipush (v := 36) hx hb dX13_init_257 (by decide) ?_
  refine lv_ldc2 hx hb hown (hts (.constantLong RX13 79 (38220)) (List.mem_of_getElem? (i := 41) rfl)) dX13_init_259 ?_
  refine va_last (i := 36) (x := 38220) hx hb hK hP hD hS 1 0 rfl rfl (vp_in_iff.mpr ⟨by decide, by decide⟩) dX13_init_262 (fun H locs hP hD hS => ?_)
  rw [tbL_s nmT 36 (j := 36) (v := 38220) (by decide) (by decide +kernel)] at hP hD
  have hP : va_P (dC, dI) vwCl [(c0, .inr (14, [.null, .null, .null, .null, .int 0, .int 0, .int 0, .null, .null, .null, .int 0, .null, .null, .int 0, .int 0, .int 0, .int 0, .int 0, .int 0, .int 0, .int 0, .int 0, .int 0, .int 0, .int 0, .int 0, .int 0, .int 0, .int 0, .null, .int 0, .int 0, .int 0, .int 0, .null, .int 0, .int 0])), (q1, .inl (y2, 128, .inr (.inl (tbL nmT 37))))] H := hP
  have hD : va_D A [(c0, .inr (14, [.null, .null, .null, .null, .int 0, .int 0, .int 0, .null, .null, .null, .int 0, .null, .null, .int 0, .int 0, .int 0, .int 0, .int 0, .int 0, .int 0, .int 0, .int 0, .int 0, .int 0, .int 0, .int 0, .int 0, .int 0, .int 0, .null, .int 0, .int 0, .int 0, .int 0, .null, .int 0, .int 0])), (q1, .inl (y2, 128, .inr (.inl (tbL nmT 37))))] := hD
  refine lv_dup hx hb dX13_init_263 rfl ?_
  refine lv_bipush (v := 37) hx hb dX13_init_264 (by decide) ?_
  refine lv_ldc2 hx hb hown (hts (.constantLong RX13 81 (54564161)) (List.mem_of_getElem? (i := 42) rfl)) dX13_init_266 ?_
  refine va_last (i := 37) (x := 54564161) hx hb hK hP hD hS 1 0 rfl rfl (vp_in_iff.mpr ⟨by decide, by decide⟩) dX13_init_269 (fun H locs hP hD hS => ?_)
  rw [tbL_s nmT 37 (j := 37) (v := 54564161) (by decide) (by decide +kernel)] at hP hD
  have hP : va_P (dC, dI) vwCl [(c0, .inr (14, [.null, .null, .null, .null, .int 0, .int 0, .int 0, .null, .null, .null, .int 0, .null, .null, .int 0, .int 0, .int 0, .int 0, .int 0, .int 0, .int 0, .int 0, .int 0, .int 0, .int 0, .int 0, .int 0, .int 0, .int 0, .int 0, .null, .int 0, .int 0, .int 0, .int 0, .null, .int 0, .int 0])), (q1, .inl (y2, 128, .inr (.inl (tbL nmT 38))))] H := hP
  have hD : va_D A [(c0, .inr (14, [.null, .null, .null, .null, .int 0, .int 0, .int 0, .null, .null, .null, .int 0, .null, .null, .int 0, .int 0, .int 0, .int 0, .int 0, .int 0, .int 0, .int 0, .int 0, .int 0, .int 0, .int 0, .int 0, .int 0, .int 0, .int 0, .null, .int 0, .int 0, .int 0, .int 0, .null, .int 0, .int 0])), (q1, .inl (y2, 128, .inr (.inl (tbL nmT 38))))] := hD
  refine lv_dup hx hb dX13_init_270 rfl ?_
  refine lv_bipush (v := 38) hx hb dX13_init_271 (by decide) ?_
  refine lv_ldc2 hx hb hown (hts (.constantLong RX13 83 (69954)) (List.mem_of_getElem? (i := 43) rfl)) dX13_init_273 ?_
  refine va_last (i := 38) (x := 69954) hx hb hK hP hD hS 1 0 rfl rfl (vp_in_iff.mpr ⟨by decide, by decide⟩) dX13_init_276 (fun H locs hP hD hS => ?_)
  rw [tbL_s nmT 38 (j := 38) (v := 69954) (by decide) (by decide +kernel)] at hP hD
  have hP : va_P (dC, dI) vwCl [(c0, .inr (14, [.null, .null, .null, .null, .int 0, .int 0, .int 0, .null, .null, .null, .int 0, .null, .null, .int 0, .int 0, .int 0, .int 0, .int 0, .int 0, .int 0, .int 0, .int 0, .int 0, .int 0, .int 0, .int 0, .int 0, .int 0, .int 0, .null, .int 0, .int 0, .int 0, .int 0, .null, .int 0, .int 0])), (q1, .inl (y2, 128, .inr (.inl (tbL nmT 39))))] H := hP
  have hD : va_D A [(c0, .inr (14, [.null, .null, .null, .null, .int 0, .int 0, .int 0, .null, .null, .null, .int 0, .null, .null, .int 0, .int 0, .int 0, .int 0, .int 0, .int 0, .int 0, .int 0, .int 0, .int 0, .int 0, .int 0, .int 0, .int 0, .int 0, .int 0, .null, .int 0, .int 0, .int 0, .int 0, .null, .int 0, .int 0])), (q1, .inl (y2, 128, .inr (.inl (tbL nmT 39))))] := hD
  refine lv_dup hx hb dX13_init_277 rfl ?_
  refine lv_bipush (v := 39) hx hb dX13_init_278 (by decide) ?_
  refine lv_ldc2 hx hb hown (hts (.constantLong RX13 85 (21378)) (List.mem_of_getElem? (i := 44) rfl)) dX13_init_280 ?_
  refine va_last (i := 39) (x := 21378) hx hb hK hP hD hS 1 0 rfl rfl (vp_in_iff.mpr ⟨by decide, by decide⟩) dX13_init_283 (fun H locs hP hD hS => ?_)
  rw [tbL_s nmT 39 (j := 39) (v := 21378) (by decide) (by decide +kernel)] at hP hD
  have hP : va_P (dC, dI) vwCl [(c0, .inr (14, [.null, .null, .null, .null, .int 0, .int 0, .int 0, .null, .null, .null, .int 0, .null, .null, .int 0, .int 0, .int 0, .int 0, .int 0, .int 0, .int 0, .int 0, .int 0, .int 0, .int 0, .int 0, .int 0, .int 0, .int 0, .int 0, .null, .int 0, .int 0, .int 0, .int 0, .null, .int 0, .int 0])), (q1, .inl (y2, 128, .inr (.inl (tbL nmT 40))))] H := hP
  have hD : va_D A [(c0, .inr (14, [.null, .null, .null, .null, .int 0, .int 0, .int 0, .null, .null, .null, .int 0, .null, .null, .int 0, .int 0, .int 0, .int 0, .int 0, .int 0, .int 0, .int 0, .int 0, .int 0, .int 0, .int 0, .int 0, .int 0, .int 0, .int 0, .null, .int 0, .int 0, .int 0, .int 0, .null, .int 0, .int 0])), (q1, .inl (y2, 128, .inr (.inl (tbL nmT 40))))] := hD
  refine lv_dup hx hb dX13_init_284 rfl ?_
  refine lv_bipush (v := 40) hx hb dX13_init_285 (by decide) ?_
  refine lv_ldc2 hx hb hown (hts (.constantLong RX13 87 (82690)) (List.mem_of_getElem? (i := 45) rfl)) dX13_init_287 ?_
  refine va_last (i := 40) (x := 82690) hx hb hK hP hD hS 1 0 rfl rfl (vp_in_iff.mpr ⟨by decide, by decide⟩) dX13_init_290 (fun H locs hP hD hS => ?_)
  rw [tbL_s nmT 40 (j := 40) (v := 82690) (by decide) (by decide +kernel)] at hP hD
  have hP : va_P (dC, dI) vwCl [(c0, .inr (14, [.null, .null, .null, .null, .int 0, .int 0, .int 0, .null, .null, .null, .int 0, .null, .null, .int 0, .int 0, .int 0, .int 0, .int 0, .int 0, .int 0, .int 0, .int 0, .int 0, .int 0, .int 0, .int 0, .int 0, .int 0, .int 0, .null, .int 0, .int 0, .int 0, .int 0, .null, .int 0, .int 0])), (q1, .inl (y2, 128, .inr (.inl (tbL nmT 41))))] H := hP
  have hD : va_D A [(c0, .inr (14, [.null, .null, .null, .null, .int 0, .int 0, .int 0, .null, .null, .null, .int 0, .null, .null, .int 0, .int 0, .int 0, .int 0, .int 0, .int 0, .int 0, .int 0, .int 0, .int 0, .int 0, .int 0, .int 0, .int 0, .int 0, .int 0, .null, .int 0, .int 0, .int 0, .int 0, .null, .int 0, .int 0])), (q1, .inl (y2, 128, .inr (.inl (tbL nmT 41))))] := hD
  refine lv_dup hx hb dX13_init_291 rfl ?_
  refine lv_bipush (v := 41) hx hb dX13_init_292 (by decide) ?_
  refine lv_ldc2 hx hb hown (hts (.constantLong RX13 89 (20930)) (List.mem_of_getElem? (i := 46) rfl)) dX13_init_294 ?_
  refine va_last (i := 41) (x := 20930) hx hb hK hP hD hS 1 0 rfl rfl (vp_in_iff.mpr ⟨by decide, by decide⟩) dX13_init_297 (fun H locs hP hD hS => ?_)
  rw [tbL_s nmT 41 (j := 41) (v := 20930) (by decide) (by decide +kernel)] at hP hD
  have hP : va_P (dC, dI) vwCl [(c0, .inr (14, [.null, .null, .null, .null, .int 0, .int 0, .int 0, .null, .null, .null, .int 0, .null, .null, .int 0, .int 0, .int 0, .int 0, .int 0, .int 0, .int 0, .int 0, .int 0, .int 0, .int 0, .int 0, .int 0, .int 0, .int 0, .int 0, .null, .int 0, .int 0, .int 0, .int 0, .null, .int 0, .int 0])), (q1, .inl (y2, 128, .inr (.inl (tbL nmT 42))))] H := hP
  have hD : va_D A [(c0, .inr (14, [.null, .null, .null, .null, .int 0, .int 0, .int 0, .null, .null, .null, .int 0, .null, .null, .int 0, .int 0, .int 0, .int 0, .int 0, .int 0, .int 0, .int 0, .int 0, .int 0, .int 0, .int 0, .int 0, .int 0, .int 0, .int 0, .null, .int 0, .int 0, .int 0, .int 0, .null, .int 0, .int 0])), (q1, .inl (y2, 128, .inr (.inl (tbL nmT 42))))] := hD
  refine lv_dup hx hb dX13_init_298 rfl ?_
  refine lv_bipush (v := 42) hx hb dX13_init_299 (by decide) ?_
  refine lv_ldc2 hx hb hown (hts (.constantLong RX13 91 (5587714)) (List.mem_of_getElem? (i := 47) rfl)) dX13_init_301 ?_
  refine va_last (i := 42) (x := 5587714) hx hb hK hP hD hS 1 0 rfl rfl (vp_in_iff.mpr ⟨by decide, by decide⟩) dX13_init_304 (fun H locs hP hD hS => ?_)
  rw [tbL_s nmT 42 (j := 42) (v := 5587714) (by decide) (by decide +kernel)] at hP hD
  have hP : va_P (dC, dI) vwCl [(c0, .inr (14, [.null, .null, .null, .null, .int 0, .int 0, .int 0, .null, .null, .null, .int 0, .null, .null, .int 0, .int 0, .int 0, .int 0, .int 0, .int 0, .int 0, .int 0, .int 0, .int 0, .int 0, .int 0, .int 0, .int 0, .int 0, .int 0, .null, .int 0, .int 0, .int 0, .int 0, .null, .int 0, .int 0])), (q1, .inl (y2, 128, .inr (.inl (tbL nmT 43))))] H := hP
  have hD : va_D A [(c0, .inr (14, [.null, .null, .null, .null, .int 0, .int 0, .int 0, .null, .null, .null, .int 0, .null, .null, .int 0, .int 0, .int 0, .int 0, .int 0, .int 0, .int 0, .int 0, .int 0, .int 0, .int 0, .int 0, .int 0, .int 0, .int 0, .int 0, .null, .int 0, .int 0, .int 0, .int 0, .null, .int 0, .int 0])), (q1, .inl (y2, 128, .inr (.inl (tbL nmT 43))))] := hD
  refine lv_dup hx hb dX13_init_305 rfl ?_
  refine lv_bipush (v := 43) hx hb dX13_init_306 (by decide) ?_
  refine lv_ldc2 hx hb hown (hts (.constantLong RX13 93 (5525954)) (List.mem_of_getElem? (i := 48) rfl)) dX13_init_308 ?_
  exact kk _ _ _ hK hP hD hS hl


set_option maxHeartbeats 40000000 in
set_option maxRecDepth 100000 in
theorem k_X13_init_s2 {p : Program} {l : Launch} {e : Env} {s : State} {m : MethodId} {args : Array Value} {below : List Frame} {meth : Method} {c : Code} {Q : State → Prop} {A : Nat → Prop} (dC : Nat → ClassId) (dI : Nat → Nat → Nat) (c0 : Nat) (q1 : Nat) (y2 : ClassId) (hlt : l.stackTraces = false) (hx : p.tables.exec = Jvm.exec) (hb : c.code = cX13_init) (hml : c.maxLocals = 1) (hown : s.vm.findClass RX13 = some m.cls) (hts : ∀ w ∈ ow_k_X13_init, w.before args s = true) (hin : meth.name = "<init>") (hN : nv_E dI A s) (hA : ∀ q : Nat, s.heap.size ≤ q → A q) {H : Heap} {locs : List Loc} {ls : Array Slot} (hK : va_K (dC, dI) vwCl [(y2, .long)] s) (hP : va_P (dC, dI) vwCl [(c0, .inr (14, [.null, .null, .null, .null, .int 0, .int 0, .int 0, .null, .null, .null, .int 0, .null, .null, .int 0, .int 0, .int 0, .int 0, .int 0, .int 0, .int 0, .int 0, .int 0, .int 0, .int 0, .int 0, .int 0, .int 0, .int 0, .int 0, .null, .int 0, .int 0, .int 0, .int 0, .null, .int 0, .int 0])), (q1, .inl (y2, 128, .inr (.inl (tbL nmT 43))))] H) (hD : va_D A [(c0, .inr (14, [.null, .null, .null, .null, .int 0, .int 0, .int 0, .null, .null, .null, .int 0, .null, .null, .int 0, .int 0, .int 0, .int 0, .int 0, .int 0, .int 0, .int 0, .int 0, .int 0, .int 0, .int 0, .int 0, .int 0, .int 0, .int 0, .null, .int 0, .int 0, .int 0, .int 0, .null, .int 0, .int 0])), (q1, .inl (y2, 128, .inr (.inl (tbL nmT 43))))]) (hS : va_S A s.heap H locs) (hl : lv_has ls 1 [(0, .ref c0)]) (kk : ∀ (H : Heap) (locs : List Loc) (ls : Array Slot), va_K (dC, dI) vwCl [(y2, .long)] s → va_P (dC, dI) vwCl [(c0, .inr (14, [.null, .null, .null, .null, .int 0, .int 0, .int 0, .null, .null, .null, .int 0, .null, .null, .int 0, .int 0, .int 0, .int 0, .int 0, .int 0, .int 0, .int 0, .int 0, .int 0, .int 0, .int 0, .int 0, .int 0, .int 0, .int 0, .null, .int 0, .int 0, .int 0, .int 0, .null, .int 0, .int 0])), (q1, .inl (y2, 128, .inr (.inl (tbL nmT 66))))] H → va_D A [(c0, .inr (14, [.null, .null, .null, .null, .int 0, .int 0, .int 0, .null, .null, .null, .int 0, .null, .null, .int 0, .int 0, .int 0, .int 0, .int 0, .int 0, .int 0, .int 0, .int 0, .int 0, .int 0, .int 0, .int 0, .int 0, .int 0, .int 0, .null, .int 0, .int 0, .int 0, .int 0, .null, .int 0, .int 0])), (q1, .inl (y2, 128, .inr (.inl (tbL nmT 66))))] → va_S A s.heap H locs → lv_has ls 1 [(0, .ref c0)] → W p l e (headSpec ow_k_X13_init ({ frames := 1, cells := 10, slots := 131956, locals := 12 })).room s m args below meth c H locs 1 128 Q (F0 m 467 ls [.ref q1, .ref q1, .ref c0])) : W p l e (headSpec ow_k_X13_init ({ frames := 1, cells := 10, slots := 131956, locals := 12 })).room s m args below meth c H locs 1 128 Q (F0 m 311 ls [.long 5525954, .int 43, .ref q1, .ref q1, .ref c0]) := by
  refine va_last (i := 43) (x := 5525954) hx hb hK hP hD hS 1 0 rfl rfl (vp_in_iff.mpr ⟨by decide, by decide⟩) dX13_init_311 (fun H locs hP hD hS => ?_)
  rw [tbL_s nmT 43 (j := 43) (v := 5525954) (by decide) (by decide +kernel)] at hP hD
  have hP : va_P (dC, dI) vwCl [(c0, .inr (14, [.null, .null, .null, .null, .int 0, .int 0, .int 0, .null, .null, .null, .int 0, .null, .null, .int 0, .int 0, .int 0, .int 0, .int 0, .int 0, .int 0, .int 0, .int 0, .int 0, .int 0, .int 0, .int 0, .int 0, .int 0, .int 0, .null, .int 0, .int 0, .int 0, .int 0, .null, .int 0, .int 0])), (q1, .inl (y2, 128, .inr (.inl (tbL nmT 44))))] H := hP
  have hD : va_D A [(c0, .inr (14, [.null, .null, .null, .null, .int 0, .int 0, .int 0, .null, .null, .null, .int 0, .null, .null, .int 0, .int 0, .int 0, .int 0, .int 0, .int 0, .int 0, .int 0, .int 0, .int 0, .int 0, .int 0, .int 0, .int 0, .int 0, .int 0, .null, .int 0, .int 0, .int 0, .int 0, .null, .int 0, .int 0])), (q1, .inl (y2, 128, .inr (.inl (tbL nmT 44))))] := hD
  refine lv_dup hx hb dX13_init_312 rfl ?_
  refine lv_bipush (v := 44) hx hb dX13_init_313 (by decide) ?_
  refine lv_ldc2 hx hb hown (hts (.constantLong RX13 95 (49226)) (List.mem_of_getElem? (i := 49) rfl)) dX13_init_315 ?_
  refine va_last (i := 44) (x := 49226) hx hb hK hP hD hS 1 0 rfl rfl (vp_in_iff.mpr ⟨by decide, by decide⟩) dX13_init_318 (fun H locs hP hD hS => ?_)
  rw [tbL_s nmT 44 (j := 44) (v := 49226) (by decide) (by decide +kernel)] at hP hD
  have hP : va_P (dC, dI) vwCl [(c0, .inr (14, [.null, .null, .null, .null, .int 0, .int 0, .int 0, .null, .null, .null, .int 0, .null, .null, .int 0, .int 0, .int 0, .int 0, .int 0, .int 0, .int 0, .int 0, .int 0, .int 0, .int 0, .int 0, .int 0, .int 0, .int 0, .int 0, .null, .int 0, .int 0, .int 0, .int 0, .null, .int 0, .int 0])), (q1, .inl (y2, 128, .inr (.inl (tbL nmT 45))))] H := hP
  have hD : va_D A [(c0, .inr (14, [.null, .null, .null, .null, .int 0, .int 0, .int 0, .null, .null, .null, .int 0, .null, .null, .int 0, .int 0, .int 0, .int 0, .int 0, .int 0, .int 0, .int 0, .int 0, .int 0, .int 0, .int 0, .int 0, .int 0, .int 0, .int 0, .null, .int 0, .int 0, .int 0, .int 0, .null, .int 0, .int 0])), (q1, .inl (y2, 128, .inr (.inl (tbL nmT 45))))] := hD
  refine lv_dup hx hb dX13_init_319 rfl ?_
  refine lv_bipush (v := 45) hx hb dX13_init_320 (by decide) ?_
  refine lv_ldc2 hx hb hown (hts (.constantLong RX13 97 (6181075)) (List.mem_of_getElem? (i := 50) rfl)) dX13_init_322 ?_
  refine va_last (i := 45) (x := 6181075) hx hb hK hP hD hS 1 0 rfl rfl (vp_in_iff.mpr ⟨by decide, by decide⟩) dX13_init_325 (fun H locs hP hD hS => ?_)
  rw [tbL_s nmT 45 (j := 45) (v := 6181075) (by decide) (by decide +kernel)] at hP hD
  have hP : va_P (dC, dI) vwCl [(c0, .inr (14, [.null, .null, .null, .null, .int 0, .int 0, .int 0, .null, .null, .null, .int 0, .null, .null, .int 0, .int 0, .int 0, .int 0, .int 0, .int 0, .int 0, .int 0, .int 0, .int 0, .int 0, .int 0, .int 0, .int 0, .int 0, .int 0, .null, .int 0, .int 0, .int 0, .int 0, .null, .int 0, .int 0])), (q1, .inl (y2, 128, .inr (.inl (tbL nmT 46))))] H := hP
  have hD : va_D A [(c0, .inr (14, [.null, .null, .null, .null, .int 0, .int 0, .int 0, .null, .null, .null, .int 0, .null, .null, .int 0, .int 0, .int 0, .int 0, .int 0, .int 0, .int 0, .int 0, .int 0, .int 0, .int 0, .int 0, .int 0, .int 0, .int 0, .int 0, .null, .int 0, .int 0, .int 0, .int 0, .null, .int 0, .int 0])), (q1, .inl (y2, 128, .inr (.inl (tbL nmT 46))))] := hD
  refine lv_dup hx hb dX13_init_326 rfl ?_
  refine lv_bipush (v := 46) hx hb dX13_init_327 (by decide) ?_
  refine lv_ldc2 hx hb hown (hts (.constantLong RX13 99 (6637753161544513)) (List.mem_of_getElem? (i := 51) rfl)) dX13_init_329 ?_
  refine va_last (i := 46) (x := 6637753161544513) hx hb hK hP hD hS 1 0 rfl rfl (vp_in_iff.mpr ⟨by decide, by decide⟩) dX13_init_332 (fun H locs hP hD hS => ?_)
  rw [tbL_s nmT 46 (j := 46) (v := 6637753161544513) (by decide) (by decide +kernel)] at hP hD
  have hP : va_P (dC, dI) vwCl [(c0, .inr (14, [.null, .null, .null, .null, .int 0, .int 0, .int 0, .null, .null, .null, .int 0, .null, .null, .int 0, .int 0, .int 0, .int 0, .int 0, .int 0, .int 0, .int 0, .int 0, .int 0, .int 0, .int 0, .int 0, .int 0, .int 0, .int 0, .null, .int 0, .int 0, .int 0, .int 0, .null, .int 0, .int 0])), (q1, .inl (y2, 128, .inr (.inl (tbL nmT 47))))] H := hP
  have hD : va_D A [(c0, .inr (14, [.null, .null, .null, .null, .int 0, .int 0, .int 0, .null, .null, .null, .int 0, .null, .null, .int 0, .int 0, .int 0, .int 0, .int 0, .int 0, .int 0, .int 0, .int 0, .int 0, .int 0, .int 0, .int 0, .int 0, .int 0, .int 0, .null, .int 0, .int 0, .int 0, .int 0, .null, .int 0, .int 0])), (q1, .inl (y2, 128, .inr (.inl (tbL nmT 47))))] := hD
  refine lv_dup hx hb dX13_init_333 rfl ?_
  refine lv_bipush (v := 47) hx hb dX13_init_334 (by decide) ?_
  refine lv_ldc2 hx hb hown (hts (.constantLong RX13 101 (103702052795201)) (List.mem_of_getElem? (i := 52) rfl)) dX13_init_336 ?_
  refine va_last (i := 47) (x := 103702052795201) hx hb hK hP hD hS 1 0 rfl rfl (vp_in_iff.mpr ⟨by decide, by decide⟩) dX13_init_339 (fun H locs hP hD hS => ?_)
  rw [tbL_s nmT 47 (j := 47) (v := 103702052795201) (by decide) (by decide +kernel)] at hP hD
  have hP : va_P (dC, dI) vwCl [(c0, .inr (14, [.null, .null, .null, .null, .int 0, .int 0, .int 0, .null, .null, .null, .int 0, .null, .null, .int 0, .int 0, .int 0, .int 0, .int 0, .int 0, .int 0, .int 0, .int 0, .int 0, .int 0, .int 0, .int 0, .int 0, .int 0, .int 0, .null, .int 0, .int 0, .int 0, .int 0, .null, .int 0, .int 0])), (q1, .inl (y2, 128, .inr (.inl (tbL nmT 48))))] H := hP
  have hD : va_D A [(c0, .inr (14, [.null, .null, .null, .null, .int 0, .int 0, .int 0, .null, .null, .null, .int 0, .null, .null, .int 0, .int 0, .int 0, .int 0, .int 0, .int 0, .int 0, .int 0, .int 0, .int 0, .int 0, .int 0, .int 0, .int 0, .int 0, .int 0, .null, .int 0, .int 0, .int 0, .int 0, .null, .int 0, .int 0])), (q1, .inl (y2, 128, .inr (.inl (tbL nmT 48))))] := hD
  refine lv_dup hx hb dX13_init_340 rfl ?_
  refine lv_bipush (v := 48) hx hb dX13_init_341 (by decide) ?_
  refine lv_ldc2 hx hb hown (hts (.constantLong RX13 103 (103717275759425)) (List.mem_of_getElem? (i := 53) rfl)) dX13_init_343 ?_
  refine va_last (i := 48) (x := 103717275759425) hx hb hK hP hD hS 1 0 rfl rfl (vp_in_iff.mpr ⟨by decide, by decide⟩) dX13_init_346 (fun H locs hP hD hS => ?_)
  rw [tbL_s nmT 48 (j := 48) (v := 103717275759425) (by decide) (by decide +kernel)] at hP hD
  have hP : va_P (dC, dI) vwCl [(c0, .inr (14, [.null, .null, .null, .null, .int 0, .int 0, .int 0, .null, .null, .null, .int 0, .null, .null, .int 0, .int 0, .int 0, .int 0, .int 0, .int 0, .int 0, .int 0, .int 0, .int 0, .int 0, .int 0, .int 0, .int 0, .int 0, .int 0, .null, .int 0, .int 0, .int 0, .int 0, .null, .int 0, .int 0])), (q1, .inl (y2, 128, .inr (.inl (tbL nmT 49))))] H := hP
  have hD : va_D A [(c0, .inr (14, [.null, .null, .null, .null, .int 0, .int 0, .int 0, .null, .null, .null, .int 0, .null, .null, .int 0, .int 0, .int 0, .int 0, .int 0, .int 0, .int 0, .int 0, .int 0, .int 0, .int 0, .int 0, .int 0, .int 0, .int 0, .int 0, .null, .int 0, .int 0, .int 0, .int 0, .null, .int 0, .int 0])), (q1, .inl (y2, 128, .inr (.inl (tbL nmT 49))))] := hD
  refine lv_dup hx hb dX13_init_347 rfl ?_
  refine lv_bipush (v := 49) hx hb dX13_init_348 (by decide) ?_
  refine lv_ldc2 hx hb hown (hts (.constantLong RX13 105 (103702220567361)) (List.mem_of_getElem? (i := 54) rfl)) dX13_init_350 ?_
  refine va_last (i := 49) (x := 103702220567361) hx hb hK hP hD hS 1 0 rfl rfl (vp_in_iff.mpr ⟨by decide, by decide⟩) dX13_init_353 (fun H locs hP hD hS => ?_)
  rw [tbL_s nmT 49 (j := 49) (v := 103702220567361) (by decide) (by decide +kernel)] at hP hD
  have hP : va_P (dC, dI) vwCl [(c0, .inr (14, [.null, .null, .null, .null, .int 0, .int 0, .int 0, .null, .null, .null, .int 0, .null, .null, .int 0, .int 0, .int 0, .int 0, .int 0, .int 0, .int 0, .int 0, .int 0, .int 0, .int 0, .int 0, .int 0, .int 0, .int 0, .int 0, .null, .int 0, .int 0, .int 0, .int 0, .null, .int 0, .int 0])), (q1, .inl (y2, 128, .inr (.inl (tbL nmT 50))))] H := hP
  have hD : va_D A [(c0, .inr (14, [.null, .null, .null, .null, .int 0, .int 0, .int 0, .null, .null, .null, .int 0, .null, .null, .int 0, .int 0, .int 0, .int 0, .int 0, .int 0, .int 0, .int 0, .int 0, .int 0, .int 0, .int 0, .int 0, .int 0, .int 0, .int 0, .null, .int 0, .int 0, .int 0, .int 0, .null, .int 0, .int 0])), (q1, .inl (y2, 128, .inr (.inl (tbL nmT 50))))] := hD
  refine lv_dup hx hb dX13_init_354 rfl ?_
  refine lv_bipush (v := 50) hx hb dX13_init_355 (by decide) ?_
  refine lv_ldc2 hx hb hown (hts (.constantLong RX13 107 (1620582396737)) (List.mem_of_getElem? (i := 55) rfl)) dX13_init_357 ?_
  refine va_last (i := 50) (x := 1620582396737) hx hb hK hP hD hS 1 0 rfl rfl (vp_in_iff.mpr ⟨by decide, by decide⟩) dX13_init_360 (fun H locs hP hD hS => ?_)
  rw [tbL_s nmT 50 (j := 50) (v := 1620582396737) (by decide) (by decide +kernel)] at hP hD
  have hP : va_P (dC, dI) vwCl [(c0, .inr (14, [.null, .null, .null, .null, .int 0, .int 0, .int 0, .null, .null, .null, .int 0, .null, .null, .int 0, .int 0, .int 0, .int 0, .int 0, .int 0, .int 0, .int 0, .int 0, .int 0, .int 0, .int 0, .int 0, .int 0, .int 0, .int 0, .null, .int 0, .int 0, .int 0, .int 0, .null, .int 0, .int 0])), (q1, .inl (y2, 128, .inr (.inl (tbL nmT 51))))] H := hP
  have hD : va_D A [(c0, .inr (14, [.null, .null, .null, .null, .int 0, .int 0, .int 0, .null, .null, .null, .int 0, .null, .null, .int 0, .int 0, .int 0, .int 0, .int 0, .int 0, .int 0, .int 0, .int 0, .int 0, .int 0, .int 0, .int 0, .int 0, .int 0, .int 0, .null, .int 0, .int 0, .int 0, .int 0, .null, .int 0, .int 0])), (q1, .inl (y2, 128, .inr (.inl (tbL nmT 51))))] := hD
  refine lv_dup hx hb dX13_init_361 rfl ?_
  refine lv_bipush (v := 51) hx hb dX13_init_362 (by decide) ?_
  refine lv_ldc2 hx hb hown (hts (.constantLong RX13 109 (103712877245249)) (List.mem_of_getElem? (i := 56) rfl)) dX13_init_364 ?_
  refine va_last (i := 51) (x := 103712877245249) hx hb hK hP hD hS 1 0 rfl rfl (vp_in_iff.mpr ⟨by decide, by decide⟩) dX13_init_367 (fun H locs hP hD hS => ?_)
  rw [tbL_s nmT 51 (j := 51) (v := 103712877245249) (by decide) (by decide +kernel)] at hP hD
  have hP : va_P (dC, dI) vwCl [(c0, .inr (14, [.null, .null, .null, .null, .int 0, .int 0, .int 0, .null, .null, .null, .int 0, .null, .null, .int 0, .int 0, .int 0, .int 0, .int 0, .int 0, .int 0, .int 0, .int 0, .int 0, .int 0, .int 0, .int 0, .int 0, .int 0, .int 0, .null, .int 0, .int 0, .int 0, .int 0, .null, .int 0, .int 0])), (q1, .inl (y2, 128, .inr (.inl (tbL nmT 52))))] H := hP
  have hD : va_D A [(c0, .inr (14, [.null, .null, .null, .null, .int 0, .int 0, .int 0, .null, .null, .null, .int 0, .null, .null, .int 0, .int 0, .int 0, .int 0, .int 0, .int 0, .int 0, .int 0, .int 0, .int 0, .int 0, .int 0, .int 0, .int 0, .int 0, .int 0, .null, .int 0, .int 0, .int 0, .int 0, .null, .int 0, .int 0])), (q1, .inl (y2, 128, .inr (.inl (tbL nmT 52))))] := hD
  refine lv_dup hx hb dX13_init_368 rfl ?_
  refine lv_bipush (v := 52) hx hb dX13_init_369 (by decide) ?_
  refine lv_ldc2 hx hb hown (hts (.constantLong RX13 111 (103723480445761)) (List.mem_of_getElem? (i := 57) rfl)) dX13_init_371 ?_
  refine va_last (i := 52) (x := 103723480445761) hx hb hK hP hD hS 1 0 rfl rfl (vp_in_iff.mpr ⟨by decide, by decide⟩) dX13_init_374 (fun H locs hP hD hS => ?_)
  rw [tbL_s nmT 52 (j := 52) (v := 103723480445761) (by decide) (by decide +kernel)] at hP hD
  have hP : va_P (dC, dI) vwCl [(c0, .inr (14, [.null, .null, .null, .null, .int 0, .int 0, .int 0, .null, .null, .null, .int 0, .null, .null, .int 0, .int 0, .int 0, .int 0, .int 0, .int 0, .int 0, .int 0, .int 0, .int 0, .int 0, .int 0, .int 0, .int 0, .int 0, .int 0, .null, .int 0, .int 0, .int 0, .int 0, .null, .int 0, .int 0])), (q1, .inl (y2, 128, .inr (.inl (tbL nmT 53))))] H := hP
  have hD : va_D A [(c0, .inr (14, [.null, .null, .null, .null, .int 0, .int 0, .int 0, .null, .null, .null, .int 0, .null, .null, .int 0, .int 0, .int 0, .int 0, .int 0, .int 0, .int 0, .int 0, .int 0, .int 0, .int 0, .int 0, .int 0, .int 0, .int 0, .int 0, .null, .int 0, .int 0, .int 0, .int 0, .null, .int 0, .int 0])), (q1, .inl (y2, 128, .inr (.inl (tbL nmT 53))))] := hD
  refine lv_dup hx hb dX13_init_375 rfl ?_
  refine lv_bipush (v := 53) hx hb dX13_init_376 (by decide) ?_
  refine lv_ldc2 hx hb hown (hts (.constantLong RX13 113 (6638110481118017)) (List.mem_of_getElem? (i := 58) rfl)) dX13_init_378 ?_
  refine va_last (i := 53) (x := 6638110481118017) hx hb hK hP hD hS 1 0 rfl rfl (vp_in_iff.mpr ⟨by decide, by decide⟩) dX13_init_381 (fun H locs hP hD hS => ?_)
  rw [tbL_s nmT 53 (j := 53) (v := 6638110481118017) (by decide) (by decide +kernel)] at hP hD
  have hP : va_P (dC, dI) vwCl [(c0, .inr (14, [.null, .null, .null, .null, .int 0, .int 0, .int 0, .null, .null, .null, .int 0, .null, .null, .int 0, .int 0, .int 0, .int 0, .int 0, .int 0, .int 0, .int 0, .int 0, .int 0, .int 0, .int 0, .int 0, .int 0, .int 0, .int 0, .null, .int 0, .int 0, .int 0, .int 0, .null, .int 0, .int 0])), (q1, .inl (y2, 128, .inr (.inl (tbL nmT 54))))] H := hP
  have hD : va_D A [(c0, .inr (14, [.null, .null, .null, .null, .int 0, .int 0, .int 0, .null, .null, .null, .int 0, .null, .null, .int 0, .int 0, .int 0, .int 0, .int 0, .int 0, .int 0, .int 0, .int 0, .int 0, .int 0, .int 0, .int 0, .int 0, .int 0, .int 0, .null, .int 0, .int 0, .int 0, .int 0, .null, .int 0, .int 0])), (q1, .inl (y2, 128, .inr (.inl (tbL nmT 54))))] := hD
  refine lv_dup hx hb dX13_init_382 rfl ?_
  refine lv_bipush (v := 54) hx hb dX13_init_383 (by decide) ?_
  refine lv_ldc2 hx hb hown (hts (.constantLong RX13 115 (6638121084318529)) (List.mem_of_getElem? (i := 59) rfl)) dX13_init_385 ?_
  refine va_last (i := 54) (x := 6638121084318529) hx hb hK hP hD hS 1 0 rfl rfl (vp_in_iff.mpr ⟨by decide, by decide⟩) dX13_init_388 (fun H locs hP hD hS => ?_)
  rw [tbL_s nmT 54 (j := 54) (v := 6638121084318529) (by decide) (by decide +kernel)] at hP hD
  have hP : va_P (dC, dI) vwCl [(c0, .inr (14, [.null, .null, .null, .null, .int 0, .int 0, .int 0, .null, .null, .null, .int 0, .null, .null, .int 0, .int 0, .int 0, .int 0, .int 0, .int 0, .int 0, .int 0, .int 0, .int 0, .int 0, .int 0, .int 0, .int 0, .int 0, .int 0, .null, .int 0, .int 0, .int 0, .int 0, .null, .int 0, .int 0])), (q1, .inl (y2, 128, .inr (.inl (tbL nmT 55))))] H := hP
  have hD : va_D A [(c0, .inr (14, [.null, .null, .null, .null, .int 0, .int 0, .int 0, .null, .null, .null, .int 0, .null, .null, .int 0, .int 0, .int 0, .int 0, .int 0, .int 0, .int 0, .int 0, .int 0, .int 0, .int 0, .int 0, .int 0, .int 0, .int 0, .int 0, .null, .int 0, .int 0, .int 0, .int 0, .null, .int 0, .int 0])), (q1, .inl (y2, 128, .inr (.inl (tbL nmT 55))))] := hD
  refine lv_dup hx hb dX13_init_389 rfl ?_
  refine lv_bipush (v := 55) hx hb dX13_init_390 (by decide) ?_
  refine lv_ldc2 hx hb hown (hts (.constantLong RX13 117 (6182028)) (List.mem_of_getElem? (i := 60) rfl)) dX13_init_392 ?_
  refine va_last (i := 55) (x := 6182028) hx hb hK hP hD hS 1 0 rfl rfl (vp_in_iff.mpr ⟨by decide, by decide⟩) dX13_init_395 (fun H locs hP hD hS => ?_)
  rw [tbL_s nmT 55 (j := 55) (v := 6182028) (by decide) (by decide +kernel)] at hP hD
  have hP : va_P (dC, dI) vwCl [(c0, .inr (14, [.null, .null, .null, .null, .int 0, .int 0, .int 0, .null, .null, .null, .int 0, .null, .null, .int 0, .int 0, .int 0, .int 0, .int 0, .int 0, .int 0, .int 0, .int 0, .int 0, .int 0, .int 0, .int 0, .int 0, .int 0, .int 0, .null, .int 0, .int 0, .int 0, .int 0, .null, .int 0, .int 0])), (q1, .inl (y2, 128, .inr (.inl (tbL nmT 56))))] H := hP
  have hD : va_D A [(c0, .inr (14, [.null, .null, .null, .null, .int 0, .int 0, .int 0, .null, .null, .null, .int 0, .null, .null, .int 0, .int 0, .int 0, .int 0, .int 0, .int 0, .int 0, .int 0, .int 0, .int 0, .int 0, .int 0, .int 0, .int 0, .int 0, .int 0, .null, .int 0, .int 0, .int 0, .int 0, .null, .int 0, .int 0])), (q1, .inl (y2, 128, .inr (.inl (tbL nmT 56))))] := hD
  refine lv_dup hx hb dX13_init_396 rfl ?_
  refine lv_bipush (v := 56) hx hb dX13_init_397 (by decide) ?_
  refine lv_ldc2 hx hb hown (hts (.constantLong RX13 119 (356539183378)) (List.mem_of_getElem? (i := 61) rfl)) dX13_init_399 ?_
  refine va_last (i := 56) (x := 356539183378) hx hb hK hP hD hS 1 0 rfl rfl (vp_in_iff.mpr ⟨by decide, by decide⟩) dX13_init_402 (fun H locs hP hD hS => ?_)
  rw [tbL_s nmT 56 (j := 56) (v := 356539183378) (by decide) (by decide +kernel)] at hP hD
  have hP : va_P (dC, dI) vwCl [(c0, .inr (14, [.null, .null, .null, .null, .int 0, .int 0, .int 0, .null, .null, .null, .int 0, .null, .null, .int 0, .int 0, .int 0, .int 0, .int 0, .int 0, .int 0, .int 0, .int 0, .int 0, .int 0, .int 0, .int 0, .int 0, .int 0, .int 0, .null, .int 0, .int 0, .int 0, .int 0, .null, .int 0, .int 0])), (q1, .inl (y2, 128, .inr (.inl (tbL nmT 57))))] H := hP
  have hD : va_D A [(c0, .inr (14, [.null, .null, .null, .null, .int 0, .int 0, .int 0, .null, .null, .null, .int 0, .null, .null, .int 0, .int 0, .int 0, .int 0, .int 0, .int 0, .int 0, .int 0, .int 0, .int 0, .int 0, .int 0, .int 0, .int 0, .int 0, .int 0, .null, .int 0, .int 0, .int 0, .int 0, .null, .int 0, .int 0])), (q1, .inl (y2, 128, .inr (.inl (tbL nmT 57))))] := hD
  refine lv_dup hx hb dX13_init_403 rfl ?_
  refine lv_bipush (v := 57) hx hb dX13_init_404 (by decide) ?_
  refine lv_ldc2 hx hb hown (hts (.constantLong RX13 121 (5589254418)) (List.mem_of_getElem? (i := 62) rfl)) dX13_init_406 ?_
  refine va_last (i := 57) (x := 5589254418) hx hb hK hP hD hS 1 0 rfl rfl (vp_in_iff.mpr ⟨by decide, by decide⟩) dX13_init_409 (fun H locs hP hD hS => ?_)
  rw [tbL_s nmT 57 (j := 57) (v := 5589254418) (by decide) (by decide +kernel)] at hP hD
  have hP : va_P (dC, dI) vwCl [(c0, .inr (14, [.null, .null, .null, .null, .int 0, .int 0, .int 0, .null, .null, .null, .int 0, .null, .null, .int 0, .int 0, .int 0, .int 0, .int 0, .int 0, .int 0, .int 0, .int 0, .int 0, .int 0, .int 0, .int 0, .int 0, .int 0, .int 0, .null, .int 0, .int 0, .int 0, .int 0, .null, .int 0, .int 0])), (q1, .inl (y2, 128, .inr (.inl (tbL nmT 58))))] H := hP
  have hD : va_D A [(c0, .inr (14, [.null, .null, .null, .null, .int 0, .int 0, .int 0, .null, .null, .null, .int 0, .null, .null, .int 0, .int 0, .int 0, .int 0, .int 0, .int 0, .int 0, .int 0, .int 0, .int 0, .int 0, .int 0, .int 0, .int 0, .int 0, .int 0, .null, .int 0, .int 0, .int 0, .int 0, .null, .int 0, .int 0])), (q1, .inl (y2, 128, .inr (.inl (tbL nmT 58))))] := hD
  refine lv_dup hx hb dX13_init_410 rfl ?_
  refine lv_bipush (v := 58) hx hb dX13_init_411 (by decide) ?_
  refine lv_ldc2 hx hb hown (hts (.constantLong RX13 123 (5652748514660626)) (List.mem_of_getElem? (i := 63) rfl)) dX13_init_413 ?_
  refine va_last (i := 58) (x := 5652748514660626) hx hb hK hP hD hS 1 0 rfl rfl (vp_in_iff.mpr ⟨by decide, by decide⟩) dX13_init_416 (fun H locs hP hD hS => ?_)
  rw [tbL_s nmT 58 (j := 58) (v := 5652748514660626) (by decide) (by decide +kernel)] at hP hD
  have hP : va_P (dC, dI) vwCl [(c0, .inr (14, [.null, .null, .null, .null, .int 0, .int 0, .int 0, .null, .null, .null, .int 0, .null, .null, .int 0, .int 0, .int 0, .int 0, .int 0, .int 0, .int 0, .int 0, .int 0, .int 0, .int 0, .int 0, .int 0, .int 0, .int 0, .int 0, .null, .int 0, .int 0, .int 0, .int 0, .null, .int 0, .int 0])), (q1, .inl (y2, 128, .inr (.inl (tbL nmT 59))))] H := hP
  have hD : va_D A [(c0, .inr (14, [.null, .null, .null, .null, .int 0, .int 0, .int 0, .null, .null, .null, .int 0, .null, .null, .int 0, .int 0, .int 0, .int 0, .int 0, .int 0, .int 0, .int 0, .int 0, .int 0, .int 0, .int 0, .int 0, .int 0, .int 0, .int 0, .null, .int 0, .int 0, .int 0, .int 0, .null, .int 0, .int 0])), (q1, .inl (y2, 128, .inr (.inl (tbL nmT 59))))] := hD
  refine lv_dup hx hb dX13_init_417 rfl ?_
  refine lv_bipush (v := 59) hx hb dX13_init_418 (by decide) ?_
  refine lv_ldc2 hx hb hown (hts (.constantLong RX13 125 (35540911272210)) (List.mem_of_getElem? (i := 64) rfl)) dX13_init_420 ?_
  refine va_last (i := 59) (x := 35540911272210) hx hb hK hP hD hS 1 0 rfl rfl (vp_in_iff.mpr ⟨by decide, by decide⟩) dX13_init_423 (fun H locs hP hD hS => ?_)
  rw [tbL_s nmT 59 (j := 59) (v := 35540911272210) (by decide) (by decide +kernel)] at hP hD
  have hP : va_P (dC, dI) vwCl [(c0, .inr (14, [.null, .null, .null, .null, .int 0, .int 0, .int 0, .null, .null, .null, .int 0, .null, .null, .int 0, .int 0, .int 0, .int 0, .int 0, .int 0, .int 0, .int 0, .int 0, .int 0, .int 0, .int 0, .int 0, .int 0, .int 0, .int 0, .null, .int 0, .int 0, .int 0, .int 0, .null, .int 0, .int 0])), (q1, .inl (y2, 128, .inr (.inl (tbL nmT 60))))] H := hP
  have hD : va_D A [(c0, .inr (14, [.null, .null, .null, .null, .int 0, .int 0, .int 0, .null, .null, .null, .int 0, .null, .null, .int 0, .int 0, .int 0, .int 0, .int 0, .int 0, .int 0, .int 0, .int 0, .int 0, .int 0, .int 0, .int 0, .int 0, .int 0, .int 0, .null, .int 0, .int 0, .int 0, .int 0, .null, .int 0, .int 0])), (q1, .inl (y2, 128, .inr (.inl (tbL nmT 60))))] := hD
  refine lv_dup hx hb dX13_init_424 rfl ?_
  refine lv_bipush (v := 60) hx hb dX13_init_425 (by decide) ?_
  refine lv_ldc2 hx hb hown (hts (.constantLong RX13 127 (555345068306)) (List.mem_of_getElem? (i := 65) rfl)) dX13_init_427 ?_
  refine va_last (i := 60) (x := 555345068306) hx hb hK hP hD hS 1 0 rfl rfl (vp_in_iff.mpr ⟨by decide, by decide⟩) dX13_init_430 (fun H locs hP hD hS => ?_)
  rw [tbL_s nmT 60 (j := 60) (v := 555345068306) (by decide) (by decide +kernel)] at hP hD
  have hP : va_P (dC, dI) vwCl [(c0, .inr (14, [.null, .null, .null, .null, .int 0, .int 0, .int 0, .null, .null, .null, .int 0, .null, .null, .int 0, .int 0, .int 0, .int 0, .int 0, .int 0, .int 0, .int 0, .int 0, .int 0, .int 0, .int 0, .int 0, .int 0, .int 0, .int 0, .null, .int 0, .int 0, .int 0, .int 0, .null, .int 0, .int 0])), (q1, .inl (y2, 128, .inr (.inl (tbL nmT 61))))] H := hP
  have hD : va_D A [(c0, .inr (14, [.null, .null, .null, .null, .int 0, .int 0, .int 0, .null, .null, .null, .int 0, .null, .null, .int 0, .int 0, .int 0, .int 0, .int 0, .int 0, .int 0, .int 0, .int 0, .int 0, .int 0, .int 0, .int 0, .int 0, .int 0, .int 0, .null, .int 0, .int 0, .int 0, .int 0, .null, .int 0, .int 0])), (q1, .inl (y2, 128, .inr (.inl (tbL nmT 61))))] := hD
  refine lv_dup hx hb dX13_init_431 rfl ?_
  refine lv_bipush (v := 61) hx hb dX13_init_432 (by decide) ?_
  refine lv_ldc2 hx hb hown (hts (.constantLong RX13 129 (149767936590516498)) (List.mem_of_getElem? (i := 66) rfl)) dX13_init_434 ?_
  refine va_last (i := 61) (x := 149767936590516498) hx hb hK hP hD hS 1 0 rfl rfl (vp_in_iff.mpr ⟨by decide, by decide⟩) dX13_init_437 (fun H locs hP hD hS => ?_)
  rw [tbL_s nmT 61 (j := 61) (v := 149767936590516498) (by decide) (by decide +kernel)] at hP hD
  have hP : va_P (dC, dI) vwCl [(c0, .inr (14, [.null, .null, .null, .null, .int 0, .int 0, .int 0, .null, .null, .null, .int 0, .null, .null, .int 0, .int 0, .int 0, .int 0, .int 0, .int 0, .int 0, .int 0, .int 0, .int 0, .int 0, .int 0, .int 0, .int 0, .int 0, .int 0, .null, .int 0, .int 0, .int 0, .int 0, .null, .int 0, .int 0])), (q1, .inl (y2, 128, .inr (.inl (tbL nmT 62))))] H := hP
  have hD : va_D A [(c0, .inr (14, [.null, .null, .null, .null, .int 0, .int 0, .int 0, .null, .null, .null, .int 0, .null, .null, .int 0, .int 0, .int 0, .int 0, .int 0, .int 0, .int 0, .int 0, .int 0, .int 0, .int 0, .int 0, .int 0, .int 0, .int 0, .int 0, .null, .int 0, .int 0, .int 0, .int 0, .null, .int 0, .int 0])), (q1, .inl (y2, 128, .inr (.inl (tbL nmT 62))))] := hD
  refine lv_dup hx hb dX13_init_438 rfl ?_
  refine lv_bipush (v := 62) hx hb dX13_init_439 (by decide) ?_
  refine lv_ldc2 hx hb hown (hts (.constantLong RX13 131 (84730182)) (List.mem_of_getElem? (i := 67) rfl)) dX13_init_441 ?_
  refine va_last (i := 62) (x := 84730182) hx hb hK hP hD hS 1 0 rfl rfl (vp_in_iff.mpr ⟨by decide, by decide⟩) dX13_init_444 (fun H locs hP hD hS => ?_)
  rw [tbL_s nmT 62 (j := 62) (v := 84730182) (by decide) (by decide +kernel)] at hP hD
  have hP : va_P (dC, dI) vwCl [(c0, .inr (14, [.null, .null, .null, .null, .int 0, .int 0, .int 0, .null, .null, .null, .int 0, .null, .null, .int 0, .int 0, .int 0, .int 0, .int 0, .int 0, .int 0, .int 0, .int 0, .int 0, .int 0, .int 0, .int 0, .int 0, .int 0, .int 0, .null, .int 0, .int 0, .int 0, .int 0, .null, .int 0, .int 0])), (q1, .inl (y2, 128, .inr (.inl (tbL nmT 63))))] H := hP
  have hD : va_D A [(c0, .inr (14, [.null, .null, .null, .null, .int 0, .int 0, .int 0, .null, .null, .null, .int 0, .null, .null, .int 0, .int 0, .int 0, .int 0, .int 0, .int 0, .int 0, .int 0, .int 0, .int 0, .int 0, .int 0, .int 0, .int 0, .int 0, .int 0, .null, .int 0, .int 0, .int 0, .int 0, .null, .int 0, .int 0])), (q1, .inl (y2, 128, .inr (.inl (tbL nmT 63))))] := hD
  refine lv_dup hx hb dX13_init_445 rfl ?_
  refine lv_bipush (v := 63) hx hb dX13_init_446 (by decide) ?_
  refine lv_ldc2 hx hb hown (hts (.constantLong RX13 133 (658288468294)) (List.mem_of_getElem? (i := 68) rfl)) dX13_init_448 ?_
  refine va_last (i := 63) (x := 658288468294) hx hb hK hP hD hS 1 0 rfl rfl (vp_in_iff.mpr ⟨by decide, by decide⟩) dX13_init_451 (fun H locs hP hD hS => ?_)
  rw [tbL_s nmT 63 (j := 63) (v := 658288468294) (by decide) (by decide +kernel)] at hP hD
  have hP : va_P (dC, dI) vwCl [(c0, .inr (14, [.null, .null, .null, .null, .int 0, .int 0, .int 0, .null, .null, .null, .int 0, .null, .null, .int 0, .int 0, .int 0, .int 0, .int 0, .int 0, .int 0, .int 0, .int 0, .int 0, .int 0, .int 0, .int 0, .int 0, .int 0, .int 0, .null, .int 0, .int 0, .int 0, .int 0, .null, .int 0, .int 0])), (q1, .inl (y2, 128, .inr (.inl (tbL nmT 64))))] H := hP
  have hD : va_D A [(c0, .inr (14, [.null, .null, .null, .null, .int 0, .int 0, .int 0, .null, .null, .null, .int 0, .null, .null, .int 0, .int 0, .int 0, .int 0, .int 0, .int 0, .int 0, .int 0, .int 0, .int 0, .int 0, .int 0, .int 0, .int 0, .int 0, .int 0, .null, .int 0, .int 0, .int 0, .int 0, .null, .int 0, .int 0])), (q1, .inl (y2, 128, .inr (.inl (tbL nmT 64))))] := hD
  refine lv_dup hx hb dX13_init_452 rfl ?_
  refine lv_bipush (v := 64) hx hb dX13_init_453 (by decide) ?_
  refine lv_ldc2 hx hb hown (hts (.constantLong RX13 135 (204476613)) (List.mem_of_getElem? (i := 69) rfl)) dX13_init_455 ?_
  refine va_last (i := 64) (x := 204476613) hx hb hK hP hD hS 1 0 rfl rfl (vp_in_iff.mpr ⟨by decide, by decide⟩) dX13_init_458 (fun H locs hP hD hS => ?_)
  rw [tbL_s nmT 64 (j := 64) (v := 204476613) (by decide) (by decide +kernel)] at hP hD
  have hP : va_P (dC, dI) vwCl [(c0, .inr (14, [.null, .null, .null, .null, .int 0, .int 0, .int 0, .null, .null, .null, .int 0, .null, .null, .int 0, .int 0, .int 0, .int 0, .int 0, .int 0, .int 0, .int 0, .int 0, .int 0, .int 0, .int 0, .int 0, .int 0, .int 0, .int 0, .null, .int 0, .int 0, .int 0, .int 0, .null, .int 0, .int 0])), (q1, .inl (y2, 128, .inr (.inl (tbL nmT 65))))] H := hP
  have hD : va_D A [(c0, .inr (14, [.null, .null, .null, .null, .int 0, .int 0, .int 0, .null, .null, .null, .int 0, .null, .null, .int 0, .int 0, .int 0, .int 0, .int 0, .int 0, .int 0, .int 0, .int 0, .int 0, .int 0, .int 0, .int 0, .int 0, .int 0, .int 0, .null, .int 0, .int 0, .int 0, .int 0, .null, .int 0, .int 0])), (q1, .inl (y2, 128, .inr (.inl (tbL nmT 65))))] := hD
  refine lv_dup hx hb dX13_init_459 rfl ?_
  refine lv_bipush (v := 65) hx hb dX13_init_460 (by decide) ?_
  refine lv_ldc2 hx hb hown (hts (.constantLong RX13 137 (11829321861)) (List.mem_of_getElem? (i := 70) rfl)) dX13_init_462 ?_
  refine va_last (i := 65) (x := 11829321861) hx hb hK hP hD hS 1 0 rfl rfl (vp_in_iff.mpr ⟨by decide, by decide⟩) dX13_init_465 (fun H locs hP hD hS => ?_)
  rw [tbL_s nmT 65 (j := 65) (v := 11829321861) (by decide) (by decide +kernel)] at hP hD
  have hP : va_P (dC, dI) vwCl [(c0, .inr (14, [.null, .null, .null, .null, .int 0, .int 0, .int 0, .null, .null, .null, .int 0, .null, .null, .int 0, .int 0, .int 0, .int 0, .int 0, .int 0, .int 0, .int 0, .int 0, .int 0, .int 0, .int 0, .int 0, .int 0, .int 0, .int 0, .null, .int 0, .int 0, .int 0, .int 0, .null, .int 0, .int 0])), (q1, .inl (y2, 128, .inr (.inl (tbL nmT 66))))] H := hP
  have hD : va_D A [(c0, .inr (14, [.null, .null, .null, .null, .int 0, .int 0, .int 0, .null, .null, .null, .int 0, .null, .null, .int 0, .int 0, .int 0, .int 0, .int 0, .int 0, .int 0, .int 0, .int 0, .int 0, .int 0, .int 0, .int 0, .int 0, .int 0, .int 0, .null, .int 0, .int 0, .int 0, .int 0, .null, .int 0, .int 0])), (q1, .inl (y2, 128, .inr (.inl (tbL nmT 66))))] := hD
  refine lv_dup hx hb dX13_init_466 rfl ?_
  exact kk _ _ _ hK hP hD hS hl


