def ow_dm_X14_clear : List Cond := Cond.code yX14_clear cX14_clear 1 none :: ([Cond.fieldLink RX14 27 "TimeMachineModel$Codec" "events" "I"] ++ (u_ws RX14 TX14 11 ++ []))
theorem gd_dm_X14_clear : ∀ w ∈ ow_dm_X14_clear, (w.onTables && w.keeps) = true ∨ ∃ ty, w = Cond.arrayClass ty := List.forall_mem_cons.mpr ⟨good_of_word rfl, List.forall_mem_append.mpr ⟨fun w h => good_of_word (List.all_eq_true.mp (by decide +kernel) w h), List.forall_mem_append.mpr ⟨gu_X14, fun _ h => nomatch h⟩⟩⟩
theorem hi_dm_X14_clear_X14 : ∀ w ∈ u_ws RX14 TX14 11, w ∈ ow_dm_X14_clear := fun w h => List.mem_cons_of_mem _ (List.mem_append_right _ (List.mem_append_left _ h))
def dj_X14_clear_0 (p : Program) (l : Launch) (e : Env) (s : State) (m : MethodId) (args : Array Value) (below : List Frame) (meth : Method) (c : Code) (Q : State → Prop) (A : Nat → Prop) (dC : Nat → ClassId) (dI : Nat → Nat → Nat) (a : Nat → Nat) (ac : Nat → ClassId) (g : (St) → Option (St)) (r : St) : Prop := ∀ (s0 : St) (H : Heap) (locs : List Loc) (ls : Array Slot), g s0 = some r → va_P (dC, dI) vwCl (dw_X14 a ac s0) H → va_D A (dw_X14 a ac s0) → va_S A s.heap H locs → lv_has ls 1 [(0, .ref (a 0))] → W p l e (headSpec ow_dm_X14_clear ({ frames := 0, cells := 0, slots := 0, locals := 0 })).room s m args below meth c H locs 0 0 Q (F0 m 0 ls [])
set_option maxHeartbeats 40000000 in
set_option maxRecDepth 100000 in
theorem db_X14_clear_0 {p : Program} {l : Launch} {e : Env} {s : State} {m : MethodId} {args : Array Value} {below : List Frame} {meth : Method} {c : Code} {Q : State → Prop} {A : Nat → Prop} {dC : Nat → ClassId} {dI : Nat → Nat → Nat} {a : Nat → Nat} {ac : Nat → ClassId} {n : Nat} {r : St} (C : nd_C p l s m args c A (dC, dI) cX14_clear 1 RX14 ow_dm_X14_clear (dk_X14 ac)) (K : nd_Kv p l e (headSpec ow_dm_X14_clear ({ frames := 0, cells := 0, slots := 0, locals := 0 })).room s m args below meth c Q A (dC, dI) cX14_clear (St) (dw_X14 a ac) r) : dj_X14_clear_0 p l e s m args below meth c Q A dC dI a ac (df_X14_clear_0 n) r := by
  obtain ⟨hlt, hx, hb, hml, hown, hts, hN, hA, hK⟩ := id C
  intro s0 H locs ls h hP hD hS hl
  unfold df_X14_clear_0 at h
  refine lv_aload_n hx hb dX14_clear_0 rfl (lv_at hl 0 rfl) ?_
  refine lv_iconst (v := 0) hx hb dX14_clear_1 (by decide) ?_
  refine va_put (D := (dC, dI)) (ci := 15) (v := .int 0) (ty := .int) (C := RX14) (T := TX14) (N := 11) hx hb hts hi_dm_X14_clear_X14 tyX14 tyX14_ok nmX14 hown hK hP hD hS 0 rfl rfl 0 (by decide) (hts (.fieldLink RX14 27 "TimeMachineModel$Codec" "events" "I") (List.mem_of_getElem? (i := 1) rfl)) (fun _ h9 => h9) rfl (by decide +kernel) rfl rfl (Nat.le_of_ble_eq_true rfl) dX14_clear_2 (fun H locs hP hD hS => ?_)
  obtain ⟨s1, es1, h⟩ := nd_let_e h
  have hP : va_P (dC, dI) vwCl (dw_X14 a ac s1) H := by rw [es1]; exact hP
  have hD : va_D A (dw_X14 a ac s1) := by rw [es1]; exact hD
  exact K _ _ _ _ _ dX14_clear_5 (Option.some.inj h).symm hP hD hS
set_option maxHeartbeats 40000000 in
set_option maxRecDepth 100000 in
theorem dm_X14_clear (l : Launch) (hlt : l.stackTraces = false) (dC : Nat → ClassId) (dI : Nat → Nat → Nat) (a : Nat → Nat) (ac : Nat → ClassId) (n : Nat) (s0 : St) {r : St} (h : df_X14_clear n s0 = some r) (sz : Nat) : Met l yX14_clear ow_dm_X14_clear ({ frames := 0, cells := 0, slots := 0, locals := 0 }) (va_Pc [.ref (a 0)] (fun U => U.heap.size = sz ∧ va_P (dC, dI) vwCl (dw_X14 a ac s0) U.heap ∧ va_K (dC, dI) vwCl (dk_X14 ac) U ∧ va_D (fun _ => True) (dw_X14 a ac s0) ∧ nv_E dI (va_A (dw_X14 a ac s0) sz) U)) (va_Qv (fun _ => True) (fun (_ : Unit) t => va_P (dC, dI) vwCl (dw_X14 a ac r) t.heap ∧ va_K (dC, dI) vwCl (dk_X14 ac) t ∧ va_D (va_A (dw_X14 a ac s0) sz) (dw_X14 a ac r)) (va_A (dw_X14 a ac s0) sz)) 0 0 (va_A (dw_X14 a ac s0) sz) := by
  refine Met.ofW (cc := cX14_clear) (maxL := 1) (ret := none) (by decide) rfl ?_
  intro p e s m args below meth c s₁ B hml hv
  obtain ⟨rfl, hsz, hP, hK, hD0, hN⟩ := hv
  have hx := B.exec
  have hb := B.bytes
  have hr := B.returns
  have hts := atoms_spec (ws := ow_dm_X14_clear) B.pre
  have hown : s.vm.findClass RX14 = some m.cls := findClass_of_methodNamed B.named
  have hlocks := B.notSynchronized
  subst hsz
  have hD := hD0.self (sz := s.heap.size)
  generalize hAe : va_A (dw_X14 a ac s0) s.heap.size = A at hD hN ⊢
  have hA : ∀ q : Nat, s.heap.size ≤ q → A q := fun q h => by rw [← hAe]; exact Or.inr h
  have hl := lv_entry ([.ref (a 0)]) (n := 1) (Nat.le_of_ble_eq_true rfl)
  rw [lg_entry_eq]
  generalize (lg_sl ([.ref (a 0)]) ++ List.replicate (1 - (lg_sl ([.ref (a 0)])).length) Slot.unset).toArray = ls at hl ⊢
  have hl : lv_has ls 1 [(0, .ref (a 0))] := hl
  exact db_X14_clear_0 (dC := dC) (dI := dI) (a := a) (ac := ac) (n := n) (r := r) ⟨hlt, hx, hb, hml, hown, hts, hN, hA, hK⟩ (fun pc τ H locs ls d er hP hD hS => by subst er; exact W.vret hx hb hr (fun t ht hW => ⟨⟨(), rfl, trivial, by rw [ht]; exact hP, va_K.moved hW.alike hK, hD⟩, hS.F ht⟩) hS.2.2 d) s0 _ _ _ h hP hD va_S.rf (lv_sub hl [0] rfl)
def ow_dm_X14_take : List Cond := Cond.code yX14_take cX14_take 7 none :: ([Cond.fieldLink RX14 9 "TimeMachineModel$Codec" "kind" "[I", Cond.fieldLink RX14 27 "TimeMachineModel$Codec" "events" "I", Cond.fieldLink RX14 16 "TimeMachineModel$Codec" "difference" "[J", Cond.fieldLink RX14 20 "TimeMachineModel$Codec" "a" "[J", Cond.fieldLink RX14 13 "TimeMachineModel$Codec" "b" "[I"] ++ (u_ws RX14 TX14 11 ++ []))
theorem gd_dm_X14_take : ∀ w ∈ ow_dm_X14_take, (w.onTables && w.keeps) = true ∨ ∃ ty, w = Cond.arrayClass ty := List.forall_mem_cons.mpr ⟨good_of_word rfl, List.forall_mem_append.mpr ⟨fun w h => good_of_word (List.all_eq_true.mp (by decide +kernel) w h), List.forall_mem_append.mpr ⟨gu_X14, fun _ h => nomatch h⟩⟩⟩
theorem hi_dm_X14_take_X14 : ∀ w ∈ u_ws RX14 TX14 11, w ∈ ow_dm_X14_take := fun w h => List.mem_cons_of_mem _ (List.mem_append_right _ (List.mem_append_left _ h))
def dj_X14_take_0 (p : Program) (l : Launch) (e : Env) (s : State) (m : MethodId) (args : Array Value) (below : List Frame) (meth : Method) (c : Code) (Q : State → Prop) (A : Nat → Prop) (dC : Nat → ClassId) (dI : Nat → Nat → Nat) (a : Nat → Nat) (ac : Nat → ClassId) (g : Int32 → Int64 → Int64 → Int32 → (St) → Option (St)) (r : St) : Prop := ∀ (v0 : Int32) (v1 : Int64) (v2 : Int64) (v3 : Int32) (s0 : St) (H : Heap) (locs : List Loc) (ls : Array Slot), g v0 v1 v2 v3 s0 = some r → va_P (dC, dI) vwCl (dw_X14 a ac s0) H → va_D A (dw_X14 a ac s0) → va_S A s.heap H locs → lv_has ls 7 [(0, .ref (a 0)), (1, .int v0), (2, .long v1), (4, .long v2), (6, .int v3)] → W p l e (headSpec ow_dm_X14_take ({ frames := 0, cells := 0, slots := 0, locals := 0 })).room s m args below meth c H locs 0 0 Q (F0 m 0 ls [])
set_option maxHeartbeats 40000000 in
set_option maxRecDepth 100000 in
theorem db_X14_take_0 {p : Program} {l : Launch} {e : Env} {s : State} {m : MethodId} {args : Array Value} {below : List Frame} {meth : Method} {c : Code} {Q : State → Prop} {A : Nat → Prop} {dC : Nat → ClassId} {dI : Nat → Nat → Nat} {a : Nat → Nat} {ac : Nat → ClassId} {n : Nat} {r : St} (C : nd_C p l s m args c A (dC, dI) cX14_take 7 RX14 ow_dm_X14_take (dk_X14 ac)) (K : nd_Kv p l e (headSpec ow_dm_X14_take ({ frames := 0, cells := 0, slots := 0, locals := 0 })).room s m args below meth c Q A (dC, dI) cX14_take (St) (dw_X14 a ac) r) : dj_X14_take_0 p l e s m args below meth c Q A dC dI a ac (df_X14_take_0 n) r := by
  obtain ⟨hlt, hx, hb, hml, hown, hts, hN, hA, hK⟩ := id C
  intro v0 v1 v2 v3 s0 H locs ls h hP hD hS hl
  unfold df_X14_take_0 at h
  refine lv_aload_n hx hb dX14_take_0 rfl (lv_at hl 0 rfl) ?_
  refine va_get (D := (dC, dI)) (ci := 15) (v := .ref (a 1)) (C := RX14) (T := TX14) (N := 11) hx hb hts hi_dm_X14_take_X14 hown hK hP 0 rfl rfl 1 (by decide) (hts (.fieldLink RX14 9 "TimeMachineModel$Codec" "kind" "[I") (List.mem_of_getElem? (i := 1) rfl)) (fun _ h9 => h9) rfl dX14_take_1 ?_
  refine lv_aload_n hx hb dX14_take_4 rfl (lv_at hl 0 rfl) ?_
  refine va_get (D := (dC, dI)) (ci := 15) (v := .int (sI s0 0)) (C := RX14) (T := TX14) (N := 11) hx hb hts hi_dm_X14_take_X14 hown hK hP 0 rfl rfl 0 (by decide) (hts (.fieldLink RX14 27 "TimeMachineModel$Codec" "events" "I") (List.mem_of_getElem? (i := 2) rfl)) (fun _ h9 => h9) rfl dX14_take_5 ?_
  refine lv_iload_n hx hb dX14_take_8 rfl (lv_at hl 1 rfl) ?_
  obtain ⟨i1, h⟩ := nd_ck_e h
  refine va_iast (i := (sI s0 0)) (x := v0) hx hb hK hP hD hS 1 0 rfl rfl i1 dX14_take_9 (fun H locs hP hD hS => ?_)
  obtain ⟨s2, es2, h⟩ := nd_let_e h
  have hP : va_P (dC, dI) vwCl (dw_X14 a ac s2) H := by rw [es2]; exact hP
  have hD : va_D A (dw_X14 a ac s2) := by rw [es2]; exact hD
  refine lv_aload_n hx hb dX14_take_10 rfl (lv_at hl 0 rfl) ?_
  refine va_get (D := (dC, dI)) (ci := 15) (v := .ref (a 3)) (C := RX14) (T := TX14) (N := 11) hx hb hts hi_dm_X14_take_X14 hown hK hP 0 rfl rfl 3 (by decide) (hts (.fieldLink RX14 16 "TimeMachineModel$Codec" "difference" "[J") (List.mem_of_getElem? (i := 3) rfl)) (fun _ h9 => h9) rfl dX14_take_11 ?_
  refine lv_aload_n hx hb dX14_take_14 rfl (lv_at hl 0 rfl) ?_
  refine va_get (D := (dC, dI)) (ci := 15) (v := .int (sI s2 0)) (C := RX14) (T := TX14) (N := 11) hx hb hts hi_dm_X14_take_X14 hown hK hP 0 rfl rfl 0 (by decide) (hts (.fieldLink RX14 27 "TimeMachineModel$Codec" "events" "I") (List.mem_of_getElem? (i := 2) rfl)) (fun _ h9 => h9) rfl dX14_take_15 ?_
  refine lv_lload_n hx hb dX14_take_18 rfl (lv_at hl 2 rfl) ?_
  obtain ⟨i3, h⟩ := nd_ck_e h
  refine va_last (i := (sI s2 0)) (x := v1) hx hb hK hP hD hS 3 2 rfl rfl i3 dX14_take_19 (fun H locs hP hD hS => ?_)
  obtain ⟨s4, es4, h⟩ := nd_let_e h
  have hP : va_P (dC, dI) vwCl (dw_X14 a ac s4) H := by rw [es4]; exact hP
  have hD : va_D A (dw_X14 a ac s4) := by rw [es4]; exact hD
  refine lv_aload_n hx hb dX14_take_20 rfl (lv_at hl 0 rfl) ?_
  refine va_get (D := (dC, dI)) (ci := 15) (v := .ref (a 4)) (C := RX14) (T := TX14) (N := 11) hx hb hts hi_dm_X14_take_X14 hown hK hP 0 rfl rfl 4 (by decide) (hts (.fieldLink RX14 20 "TimeMachineModel$Codec" "a" "[J") (List.mem_of_getElem? (i := 4) rfl)) (fun _ h9 => h9) rfl dX14_take_21 ?_
  refine lv_aload_n hx hb dX14_take_24 rfl (lv_at hl 0 rfl) ?_
  refine va_get (D := (dC, dI)) (ci := 15) (v := .int (sI s4 0)) (C := RX14) (T := TX14) (N := 11) hx hb hts hi_dm_X14_take_X14 hown hK hP 0 rfl rfl 0 (by decide) (hts (.fieldLink RX14 27 "TimeMachineModel$Codec" "events" "I") (List.mem_of_getElem? (i := 2) rfl)) (fun _ h9 => h9) rfl dX14_take_25 ?_
  refine lv_lload hx hb dX14_take_28 (lv_at hl 3 rfl) ?_
  obtain ⟨i5, h⟩ := nd_ck_e h
  refine va_last (i := (sI s4 0)) (x := v2) hx hb hK hP hD hS 4 3 rfl rfl i5 dX14_take_30 (fun H locs hP hD hS => ?_)
  obtain ⟨s6, es6, h⟩ := nd_let_e h
  have hP : va_P (dC, dI) vwCl (dw_X14 a ac s6) H := by rw [es6]; exact hP
  have hD : va_D A (dw_X14 a ac s6) := by rw [es6]; exact hD
  refine lv_aload_n hx hb dX14_take_31 rfl (lv_at hl 0 rfl) ?_
  refine va_get (D := (dC, dI)) (ci := 15) (v := .ref (a 2)) (C := RX14) (T := TX14) (N := 11) hx hb hts hi_dm_X14_take_X14 hown hK hP 0 rfl rfl 2 (by decide) (hts (.fieldLink RX14 13 "TimeMachineModel$Codec" "b" "[I") (List.mem_of_getElem? (i := 5) rfl)) (fun _ h9 => h9) rfl dX14_take_32 ?_
  refine lv_aload_n hx hb dX14_take_35 rfl (lv_at hl 0 rfl) ?_
  refine va_get (D := (dC, dI)) (ci := 15) (v := .int (sI s6 0)) (C := RX14) (T := TX14) (N := 11) hx hb hts hi_dm_X14_take_X14 hown hK hP 0 rfl rfl 0 (by decide) (hts (.fieldLink RX14 27 "TimeMachineModel$Codec" "events" "I") (List.mem_of_getElem? (i := 2) rfl)) (fun _ h9 => h9) rfl dX14_take_36 ?_
  refine lv_iload hx hb dX14_take_39 (lv_at hl 4 rfl) ?_
  obtain ⟨i7, h⟩ := nd_ck_e h
  refine va_iast (i := (sI s6 0)) (x := v3) hx hb hK hP hD hS 2 1 rfl rfl i7 dX14_take_41 (fun H locs hP hD hS => ?_)
  obtain ⟨s8, es8, h⟩ := nd_let_e h
  have hP : va_P (dC, dI) vwCl (dw_X14 a ac s8) H := by rw [es8]; exact hP
  have hD : va_D A (dw_X14 a ac s8) := by rw [es8]; exact hD
  refine lv_aload_n hx hb dX14_take_42 rfl (lv_at hl 0 rfl) ?_
  refine lv_dup hx hb dX14_take_43 rfl ?_
  refine va_get (D := (dC, dI)) (ci := 15) (v := .int (sI s8 0)) (C := RX14) (T := TX14) (N := 11) hx hb hts hi_dm_X14_take_X14 hown hK hP 0 rfl rfl 0 (by decide) (hts (.fieldLink RX14 27 "TimeMachineModel$Codec" "events" "I") (List.mem_of_getElem? (i := 2) rfl)) (fun _ h9 => h9) rfl dX14_take_44 ?_
  refine lv_iconst (v := 1) hx hb dX14_take_47 (by decide) ?_
  refine lv_iadd hx hb dX14_take_48 ?_
  refine va_put (D := (dC, dI)) (ci := 15) (v := .int ((sI s8 0) + 1)) (ty := .int) (C := RX14) (T := TX14) (N := 11) hx hb hts hi_dm_X14_take_X14 tyX14 tyX14_ok nmX14 hown hK hP hD hS 0 rfl rfl 0 (by decide) (hts (.fieldLink RX14 27 "TimeMachineModel$Codec" "events" "I") (List.mem_of_getElem? (i := 2) rfl)) (fun _ h9 => h9) rfl (by decide +kernel) rfl rfl (Nat.le_of_ble_eq_true rfl) dX14_take_49 (fun H locs hP hD hS => ?_)
  obtain ⟨s9, es9, h⟩ := nd_let_e h
  have hP : va_P (dC, dI) vwCl (dw_X14 a ac s9) H := by rw [es9]; exact hP
  have hD : va_D A (dw_X14 a ac s9) := by rw [es9]; exact hD
  exact K _ _ _ _ _ dX14_take_52 (Option.some.inj h).symm hP hD hS
set_option maxHeartbeats 40000000 in
set_option maxRecDepth 100000 in
theorem dm_X14_take (l : Launch) (hlt : l.stackTraces = false) (dC : Nat → ClassId) (dI : Nat → Nat → Nat) (a : Nat → Nat) (ac : Nat → ClassId) (n : Nat) (v0 : Int32) (v1 : Int64) (v2 : Int64) (v3 : Int32) (s0 : St) {r : St} (h : df_X14_take n v0 v1 v2 v3 s0 = some r) (sz : Nat) : Met l yX14_take ow_dm_X14_take ({ frames := 0, cells := 0, slots := 0, locals := 0 }) (va_Pc [.ref (a 0), .int v0, .long v1, .long v2, .int v3] (fun U => U.heap.size = sz ∧ va_P (dC, dI) vwCl (dw_X14 a ac s0) U.heap ∧ va_K (dC, dI) vwCl (dk_X14 ac) U ∧ va_D (fun _ => True) (dw_X14 a ac s0) ∧ nv_E dI (va_A (dw_X14 a ac s0) sz) U)) (va_Qv (fun _ => True) (fun (_ : Unit) t => va_P (dC, dI) vwCl (dw_X14 a ac r) t.heap ∧ va_K (dC, dI) vwCl (dk_X14 ac) t ∧ va_D (va_A (dw_X14 a ac s0) sz) (dw_X14 a ac r)) (va_A (dw_X14 a ac s0) sz)) 0 0 (va_A (dw_X14 a ac s0) sz) := by
  refine Met.ofW (cc := cX14_take) (maxL := 7) (ret := none) (by decide) rfl ?_
  intro p e s m args below meth c s₁ B hml hv
  obtain ⟨rfl, hsz, hP, hK, hD0, hN⟩ := hv
  have hx := B.exec
  have hb := B.bytes
  have hr := B.returns
  have hts := atoms_spec (ws := ow_dm_X14_take) B.pre
  have hown : s.vm.findClass RX14 = some m.cls := findClass_of_methodNamed B.named
  have hlocks := B.notSynchronized
  subst hsz
  have hD := hD0.self (sz := s.heap.size)
  generalize hAe : va_A (dw_X14 a ac s0) s.heap.size = A at hD hN ⊢
  have hA : ∀ q : Nat, s.heap.size ≤ q → A q := fun q h => by rw [← hAe]; exact Or.inr h
  have hl := lv_entry ([.ref (a 0), .int v0, .long v1, .long v2, .int v3]) (n := 7) (Nat.le_of_ble_eq_true rfl)
  rw [lg_entry_eq]
  generalize (lg_sl ([.ref (a 0), .int v0, .long v1, .long v2, .int v3]) ++ List.replicate (7 - (lg_sl ([.ref (a 0), .int v0, .long v1, .long v2, .int v3])).length) Slot.unset).toArray = ls at hl ⊢
  have hl : lv_has ls 7 [(0, .ref (a 0)), (1, .int v0), (2, .long v1), (4, .long v2), (6, .int v3)] := hl
  exact db_X14_take_0 (dC := dC) (dI := dI) (a := a) (ac := ac) (n := n) (r := r) ⟨hlt, hx, hb, hml, hown, hts, hN, hA, hK⟩ (fun pc τ H locs ls d er hP hD hS => by subst er; exact W.vret hx hb hr (fun t ht hW => ⟨⟨(), rfl, trivial, by rw [ht]; exact hP, va_K.moved hW.alike hK, hD⟩, hS.F ht⟩) hS.2.2 d) v0 v1 v2 v3 s0 _ _ _ h hP hD va_S.rf (lv_sub hl [0, 1, 2, 3, 4] rfl)
def ow_dm_X14_put : List Cond := Cond.code yX14_put cX14_put 2 none :: ([Cond.fieldLink RX14 24 "TimeMachineModel$Codec" "packed" "[I", Cond.fieldLink RX14 31 "TimeMachineModel$Codec" "size" "I"] ++ (u_ws RX14 TX14 11 ++ []))
theorem gd_dm_X14_put : ∀ w ∈ ow_dm_X14_put, (w.onTables && w.keeps) = true ∨ ∃ ty, w = Cond.arrayClass ty := List.forall_mem_cons.mpr ⟨good_of_word rfl, List.forall_mem_append.mpr ⟨fun w h => good_of_word (List.all_eq_true.mp (by decide +kernel) w h), List.forall_mem_append.mpr ⟨gu_X14, fun _ h => nomatch h⟩⟩⟩
theorem hi_dm_X14_put_X14 : ∀ w ∈ u_ws RX14 TX14 11, w ∈ ow_dm_X14_put := fun w h => List.mem_cons_of_mem _ (List.mem_append_right _ (List.mem_append_left _ h))
def dj_X14_put_0 (p : Program) (l : Launch) (e : Env) (s : State) (m : MethodId) (args : Array Value) (below : List Frame) (meth : Method) (c : Code) (Q : State → Prop) (A : Nat → Prop) (dC : Nat → ClassId) (dI : Nat → Nat → Nat) (a : Nat → Nat) (ac : Nat → ClassId) (g : Int32 → (St) → Option (St)) (r : St) : Prop := ∀ (v0 : Int32) (s0 : St) (H : Heap) (locs : List Loc) (ls : Array Slot), g v0 s0 = some r → va_P (dC, dI) vwCl (dw_X14 a ac s0) H → va_D A (dw_X14 a ac s0) → va_S A s.heap H locs → lv_has ls 2 [(0, .ref (a 0)), (1, .int v0)] → W p l e (headSpec ow_dm_X14_put ({ frames := 0, cells := 0, slots := 0, locals := 0 })).room s m args below meth c H locs 0 0 Q (F0 m 0 ls [])
set_option maxHeartbeats 40000000 in
set_option maxRecDepth 100000 in
theorem db_X14_put_0 {p : Program} {l : Launch} {e : Env} {s : State} {m : MethodId} {args : Array Value} {below : List Frame} {meth : Method} {c : Code} {Q : State → Prop} {A : Nat → Prop} {dC : Nat → ClassId} {dI : Nat → Nat → Nat} {a : Nat → Nat} {ac : Nat → ClassId} {n : Nat} {r : St} (C : nd_C p l s m args c A (dC, dI) cX14_put 2 RX14 ow_dm_X14_put (dk_X14 ac)) (K : nd_Kv p l e (headSpec ow_dm_X14_put ({ frames := 0, cells := 0, slots := 0, locals := 0 })).room s m args below meth c Q A (dC, dI) cX14_put (St) (dw_X14 a ac) r) : dj_X14_put_0 p l e s m args below meth c Q A dC dI a ac (df_X14_put_0 n) r := by
  obtain ⟨hlt, hx, hb, hml, hown, hts, hN, hA, hK⟩ := id C
  intro v0 s0 H locs ls h hP hD hS hl
  unfold df_X14_put_0 at h
  refine lv_aload_n hx hb dX14_put_0 rfl (lv_at hl 0 rfl) ?_
  refine va_get (D := (dC, dI)) (ci := 15) (v := .ref (a 5)) (C := RX14) (T := TX14) (N := 11) hx hb hts hi_dm_X14_put_X14 hown hK hP 0 rfl rfl 5 (by decide) (hts (.fieldLink RX14 24 "TimeMachineModel$Codec" "packed" "[I") (List.mem_of_getElem? (i := 1) rfl)) (fun _ h9 => h9) rfl dX14_put_1 ?_
  refine lv_aload_n hx hb dX14_put_4 rfl (lv_at hl 0 rfl) ?_
  refine va_get (D := (dC, dI)) (ci := 15) (v := .int (sI s0 1)) (C := RX14) (T := TX14) (N := 11) hx hb hts hi_dm_X14_put_X14 hown hK hP 0 rfl rfl 6 (by decide) (hts (.fieldLink RX14 31 "TimeMachineModel$Codec" "size" "I") (List.mem_of_getElem? (i := 2) rfl)) (fun _ h9 => h9) rfl dX14_put_5 ?_
  refine lv_iload_n hx hb dX14_put_8 rfl (lv_at hl 1 rfl) ?_
  refine lv_sipush (v := 255) hx hb dX14_put_9 (by decide) ?_
  refine lv_iand hx hb dX14_put_12 ?_
  obtain ⟨i1, h⟩ := nd_ck_e h
  refine va_iast (i := (sI s0 1)) (x := (v0 &&& 255)) hx hb hK hP hD hS 5 4 rfl rfl i1 dX14_put_13 (fun H locs hP hD hS => ?_)
  obtain ⟨s2, es2, h⟩ := nd_let_e h
  have hP : va_P (dC, dI) vwCl (dw_X14 a ac s2) H := by rw [es2]; exact hP
  have hD : va_D A (dw_X14 a ac s2) := by rw [es2]; exact hD
  refine lv_aload_n hx hb dX14_put_14 rfl (lv_at hl 0 rfl) ?_
  refine lv_dup hx hb dX14_put_15 rfl ?_
  refine va_get (D := (dC, dI)) (ci := 15) (v := .int (sI s2 1)) (C := RX14) (T := TX14) (N := 11) hx hb hts hi_dm_X14_put_X14 hown hK hP 0 rfl rfl 6 (by decide) (hts (.fieldLink RX14 31 "TimeMachineModel$Codec" "size" "I") (List.mem_of_getElem? (i := 2) rfl)) (fun _ h9 => h9) rfl dX14_put_16 ?_
  refine lv_iconst (v := 1) hx hb dX14_put_19 (by decide) ?_
  refine lv_iadd hx hb dX14_put_20 ?_
  refine va_put (D := (dC, dI)) (ci := 15) (v := .int ((sI s2 1) + 1)) (ty := .int) (C := RX14) (T := TX14) (N := 11) hx hb hts hi_dm_X14_put_X14 tyX14 tyX14_ok nmX14 hown hK hP hD hS 0 rfl rfl 6 (by decide) (hts (.fieldLink RX14 31 "TimeMachineModel$Codec" "size" "I") (List.mem_of_getElem? (i := 2) rfl)) (fun _ h9 => h9) rfl (by decide +kernel) rfl rfl (Nat.le_of_ble_eq_true rfl) dX14_put_21 (fun H locs hP hD hS => ?_)
  obtain ⟨s3, es3, h⟩ := nd_let_e h
  have hP : va_P (dC, dI) vwCl (dw_X14 a ac s3) H := by rw [es3]; exact hP
  have hD : va_D A (dw_X14 a ac s3) := by rw [es3]; exact hD
  exact K _ _ _ _ _ dX14_put_24 (Option.some.inj h).symm hP hD hS
set_option maxHeartbeats 40000000 in
set_option maxRecDepth 100000 in
theorem dm_X14_put (l : Launch) (hlt : l.stackTraces = false) (dC : Nat → ClassId) (dI : Nat → Nat → Nat) (a : Nat → Nat) (ac : Nat → ClassId) (n : Nat) (v0 : Int32) (s0 : St) {r : St} (h : df_X14_put n v0 s0 = some r) (sz : Nat) : Met l yX14_put ow_dm_X14_put ({ frames := 0, cells := 0, slots := 0, locals := 0 }) (va_Pc [.ref (a 0), .int v0] (fun U => U.heap.size = sz ∧ va_P (dC, dI) vwCl (dw_X14 a ac s0) U.heap ∧ va_K (dC, dI) vwCl (dk_X14 ac) U ∧ va_D (fun _ => True) (dw_X14 a ac s0) ∧ nv_E dI (va_A (dw_X14 a ac s0) sz) U)) (va_Qv (fun _ => True) (fun (_ : Unit) t => va_P (dC, dI) vwCl (dw_X14 a ac r) t.heap ∧ va_K (dC, dI) vwCl (dk_X14 ac) t ∧ va_D (va_A (dw_X14 a ac s0) sz) (dw_X14 a ac r)) (va_A (dw_X14 a ac s0) sz)) 0 0 (va_A (dw_X14 a ac s0) sz) := by
  refine Met.ofW (cc := cX14_put) (maxL := 2) (ret := none) (by decide) rfl ?_
  intro p e s m args below meth c s₁ B hml hv
  obtain ⟨rfl, hsz, hP, hK, hD0, hN⟩ := hv
  have hx := B.exec
  have hb := B.bytes
  have hr := B.returns
  have hts := atoms_spec (ws := ow_dm_X14_put) B.pre
  have hown : s.vm.findClass RX14 = some m.cls := findClass_of_methodNamed B.named
  have hlocks := B.notSynchronized
  subst hsz
  have hD := hD0.self (sz := s.heap.size)
  generalize hAe : va_A (dw_X14 a ac s0) s.heap.size = A at hD hN ⊢
  have hA : ∀ q : Nat, s.heap.size ≤ q → A q := fun q h => by rw [← hAe]; exact Or.inr h
  have hl := lv_entry ([.ref (a 0), .int v0]) (n := 2) (Nat.le_of_ble_eq_true rfl)
  rw [lg_entry_eq]
  generalize (lg_sl ([.ref (a 0), .int v0]) ++ List.replicate (2 - (lg_sl ([.ref (a 0), .int v0])).length) Slot.unset).toArray = ls at hl ⊢
  have hl : lv_has ls 2 [(0, .ref (a 0)), (1, .int v0)] := hl
  exact db_X14_put_0 (dC := dC) (dI := dI) (a := a) (ac := ac) (n := n) (r := r) ⟨hlt, hx, hb, hml, hown, hts, hN, hA, hK⟩ (fun pc τ H locs ls d er hP hD hS => by subst er; exact W.vret hx hb hr (fun t ht hW => ⟨⟨(), rfl, trivial, by rw [ht]; exact hP, va_K.moved hW.alike hK, hD⟩, hS.F ht⟩) hS.2.2 d) v0 s0 _ _ _ h hP hD va_S.rf (lv_sub hl [0, 1] rfl)
def ow_dm_X14_varint : List Cond := Cond.code yX14_varint cX14_varint 5 none :: ([Cond.constantLong RX14 34 (127), Cond.methodLink RX14 36 yX14_put, Cond.instanceMethod yX14_put, Cond.selects RX14 yX14_put yX14_put, Cond.initialized RX14] ++ (ow_dm_X14_put ++ []))
theorem gd_dm_X14_varint : ∀ w ∈ ow_dm_X14_varint, (w.onTables && w.keeps) = true ∨ ∃ ty, w = Cond.arrayClass ty := List.forall_mem_cons.mpr ⟨good_of_word rfl, List.forall_mem_append.mpr ⟨fun w h => good_of_word (List.all_eq_true.mp (by decide +kernel) w h), List.forall_mem_append.mpr ⟨gd_dm_X14_put, fun _ h => nomatch h⟩⟩⟩
theorem gi_dm_X14_varint_0 : GoodIn ow_dm_X14_varint (wsV RX14 36 RX14 yX14_put ow_dm_X14_put) := goodIn_app (goodIn_of _ (by decide +kernel)) (fun w h => ⟨List.mem_cons_of_mem _ (List.mem_append_right _ (List.mem_append_left _ h)), gd_dm_X14_put w h⟩)
def dj_X14_varint_2 (p : Program) (l : Launch) (e : Env) (s : State) (m : MethodId) (args : Array Value) (below : List Frame) (meth : Method) (c : Code) (Q : State → Prop) (A : Nat → Prop) (dC : Nat → ClassId) (dI : Nat → Nat → Nat) (a : Nat → Nat) (ac : Nat → ClassId) (g : Int64 → (St) → Option (St)) (r : St) : Prop := ∀ (x3 : Int64) (s0 : St) (H : Heap) (locs : List Loc) (ls : Array Slot), g x3 s0 = some r → va_P (dC, dI) vwCl (dw_X14 a ac s0) H → va_D A (dw_X14 a ac s0) → va_S A s.heap H locs → lv_has ls 5 [(0, .ref (a 0)), (3, .long x3)] → W p l e (headSpec ow_dm_X14_varint ({ frames := 1, cells := 0, slots := 0, locals := 21 })).room s m args below meth c H locs 0 0 Q (F0 m 2 ls [])
def dj_X14_varint_0 (p : Program) (l : Launch) (e : Env) (s : State) (m : MethodId) (args : Array Value) (below : List Frame) (meth : Method) (c : Code) (Q : State → Prop) (A : Nat → Prop) (dC : Nat → ClassId) (dI : Nat → Nat → Nat) (a : Nat → Nat) (ac : Nat → ClassId) (g : Int64 → (St) → Option (St)) (r : St) : Prop := ∀ (v0 : Int64) (s0 : St) (H : Heap) (locs : List Loc) (ls : Array Slot), g v0 s0 = some r → va_P (dC, dI) vwCl (dw_X14 a ac s0) H → va_D A (dw_X14 a ac s0) → va_S A s.heap H locs → lv_has ls 5 [(0, .ref (a 0)), (1, .long v0)] → W p l e (headSpec ow_dm_X14_varint ({ frames := 1, cells := 0, slots := 0, locals := 21 })).room s m args below meth c H locs 0 0 Q (F0 m 0 ls [])
set_option maxHeartbeats 40000000 in
set_option maxRecDepth 100000 in
theorem dB_X14_varint_2 {p : Program} {l : Launch} {e : Env} {s : State} {m : MethodId} {args : Array Value} {below : List Frame} {meth : Method} {c : Code} {Q : State → Prop} {A : Nat → Prop} {dC : Nat → ClassId} {dI : Nat → Nat → Nat} {a : Nat → Nat} {ac : Nat → ClassId} {n : Nat} {r : St} (C : nd_C p l s m args c A (dC, dI) cX14_varint 5 RX14 ow_dm_X14_varint (dk_X14 ac)) (K : nd_Kv p l e (headSpec ow_dm_X14_varint ({ frames := 1, cells := 0, slots := 0, locals := 21 })).room s m args below meth c Q A (dC, dI) cX14_varint (St) (dw_X14 a ac) r) {g2 : Int64 → (St) → Option (St)} (J2 : dj_X14_varint_2 p l e s m args below meth c Q A dC dI a ac g2 r) : dj_X14_varint_2 p l e s m args below meth c Q A dC dI a ac (dF_X14_varint_2 n g2) r := by
  obtain ⟨hlt, hx, hb, hml, hown, hts, hN, hA, hK⟩ := id C
  intro x3 s0 H locs ls h hP hD hS hl
  unfold dF_X14_varint_2 at h
  refine lv_lload_n hx hb dX14_varint_2 rfl (lv_at hl 1 rfl) ?_
  refine lv_ldc2 hx hb hown (hts (.constantLong RX14 34 (127)) (List.mem_of_getElem? (i := 1) rfl)) dX14_varint_3 ?_
  refine W.lcmp hx hb dX14_varint_6 ?_
  refine lv_if_le (tgt := 32) hx hb dX14_varint_7 (by decide) (fun c1 => ?_) (fun c1 => ?_)
  · have h := nd_pos h c1
    refine lv_aload_n hx hb dX14_varint_32 rfl (lv_at hl 0 rfl) ?_
    refine lv_lload_n hx hb dX14_varint_33 rfl (lv_at hl 1 rfl) ?_
    refine lv_l2i hx hb dX14_varint_34 rfl ?_
    obtain ⟨s3, hq, h⟩ := nd_b1_e h
    have hPc := hP
    have hDc := hD
    have hKc := hK
    have hFc := nd_rs hD hS hA
    refine nd_cVv (As := [.int (x3.toInt32)]) (rest := []) (w' := dw_X14 a ac s3) ⟨hx, hb, hml, hown, hts⟩ (fun sz => dm_X14_put l hlt dC dI a ac n ((x3.toInt32)) s0 hq sz) (cwV 1 hts gi_dm_X14_varint_0 rfl rfl rfl (by decide +kernel) ⟨Nat.le_of_ble_eq_true rfl, Nat.le_of_ble_eq_true rfl⟩) hPc hDc hKc hS hA hN (va_recv hKc hPc (ci := 15) (q0 := 0) rfl rfl) rfl hl.1 rfl (Nat.le_of_ble_eq_true rfl) dX14_varint_35 (fun H locs hP1 hD1 hk1 hS => ?_)
    have hP := hP1
    have hD := hD1.weaken (fun k q _ h => hFc q.1 h)
    exact K _ _ _ _ _ dX14_varint_38 (Option.some.inj h).symm hP hD hS
  · have h := nd_neg h c1
    refine lv_aload_n hx hb dX14_varint_10 rfl (lv_at hl 0 rfl) ?_
    refine lv_lload_n hx hb dX14_varint_11 rfl (lv_at hl 1 rfl) ?_
    refine lv_ldc2 hx hb hown (hts (.constantLong RX14 34 (127)) (List.mem_of_getElem? (i := 1) rfl)) dX14_varint_12 ?_
    refine lv_land hx hb dX14_varint_15 ?_
    refine lv_l2i hx hb dX14_varint_16 rfl ?_
    refine lv_sipush (v := 128) hx hb dX14_varint_17 (by decide) ?_
    refine lv_ior hx hb dX14_varint_20 ?_
    obtain ⟨s6, hq, h⟩ := nd_b1_e h
    have hPc := hP
    have hDc := hD
    have hKc := hK
    have hFc := nd_rs hD hS hA
    refine nd_cVv (As := [.int ((((x3 : Int64) &&& 127).toInt32) ||| 128)]) (rest := []) (w' := dw_X14 a ac s6) ⟨hx, hb, hml, hown, hts⟩ (fun sz => dm_X14_put l hlt dC dI a ac n (((((x3 : Int64) &&& 127).toInt32) ||| 128)) s0 hq sz) (cwV 1 hts gi_dm_X14_varint_0 rfl rfl rfl (by decide +kernel) ⟨Nat.le_of_ble_eq_true rfl, Nat.le_of_ble_eq_true rfl⟩) hPc hDc hKc hS hA hN (va_recv hKc hPc (ci := 15) (q0 := 0) rfl rfl) rfl hl.1 rfl (Nat.le_of_ble_eq_true rfl) dX14_varint_21 (fun H locs hP1 hD1 hk1 hS => ?_)
    have hP := hP1
    have hD := hD1.weaken (fun k q _ h => hFc q.1 h)
    refine lv_lload_n hx hb dX14_varint_24 rfl (lv_at hl 1 rfl) ?_
    refine lv_bipush (v := 7) hx hb dX14_varint_25 (by decide) ?_
    refine lv_lshr hx hb dX14_varint_27 rfl ?_
    refine lv_topl (fun z8 ez8 => ?_)
    have h := nd_at h ez8
    refine lv_lstore_n (lv' := [(3, .long z8), (0, .ref (a 0))]) hx hb dX14_varint_28 rfl hl (by decide) rfl (fun ls hl => ?_)
    refine lv_goto (tgt := 2) hx hb dX14_varint_29 (by decide) ?_
    exact (J2) (z8) s6 _ _ _ h hP hD hS (lv_sub hl [1, 0] rfl)
set_option maxHeartbeats 40000000 in
set_option maxRecDepth 100000 in
theorem db_X14_varint_2 {p : Program} {l : Launch} {e : Env} {s : State} {m : MethodId} {args : Array Value} {below : List Frame} {meth : Method} {c : Code} {Q : State → Prop} {A : Nat → Prop} {dC : Nat → ClassId} {dI : Nat → Nat → Nat} {a : Nat → Nat} {ac : Nat → ClassId} {n : Nat} {r : St} (C : nd_C p l s m args c A (dC, dI) cX14_varint 5 RX14 ow_dm_X14_varint (dk_X14 ac)) (K : nd_Kv p l e (headSpec ow_dm_X14_varint ({ frames := 1, cells := 0, slots := 0, locals := 21 })).room s m args below meth c Q A (dC, dI) cX14_varint (St) (dw_X14 a ac) r) (k : Nat) : dj_X14_varint_2 p l e s m args below meth c Q A dC dI a ac (df_X14_varint_2 n k) r := by
  induction k with
  | zero => intro x3 s0 H locs ls h; exact nomatch (show (none : Option (St)) = some r from h)
  | succ k ih => exact dB_X14_varint_2 C K ih
set_option maxHeartbeats 40000000 in
set_option maxRecDepth 100000 in
theorem db_X14_varint_0 {p : Program} {l : Launch} {e : Env} {s : State} {m : MethodId} {args : Array Value} {below : List Frame} {meth : Method} {c : Code} {Q : State → Prop} {A : Nat → Prop} {dC : Nat → ClassId} {dI : Nat → Nat → Nat} {a : Nat → Nat} {ac : Nat → ClassId} {n : Nat} {r : St} (C : nd_C p l s m args c A (dC, dI) cX14_varint 5 RX14 ow_dm_X14_varint (dk_X14 ac)) (K : nd_Kv p l e (headSpec ow_dm_X14_varint ({ frames := 1, cells := 0, slots := 0, locals := 21 })).room s m args below meth c Q A (dC, dI) cX14_varint (St) (dw_X14 a ac) r) : dj_X14_varint_0 p l e s m args below meth c Q A dC dI a ac (df_X14_varint_0 n) r := by
  obtain ⟨hlt, hx, hb, hml, hown, hts, hN, hA, hK⟩ := id C
  intro v0 s0 H locs ls h hP hD hS hl
  unfold df_X14_varint_0 at h
  refine lv_lload_n hx hb dX14_varint_0 rfl (lv_at hl 1 rfl) ?_
  refine lv_lstore_n (lv' := [(3, .long v0), (0, .ref (a 0)), (1, .long v0)]) hx hb dX14_varint_1 rfl hl (by decide) rfl (fun ls hl => ?_)
  exact (db_X14_varint_2 C K n) (v0) s0 _ _ _ h hP hD hS (lv_sub hl [1, 0] rfl)
set_option maxHeartbeats 40000000 in
set_option maxRecDepth 100000 in
theorem dm_X14_varint (l : Launch) (hlt : l.stackTraces = false) (dC : Nat → ClassId) (dI : Nat → Nat → Nat) (a : Nat → Nat) (ac : Nat → ClassId) (n : Nat) (v0 : Int64) (s0 : St) {r : St} (h : df_X14_varint n v0 s0 = some r) (sz : Nat) : Met l yX14_varint ow_dm_X14_varint ({ frames := 1, cells := 0, slots := 0, locals := 21 }) (va_Pc [.ref (a 0), .long v0] (fun U => U.heap.size = sz ∧ va_P (dC, dI) vwCl (dw_X14 a ac s0) U.heap ∧ va_K (dC, dI) vwCl (dk_X14 ac) U ∧ va_D (fun _ => True) (dw_X14 a ac s0) ∧ nv_E dI (va_A (dw_X14 a ac s0) sz) U)) (va_Qv (fun _ => True) (fun (_ : Unit) t => va_P (dC, dI) vwCl (dw_X14 a ac r) t.heap ∧ va_K (dC, dI) vwCl (dk_X14 ac) t ∧ va_D (va_A (dw_X14 a ac s0) sz) (dw_X14 a ac r)) (va_A (dw_X14 a ac s0) sz)) 0 0 (va_A (dw_X14 a ac s0) sz) := by
  refine Met.ofW (cc := cX14_varint) (maxL := 5) (ret := none) (by decide) rfl ?_
  intro p e s m args below meth c s₁ B hml hv
  obtain ⟨rfl, hsz, hP, hK, hD0, hN⟩ := hv
  have hx := B.exec
  have hb := B.bytes
  have hr := B.returns
  have hts := atoms_spec (ws := ow_dm_X14_varint) B.pre
  have hown : s.vm.findClass RX14 = some m.cls := findClass_of_methodNamed B.named
  have hlocks := B.notSynchronized
  subst hsz
  have hD := hD0.self (sz := s.heap.size)
  generalize hAe : va_A (dw_X14 a ac s0) s.heap.size = A at hD hN ⊢
  have hA : ∀ q : Nat, s.heap.size ≤ q → A q := fun q h => by rw [← hAe]; exact Or.inr h
  have hl := lv_entry ([.ref (a 0), .long v0]) (n := 5) (Nat.le_of_ble_eq_true rfl)
  rw [lg_entry_eq]
  generalize (lg_sl ([.ref (a 0), .long v0]) ++ List.replicate (5 - (lg_sl ([.ref (a 0), .long v0])).length) Slot.unset).toArray = ls at hl ⊢
  have hl : lv_has ls 5 [(0, .ref (a 0)), (1, .long v0)] := hl
  exact db_X14_varint_0 (dC := dC) (dI := dI) (a := a) (ac := ac) (n := n) (r := r) ⟨hlt, hx, hb, hml, hown, hts, hN, hA, hK⟩ (fun pc τ H locs ls d er hP hD hS => by subst er; exact W.vret hx hb hr (fun t ht hW => ⟨⟨(), rfl, trivial, by rw [ht]; exact hP, va_K.moved hW.alike hK, hD⟩, hS.F ht⟩) hS.2.2 d) v0 s0 _ _ _ h hP hD va_S.rf (lv_sub hl [0, 1] rfl)
def ow_dm_X14_bringsSame : List Cond := Cond.code yX14_bringsSame cX14_bringsSame 3 (some .boolean) :: ([Cond.fieldLink RX14 9 "TimeMachineModel$Codec" "kind" "[I", Cond.fieldLink RX14 20 "TimeMachineModel$Codec" "a" "[J", Cond.fieldLink RX14 13 "TimeMachineModel$Codec" "b" "[I"] ++ (u_ws RX14 TX14 11 ++ []))
theorem gd_dm_X14_bringsSame : ∀ w ∈ ow_dm_X14_bringsSame, (w.onTables && w.keeps) = true ∨ ∃ ty, w = Cond.arrayClass ty := List.forall_mem_cons.mpr ⟨good_of_word rfl, List.forall_mem_append.mpr ⟨fun w h => good_of_word (List.all_eq_true.mp (by decide +kernel) w h), List.forall_mem_append.mpr ⟨gu_X14, fun _ h => nomatch h⟩⟩⟩
theorem hi_dm_X14_bringsSame_X14 : ∀ w ∈ u_ws RX14 TX14 11, w ∈ ow_dm_X14_bringsSame := fun w h => List.mem_cons_of_mem _ (List.mem_append_right _ (List.mem_append_left _ h))
def dj_X14_bringsSame_51 (p : Program) (l : Launch) (e : Env) (s : State) (m : MethodId) (args : Array Value) (below : List Frame) (meth : Method) (c : Code) (Q : State → Prop) (A : Nat → Prop) (dC : Nat → ClassId) (dI : Nat → Nat → Nat) (a : Nat → Nat) (ac : Nat → ClassId) (g : Int32 → (St) → Option (Int32 × (St))) (r : Int32 × (St)) : Prop := ∀ (y0 : Int32) (s0 : St) (H : Heap) (locs : List Loc) (ls : Array Slot), g y0 s0 = some r → va_P (dC, dI) vwCl (dw_X14 a ac s0) H → va_D A (dw_X14 a ac s0) → va_S A s.heap H locs → lv_has ls 3 [] → W p l e (headSpec ow_dm_X14_bringsSame ({ frames := 0, cells := 0, slots := 0, locals := 0 })).room s m args below meth c H locs 0 0 Q (F0 m 51 ls [.int y0])
def dj_X14_bringsSame_50 (p : Program) (l : Launch) (e : Env) (s : State) (m : MethodId) (args : Array Value) (below : List Frame) (meth : Method) (c : Code) (Q : State → Prop) (A : Nat → Prop) (dC : Nat → ClassId) (dI : Nat → Nat → Nat) (a : Nat → Nat) (ac : Nat → ClassId) (g : (St) → Option (Int32 × (St))) (r : Int32 × (St)) : Prop := ∀ (s0 : St) (H : Heap) (locs : List Loc) (ls : Array Slot), g s0 = some r → va_P (dC, dI) vwCl (dw_X14 a ac s0) H → va_D A (dw_X14 a ac s0) → va_S A s.heap H locs → lv_has ls 3 [] → W p l e (headSpec ow_dm_X14_bringsSame ({ frames := 0, cells := 0, slots := 0, locals := 0 })).room s m args below meth c H locs 0 0 Q (F0 m 50 ls [])
def dj_X14_bringsSame_0 (p : Program) (l : Launch) (e : Env) (s : State) (m : MethodId) (args : Array Value) (below : List Frame) (meth : Method) (c : Code) (Q : State → Prop) (A : Nat → Prop) (dC : Nat → ClassId) (dI : Nat → Nat → Nat) (a : Nat → Nat) (ac : Nat → ClassId) (g : Int32 → Int32 → (St) → Option (Int32 × (St))) (r : Int32 × (St)) : Prop := ∀ (v0 : Int32) (v1 : Int32) (s0 : St) (H : Heap) (locs : List Loc) (ls : Array Slot), g v0 v1 s0 = some r → va_P (dC, dI) vwCl (dw_X14 a ac s0) H → va_D A (dw_X14 a ac s0) → va_S A s.heap H locs → lv_has ls 3 [(0, .ref (a 0)), (1, .int v0), (2, .int v1)] → W p l e (headSpec ow_dm_X14_bringsSame ({ frames := 0, cells := 0, slots := 0, locals := 0 })).room s m args below meth c H locs 0 0 Q (F0 m 0 ls [])
set_option maxHeartbeats 40000000 in
set_option maxRecDepth 100000 in
theorem db_X14_bringsSame_51 {p : Program} {l : Launch} {e : Env} {s : State} {m : MethodId} {args : Array Value} {below : List Frame} {meth : Method} {c : Code} {Q : State → Prop} {A : Nat → Prop} {dC : Nat → ClassId} {dI : Nat → Nat → Nat} {a : Nat → Nat} {ac : Nat → ClassId} {n : Nat} {r : Int32 × (St)} (C : nd_C p l s m args c A (dC, dI) cX14_bringsSame 3 RX14 ow_dm_X14_bringsSame (dk_X14 ac)) (K : nd_Ki p l e (headSpec ow_dm_X14_bringsSame ({ frames := 0, cells := 0, slots := 0, locals := 0 })).room s m args below meth c Q A (dC, dI) cX14_bringsSame .boolean (St) (dw_X14 a ac) r) : dj_X14_bringsSame_51 p l e s m args below meth c Q A dC dI a ac (df_X14_bringsSame_51 n) r := by
  obtain ⟨hlt, hx, hb, hml, hown, hts, hN, hA, hK⟩ := id C
  intro y0 s0 H locs ls h hP hD hS hl
  unfold df_X14_bringsSame_51 at h
  obtain ⟨n4, h⟩ := nd_z_e ⟨_, rfl⟩ h
  exact K _ _ _ _ _ _ dX14_bringsSame_51 n4 (Option.some.inj h).symm hP hD hS
set_option maxHeartbeats 40000000 in
set_option maxRecDepth 100000 in
theorem db_X14_bringsSame_50 {p : Program} {l : Launch} {e : Env} {s : State} {m : MethodId} {args : Array Value} {below : List Frame} {meth : Method} {c : Code} {Q : State → Prop} {A : Nat → Prop} {dC : Nat → ClassId} {dI : Nat → Nat → Nat} {a : Nat → Nat} {ac : Nat → ClassId} {n : Nat} {r : Int32 × (St)} (C : nd_C p l s m args c A (dC, dI) cX14_bringsSame 3 RX14 ow_dm_X14_bringsSame (dk_X14 ac)) (K : nd_Ki p l e (headSpec ow_dm_X14_bringsSame ({ frames := 0, cells := 0, slots := 0, locals := 0 })).room s m args below meth c Q A (dC, dI) cX14_bringsSame .boolean (St) (dw_X14 a ac) r) : dj_X14_bringsSame_50 p l e s m args below meth c Q A dC dI a ac (df_X14_bringsSame_50 n) r := by
  obtain ⟨hlt, hx, hb, hml, hown, hts, hN, hA, hK⟩ := id C
  intro s0 H locs ls h hP hD hS hl
  unfold df_X14_bringsSame_50 at h
  refine lv_iconst (v := 0) hx hb dX14_bringsSame_50 (by decide) ?_
  exact (db_X14_bringsSame_51 C K) (0) s0 _ _ _ h hP hD hS (lv_sub hl [] rfl)
set_option maxHeartbeats 40000000 in
set_option maxRecDepth 100000 in
theorem db_X14_bringsSame_0 {p : Program} {l : Launch} {e : Env} {s : State} {m : MethodId} {args : Array Value} {below : List Frame} {meth : Method} {c : Code} {Q : State → Prop} {A : Nat → Prop} {dC : Nat → ClassId} {dI : Nat → Nat → Nat} {a : Nat → Nat} {ac : Nat → ClassId} {n : Nat} {r : Int32 × (St)} (C : nd_C p l s m args c A (dC, dI) cX14_bringsSame 3 RX14 ow_dm_X14_bringsSame (dk_X14 ac)) (K : nd_Ki p l e (headSpec ow_dm_X14_bringsSame ({ frames := 0, cells := 0, slots := 0, locals := 0 })).room s m args below meth c Q A (dC, dI) cX14_bringsSame .boolean (St) (dw_X14 a ac) r) : dj_X14_bringsSame_0 p l e s m args below meth c Q A dC dI a ac (df_X14_bringsSame_0 n) r := by
  obtain ⟨hlt, hx, hb, hml, hown, hts, hN, hA, hK⟩ := id C
  intro v0 v1 s0 H locs ls h hP hD hS hl
  unfold df_X14_bringsSame_0 at h
  refine lv_aload_n hx hb dX14_bringsSame_0 rfl (lv_at hl 0 rfl) ?_
  refine va_get (D := (dC, dI)) (ci := 15) (v := .ref (a 1)) (C := RX14) (T := TX14) (N := 11) hx hb hts hi_dm_X14_bringsSame_X14 hown hK hP 0 rfl rfl 1 (by decide) (hts (.fieldLink RX14 9 "TimeMachineModel$Codec" "kind" "[I") (List.mem_of_getElem? (i := 1) rfl)) (fun _ h9 => h9) rfl dX14_bringsSame_1 ?_
  refine lv_iload_n hx hb dX14_bringsSame_4 rfl (lv_at hl 1 rfl) ?_
  obtain ⟨i1, h⟩ := nd_ck_e h
  refine va_iald (i := v0) hx hb hK hP 1 0 rfl rfl i1 dX14_bringsSame_5 ?_
  refine lv_aload_n hx hb dX14_bringsSame_6 rfl (lv_at hl 0 rfl) ?_
  refine va_get (D := (dC, dI)) (ci := 15) (v := .ref (a 1)) (C := RX14) (T := TX14) (N := 11) hx hb hts hi_dm_X14_bringsSame_X14 hown hK hP 0 rfl rfl 1 (by decide) (hts (.fieldLink RX14 9 "TimeMachineModel$Codec" "kind" "[I") (List.mem_of_getElem? (i := 1) rfl)) (fun _ h9 => h9) rfl dX14_bringsSame_7 ?_
  refine lv_iload_n hx hb dX14_bringsSame_10 rfl (lv_at hl 2 rfl) ?_
  obtain ⟨i2, h⟩ := nd_ck_e h
  refine va_iald (i := v1) hx hb hK hP 1 0 rfl rfl i2 dX14_bringsSame_11 ?_
  refine lv_icmp_ne (tgt := 50) hx hb dX14_bringsSame_12 (by decide) (fun c3 => ?_) (fun c3 => ?_)
  · have h := nd_neg h c3
    exact (db_X14_bringsSame_50 C K)  s0 _ _ _ h hP hD hS (lv_sub hl [] rfl)
  · have h := nd_pos h c3
    refine lv_aload_n hx hb dX14_bringsSame_15 rfl (lv_at hl 0 rfl) ?_
    refine va_get (D := (dC, dI)) (ci := 15) (v := .ref (a 4)) (C := RX14) (T := TX14) (N := 11) hx hb hts hi_dm_X14_bringsSame_X14 hown hK hP 0 rfl rfl 4 (by decide) (hts (.fieldLink RX14 20 "TimeMachineModel$Codec" "a" "[J") (List.mem_of_getElem? (i := 2) rfl)) (fun _ h9 => h9) rfl dX14_bringsSame_16 ?_
    refine lv_iload_n hx hb dX14_bringsSame_19 rfl (lv_at hl 1 rfl) ?_
    obtain ⟨i5, h⟩ := nd_ck_e h
    refine va_lald (i := v0) hx hb hK hP 4 3 rfl rfl i5 dX14_bringsSame_20 ?_
    refine lv_aload_n hx hb dX14_bringsSame_21 rfl (lv_at hl 0 rfl) ?_
    refine va_get (D := (dC, dI)) (ci := 15) (v := .ref (a 4)) (C := RX14) (T := TX14) (N := 11) hx hb hts hi_dm_X14_bringsSame_X14 hown hK hP 0 rfl rfl 4 (by decide) (hts (.fieldLink RX14 20 "TimeMachineModel$Codec" "a" "[J") (List.mem_of_getElem? (i := 2) rfl)) (fun _ h9 => h9) rfl dX14_bringsSame_22 ?_
    refine lv_iload_n hx hb dX14_bringsSame_25 rfl (lv_at hl 2 rfl) ?_
    obtain ⟨i6, h⟩ := nd_ck_e h
    refine va_lald (i := v1) hx hb hK hP 4 3 rfl rfl i6 dX14_bringsSame_26 ?_
    refine W.lcmp hx hb dX14_bringsSame_27 ?_
    refine lv_if_ne (tgt := 50) hx hb dX14_bringsSame_28 (by decide) (fun c7 => ?_) (fun c7 => ?_)
    · have h := nd_neg h c7
      exact (db_X14_bringsSame_50 C K)  s0 _ _ _ h hP hD hS (lv_sub hl [] rfl)
    · have h := nd_pos h c7
      refine lv_aload_n hx hb dX14_bringsSame_31 rfl (lv_at hl 0 rfl) ?_
      refine va_get (D := (dC, dI)) (ci := 15) (v := .ref (a 2)) (C := RX14) (T := TX14) (N := 11) hx hb hts hi_dm_X14_bringsSame_X14 hown hK hP 0 rfl rfl 2 (by decide) (hts (.fieldLink RX14 13 "TimeMachineModel$Codec" "b" "[I") (List.mem_of_getElem? (i := 3) rfl)) (fun _ h9 => h9) rfl dX14_bringsSame_32 ?_
      refine lv_iload_n hx hb dX14_bringsSame_35 rfl (lv_at hl 1 rfl) ?_
      obtain ⟨i8, h⟩ := nd_ck_e h
      refine va_iald (i := v0) hx hb hK hP 2 1 rfl rfl i8 dX14_bringsSame_36 ?_
      refine lv_aload_n hx hb dX14_bringsSame_37 rfl (lv_at hl 0 rfl) ?_
      refine va_get (D := (dC, dI)) (ci := 15) (v := .ref (a 2)) (C := RX14) (T := TX14) (N := 11) hx hb hts hi_dm_X14_bringsSame_X14 hown hK hP 0 rfl rfl 2 (by decide) (hts (.fieldLink RX14 13 "TimeMachineModel$Codec" "b" "[I") (List.mem_of_getElem? (i := 3) rfl)) (fun _ h9 => h9) rfl dX14_bringsSame_38 ?_
      refine lv_iload_n hx hb dX14_bringsSame_41 rfl (lv_at hl 2 rfl) ?_
      obtain ⟨i9, h⟩ := nd_ck_e h
      refine va_iald (i := v1) hx hb hK hP 2 1 rfl rfl i9 dX14_bringsSame_42 ?_
      refine lv_icmp_ne (tgt := 50) hx hb dX14_bringsSame_43 (by decide) (fun c10 => ?_) (fun c10 => ?_)
      · have h := nd_neg h c10
        exact (db_X14_bringsSame_50 C K)  s0 _ _ _ h hP hD hS (lv_sub hl [] rfl)
      · have h := nd_pos h c10
        refine lv_iconst (v := 1) hx hb dX14_bringsSame_46 (by decide) ?_
        refine lv_goto (tgt := 51) hx hb dX14_bringsSame_47 (by decide) ?_
        exact (db_X14_bringsSame_51 C K) (1) s0 _ _ _ h hP hD hS (lv_sub hl [] rfl)
set_option maxHeartbeats 40000000 in
set_option maxRecDepth 100000 in
theorem dm_X14_bringsSame (l : Launch) (hlt : l.stackTraces = false) (dC : Nat → ClassId) (dI : Nat → Nat → Nat) (a : Nat → Nat) (ac : Nat → ClassId) (n : Nat) (v0 : Int32) (v1 : Int32) (s0 : St) {r : Int32 × (St)} (h : df_X14_bringsSame n v0 v1 s0 = some r) (sz : Nat) : Met l yX14_bringsSame ow_dm_X14_bringsSame ({ frames := 0, cells := 0, slots := 0, locals := 0 }) (va_Pc [.ref (a 0), .int v0, .int v1] (fun U => U.heap.size = sz ∧ va_P (dC, dI) vwCl (dw_X14 a ac s0) U.heap ∧ va_K (dC, dI) vwCl (dk_X14 ac) U ∧ va_D (fun _ => True) (dw_X14 a ac s0) ∧ nv_E dI (va_A (dw_X14 a ac s0) sz) U)) (va_Qi (fun x _ => x = r.1) (fun (_ : Unit) t => va_P (dC, dI) vwCl (dw_X14 a ac r.2) t.heap ∧ va_K (dC, dI) vwCl (dk_X14 ac) t ∧ va_D (va_A (dw_X14 a ac s0) sz) (dw_X14 a ac r.2)) (va_A (dw_X14 a ac s0) sz)) 0 0 (va_A (dw_X14 a ac s0) sz) := by
  refine Met.ofW (cc := cX14_bringsSame) (maxL := 3) (ret := (some .boolean)) (by decide) rfl ?_
  intro p e s m args below meth c s₁ B hml hv
  obtain ⟨rfl, hsz, hP, hK, hD0, hN⟩ := hv
  have hx := B.exec
  have hb := B.bytes
  have hr := B.returns
  have hts := atoms_spec (ws := ow_dm_X14_bringsSame) B.pre
  have hown : s.vm.findClass RX14 = some m.cls := findClass_of_methodNamed B.named
  have hlocks := B.notSynchronized
  subst hsz
  have hD := hD0.self (sz := s.heap.size)
  generalize hAe : va_A (dw_X14 a ac s0) s.heap.size = A at hD hN ⊢
  have hA : ∀ q : Nat, s.heap.size ≤ q → A q := fun q h => by rw [← hAe]; exact Or.inr h
  have hl := lv_entry ([.ref (a 0), .int v0, .int v1]) (n := 3) (Nat.le_of_ble_eq_true rfl)
  rw [lg_entry_eq]
  generalize (lg_sl ([.ref (a 0), .int v0, .int v1]) ++ List.replicate (3 - (lg_sl ([.ref (a 0), .int v0, .int v1])).length) Slot.unset).toArray = ls at hl ⊢
  have hl : lv_has ls 3 [(0, .ref (a 0)), (1, .int v0), (2, .int v1)] := hl
  exact db_X14_bringsSame_0 (dC := dC) (dI := dI) (a := a) (ac := ac) (n := n) (r := r) ⟨hlt, hx, hb, hml, hown, hts, hN, hA, hK⟩ (fun pc v τ H locs ls d z er hP hD hS => by subst er; exact W.zret (v := v) hx hb hr z (fun t ht hW => ⟨⟨v, (), rfl, rfl, by rw [ht]; exact hP, va_K.moved hW.alike hK, hD⟩, hS.F ht⟩) hS.2.2 d) v0 v1 s0 _ _ _ h hP hD va_S.rf (lv_sub hl [0, 1, 2] rfl)
def ow_dm_X14_isAlike : List Cond := Cond.code yX14_isAlike cX14_isAlike 2 (some .boolean) :: ([Cond.fieldLink RX14 16 "TimeMachineModel$Codec" "difference" "[J", Cond.methodLink RX14 40 yX14_bringsSame, Cond.instanceMethod yX14_bringsSame, Cond.selects RX14 yX14_bringsSame yX14_bringsSame, Cond.initialized RX14] ++ (u_ws RX14 TX14 11 ++ (ow_dm_X14_bringsSame ++ [])))
theorem gd_dm_X14_isAlike : ∀ w ∈ ow_dm_X14_isAlike, (w.onTables && w.keeps) = true ∨ ∃ ty, w = Cond.arrayClass ty := List.forall_mem_cons.mpr ⟨good_of_word rfl, List.forall_mem_append.mpr ⟨fun w h => good_of_word (List.all_eq_true.mp (by decide +kernel) w h), List.forall_mem_append.mpr ⟨gu_X14, List.forall_mem_append.mpr ⟨gd_dm_X14_bringsSame, fun _ h => nomatch h⟩⟩⟩⟩
theorem hi_dm_X14_isAlike_X14 : ∀ w ∈ u_ws RX14 TX14 11, w ∈ ow_dm_X14_isAlike := fun w h => List.mem_cons_of_mem _ (List.mem_append_right _ (List.mem_append_left _ h))
theorem gi_dm_X14_isAlike_0 : GoodIn ow_dm_X14_isAlike (wsV RX14 40 RX14 yX14_bringsSame ow_dm_X14_bringsSame) := goodIn_app (goodIn_of _ (by decide +kernel)) (fun w h => ⟨List.mem_cons_of_mem _ (List.mem_append_right _ (List.mem_append_right _ (List.mem_append_left _ h))), gd_dm_X14_bringsSame w h⟩)
def dj_X14_isAlike_38 (p : Program) (l : Launch) (e : Env) (s : State) (m : MethodId) (args : Array Value) (below : List Frame) (meth : Method) (c : Code) (Q : State → Prop) (A : Nat → Prop) (dC : Nat → ClassId) (dI : Nat → Nat → Nat) (a : Nat → Nat) (ac : Nat → ClassId) (g : Int32 → (St) → Option (Int32 × (St))) (r : Int32 × (St)) : Prop := ∀ (y0 : Int32) (s0 : St) (H : Heap) (locs : List Loc) (ls : Array Slot), g y0 s0 = some r → va_P (dC, dI) vwCl (dw_X14 a ac s0) H → va_D A (dw_X14 a ac s0) → va_S A s.heap H locs → lv_has ls 2 [] → W p l e (headSpec ow_dm_X14_isAlike ({ frames := 1, cells := 0, slots := 0, locals := 22 })).room s m args below meth c H locs 0 0 Q (F0 m 38 ls [.int y0])
def dj_X14_isAlike_37 (p : Program) (l : Launch) (e : Env) (s : State) (m : MethodId) (args : Array Value) (below : List Frame) (meth : Method) (c : Code) (Q : State → Prop) (A : Nat → Prop) (dC : Nat → ClassId) (dI : Nat → Nat → Nat) (a : Nat → Nat) (ac : Nat → ClassId) (g : (St) → Option (Int32 × (St))) (r : Int32 × (St)) : Prop := ∀ (s0 : St) (H : Heap) (locs : List Loc) (ls : Array Slot), g s0 = some r → va_P (dC, dI) vwCl (dw_X14 a ac s0) H → va_D A (dw_X14 a ac s0) → va_S A s.heap H locs → lv_has ls 2 [] → W p l e (headSpec ow_dm_X14_isAlike ({ frames := 1, cells := 0, slots := 0, locals := 22 })).room s m args below meth c H locs 0 0 Q (F0 m 37 ls [])
def dj_X14_isAlike_0 (p : Program) (l : Launch) (e : Env) (s : State) (m : MethodId) (args : Array Value) (below : List Frame) (meth : Method) (c : Code) (Q : State → Prop) (A : Nat → Prop) (dC : Nat → ClassId) (dI : Nat → Nat → Nat) (a : Nat → Nat) (ac : Nat → ClassId) (g : Int32 → (St) → Option (Int32 × (St))) (r : Int32 × (St)) : Prop := ∀ (v0 : Int32) (s0 : St) (H : Heap) (locs : List Loc) (ls : Array Slot), g v0 s0 = some r → va_P (dC, dI) vwCl (dw_X14 a ac s0) H → va_D A (dw_X14 a ac s0) → va_S A s.heap H locs → lv_has ls 2 [(0, .ref (a 0)), (1, .int v0)] → W p l e (headSpec ow_dm_X14_isAlike ({ frames := 1, cells := 0, slots := 0, locals := 22 })).room s m args below meth c H locs 0 0 Q (F0 m 0 ls [])
set_option maxHeartbeats 40000000 in
set_option maxRecDepth 100000 in
theorem db_X14_isAlike_38 {p : Program} {l : Launch} {e : Env} {s : State} {m : MethodId} {args : Array Value} {below : List Frame} {meth : Method} {c : Code} {Q : State → Prop} {A : Nat → Prop} {dC : Nat → ClassId} {dI : Nat → Nat → Nat} {a : Nat → Nat} {ac : Nat → ClassId} {n : Nat} {r : Int32 × (St)} (C : nd_C p l s m args c A (dC, dI) cX14_isAlike 2 RX14 ow_dm_X14_isAlike (dk_X14 ac)) (K : nd_Ki p l e (headSpec ow_dm_X14_isAlike ({ frames := 1, cells := 0, slots := 0, locals := 22 })).room s m args below meth c Q A (dC, dI) cX14_isAlike .boolean (St) (dw_X14 a ac) r) : dj_X14_isAlike_38 p l e s m args below meth c Q A dC dI a ac (df_X14_isAlike_38 n) r := by
  obtain ⟨hlt, hx, hb, hml, hown, hts, hN, hA, hK⟩ := id C
  intro y0 s0 H locs ls h hP hD hS hl
  unfold df_X14_isAlike_38 at h
  obtain ⟨n2, h⟩ := nd_z_e ⟨_, rfl⟩ h
  exact K _ _ _ _ _ _ dX14_isAlike_38 n2 (Option.some.inj h).symm hP hD hS
set_option maxHeartbeats 40000000 in
set_option maxRecDepth 100000 in
theorem db_X14_isAlike_37 {p : Program} {l : Launch} {e : Env} {s : State} {m : MethodId} {args : Array Value} {below : List Frame} {meth : Method} {c : Code} {Q : State → Prop} {A : Nat → Prop} {dC : Nat → ClassId} {dI : Nat → Nat → Nat} {a : Nat → Nat} {ac : Nat → ClassId} {n : Nat} {r : Int32 × (St)} (C : nd_C p l s m args c A (dC, dI) cX14_isAlike 2 RX14 ow_dm_X14_isAlike (dk_X14 ac)) (K : nd_Ki p l e (headSpec ow_dm_X14_isAlike ({ frames := 1, cells := 0, slots := 0, locals := 22 })).room s m args below meth c Q A (dC, dI) cX14_isAlike .boolean (St) (dw_X14 a ac) r) : dj_X14_isAlike_37 p l e s m args below meth c Q A dC dI a ac (df_X14_isAlike_37 n) r := by
  obtain ⟨hlt, hx, hb, hml, hown, hts, hN, hA, hK⟩ := id C
  intro s0 H locs ls h hP hD hS hl
  unfold df_X14_isAlike_37 at h
  refine lv_iconst (v := 0) hx hb dX14_isAlike_37 (by decide) ?_
  exact (db_X14_isAlike_38 C K) (0) s0 _ _ _ h hP hD hS (lv_sub hl [] rfl)
set_option maxHeartbeats 40000000 in
set_option maxRecDepth 100000 in
theorem db_X14_isAlike_0 {p : Program} {l : Launch} {e : Env} {s : State} {m : MethodId} {args : Array Value} {below : List Frame} {meth : Method} {c : Code} {Q : State → Prop} {A : Nat → Prop} {dC : Nat → ClassId} {dI : Nat → Nat → Nat} {a : Nat → Nat} {ac : Nat → ClassId} {n : Nat} {r : Int32 × (St)} (C : nd_C p l s m args c A (dC, dI) cX14_isAlike 2 RX14 ow_dm_X14_isAlike (dk_X14 ac)) (K : nd_Ki p l e (headSpec ow_dm_X14_isAlike ({ frames := 1, cells := 0, slots := 0, locals := 22 })).room s m args below meth c Q A (dC, dI) cX14_isAlike .boolean (St) (dw_X14 a ac) r) : dj_X14_isAlike_0 p l e s m args below meth c Q A dC dI a ac (df_X14_isAlike_0 n) r := by
  obtain ⟨hlt, hx, hb, hml, hown, hts, hN, hA, hK⟩ := id C
  intro v0 s0 H locs ls h hP hD hS hl
  unfold df_X14_isAlike_0 at h
  refine lv_iload_n hx hb dX14_isAlike_0 rfl (lv_at hl 1 rfl) ?_
  refine lv_if_le (tgt := 37) hx hb dX14_isAlike_1 (by decide) (fun c1 => ?_) (fun c1 => ?_)
  · have h := nd_pos h c1
    exact (db_X14_isAlike_37 C K)  s0 _ _ _ h hP hD hS (lv_sub hl [] rfl)
  · have h := nd_neg h c1
    refine lv_aload_n hx hb dX14_isAlike_4 rfl (lv_at hl 0 rfl) ?_
    refine va_get (D := (dC, dI)) (ci := 15) (v := .ref (a 3)) (C := RX14) (T := TX14) (N := 11) hx hb hts hi_dm_X14_isAlike_X14 hown hK hP 0 rfl rfl 3 (by decide) (hts (.fieldLink RX14 16 "TimeMachineModel$Codec" "difference" "[J") (List.mem_of_getElem? (i := 1) rfl)) (fun _ h9 => h9) rfl dX14_isAlike_5 ?_
    refine lv_iload_n hx hb dX14_isAlike_8 rfl (lv_at hl 1 rfl) ?_
    obtain ⟨i3, h⟩ := nd_ck_e h
    refine va_lald (i := v0) hx hb hK hP 3 2 rfl rfl i3 dX14_isAlike_9 ?_
    refine lv_aload_n hx hb dX14_isAlike_10 rfl (lv_at hl 0 rfl) ?_
    refine va_get (D := (dC, dI)) (ci := 15) (v := .ref (a 3)) (C := RX14) (T := TX14) (N := 11) hx hb hts hi_dm_X14_isAlike_X14 hown hK hP 0 rfl rfl 3 (by decide) (hts (.fieldLink RX14 16 "TimeMachineModel$Codec" "difference" "[J") (List.mem_of_getElem? (i := 1) rfl)) (fun _ h9 => h9) rfl dX14_isAlike_11 ?_
    refine lv_iload_n hx hb dX14_isAlike_14 rfl (lv_at hl 1 rfl) ?_
    refine lv_iconst (v := 1) hx hb dX14_isAlike_15 (by decide) ?_
    refine lv_isub hx hb dX14_isAlike_16 ?_
    obtain ⟨i4, h⟩ := nd_ck_e h
    refine va_lald (i := (v0 - 1)) hx hb hK hP 3 2 rfl rfl i4 dX14_isAlike_17 ?_
    refine W.lcmp hx hb dX14_isAlike_18 ?_
    refine lv_if_ne (tgt := 37) hx hb dX14_isAlike_19 (by decide) (fun c5 => ?_) (fun c5 => ?_)
    · have h := nd_neg h c5
      exact (db_X14_isAlike_37 C K)  s0 _ _ _ h hP hD hS (lv_sub hl [] rfl)
    · have h := nd_pos h c5
      refine lv_aload_n hx hb dX14_isAlike_22 rfl (lv_at hl 0 rfl) ?_
      refine lv_iload_n hx hb dX14_isAlike_23 rfl (lv_at hl 1 rfl) ?_
      refine lv_iload_n hx hb dX14_isAlike_24 rfl (lv_at hl 1 rfl) ?_
      refine lv_iconst (v := 1) hx hb dX14_isAlike_25 (by decide) ?_
      refine lv_isub hx hb dX14_isAlike_26 ?_
      obtain ⟨q6, s7, hq, h⟩ := nd_b2_e h
      have hPc := hP
      have hDc := hD
      have hKc := hK
      have hFc := nd_rs hD hS hA
      refine nd_cVi (As := [.int v0, .int (v0 - 1)]) (rest := []) (q := q6) (w' := dw_X14 a ac s7) ⟨hx, hb, hml, hown, hts⟩ (fun sz => dm_X14_bringsSame l hlt dC dI a ac n (v0) ((v0 - 1)) s0 hq sz) (cwV 2 hts gi_dm_X14_isAlike_0 rfl rfl rfl (by decide +kernel) ⟨Nat.le_of_ble_eq_true rfl, Nat.le_of_ble_eq_true rfl⟩) hPc hDc hKc hS hA hN (va_recv hKc hPc (ci := 15) (q0 := 0) rfl rfl) rfl hl.1 rfl (Nat.le_of_ble_eq_true rfl) dX14_isAlike_27 (fun H locs hP1 hD1 hk1 hS => ?_)
      have hP := hP1
      have hD := hD1.weaken (fun k q _ h => hFc q.1 h)
      refine lv_if_eq (tgt := 37) hx hb dX14_isAlike_30 (by decide) (fun c9 => ?_) (fun c9 => ?_)
      · have h := nd_pos h c9
        exact (db_X14_isAlike_37 C K)  s7 _ _ _ h hP hD hS (lv_sub hl [] rfl)
      · have h := nd_neg h c9
        refine lv_iconst (v := 1) hx hb dX14_isAlike_33 (by decide) ?_
        refine lv_goto (tgt := 38) hx hb dX14_isAlike_34 (by decide) ?_
        exact (db_X14_isAlike_38 C K) (1) s7 _ _ _ h hP hD hS (lv_sub hl [] rfl)
set_option maxHeartbeats 40000000 in
set_option maxRecDepth 100000 in
theorem dm_X14_isAlike (l : Launch) (hlt : l.stackTraces = false) (dC : Nat → ClassId) (dI : Nat → Nat → Nat) (a : Nat → Nat) (ac : Nat → ClassId) (n : Nat) (v0 : Int32) (s0 : St) {r : Int32 × (St)} (h : df_X14_isAlike n v0 s0 = some r) (sz : Nat) : Met l yX14_isAlike ow_dm_X14_isAlike ({ frames := 1, cells := 0, slots := 0, locals := 22 }) (va_Pc [.ref (a 0), .int v0] (fun U => U.heap.size = sz ∧ va_P (dC, dI) vwCl (dw_X14 a ac s0) U.heap ∧ va_K (dC, dI) vwCl (dk_X14 ac) U ∧ va_D (fun _ => True) (dw_X14 a ac s0) ∧ nv_E dI (va_A (dw_X14 a ac s0) sz) U)) (va_Qi (fun x _ => x = r.1) (fun (_ : Unit) t => va_P (dC, dI) vwCl (dw_X14 a ac r.2) t.heap ∧ va_K (dC, dI) vwCl (dk_X14 ac) t ∧ va_D (va_A (dw_X14 a ac s0) sz) (dw_X14 a ac r.2)) (va_A (dw_X14 a ac s0) sz)) 0 0 (va_A (dw_X14 a ac s0) sz) := by
  refine Met.ofW (cc := cX14_isAlike) (maxL := 2) (ret := (some .boolean)) (by decide) rfl ?_
  intro p e s m args below meth c s₁ B hml hv
  obtain ⟨rfl, hsz, hP, hK, hD0, hN⟩ := hv
  have hx := B.exec
  have hb := B.bytes
  have hr := B.returns
  have hts := atoms_spec (ws := ow_dm_X14_isAlike) B.pre
  have hown : s.vm.findClass RX14 = some m.cls := findClass_of_methodNamed B.named
  have hlocks := B.notSynchronized
  subst hsz
  have hD := hD0.self (sz := s.heap.size)
  generalize hAe : va_A (dw_X14 a ac s0) s.heap.size = A at hD hN ⊢
  have hA : ∀ q : Nat, s.heap.size ≤ q → A q := fun q h => by rw [← hAe]; exact Or.inr h
  have hl := lv_entry ([.ref (a 0), .int v0]) (n := 2) (Nat.le_of_ble_eq_true rfl)
  rw [lg_entry_eq]
  generalize (lg_sl ([.ref (a 0), .int v0]) ++ List.replicate (2 - (lg_sl ([.ref (a 0), .int v0])).length) Slot.unset).toArray = ls at hl ⊢
  have hl : lv_has ls 2 [(0, .ref (a 0)), (1, .int v0)] := hl
  exact db_X14_isAlike_0 (dC := dC) (dI := dI) (a := a) (ac := ac) (n := n) (r := r) ⟨hlt, hx, hb, hml, hown, hts, hN, hA, hK⟩ (fun pc v τ H locs ls d z er hP hD hS => by subst er; exact W.zret (v := v) hx hb hr z (fun t ht hW => ⟨⟨v, (), rfl, rfl, by rw [ht]; exact hP, va_K.moved hW.alike hK, hD⟩, hS.F ht⟩) hS.2.2 d) v0 s0 _ _ _ h hP hD va_S.rf (lv_sub hl [0, 1] rfl)
def ow_dm_X14_copyOf : List Cond := Cond.code yX14_copyOf cX14_copyOf 4 (some .int) :: ([Cond.fieldLink RX14 13 "TimeMachineModel$Codec" "b" "[I", Cond.fieldLink RX14 9 "TimeMachineModel$Codec" "kind" "[I", Cond.methodLink RX14 40 yX14_bringsSame, Cond.instanceMethod yX14_bringsSame, Cond.selects RX14 yX14_bringsSame yX14_bringsSame, Cond.initialized RX14] ++ (u_ws RX14 TX14 11 ++ (ow_dm_X14_bringsSame ++ [])))
theorem gd_dm_X14_copyOf : ∀ w ∈ ow_dm_X14_copyOf, (w.onTables && w.keeps) = true ∨ ∃ ty, w = Cond.arrayClass ty := List.forall_mem_cons.mpr ⟨good_of_word rfl, List.forall_mem_append.mpr ⟨fun w h => good_of_word (List.all_eq_true.mp (by decide +kernel) w h), List.forall_mem_append.mpr ⟨gu_X14, List.forall_mem_append.mpr ⟨gd_dm_X14_bringsSame, fun _ h => nomatch h⟩⟩⟩⟩
theorem hi_dm_X14_copyOf_X14 : ∀ w ∈ u_ws RX14 TX14 11, w ∈ ow_dm_X14_copyOf := fun w h => List.mem_cons_of_mem _ (List.mem_append_right _ (List.mem_append_left _ h))
theorem gi_dm_X14_copyOf_0 : GoodIn ow_dm_X14_copyOf (wsV RX14 40 RX14 yX14_bringsSame ow_dm_X14_bringsSame) := goodIn_app (goodIn_of _ (by decide +kernel)) (fun w h => ⟨List.mem_cons_of_mem _ (List.mem_append_right _ (List.mem_append_right _ (List.mem_append_left _ h))), gd_dm_X14_bringsSame w h⟩)
def dj_X14_copyOf_59 (p : Program) (l : Launch) (e : Env) (s : State) (m : MethodId) (args : Array Value) (below : List Frame) (meth : Method) (c : Code) (Q : State → Prop) (A : Nat → Prop) (dC : Nat → ClassId) (dI : Nat → Nat → Nat) (a : Nat → Nat) (ac : Nat → ClassId) (g : (St) → Option (Int32 × (St))) (r : Int32 × (St)) : Prop := ∀ (s0 : St) (H : Heap) (locs : List Loc) (ls : Array Slot), g s0 = some r → va_P (dC, dI) vwCl (dw_X14 a ac s0) H → va_D A (dw_X14 a ac s0) → va_S A s.heap H locs → lv_has ls 4 [] → W p l e (headSpec ow_dm_X14_copyOf ({ frames := 1, cells := 0, slots := 0, locals := 22 })).room s m args below meth c H locs 0 0 Q (F0 m 59 ls [])
def dj_X14_copyOf_53 (p : Program) (l : Launch) (e : Env) (s : State) (m : MethodId) (args : Array Value) (below : List Frame) (meth : Method) (c : Code) (Q : State → Prop) (A : Nat → Prop) (dC : Nat → ClassId) (dI : Nat → Nat → Nat) (a : Nat → Nat) (ac : Nat → ClassId) (g : Int32 → Int32 → Int32 → (St) → Option (Int32 × (St))) (r : Int32 × (St)) : Prop := ∀ (x1 : Int32) (x2 : Int32) (x3 : Int32) (s0 : St) (H : Heap) (locs : List Loc) (ls : Array Slot), g x1 x2 x3 s0 = some r → va_P (dC, dI) vwCl (dw_X14 a ac s0) H → va_D A (dw_X14 a ac s0) → va_S A s.heap H locs → lv_has ls 4 [(0, .ref (a 0)), (1, .int x1), (2, .int x2), (3, .int x3)] → W p l e (headSpec ow_dm_X14_copyOf ({ frames := 1, cells := 0, slots := 0, locals := 22 })).room s m args below meth c H locs 0 0 Q (F0 m 53 ls [])
def dj_X14_copyOf_6 (p : Program) (l : Launch) (e : Env) (s : State) (m : MethodId) (args : Array Value) (below : List Frame) (meth : Method) (c : Code) (Q : State → Prop) (A : Nat → Prop) (dC : Nat → ClassId) (dI : Nat → Nat → Nat) (a : Nat → Nat) (ac : Nat → ClassId) (g : Int32 → Int32 → Int32 → (St) → Option (Int32 × (St))) (r : Int32 × (St)) : Prop := ∀ (x1 : Int32) (x2 : Int32) (x3 : Int32) (s0 : St) (H : Heap) (locs : List Loc) (ls : Array Slot), g x1 x2 x3 s0 = some r → va_P (dC, dI) vwCl (dw_X14 a ac s0) H → va_D A (dw_X14 a ac s0) → va_S A s.heap H locs → lv_has ls 4 [(0, .ref (a 0)), (1, .int x1), (2, .int x2), (3, .int x3)] → W p l e (headSpec ow_dm_X14_copyOf ({ frames := 1, cells := 0, slots := 0, locals := 22 })).room s m args below meth c H locs 0 0 Q (F0 m 6 ls [])
def dj_X14_copyOf_0 (p : Program) (l : Launch) (e : Env) (s : State) (m : MethodId) (args : Array Value) (below : List Frame) (meth : Method) (c : Code) (Q : State → Prop) (A : Nat → Prop) (dC : Nat → ClassId) (dI : Nat → Nat → Nat) (a : Nat → Nat) (ac : Nat → ClassId) (g : Int32 → (St) → Option (Int32 × (St))) (r : Int32 × (St)) : Prop := ∀ (v0 : Int32) (s0 : St) (H : Heap) (locs : List Loc) (ls : Array Slot), g v0 s0 = some r → va_P (dC, dI) vwCl (dw_X14 a ac s0) H → va_D A (dw_X14 a ac s0) → va_S A s.heap H locs → lv_has ls 4 [(0, .ref (a 0)), (1, .int v0)] → W p l e (headSpec ow_dm_X14_copyOf ({ frames := 1, cells := 0, slots := 0, locals := 22 })).room s m args below meth c H locs 0 0 Q (F0 m 0 ls [])
set_option maxHeartbeats 40000000 in
set_option maxRecDepth 100000 in
theorem db_X14_copyOf_59 {p : Program} {l : Launch} {e : Env} {s : State} {m : MethodId} {args : Array Value} {below : List Frame} {meth : Method} {c : Code} {Q : State → Prop} {A : Nat → Prop} {dC : Nat → ClassId} {dI : Nat → Nat → Nat} {a : Nat → Nat} {ac : Nat → ClassId} {n : Nat} {r : Int32 × (St)} (C : nd_C p l s m args c A (dC, dI) cX14_copyOf 4 RX14 ow_dm_X14_copyOf (dk_X14 ac)) (K : nd_Ki p l e (headSpec ow_dm_X14_copyOf ({ frames := 1, cells := 0, slots := 0, locals := 22 })).room s m args below meth c Q A (dC, dI) cX14_copyOf .int (St) (dw_X14 a ac) r) : dj_X14_copyOf_59 p l e s m args below meth c Q A dC dI a ac (df_X14_copyOf_59 n) r := by
  obtain ⟨hlt, hx, hb, hml, hown, hts, hN, hA, hK⟩ := id C
  intro s0 H locs ls h hP hD hS hl
  unfold df_X14_copyOf_59 at h
  refine lv_iconst (v := 0) hx hb dX14_copyOf_59 (by decide) ?_
  exact K _ _ _ _ _ _ dX14_copyOf_60 rfl (Option.some.inj h).symm hP hD hS
set_option maxHeartbeats 40000000 in
set_option maxRecDepth 100000 in
theorem db_X14_copyOf_53 {p : Program} {l : Launch} {e : Env} {s : State} {m : MethodId} {args : Array Value} {below : List Frame} {meth : Method} {c : Code} {Q : State → Prop} {A : Nat → Prop} {dC : Nat → ClassId} {dI : Nat → Nat → Nat} {a : Nat → Nat} {ac : Nat → ClassId} {n : Nat} {r : Int32 × (St)} (C : nd_C p l s m args c A (dC, dI) cX14_copyOf 4 RX14 ow_dm_X14_copyOf (dk_X14 ac)) (K : nd_Ki p l e (headSpec ow_dm_X14_copyOf ({ frames := 1, cells := 0, slots := 0, locals := 22 })).room s m args below meth c Q A (dC, dI) cX14_copyOf .int (St) (dw_X14 a ac) r) {g6 : Int32 → Int32 → Int32 → (St) → Option (Int32 × (St))} (J6 : dj_X14_copyOf_6 p l e s m args below meth c Q A dC dI a ac g6 r) : dj_X14_copyOf_53 p l e s m args below meth c Q A dC dI a ac (df_X14_copyOf_53 n g6) r := by
  obtain ⟨hlt, hx, hb, hml, hown, hts, hN, hA, hK⟩ := id C
  intro x1 x2 x3 s0 H locs ls h hP hD hS hl
  unfold df_X14_copyOf_53 at h
  obtain ⟨z13, ez13, h⟩ := nd_let_e h
  refine lv_iinc (v := z13) (lv' := [(3, .int z13), (0, .ref (a 0)), (1, .int x1), (2, .int x2)]) hx hb dX14_copyOf_53 hl (k := 3) rfl (by rw [ez13]) (by decide) rfl (fun ls hl => ?_)
  refine lv_goto (tgt := 6) hx hb dX14_copyOf_56 (by decide) ?_
  exact (J6) (x1) (x2) (z13) s0 _ _ _ h hP hD hS (lv_sub hl [1, 2, 3, 0] rfl)
set_option maxHeartbeats 40000000 in
set_option maxRecDepth 100000 in
theorem dB_X14_copyOf_6 {p : Program} {l : Launch} {e : Env} {s : State} {m : MethodId} {args : Array Value} {below : List Frame} {meth : Method} {c : Code} {Q : State → Prop} {A : Nat → Prop} {dC : Nat → ClassId} {dI : Nat → Nat → Nat} {a : Nat → Nat} {ac : Nat → ClassId} {n : Nat} {r : Int32 × (St)} (C : nd_C p l s m args c A (dC, dI) cX14_copyOf 4 RX14 ow_dm_X14_copyOf (dk_X14 ac)) (K : nd_Ki p l e (headSpec ow_dm_X14_copyOf ({ frames := 1, cells := 0, slots := 0, locals := 22 })).room s m args below meth c Q A (dC, dI) cX14_copyOf .int (St) (dw_X14 a ac) r) {g6 : Int32 → Int32 → Int32 → (St) → Option (Int32 × (St))} (J6 : dj_X14_copyOf_6 p l e s m args below meth c Q A dC dI a ac g6 r) : dj_X14_copyOf_6 p l e s m args below meth c Q A dC dI a ac (dF_X14_copyOf_6 n g6) r := by
  obtain ⟨hlt, hx, hb, hml, hown, hts, hN, hA, hK⟩ := id C
  intro x1 x2 x3 s0 H locs ls h hP hD hS hl
  unfold dF_X14_copyOf_6 at h
  refine lv_iload_n hx hb dX14_copyOf_6 rfl (lv_at hl 3 rfl) ?_
  refine lv_if_lt (tgt := 59) hx hb dX14_copyOf_7 (by decide) (fun c2 => ?_) (fun c2 => ?_)
  · have h := nd_pos h c2
    exact (db_X14_copyOf_59 C K)  s0 _ _ _ h hP hD hS (lv_sub hl [] rfl)
  · have h := nd_neg h c2
    refine lv_iload_n hx hb dX14_copyOf_10 rfl (lv_at hl 2 rfl) ?_
    refine lv_bipush (v := 20) hx hb dX14_copyOf_11 (by decide) ?_
    refine lv_icmp_ge (tgt := 59) hx hb dX14_copyOf_13 (by decide) (fun c3 => ?_) (fun c3 => ?_)
    · have h := nd_pos h c3
      exact (db_X14_copyOf_59 C K)  s0 _ _ _ h hP hD hS (lv_sub hl [] rfl)
    · have h := nd_neg h c3
      refine lv_aload_n hx hb dX14_copyOf_16 rfl (lv_at hl 0 rfl) ?_
      refine va_get (D := (dC, dI)) (ci := 15) (v := .ref (a 2)) (C := RX14) (T := TX14) (N := 11) hx hb hts hi_dm_X14_copyOf_X14 hown hK hP 0 rfl rfl 2 (by decide) (hts (.fieldLink RX14 13 "TimeMachineModel$Codec" "b" "[I") (List.mem_of_getElem? (i := 1) rfl)) (fun _ h9 => h9) rfl dX14_copyOf_17 ?_
      refine lv_iload_n hx hb dX14_copyOf_20 rfl (lv_at hl 1 rfl) ?_
      obtain ⟨i4, h⟩ := nd_ck_e h
      refine va_iald (i := x1) hx hb hK hP 2 1 rfl rfl i4 dX14_copyOf_21 ?_
      refine lv_iconst (v := 1) hx hb dX14_copyOf_22 (by decide) ?_
      refine lv_icmp_le (tgt := 59) hx hb dX14_copyOf_23 (by decide) (fun c5 => ?_) (fun c5 => ?_)
      · have h := nd_pos h c5
        exact (db_X14_copyOf_59 C K)  s0 _ _ _ h hP hD hS (lv_sub hl [] rfl)
      · have h := nd_neg h c5
        refine lv_aload_n hx hb dX14_copyOf_26 rfl (lv_at hl 0 rfl) ?_
        refine va_get (D := (dC, dI)) (ci := 15) (v := .ref (a 1)) (C := RX14) (T := TX14) (N := 11) hx hb hts hi_dm_X14_copyOf_X14 hown hK hP 0 rfl rfl 1 (by decide) (hts (.fieldLink RX14 9 "TimeMachineModel$Codec" "kind" "[I") (List.mem_of_getElem? (i := 2) rfl)) (fun _ h9 => h9) rfl dX14_copyOf_27 ?_
        refine lv_iload_n hx hb dX14_copyOf_30 rfl (lv_at hl 3 rfl) ?_
        obtain ⟨i6, h⟩ := nd_ck_e h
        refine va_iald (i := x3) hx hb hK hP 1 0 rfl rfl i6 dX14_copyOf_31 ?_
        refine lv_iconst (v := 1) hx hb dX14_copyOf_32 (by decide) ?_
        refine lv_icmp_eq (tgt := 39) hx hb dX14_copyOf_33 (by decide) (fun c7 => ?_) (fun c7 => ?_)
        · have h := nd_pos h c7
          obtain ⟨z8, ez8, h⟩ := nd_let_e h
          refine lv_iinc (v := z8) (lv' := [(2, .int z8), (0, .ref (a 0)), (1, .int x1), (3, .int x3)]) hx hb dX14_copyOf_39 hl (k := 2) rfl (by rw [ez8]) (by decide) rfl (fun ls hl => ?_)
          refine lv_aload_n hx hb dX14_copyOf_42 rfl (lv_at hl 1 rfl) ?_
          refine lv_iload_n hx hb dX14_copyOf_43 rfl (lv_at hl 2 rfl) ?_
          refine lv_iload_n hx hb dX14_copyOf_44 rfl (lv_at hl 3 rfl) ?_
          obtain ⟨q9, s10, hq, h⟩ := nd_b2_e h
          have hPc := hP
          have hDc := hD
          have hKc := hK
          have hFc := nd_rs hD hS hA
          refine nd_cVi (As := [.int x1, .int x3]) (rest := []) (q := q9) (w' := dw_X14 a ac s10) ⟨hx, hb, hml, hown, hts⟩ (fun sz => dm_X14_bringsSame l hlt dC dI a ac n (x1) (x3) s0 hq sz) (cwV 2 hts gi_dm_X14_copyOf_0 rfl rfl rfl (by decide +kernel) ⟨Nat.le_of_ble_eq_true rfl, Nat.le_of_ble_eq_true rfl⟩) hPc hDc hKc hS hA hN (va_recv hKc hPc (ci := 15) (q0 := 0) rfl rfl) rfl hl.1 rfl (Nat.le_of_ble_eq_true rfl) dX14_copyOf_45 (fun H locs hP1 hD1 hk1 hS => ?_)
          have hP := hP1
          have hD := hD1.weaken (fun k q _ h => hFc q.1 h)
          refine lv_if_eq (tgt := 53) hx hb dX14_copyOf_48 (by decide) (fun c12 => ?_) (fun c12 => ?_)
          · have h := nd_pos h c12
            exact (db_X14_copyOf_53 C K J6) (x1) (z8) (x3) s10 _ _ _ h hP hD hS (lv_sub hl [1, 2, 0, 3] rfl)
          · have h := nd_neg h c12
            refine lv_iload_n hx hb dX14_copyOf_51 rfl (lv_at hl 0 rfl) ?_
            exact K _ _ _ _ _ _ dX14_copyOf_52 rfl (Option.some.inj h).symm hP hD hS
        · have h := nd_neg h c7
          refine lv_goto (tgt := 53) hx hb dX14_copyOf_36 (by decide) ?_
          exact (db_X14_copyOf_53 C K J6) (x1) (x2) (x3) s0 _ _ _ h hP hD hS (lv_sub hl [0, 1, 2, 3] rfl)
set_option maxHeartbeats 40000000 in
set_option maxRecDepth 100000 in
theorem db_X14_copyOf_6 {p : Program} {l : Launch} {e : Env} {s : State} {m : MethodId} {args : Array Value} {below : List Frame} {meth : Method} {c : Code} {Q : State → Prop} {A : Nat → Prop} {dC : Nat → ClassId} {dI : Nat → Nat → Nat} {a : Nat → Nat} {ac : Nat → ClassId} {n : Nat} {r : Int32 × (St)} (C : nd_C p l s m args c A (dC, dI) cX14_copyOf 4 RX14 ow_dm_X14_copyOf (dk_X14 ac)) (K : nd_Ki p l e (headSpec ow_dm_X14_copyOf ({ frames := 1, cells := 0, slots := 0, locals := 22 })).room s m args below meth c Q A (dC, dI) cX14_copyOf .int (St) (dw_X14 a ac) r) (k : Nat) : dj_X14_copyOf_6 p l e s m args below meth c Q A dC dI a ac (df_X14_copyOf_6 n k) r := by
  induction k with
  | zero => intro x1 x2 x3 s0 H locs ls h; exact nomatch (show (none : Option (Int32 × (St))) = some r from h)
  | succ k ih => exact dB_X14_copyOf_6 C K ih
set_option maxHeartbeats 40000000 in
set_option maxRecDepth 100000 in
theorem db_X14_copyOf_0 {p : Program} {l : Launch} {e : Env} {s : State} {m : MethodId} {args : Array Value} {below : List Frame} {meth : Method} {c : Code} {Q : State → Prop} {A : Nat → Prop} {dC : Nat → ClassId} {dI : Nat → Nat → Nat} {a : Nat → Nat} {ac : Nat → ClassId} {n : Nat} {r : Int32 × (St)} (C : nd_C p l s m args c A (dC, dI) cX14_copyOf 4 RX14 ow_dm_X14_copyOf (dk_X14 ac)) (K : nd_Ki p l e (headSpec ow_dm_X14_copyOf ({ frames := 1, cells := 0, slots := 0, locals := 22 })).room s m args below meth c Q A (dC, dI) cX14_copyOf .int (St) (dw_X14 a ac) r) : dj_X14_copyOf_0 p l e s m args below meth c Q A dC dI a ac (df_X14_copyOf_0 n) r := by
  obtain ⟨hlt, hx, hb, hml, hown, hts, hN, hA, hK⟩ := id C
  intro v0 s0 H locs ls h hP hD hS hl
  unfold df_X14_copyOf_0 at h
  refine lv_iconst (v := 0) hx hb dX14_copyOf_0 (by decide) ?_
  refine lv_istore_n (lv' := [(2, .int 0), (0, .ref (a 0)), (1, .int v0)]) hx hb dX14_copyOf_1 rfl hl (by decide) rfl (fun ls hl => ?_)
  refine lv_iload_n hx hb dX14_copyOf_2 rfl (lv_at hl 2 rfl) ?_
  refine lv_iconst (v := 1) hx hb dX14_copyOf_3 (by decide) ?_
  refine lv_isub hx hb dX14_copyOf_4 ?_
  refine lv_topi (fun z1 ez1 => ?_)
  have h := nd_at h ez1
  refine lv_istore_n (lv' := [(3, .int z1), (2, .int 0), (0, .ref (a 0)), (1, .int v0)]) hx hb dX14_copyOf_5 rfl hl (by decide) rfl (fun ls hl => ?_)
  exact (db_X14_copyOf_6 C K n) (v0) (0) (z1) s0 _ _ _ h hP hD hS (lv_sub hl [2, 3, 1, 0] rfl)
set_option maxHeartbeats 40000000 in
set_option maxRecDepth 100000 in
theorem dm_X14_copyOf (l : Launch) (hlt : l.stackTraces = false) (dC : Nat → ClassId) (dI : Nat → Nat → Nat) (a : Nat → Nat) (ac : Nat → ClassId) (n : Nat) (v0 : Int32) (s0 : St) {r : Int32 × (St)} (h : df_X14_copyOf n v0 s0 = some r) (sz : Nat) : Met l yX14_copyOf ow_dm_X14_copyOf ({ frames := 1, cells := 0, slots := 0, locals := 22 }) (va_Pc [.ref (a 0), .int v0] (fun U => U.heap.size = sz ∧ va_P (dC, dI) vwCl (dw_X14 a ac s0) U.heap ∧ va_K (dC, dI) vwCl (dk_X14 ac) U ∧ va_D (fun _ => True) (dw_X14 a ac s0) ∧ nv_E dI (va_A (dw_X14 a ac s0) sz) U)) (va_Qi (fun x _ => x = r.1) (fun (_ : Unit) t => va_P (dC, dI) vwCl (dw_X14 a ac r.2) t.heap ∧ va_K (dC, dI) vwCl (dk_X14 ac) t ∧ va_D (va_A (dw_X14 a ac s0) sz) (dw_X14 a ac r.2)) (va_A (dw_X14 a ac s0) sz)) 0 0 (va_A (dw_X14 a ac s0) sz) := by
  refine Met.ofW (cc := cX14_copyOf) (maxL := 4) (ret := (some .int)) (by decide) rfl ?_
  intro p e s m args below meth c s₁ B hml hv
  obtain ⟨rfl, hsz, hP, hK, hD0, hN⟩ := hv
  have hx := B.exec
  have hb := B.bytes
  have hr := B.returns
  have hts := atoms_spec (ws := ow_dm_X14_copyOf) B.pre
  have hown : s.vm.findClass RX14 = some m.cls := findClass_of_methodNamed B.named
  have hlocks := B.notSynchronized
  subst hsz
  have hD := hD0.self (sz := s.heap.size)
  generalize hAe : va_A (dw_X14 a ac s0) s.heap.size = A at hD hN ⊢
  have hA : ∀ q : Nat, s.heap.size ≤ q → A q := fun q h => by rw [← hAe]; exact Or.inr h
  have hl := lv_entry ([.ref (a 0), .int v0]) (n := 4) (Nat.le_of_ble_eq_true rfl)
  rw [lg_entry_eq]
  generalize (lg_sl ([.ref (a 0), .int v0]) ++ List.replicate (4 - (lg_sl ([.ref (a 0), .int v0])).length) Slot.unset).toArray = ls at hl ⊢
  have hl : lv_has ls 4 [(0, .ref (a 0)), (1, .int v0)] := hl
  exact db_X14_copyOf_0 (dC := dC) (dI := dI) (a := a) (ac := ac) (n := n) (r := r) ⟨hlt, hx, hb, hml, hown, hts, hN, hA, hK⟩ (fun pc v τ H locs ls d z er hP hD hS => by subst er; exact W.zret (v := v) hx hb hr z (fun t ht hW => ⟨⟨v, (), rfl, rfl, by rw [ht]; exact hP, va_K.moved hW.alike hK, hD⟩, hS.F ht⟩) hS.2.2 d) v0 s0 _ _ _ h hP hD va_S.rf (lv_sub hl [0, 1] rfl)
def ow_dm_X14_isAsFar : List Cond := Cond.code yX14_isAsFar cX14_isAsFar 3 (some .boolean) :: ([Cond.fieldLink RX14 20 "TimeMachineModel$Codec" "a" "[J", Cond.fieldLink RX14 9 "TimeMachineModel$Codec" "kind" "[I"] ++ (u_ws RX14 TX14 11 ++ []))
theorem gd_dm_X14_isAsFar : ∀ w ∈ ow_dm_X14_isAsFar, (w.onTables && w.keeps) = true ∨ ∃ ty, w = Cond.arrayClass ty := List.forall_mem_cons.mpr ⟨good_of_word rfl, List.forall_mem_append.mpr ⟨fun w h => good_of_word (List.all_eq_true.mp (by decide +kernel) w h), List.forall_mem_append.mpr ⟨gu_X14, fun _ h => nomatch h⟩⟩⟩
theorem hi_dm_X14_isAsFar_X14 : ∀ w ∈ u_ws RX14 TX14 11, w ∈ ow_dm_X14_isAsFar := fun w h => List.mem_cons_of_mem _ (List.mem_append_right _ (List.mem_append_left _ h))
def dj_X14_isAsFar_49 (p : Program) (l : Launch) (e : Env) (s : State) (m : MethodId) (args : Array Value) (below : List Frame) (meth : Method) (c : Code) (Q : State → Prop) (A : Nat → Prop) (dC : Nat → ClassId) (dI : Nat → Nat → Nat) (a : Nat → Nat) (ac : Nat → ClassId) (g : Int32 → (St) → Option (Int32 × (St))) (r : Int32 × (St)) : Prop := ∀ (y0 : Int32) (s0 : St) (H : Heap) (locs : List Loc) (ls : Array Slot), g y0 s0 = some r → va_P (dC, dI) vwCl (dw_X14 a ac s0) H → va_D A (dw_X14 a ac s0) → va_S A s.heap H locs → lv_has ls 3 [] → W p l e (headSpec ow_dm_X14_isAsFar ({ frames := 0, cells := 0, slots := 0, locals := 0 })).room s m args below meth c H locs 0 0 Q (F0 m 49 ls [.int y0])
def dj_X14_isAsFar_48 (p : Program) (l : Launch) (e : Env) (s : State) (m : MethodId) (args : Array Value) (below : List Frame) (meth : Method) (c : Code) (Q : State → Prop) (A : Nat → Prop) (dC : Nat → ClassId) (dI : Nat → Nat → Nat) (a : Nat → Nat) (ac : Nat → ClassId) (g : (St) → Option (Int32 × (St))) (r : Int32 × (St)) : Prop := ∀ (s0 : St) (H : Heap) (locs : List Loc) (ls : Array Slot), g s0 = some r → va_P (dC, dI) vwCl (dw_X14 a ac s0) H → va_D A (dw_X14 a ac s0) → va_S A s.heap H locs → lv_has ls 3 [] → W p l e (headSpec ow_dm_X14_isAsFar ({ frames := 0, cells := 0, slots := 0, locals := 0 })).room s m args below meth c H locs 0 0 Q (F0 m 48 ls [])
def dj_X14_isAsFar_24 (p : Program) (l : Launch) (e : Env) (s : State) (m : MethodId) (args : Array Value) (below : List Frame) (meth : Method) (c : Code) (Q : State → Prop) (A : Nat → Prop) (dC : Nat → ClassId) (dI : Nat → Nat → Nat) (a : Nat → Nat) (ac : Nat → ClassId) (g : Int32 → Int32 → (St) → Option (Int32 × (St))) (r : Int32 × (St)) : Prop := ∀ (x1 : Int32) (x2 : Int32) (s0 : St) (H : Heap) (locs : List Loc) (ls : Array Slot), g x1 x2 s0 = some r → va_P (dC, dI) vwCl (dw_X14 a ac s0) H → va_D A (dw_X14 a ac s0) → va_S A s.heap H locs → lv_has ls 3 [(0, .ref (a 0)), (1, .int x1), (2, .int x2)] → W p l e (headSpec ow_dm_X14_isAsFar ({ frames := 0, cells := 0, slots := 0, locals := 0 })).room s m args below meth c H locs 0 0 Q (F0 m 24 ls [])
def dj_X14_isAsFar_4 (p : Program) (l : Launch) (e : Env) (s : State) (m : MethodId) (args : Array Value) (below : List Frame) (meth : Method) (c : Code) (Q : State → Prop) (A : Nat → Prop) (dC : Nat → ClassId) (dI : Nat → Nat → Nat) (a : Nat → Nat) (ac : Nat → ClassId) (g : Int32 → Int32 → (St) → Option (Int32 × (St))) (r : Int32 × (St)) : Prop := ∀ (x1 : Int32) (x2 : Int32) (s0 : St) (H : Heap) (locs : List Loc) (ls : Array Slot), g x1 x2 s0 = some r → va_P (dC, dI) vwCl (dw_X14 a ac s0) H → va_D A (dw_X14 a ac s0) → va_S A s.heap H locs → lv_has ls 3 [(0, .ref (a 0)), (1, .int x1), (2, .int x2)] → W p l e (headSpec ow_dm_X14_isAsFar ({ frames := 0, cells := 0, slots := 0, locals := 0 })).room s m args below meth c H locs 0 0 Q (F0 m 4 ls [])
def dj_X14_isAsFar_0 (p : Program) (l : Launch) (e : Env) (s : State) (m : MethodId) (args : Array Value) (below : List Frame) (meth : Method) (c : Code) (Q : State → Prop) (A : Nat → Prop) (dC : Nat → ClassId) (dI : Nat → Nat → Nat) (a : Nat → Nat) (ac : Nat → ClassId) (g : Int32 → (St) → Option (Int32 × (St))) (r : Int32 × (St)) : Prop := ∀ (v0 : Int32) (s0 : St) (H : Heap) (locs : List Loc) (ls : Array Slot), g v0 s0 = some r → va_P (dC, dI) vwCl (dw_X14 a ac s0) H → va_D A (dw_X14 a ac s0) → va_S A s.heap H locs → lv_has ls 3 [(0, .ref (a 0)), (1, .int v0)] → W p l e (headSpec ow_dm_X14_isAsFar ({ frames := 0, cells := 0, slots := 0, locals := 0 })).room s m args below meth c H locs 0 0 Q (F0 m 0 ls [])
set_option maxHeartbeats 40000000 in
set_option maxRecDepth 100000 in
theorem db_X14_isAsFar_49 {p : Program} {l : Launch} {e : Env} {s : State} {m : MethodId} {args : Array Value} {below : List Frame} {meth : Method} {c : Code} {Q : State → Prop} {A : Nat → Prop} {dC : Nat → ClassId} {dI : Nat → Nat → Nat} {a : Nat → Nat} {ac : Nat → ClassId} {n : Nat} {r : Int32 × (St)} (C : nd_C p l s m args c A (dC, dI) cX14_isAsFar 3 RX14 ow_dm_X14_isAsFar (dk_X14 ac)) (K : nd_Ki p l e (headSpec ow_dm_X14_isAsFar ({ frames := 0, cells := 0, slots := 0, locals := 0 })).room s m args below meth c Q A (dC, dI) cX14_isAsFar .boolean (St) (dw_X14 a ac) r) : dj_X14_isAsFar_49 p l e s m args below meth c Q A dC dI a ac (df_X14_isAsFar_49 n) r := by
  obtain ⟨hlt, hx, hb, hml, hown, hts, hN, hA, hK⟩ := id C
  intro y0 s0 H locs ls h hP hD hS hl
  unfold df_X14_isAsFar_49 at h
  obtain ⟨n4, h⟩ := nd_z_e ⟨_, rfl⟩ h
  exact K _ _ _ _ _ _ dX14_isAsFar_49 n4 (Option.some.inj h).symm hP hD hS
set_option maxHeartbeats 40000000 in
set_option maxRecDepth 100000 in
theorem db_X14_isAsFar_48 {p : Program} {l : Launch} {e : Env} {s : State} {m : MethodId} {args : Array Value} {below : List Frame} {meth : Method} {c : Code} {Q : State → Prop} {A : Nat → Prop} {dC : Nat → ClassId} {dI : Nat → Nat → Nat} {a : Nat → Nat} {ac : Nat → ClassId} {n : Nat} {r : Int32 × (St)} (C : nd_C p l s m args c A (dC, dI) cX14_isAsFar 3 RX14 ow_dm_X14_isAsFar (dk_X14 ac)) (K : nd_Ki p l e (headSpec ow_dm_X14_isAsFar ({ frames := 0, cells := 0, slots := 0, locals := 0 })).room s m args below meth c Q A (dC, dI) cX14_isAsFar .boolean (St) (dw_X14 a ac) r) : dj_X14_isAsFar_48 p l e s m args below meth c Q A dC dI a ac (df_X14_isAsFar_48 n) r := by
  obtain ⟨hlt, hx, hb, hml, hown, hts, hN, hA, hK⟩ := id C
  intro s0 H locs ls h hP hD hS hl
  unfold df_X14_isAsFar_48 at h
  refine lv_iconst (v := 0) hx hb dX14_isAsFar_48 (by decide) ?_
  exact (db_X14_isAsFar_49 C K) (0) s0 _ _ _ h hP hD hS (lv_sub hl [] rfl)
set_option maxHeartbeats 40000000 in
set_option maxRecDepth 100000 in
theorem db_X14_isAsFar_24 {p : Program} {l : Launch} {e : Env} {s : State} {m : MethodId} {args : Array Value} {below : List Frame} {meth : Method} {c : Code} {Q : State → Prop} {A : Nat → Prop} {dC : Nat → ClassId} {dI : Nat → Nat → Nat} {a : Nat → Nat} {ac : Nat → ClassId} {n : Nat} {r : Int32 × (St)} (C : nd_C p l s m args c A (dC, dI) cX14_isAsFar 3 RX14 ow_dm_X14_isAsFar (dk_X14 ac)) (K : nd_Ki p l e (headSpec ow_dm_X14_isAsFar ({ frames := 0, cells := 0, slots := 0, locals := 0 })).room s m args below meth c Q A (dC, dI) cX14_isAsFar .boolean (St) (dw_X14 a ac) r) : dj_X14_isAsFar_24 p l e s m args below meth c Q A dC dI a ac (df_X14_isAsFar_24 n) r := by
  obtain ⟨hlt, hx, hb, hml, hown, hts, hN, hA, hK⟩ := id C
  intro x1 x2 s0 H locs ls h hP hD hS hl
  unfold df_X14_isAsFar_24 at h
  refine lv_iload_n hx hb dX14_isAsFar_24 rfl (lv_at hl 2 rfl) ?_
  refine lv_if_lt (tgt := 48) hx hb dX14_isAsFar_25 (by decide) (fun c3 => ?_) (fun c3 => ?_)
  · have h := nd_pos h c3
    exact (db_X14_isAsFar_48 C K)  s0 _ _ _ h hP hD hS (lv_sub hl [] rfl)
  · have h := nd_neg h c3
    refine lv_aload_n hx hb dX14_isAsFar_28 rfl (lv_at hl 0 rfl) ?_
    refine va_get (D := (dC, dI)) (ci := 15) (v := .ref (a 4)) (C := RX14) (T := TX14) (N := 11) hx hb hts hi_dm_X14_isAsFar_X14 hown hK hP 0 rfl rfl 4 (by decide) (hts (.fieldLink RX14 20 "TimeMachineModel$Codec" "a" "[J") (List.mem_of_getElem? (i := 1) rfl)) (fun _ h9 => h9) rfl dX14_isAsFar_29 ?_
    refine lv_iload_n hx hb dX14_isAsFar_32 rfl (lv_at hl 2 rfl) ?_
    obtain ⟨i5, h⟩ := nd_ck_e h
    refine va_lald (i := x2) hx hb hK hP 4 3 rfl rfl i5 dX14_isAsFar_33 ?_
    refine lv_aload_n hx hb dX14_isAsFar_34 rfl (lv_at hl 0 rfl) ?_
    refine va_get (D := (dC, dI)) (ci := 15) (v := .ref (a 4)) (C := RX14) (T := TX14) (N := 11) hx hb hts hi_dm_X14_isAsFar_X14 hown hK hP 0 rfl rfl 4 (by decide) (hts (.fieldLink RX14 20 "TimeMachineModel$Codec" "a" "[J") (List.mem_of_getElem? (i := 1) rfl)) (fun _ h9 => h9) rfl dX14_isAsFar_35 ?_
    refine lv_iload_n hx hb dX14_isAsFar_38 rfl (lv_at hl 1 rfl) ?_
    obtain ⟨i6, h⟩ := nd_ck_e h
    refine va_lald (i := x1) hx hb hK hP 4 3 rfl rfl i6 dX14_isAsFar_39 ?_
    refine W.lcmp hx hb dX14_isAsFar_40 ?_
    refine lv_if_ne (tgt := 48) hx hb dX14_isAsFar_41 (by decide) (fun c7 => ?_) (fun c7 => ?_)
    · have h := nd_neg h c7
      exact (db_X14_isAsFar_48 C K)  s0 _ _ _ h hP hD hS (lv_sub hl [] rfl)
    · have h := nd_pos h c7
      refine lv_iconst (v := 1) hx hb dX14_isAsFar_44 (by decide) ?_
      refine lv_goto (tgt := 49) hx hb dX14_isAsFar_45 (by decide) ?_
      exact (db_X14_isAsFar_49 C K) (1) s0 _ _ _ h hP hD hS (lv_sub hl [] rfl)
set_option maxHeartbeats 40000000 in
set_option maxRecDepth 100000 in
theorem dB_X14_isAsFar_4 {p : Program} {l : Launch} {e : Env} {s : State} {m : MethodId} {args : Array Value} {below : List Frame} {meth : Method} {c : Code} {Q : State → Prop} {A : Nat → Prop} {dC : Nat → ClassId} {dI : Nat → Nat → Nat} {a : Nat → Nat} {ac : Nat → ClassId} {n : Nat} {r : Int32 × (St)} (C : nd_C p l s m args c A (dC, dI) cX14_isAsFar 3 RX14 ow_dm_X14_isAsFar (dk_X14 ac)) (K : nd_Ki p l e (headSpec ow_dm_X14_isAsFar ({ frames := 0, cells := 0, slots := 0, locals := 0 })).room s m args below meth c Q A (dC, dI) cX14_isAsFar .boolean (St) (dw_X14 a ac) r) {g4 : Int32 → Int32 → (St) → Option (Int32 × (St))} (J4 : dj_X14_isAsFar_4 p l e s m args below meth c Q A dC dI a ac g4 r) : dj_X14_isAsFar_4 p l e s m args below meth c Q A dC dI a ac (dF_X14_isAsFar_4 n g4) r := by
  obtain ⟨hlt, hx, hb, hml, hown, hts, hN, hA, hK⟩ := id C
  intro x1 x2 s0 H locs ls h hP hD hS hl
  unfold dF_X14_isAsFar_4 at h
  refine lv_iload_n hx hb dX14_isAsFar_4 rfl (lv_at hl 2 rfl) ?_
  refine lv_if_lt (tgt := 24) hx hb dX14_isAsFar_5 (by decide) (fun c2 => ?_) (fun c2 => ?_)
  · have h := nd_pos h c2
    exact (db_X14_isAsFar_24 C K) (x1) (x2) s0 _ _ _ h hP hD hS (lv_sub hl [0, 1, 2] rfl)
  · have h := nd_neg h c2
    refine lv_aload_n hx hb dX14_isAsFar_8 rfl (lv_at hl 0 rfl) ?_
    refine va_get (D := (dC, dI)) (ci := 15) (v := .ref (a 1)) (C := RX14) (T := TX14) (N := 11) hx hb hts hi_dm_X14_isAsFar_X14 hown hK hP 0 rfl rfl 1 (by decide) (hts (.fieldLink RX14 9 "TimeMachineModel$Codec" "kind" "[I") (List.mem_of_getElem? (i := 2) rfl)) (fun _ h9 => h9) rfl dX14_isAsFar_9 ?_
    refine lv_iload_n hx hb dX14_isAsFar_12 rfl (lv_at hl 2 rfl) ?_
    obtain ⟨i8, h⟩ := nd_ck_e h
    refine va_iald (i := x2) hx hb hK hP 1 0 rfl rfl i8 dX14_isAsFar_13 ?_
    refine lv_iconst (v := 3) hx hb dX14_isAsFar_14 (by decide) ?_
    refine lv_icmp_eq (tgt := 24) hx hb dX14_isAsFar_15 (by decide) (fun c9 => ?_) (fun c9 => ?_)
    · have h := nd_pos h c9
      exact (db_X14_isAsFar_24 C K) (x1) (x2) s0 _ _ _ h hP hD hS (lv_sub hl [0, 1, 2] rfl)
    · have h := nd_neg h c9
      obtain ⟨z10, ez10, h⟩ := nd_let_e h
      refine lv_iinc (v := z10) (lv' := [(2, .int z10), (0, .ref (a 0)), (1, .int x1)]) hx hb dX14_isAsFar_18 hl (k := 2) rfl (by rw [ez10]) (by decide) rfl (fun ls hl => ?_)
      refine lv_goto (tgt := 4) hx hb dX14_isAsFar_21 (by decide) ?_
      exact (J4) (x1) (z10) s0 _ _ _ h hP hD hS (lv_sub hl [1, 2, 0] rfl)
set_option maxHeartbeats 40000000 in
set_option maxRecDepth 100000 in
theorem db_X14_isAsFar_4 {p : Program} {l : Launch} {e : Env} {s : State} {m : MethodId} {args : Array Value} {below : List Frame} {meth : Method} {c : Code} {Q : State → Prop} {A : Nat → Prop} {dC : Nat → ClassId} {dI : Nat → Nat → Nat} {a : Nat → Nat} {ac : Nat → ClassId} {n : Nat} {r : Int32 × (St)} (C : nd_C p l s m args c A (dC, dI) cX14_isAsFar 3 RX14 ow_dm_X14_isAsFar (dk_X14 ac)) (K : nd_Ki p l e (headSpec ow_dm_X14_isAsFar ({ frames := 0, cells := 0, slots := 0, locals := 0 })).room s m args below meth c Q A (dC, dI) cX14_isAsFar .boolean (St) (dw_X14 a ac) r) (k : Nat) : dj_X14_isAsFar_4 p l e s m args below meth c Q A dC dI a ac (df_X14_isAsFar_4 n k) r := by
  induction k with
  | zero => intro x1 x2 s0 H locs ls h; exact nomatch (show (none : Option (Int32 × (St))) = some r from h)
  | succ k ih => exact dB_X14_isAsFar_4 C K ih
set_option maxHeartbeats 40000000 in
set_option maxRecDepth 100000 in
theorem db_X14_isAsFar_0 {p : Program} {l : Launch} {e : Env} {s : State} {m : MethodId} {args : Array Value} {below : List Frame} {meth : Method} {c : Code} {Q : State → Prop} {A : Nat → Prop} {dC : Nat → ClassId} {dI : Nat → Nat → Nat} {a : Nat → Nat} {ac : Nat → ClassId} {n : Nat} {r : Int32 × (St)} (C : nd_C p l s m args c A (dC, dI) cX14_isAsFar 3 RX14 ow_dm_X14_isAsFar (dk_X14 ac)) (K : nd_Ki p l e (headSpec ow_dm_X14_isAsFar ({ frames := 0, cells := 0, slots := 0, locals := 0 })).room s m args below meth c Q A (dC, dI) cX14_isAsFar .boolean (St) (dw_X14 a ac) r) : dj_X14_isAsFar_0 p l e s m args below meth c Q A dC dI a ac (df_X14_isAsFar_0 n) r := by
  obtain ⟨hlt, hx, hb, hml, hown, hts, hN, hA, hK⟩ := id C
  intro v0 s0 H locs ls h hP hD hS hl
  unfold df_X14_isAsFar_0 at h
  refine lv_iload_n hx hb dX14_isAsFar_0 rfl (lv_at hl 1 rfl) ?_
  refine lv_iconst (v := 1) hx hb dX14_isAsFar_1 (by decide) ?_
  refine lv_isub hx hb dX14_isAsFar_2 ?_
  refine lv_topi (fun z1 ez1 => ?_)
  have h := nd_at h ez1
  refine lv_istore_n (lv' := [(2, .int z1), (0, .ref (a 0)), (1, .int v0)]) hx hb dX14_isAsFar_3 rfl hl (by decide) rfl (fun ls hl => ?_)
  exact (db_X14_isAsFar_4 C K n) (v0) (z1) s0 _ _ _ h hP hD hS (lv_sub hl [1, 2, 0] rfl)
set_option maxHeartbeats 40000000 in
set_option maxRecDepth 100000 in
theorem dm_X14_isAsFar (l : Launch) (hlt : l.stackTraces = false) (dC : Nat → ClassId) (dI : Nat → Nat → Nat) (a : Nat → Nat) (ac : Nat → ClassId) (n : Nat) (v0 : Int32) (s0 : St) {r : Int32 × (St)} (h : df_X14_isAsFar n v0 s0 = some r) (sz : Nat) : Met l yX14_isAsFar ow_dm_X14_isAsFar ({ frames := 0, cells := 0, slots := 0, locals := 0 }) (va_Pc [.ref (a 0), .int v0] (fun U => U.heap.size = sz ∧ va_P (dC, dI) vwCl (dw_X14 a ac s0) U.heap ∧ va_K (dC, dI) vwCl (dk_X14 ac) U ∧ va_D (fun _ => True) (dw_X14 a ac s0) ∧ nv_E dI (va_A (dw_X14 a ac s0) sz) U)) (va_Qi (fun x _ => x = r.1) (fun (_ : Unit) t => va_P (dC, dI) vwCl (dw_X14 a ac r.2) t.heap ∧ va_K (dC, dI) vwCl (dk_X14 ac) t ∧ va_D (va_A (dw_X14 a ac s0) sz) (dw_X14 a ac r.2)) (va_A (dw_X14 a ac s0) sz)) 0 0 (va_A (dw_X14 a ac s0) sz) := by
  refine Met.ofW (cc := cX14_isAsFar) (maxL := 3) (ret := (some .boolean)) (by decide) rfl ?_
  intro p e s m args below meth c s₁ B hml hv
  obtain ⟨rfl, hsz, hP, hK, hD0, hN⟩ := hv
  have hx := B.exec
  have hb := B.bytes
  have hr := B.returns
  have hts := atoms_spec (ws := ow_dm_X14_isAsFar) B.pre
  have hown : s.vm.findClass RX14 = some m.cls := findClass_of_methodNamed B.named
  have hlocks := B.notSynchronized
  subst hsz
  have hD := hD0.self (sz := s.heap.size)
  generalize hAe : va_A (dw_X14 a ac s0) s.heap.size = A at hD hN ⊢
  have hA : ∀ q : Nat, s.heap.size ≤ q → A q := fun q h => by rw [← hAe]; exact Or.inr h
  have hl := lv_entry ([.ref (a 0), .int v0]) (n := 3) (Nat.le_of_ble_eq_true rfl)
  rw [lg_entry_eq]
  generalize (lg_sl ([.ref (a 0), .int v0]) ++ List.replicate (3 - (lg_sl ([.ref (a 0), .int v0])).length) Slot.unset).toArray = ls at hl ⊢
  have hl : lv_has ls 3 [(0, .ref (a 0)), (1, .int v0)] := hl
  exact db_X14_isAsFar_0 (dC := dC) (dI := dI) (a := a) (ac := ac) (n := n) (r := r) ⟨hlt, hx, hb, hml, hown, hts, hN, hA, hK⟩ (fun pc v τ H locs ls d z er hP hD hS => by subst er; exact W.zret (v := v) hx hb hr z (fun t ht hW => ⟨⟨v, (), rfl, rfl, by rw [ht]; exact hP, va_K.moved hW.alike hK, hD⟩, hS.F ht⟩) hS.2.2 d) v0 s0 _ _ _ h hP hD va_S.rf (lv_sub hl [0, 1] rfl)
def ow_dm_X14_run : List Cond := Cond.code yX14_run cX14_run 2 none :: ([Cond.methodLink RX14 36 yX14_put, Cond.instanceMethod yX14_put, Cond.selects RX14 yX14_put yX14_put, Cond.initialized RX14, Cond.methodLink RX14 44 yX14_varint, Cond.instanceMethod yX14_varint, Cond.selects RX14 yX14_varint yX14_varint] ++ (ow_dm_X14_put ++ (ow_dm_X14_varint ++ [])))
theorem gd_dm_X14_run : ∀ w ∈ ow_dm_X14_run, (w.onTables && w.keeps) = true ∨ ∃ ty, w = Cond.arrayClass ty := List.forall_mem_cons.mpr ⟨good_of_word rfl, List.forall_mem_append.mpr ⟨fun w h => good_of_word (List.all_eq_true.mp (by decide +kernel) w h), List.forall_mem_append.mpr ⟨gd_dm_X14_put, List.forall_mem_append.mpr ⟨gd_dm_X14_varint, fun _ h => nomatch h⟩⟩⟩⟩
theorem gi_dm_X14_run_0 : GoodIn ow_dm_X14_run (wsV RX14 36 RX14 yX14_put ow_dm_X14_put) := goodIn_app (goodIn_of _ (by decide +kernel)) (fun w h => ⟨List.mem_cons_of_mem _ (List.mem_append_right _ (List.mem_append_left _ h)), gd_dm_X14_put w h⟩)
theorem gi_dm_X14_run_1 : GoodIn ow_dm_X14_run (wsV RX14 44 RX14 yX14_varint ow_dm_X14_varint) := goodIn_app (goodIn_of _ (by decide +kernel)) (fun w h => ⟨List.mem_cons_of_mem _ (List.mem_append_right _ (List.mem_append_right _ (List.mem_append_left _ h))), gd_dm_X14_varint w h⟩)
def dj_X14_run_31 (p : Program) (l : Launch) (e : Env) (s : State) (m : MethodId) (args : Array Value) (below : List Frame) (meth : Method) (c : Code) (Q : State → Prop) (A : Nat → Prop) (dC : Nat → ClassId) (dI : Nat → Nat → Nat) (a : Nat → Nat) (ac : Nat → ClassId) (g : (St) → Option (St)) (r : St) : Prop := ∀ (s0 : St) (H : Heap) (locs : List Loc) (ls : Array Slot), g s0 = some r → va_P (dC, dI) vwCl (dw_X14 a ac s0) H → va_D A (dw_X14 a ac s0) → va_S A s.heap H locs → lv_has ls 2 [] → W p l e (headSpec ow_dm_X14_run ({ frames := 2, cells := 0, slots := 0, locals := 45 })).room s m args below meth c H locs 0 0 Q (F0 m 31 ls [])
def dj_X14_run_13 (p : Program) (l : Launch) (e : Env) (s : State) (m : MethodId) (args : Array Value) (below : List Frame) (meth : Method) (c : Code) (Q : State → Prop) (A : Nat → Prop) (dC : Nat → ClassId) (dI : Nat → Nat → Nat) (a : Nat → Nat) (ac : Nat → ClassId) (g : Int32 → Int32 → Int32 → (St) → Option (St)) (r : St) : Prop := ∀ (x1 : Int32) (y1 : Int32) (y2 : Int32) (s0 : St) (H : Heap) (locs : List Loc) (ls : Array Slot), g x1 y1 y2 s0 = some r → va_P (dC, dI) vwCl (dw_X14 a ac s0) H → va_D A (dw_X14 a ac s0) → va_S A s.heap H locs → lv_has ls 2 [(0, .ref (a 0)), (1, .int x1)] → W p l e (headSpec ow_dm_X14_run ({ frames := 2, cells := 0, slots := 0, locals := 45 })).room s m args below meth c H locs 0 0 Q (F0 m 13 ls [.int y2, .int y1, .ref (a 0)])
def dj_X14_run_0 (p : Program) (l : Launch) (e : Env) (s : State) (m : MethodId) (args : Array Value) (below : List Frame) (meth : Method) (c : Code) (Q : State → Prop) (A : Nat → Prop) (dC : Nat → ClassId) (dI : Nat → Nat → Nat) (a : Nat → Nat) (ac : Nat → ClassId) (g : Int32 → (St) → Option (St)) (r : St) : Prop := ∀ (v0 : Int32) (s0 : St) (H : Heap) (locs : List Loc) (ls : Array Slot), g v0 s0 = some r → va_P (dC, dI) vwCl (dw_X14 a ac s0) H → va_D A (dw_X14 a ac s0) → va_S A s.heap H locs → lv_has ls 2 [(0, .ref (a 0)), (1, .int v0)] → W p l e (headSpec ow_dm_X14_run ({ frames := 2, cells := 0, slots := 0, locals := 45 })).room s m args below meth c H locs 0 0 Q (F0 m 0 ls [])
set_option maxHeartbeats 40000000 in
set_option maxRecDepth 100000 in
theorem db_X14_run_31 {p : Program} {l : Launch} {e : Env} {s : State} {m : MethodId} {args : Array Value} {below : List Frame} {meth : Method} {c : Code} {Q : State → Prop} {A : Nat → Prop} {dC : Nat → ClassId} {dI : Nat → Nat → Nat} {a : Nat → Nat} {ac : Nat → ClassId} {n : Nat} {r : St} (C : nd_C p l s m args c A (dC, dI) cX14_run 2 RX14 ow_dm_X14_run (dk_X14 ac)) (K : nd_Kv p l e (headSpec ow_dm_X14_run ({ frames := 2, cells := 0, slots := 0, locals := 45 })).room s m args below meth c Q A (dC, dI) cX14_run (St) (dw_X14 a ac) r) : dj_X14_run_31 p l e s m args below meth c Q A dC dI a ac (df_X14_run_31 n) r := by
  obtain ⟨hlt, hx, hb, hml, hown, hts, hN, hA, hK⟩ := id C
  intro s0 H locs ls h hP hD hS hl
  unfold df_X14_run_31 at h
  exact K _ _ _ _ _ dX14_run_31 (Option.some.inj h).symm hP hD hS
set_option maxHeartbeats 40000000 in
set_option maxRecDepth 100000 in
theorem db_X14_run_13 {p : Program} {l : Launch} {e : Env} {s : State} {m : MethodId} {args : Array Value} {below : List Frame} {meth : Method} {c : Code} {Q : State → Prop} {A : Nat → Prop} {dC : Nat → ClassId} {dI : Nat → Nat → Nat} {a : Nat → Nat} {ac : Nat → ClassId} {n : Nat} {r : St} (C : nd_C p l s m args c A (dC, dI) cX14_run 2 RX14 ow_dm_X14_run (dk_X14 ac)) (K : nd_Kv p l e (headSpec ow_dm_X14_run ({ frames := 2, cells := 0, slots := 0, locals := 45 })).room s m args below meth c Q A (dC, dI) cX14_run (St) (dw_X14 a ac) r) : dj_X14_run_13 p l e s m args below meth c Q A dC dI a ac (df_X14_run_13 n) r := by
  obtain ⟨hlt, hx, hb, hml, hown, hts, hN, hA, hK⟩ := id C
  intro x1 y1 y2 s0 H locs ls h hP hD hS hl
  unfold df_X14_run_13 at h
  refine lv_iconst (v := 4) hx hb dX14_run_13 (by decide) ?_
  refine lv_ishl hx hb dX14_run_14 ?_
  refine lv_ior hx hb dX14_run_15 ?_
  obtain ⟨s3, hq, h⟩ := nd_b1_e h
  have hPc := hP
  have hDc := hD
  have hKc := hK
  have hFc := nd_rs hD hS hA
  refine nd_cVv (As := [.int (y1 ||| ((y2 : Int32) <<< ((4 : Int32) &&& 31)))]) (rest := []) (w' := dw_X14 a ac s3) ⟨hx, hb, hml, hown, hts⟩ (fun sz => dm_X14_put l hlt dC dI a ac n ((y1 ||| ((y2 : Int32) <<< ((4 : Int32) &&& 31)))) s0 hq sz) (cwV 1 hts gi_dm_X14_run_0 rfl rfl rfl (by decide +kernel) ⟨Nat.le_of_ble_eq_true rfl, Nat.le_of_ble_eq_true rfl⟩) hPc hDc hKc hS hA hN (va_recv hKc hPc (ci := 15) (q0 := 0) rfl rfl) rfl hl.1 rfl (Nat.le_of_ble_eq_true rfl) dX14_run_16 (fun H locs hP1 hD1 hk1 hS => ?_)
  have hP := hP1
  have hD := hD1.weaken (fun k q _ h => hFc q.1 h)
  refine lv_iload_n hx hb dX14_run_19 rfl (lv_at hl 1 rfl) ?_
  refine lv_bipush (v := 15) hx hb dX14_run_20 (by decide) ?_
  refine lv_icmp_le (tgt := 31) hx hb dX14_run_22 (by decide) (fun c5 => ?_) (fun c5 => ?_)
  · have h := nd_pos h c5
    exact (db_X14_run_31 C K)  s3 _ _ _ h hP hD hS (lv_sub hl [] rfl)
  · have h := nd_neg h c5
    refine lv_aload_n hx hb dX14_run_25 rfl (lv_at hl 0 rfl) ?_
    refine lv_iload_n hx hb dX14_run_26 rfl (lv_at hl 1 rfl) ?_
    refine lv_i2l hx hb dX14_run_27 rfl ?_
    obtain ⟨s7, hq, h⟩ := nd_b1_e h
    have hPc := hP
    have hDc := hD
    have hKc := hK
    have hFc := nd_rs hD hS hA
    refine nd_cVv (As := [.long (x1.toInt64)]) (rest := []) (w' := dw_X14 a ac s7) ⟨hx, hb, hml, hown, hts⟩ (fun sz => dm_X14_varint l hlt dC dI a ac n ((x1.toInt64)) s3 hq sz) (cwV 1 hts gi_dm_X14_run_1 rfl rfl rfl (by decide +kernel) ⟨Nat.le_of_ble_eq_true rfl, Nat.le_of_ble_eq_true rfl⟩) hPc hDc hKc hS hA hN (va_recv hKc hPc (ci := 15) (q0 := 0) rfl rfl) rfl hl.1 rfl (Nat.le_of_ble_eq_true rfl) dX14_run_28 (fun H locs hP1 hD1 hk1 hS => ?_)
    have hP := hP1
    have hD := hD1.weaken (fun k q _ h => hFc q.1 h)
    exact (db_X14_run_31 C K)  s7 _ _ _ h hP hD hS (lv_sub hl [] rfl)
set_option maxHeartbeats 40000000 in
set_option maxRecDepth 100000 in
theorem db_X14_run_0 {p : Program} {l : Launch} {e : Env} {s : State} {m : MethodId} {args : Array Value} {below : List Frame} {meth : Method} {c : Code} {Q : State → Prop} {A : Nat → Prop} {dC : Nat → ClassId} {dI : Nat → Nat → Nat} {a : Nat → Nat} {ac : Nat → ClassId} {n : Nat} {r : St} (C : nd_C p l s m args c A (dC, dI) cX14_run 2 RX14 ow_dm_X14_run (dk_X14 ac)) (K : nd_Kv p l e (headSpec ow_dm_X14_run ({ frames := 2, cells := 0, slots := 0, locals := 45 })).room s m args below meth c Q A (dC, dI) cX14_run (St) (dw_X14 a ac) r) : dj_X14_run_0 p l e s m args below meth c Q A dC dI a ac (df_X14_run_0 n) r := by
  obtain ⟨hlt, hx, hb, hml, hown, hts, hN, hA, hK⟩ := id C
  intro v0 s0 H locs ls h hP hD hS hl
  unfold df_X14_run_0 at h
  refine lv_aload_n hx hb dX14_run_0 rfl (lv_at hl 0 rfl) ?_
  refine lv_iconst (v := 5) hx hb dX14_run_1 (by decide) ?_
  refine lv_iload_n hx hb dX14_run_2 rfl (lv_at hl 1 rfl) ?_
  refine lv_bipush (v := 16) hx hb dX14_run_3 (by decide) ?_
  refine lv_icmp_ge (tgt := 12) hx hb dX14_run_5 (by decide) (fun c1 => ?_) (fun c1 => ?_)
  · have h := nd_pos h c1
    refine lv_iconst (v := 0) hx hb dX14_run_12 (by decide) ?_
    exact (db_X14_run_13 C K) (v0) (5) (0) s0 _ _ _ h hP hD hS (lv_sub hl [0, 1] rfl)
  · have h := nd_neg h c1
    refine lv_iload_n hx hb dX14_run_8 rfl (lv_at hl 1 rfl) ?_
    refine lv_goto (tgt := 13) hx hb dX14_run_9 (by decide) ?_
    exact (db_X14_run_13 C K) (v0) (5) (v0) s0 _ _ _ h hP hD hS (lv_sub hl [0, 1] rfl)
set_option maxHeartbeats 40000000 in
set_option maxRecDepth 100000 in
theorem dm_X14_run (l : Launch) (hlt : l.stackTraces = false) (dC : Nat → ClassId) (dI : Nat → Nat → Nat) (a : Nat → Nat) (ac : Nat → ClassId) (n : Nat) (v0 : Int32) (s0 : St) {r : St} (h : df_X14_run n v0 s0 = some r) (sz : Nat) : Met l yX14_run ow_dm_X14_run ({ frames := 2, cells := 0, slots := 0, locals := 45 }) (va_Pc [.ref (a 0), .int v0] (fun U => U.heap.size = sz ∧ va_P (dC, dI) vwCl (dw_X14 a ac s0) U.heap ∧ va_K (dC, dI) vwCl (dk_X14 ac) U ∧ va_D (fun _ => True) (dw_X14 a ac s0) ∧ nv_E dI (va_A (dw_X14 a ac s0) sz) U)) (va_Qv (fun _ => True) (fun (_ : Unit) t => va_P (dC, dI) vwCl (dw_X14 a ac r) t.heap ∧ va_K (dC, dI) vwCl (dk_X14 ac) t ∧ va_D (va_A (dw_X14 a ac s0) sz) (dw_X14 a ac r)) (va_A (dw_X14 a ac s0) sz)) 0 0 (va_A (dw_X14 a ac s0) sz) := by
  refine Met.ofW (cc := cX14_run) (maxL := 2) (ret := none) (by decide) rfl ?_
  intro p e s m args below meth c s₁ B hml hv
  obtain ⟨rfl, hsz, hP, hK, hD0, hN⟩ := hv
  have hx := B.exec
  have hb := B.bytes
  have hr := B.returns
  have hts := atoms_spec (ws := ow_dm_X14_run) B.pre
  have hown : s.vm.findClass RX14 = some m.cls := findClass_of_methodNamed B.named
  have hlocks := B.notSynchronized
  subst hsz
  have hD := hD0.self (sz := s.heap.size)
  generalize hAe : va_A (dw_X14 a ac s0) s.heap.size = A at hD hN ⊢
  have hA : ∀ q : Nat, s.heap.size ≤ q → A q := fun q h => by rw [← hAe]; exact Or.inr h
  have hl := lv_entry ([.ref (a 0), .int v0]) (n := 2) (Nat.le_of_ble_eq_true rfl)
  rw [lg_entry_eq]
  generalize (lg_sl ([.ref (a 0), .int v0]) ++ List.replicate (2 - (lg_sl ([.ref (a 0), .int v0])).length) Slot.unset).toArray = ls at hl ⊢
  have hl : lv_has ls 2 [(0, .ref (a 0)), (1, .int v0)] := hl
  exact db_X14_run_0 (dC := dC) (dI := dI) (a := a) (ac := ac) (n := n) (r := r) ⟨hlt, hx, hb, hml, hown, hts, hN, hA, hK⟩ (fun pc τ H locs ls d er hP hD hS => by subst er; exact W.vret hx hb hr (fun t ht hW => ⟨⟨(), rfl, trivial, by rw [ht]; exact hP, va_K.moved hW.alike hK, hD⟩, hS.F ht⟩) hS.2.2 d) v0 s0 _ _ _ h hP hD va_S.rf (lv_sub hl [0, 1] rfl)
def ow_dm_X14_entry : List Cond := Cond.code yX14_entry cX14_entry 8 none :: ([Cond.fieldLink RX14 16 "TimeMachineModel$Codec" "difference" "[J", Cond.fieldLink RX14 9 "TimeMachineModel$Codec" "kind" "[I", Cond.fieldLink RX14 20 "TimeMachineModel$Codec" "a" "[J", Cond.methodLink RX14 36 yX14_put, Cond.instanceMethod yX14_put, Cond.selects RX14 yX14_put yX14_put, Cond.initialized RX14, Cond.fieldLink RX14 13 "TimeMachineModel$Codec" "b" "[I", Cond.methodLink RX14 44 yX14_varint, Cond.instanceMethod yX14_varint, Cond.selects RX14 yX14_varint yX14_varint, Cond.methodLink RX14 52 yX14_isAsFar, Cond.instanceMethod yX14_isAsFar, Cond.selects RX14 yX14_isAsFar yX14_isAsFar, Cond.methodLink RX14 48 yX14_copyOf, Cond.instanceMethod yX14_copyOf, Cond.selects RX14 yX14_copyOf yX14_copyOf] ++ (u_ws RX14 TX14 11 ++ (ow_dm_X14_put ++ (ow_dm_X14_varint ++ (ow_dm_X14_isAsFar ++ (ow_dm_X14_copyOf ++ []))))))
theorem gd_dm_X14_entry : ∀ w ∈ ow_dm_X14_entry, (w.onTables && w.keeps) = true ∨ ∃ ty, w = Cond.arrayClass ty := List.forall_mem_cons.mpr ⟨good_of_word rfl, List.forall_mem_append.mpr ⟨fun w h => good_of_word (List.all_eq_true.mp (by decide +kernel) w h), List.forall_mem_append.mpr ⟨gu_X14, List.forall_mem_append.mpr ⟨gd_dm_X14_put, List.forall_mem_append.mpr ⟨gd_dm_X14_varint, List.forall_mem_append.mpr ⟨gd_dm_X14_isAsFar, List.forall_mem_append.mpr ⟨gd_dm_X14_copyOf, fun _ h => nomatch h⟩⟩⟩⟩⟩⟩⟩
theorem hi_dm_X14_entry_X14 : ∀ w ∈ u_ws RX14 TX14 11, w ∈ ow_dm_X14_entry := fun w h => List.mem_cons_of_mem _ (List.mem_append_right _ (List.mem_append_left _ h))
theorem gi_dm_X14_entry_0 : GoodIn ow_dm_X14_entry (wsV RX14 36 RX14 yX14_put ow_dm_X14_put) := goodIn_app (goodIn_of _ (by decide +kernel)) (fun w h => ⟨List.mem_cons_of_mem _ (List.mem_append_right _ (List.mem_append_right _ (List.mem_append_left _ h))), gd_dm_X14_put w h⟩)
theorem gi_dm_X14_entry_1 : GoodIn ow_dm_X14_entry (wsV RX14 44 RX14 yX14_varint ow_dm_X14_varint) := goodIn_app (goodIn_of _ (by decide +kernel)) (fun w h => ⟨List.mem_cons_of_mem _ (List.mem_append_right _ (List.mem_append_right _ (List.mem_append_right _ (List.mem_append_left _ h)))), gd_dm_X14_varint w h⟩)
theorem gi_dm_X14_entry_2 : GoodIn ow_dm_X14_entry (wsV RX14 52 RX14 yX14_isAsFar ow_dm_X14_isAsFar) := goodIn_app (goodIn_of _ (by decide +kernel)) (fun w h => ⟨List.mem_cons_of_mem _ (List.mem_append_right _ (List.mem_append_right _ (List.mem_append_right _ (List.mem_append_right _ (List.mem_append_left _ h))))), gd_dm_X14_isAsFar w h⟩)
theorem gi_dm_X14_entry_3 : GoodIn ow_dm_X14_entry (wsV RX14 48 RX14 yX14_copyOf ow_dm_X14_copyOf) := goodIn_app (goodIn_of _ (by decide +kernel)) (fun w h => ⟨List.mem_cons_of_mem _ (List.mem_append_right _ (List.mem_append_right _ (List.mem_append_right _ (List.mem_append_right _ (List.mem_append_right _ (List.mem_append_left _ h)))))), gd_dm_X14_copyOf w h⟩)
def dj_X14_entry_291 (p : Program) (l : Launch) (e : Env) (s : State) (m : MethodId) (args : Array Value) (below : List Frame) (meth : Method) (c : Code) (Q : State → Prop) (A : Nat → Prop) (dC : Nat → ClassId) (dI : Nat → Nat → Nat) (a : Nat → Nat) (ac : Nat → ClassId) (g : Int32 → Int32 → (St) → Option (St)) (r : St) : Prop := ∀ (x1 : Int32) (x7 : Int32) (s0 : St) (H : Heap) (locs : List Loc) (ls : Array Slot), g x1 x7 s0 = some r → va_P (dC, dI) vwCl (dw_X14 a ac s0) H → va_D A (dw_X14 a ac s0) → va_S A s.heap H locs → lv_has ls 8 [(0, .ref (a 0)), (1, .int x1), (7, .int x7)] → W p l e (headSpec ow_dm_X14_entry ({ frames := 2, cells := 0, slots := 0, locals := 45 })).room s m args below meth c H locs 0 0 Q (F0 m 291 ls [])
def dj_X14_entry_283 (p : Program) (l : Launch) (e : Env) (s : State) (m : MethodId) (args : Array Value) (below : List Frame) (meth : Method) (c : Code) (Q : State → Prop) (A : Nat → Prop) (dC : Nat → ClassId) (dI : Nat → Nat → Nat) (a : Nat → Nat) (ac : Nat → ClassId) (g : Int32 → Int32 → (St) → Option (St)) (r : St) : Prop := ∀ (x1 : Int32) (y0 : Int32) (s0 : St) (H : Heap) (locs : List Loc) (ls : Array Slot), g x1 y0 s0 = some r → va_P (dC, dI) vwCl (dw_X14 a ac s0) H → va_D A (dw_X14 a ac s0) → va_S A s.heap H locs → lv_has ls 8 [(0, .ref (a 0)), (1, .int x1)] → W p l e (headSpec ow_dm_X14_entry ({ frames := 2, cells := 0, slots := 0, locals := 45 })).room s m args below meth c H locs 0 0 Q (F0 m 283 ls [.int y0])
def dj_X14_entry_282 (p : Program) (l : Launch) (e : Env) (s : State) (m : MethodId) (args : Array Value) (below : List Frame) (meth : Method) (c : Code) (Q : State → Prop) (A : Nat → Prop) (dC : Nat → ClassId) (dI : Nat → Nat → Nat) (a : Nat → Nat) (ac : Nat → ClassId) (g : Int32 → (St) → Option (St)) (r : St) : Prop := ∀ (x1 : Int32) (s0 : St) (H : Heap) (locs : List Loc) (ls : Array Slot), g x1 s0 = some r → va_P (dC, dI) vwCl (dw_X14 a ac s0) H → va_D A (dw_X14 a ac s0) → va_S A s.heap H locs → lv_has ls 8 [(0, .ref (a 0)), (1, .int x1)] → W p l e (headSpec ow_dm_X14_entry ({ frames := 2, cells := 0, slots := 0, locals := 45 })).room s m args below meth c H locs 0 0 Q (F0 m 282 ls [])
def dj_X14_entry_245 (p : Program) (l : Launch) (e : Env) (s : State) (m : MethodId) (args : Array Value) (below : List Frame) (meth : Method) (c : Code) (Q : State → Prop) (A : Nat → Prop) (dC : Nat → ClassId) (dI : Nat → Nat → Nat) (a : Nat → Nat) (ac : Nat → ClassId) (g : Int32 → Int32 → (St) → Option (St)) (r : St) : Prop := ∀ (x1 : Int32) (x3 : Int32) (s0 : St) (H : Heap) (locs : List Loc) (ls : Array Slot), g x1 x3 s0 = some r → va_P (dC, dI) vwCl (dw_X14 a ac s0) H → va_D A (dw_X14 a ac s0) → va_S A s.heap H locs → lv_has ls 8 [(0, .ref (a 0)), (1, .int x1), (3, .int x3)] → W p l e (headSpec ow_dm_X14_entry ({ frames := 2, cells := 0, slots := 0, locals := 45 })).room s m args below meth c H locs 0 0 Q (F0 m 245 ls [])
def dj_X14_entry_220 (p : Program) (l : Launch) (e : Env) (s : State) (m : MethodId) (args : Array Value) (below : List Frame) (meth : Method) (c : Code) (Q : State → Prop) (A : Nat → Prop) (dC : Nat → ClassId) (dI : Nat → Nat → Nat) (a : Nat → Nat) (ac : Nat → ClassId) (g : Int32 → Int32 → Int32 → (St) → Option (St)) (r : St) : Prop := ∀ (x1 : Int32) (x3 : Int32) (x4 : Int32) (s0 : St) (H : Heap) (locs : List Loc) (ls : Array Slot), g x1 x3 x4 s0 = some r → va_P (dC, dI) vwCl (dw_X14 a ac s0) H → va_D A (dw_X14 a ac s0) → va_S A s.heap H locs → lv_has ls 8 [(0, .ref (a 0)), (1, .int x1), (3, .int x3), (4, .int x4)] → W p l e (headSpec ow_dm_X14_entry ({ frames := 2, cells := 0, slots := 0, locals := 45 })).room s m args below meth c H locs 0 0 Q (F0 m 220 ls [])
def dj_X14_entry_200 (p : Program) (l : Launch) (e : Env) (s : State) (m : MethodId) (args : Array Value) (below : List Frame) (meth : Method) (c : Code) (Q : State → Prop) (A : Nat → Prop) (dC : Nat → ClassId) (dI : Nat → Nat → Nat) (a : Nat → Nat) (ac : Nat → ClassId) (g : Int32 → Int32 → Int32 → (St) → Option (St)) (r : St) : Prop := ∀ (x1 : Int32) (x3 : Int32) (x4 : Int32) (s0 : St) (H : Heap) (locs : List Loc) (ls : Array Slot), g x1 x3 x4 s0 = some r → va_P (dC, dI) vwCl (dw_X14 a ac s0) H → va_D A (dw_X14 a ac s0) → va_S A s.heap H locs → lv_has ls 8 [(0, .ref (a 0)), (1, .int x1), (3, .int x3), (4, .int x4)] → W p l e (headSpec ow_dm_X14_entry ({ frames := 2, cells := 0, slots := 0, locals := 45 })).room s m args below meth c H locs 0 0 Q (F0 m 200 ls [])
def dj_X14_entry_190 (p : Program) (l : Launch) (e : Env) (s : State) (m : MethodId) (args : Array Value) (below : List Frame) (meth : Method) (c : Code) (Q : State → Prop) (A : Nat → Prop) (dC : Nat → ClassId) (dI : Nat → Nat → Nat) (a : Nat → Nat) (ac : Nat → ClassId) (g : Int32 → Int32 → Int32 → (St) → Option (St)) (r : St) : Prop := ∀ (x1 : Int32) (x3 : Int32) (x4 : Int32) (s0 : St) (H : Heap) (locs : List Loc) (ls : Array Slot), g x1 x3 x4 s0 = some r → va_P (dC, dI) vwCl (dw_X14 a ac s0) H → va_D A (dw_X14 a ac s0) → va_S A s.heap H locs → lv_has ls 8 [(0, .ref (a 0)), (1, .int x1), (3, .int x3), (4, .int x4)] → W p l e (headSpec ow_dm_X14_entry ({ frames := 2, cells := 0, slots := 0, locals := 45 })).room s m args below meth c H locs 0 0 Q (F0 m 190 ls [])
def dj_X14_entry_167 (p : Program) (l : Launch) (e : Env) (s : State) (m : MethodId) (args : Array Value) (below : List Frame) (meth : Method) (c : Code) (Q : State → Prop) (A : Nat → Prop) (dC : Nat → ClassId) (dI : Nat → Nat → Nat) (a : Nat → Nat) (ac : Nat → ClassId) (g : Int32 → Int32 → Int32 → Int32 → Int32 → Int32 → Int32 → (St) → Option (St)) (r : St) : Prop := ∀ (x1 : Int32) (x2 : Int32) (x3 : Int32) (x4 : Int32) (x5 : Int32) (y1 : Int32) (y2 : Int32) (s0 : St) (H : Heap) (locs : List Loc) (ls : Array Slot), g x1 x2 x3 x4 x5 y1 y2 s0 = some r → va_P (dC, dI) vwCl (dw_X14 a ac s0) H → va_D A (dw_X14 a ac s0) → va_S A s.heap H locs → lv_has ls 8 [(0, .ref (a 0)), (1, .int x1), (2, .int x2), (3, .int x3), (4, .int x4), (5, .int x5)] → W p l e (headSpec ow_dm_X14_entry ({ frames := 2, cells := 0, slots := 0, locals := 45 })).room s m args below meth c H locs 0 0 Q (F0 m 167 ls [.int y2, .int y1, .ref (a 0)])
def dj_X14_entry_148 (p : Program) (l : Launch) (e : Env) (s : State) (m : MethodId) (args : Array Value) (below : List Frame) (meth : Method) (c : Code) (Q : State → Prop) (A : Nat → Prop) (dC : Nat → ClassId) (dI : Nat → Nat → Nat) (a : Nat → Nat) (ac : Nat → ClassId) (g : Int32 → Int32 → Int32 → Int32 → Int32 → (St) → Option (St)) (r : St) : Prop := ∀ (x1 : Int32) (x2 : Int32) (x3 : Int32) (x4 : Int32) (y0 : Int32) (s0 : St) (H : Heap) (locs : List Loc) (ls : Array Slot), g x1 x2 x3 x4 y0 s0 = some r → va_P (dC, dI) vwCl (dw_X14 a ac s0) H → va_D A (dw_X14 a ac s0) → va_S A s.heap H locs → lv_has ls 8 [(0, .ref (a 0)), (1, .int x1), (2, .int x2), (3, .int x3), (4, .int x4)] → W p l e (headSpec ow_dm_X14_entry ({ frames := 2, cells := 0, slots := 0, locals := 45 })).room s m args below meth c H locs 0 0 Q (F0 m 148 ls [.int y0])
def dj_X14_entry_75 (p : Program) (l : Launch) (e : Env) (s : State) (m : MethodId) (args : Array Value) (below : List Frame) (meth : Method) (c : Code) (Q : State → Prop) (A : Nat → Prop) (dC : Nat → ClassId) (dI : Nat → Nat → Nat) (a : Nat → Nat) (ac : Nat → ClassId) (g : Int32 → Int32 → Int32 → Int32 → (St) → Option (St)) (r : St) : Prop := ∀ (x1 : Int32) (x2 : Int32) (x3 : Int32) (y0 : Int32) (s0 : St) (H : Heap) (locs : List Loc) (ls : Array Slot), g x1 x2 x3 y0 s0 = some r → va_P (dC, dI) vwCl (dw_X14 a ac s0) H → va_D A (dw_X14 a ac s0) → va_S A s.heap H locs → lv_has ls 8 [(0, .ref (a 0)), (1, .int x1), (2, .int x2), (3, .int x3)] → W p l e (headSpec ow_dm_X14_entry ({ frames := 2, cells := 0, slots := 0, locals := 45 })).room s m args below meth c H locs 0 0 Q (F0 m 75 ls [.int y0])
def dj_X14_entry_74 (p : Program) (l : Launch) (e : Env) (s : State) (m : MethodId) (args : Array Value) (below : List Frame) (meth : Method) (c : Code) (Q : State → Prop) (A : Nat → Prop) (dC : Nat → ClassId) (dI : Nat → Nat → Nat) (a : Nat → Nat) (ac : Nat → ClassId) (g : Int32 → Int32 → Int32 → (St) → Option (St)) (r : St) : Prop := ∀ (x1 : Int32) (x2 : Int32) (x3 : Int32) (s0 : St) (H : Heap) (locs : List Loc) (ls : Array Slot), g x1 x2 x3 s0 = some r → va_P (dC, dI) vwCl (dw_X14 a ac s0) H → va_D A (dw_X14 a ac s0) → va_S A s.heap H locs → lv_has ls 8 [(0, .ref (a 0)), (1, .int x1), (2, .int x2), (3, .int x3)] → W p l e (headSpec ow_dm_X14_entry ({ frames := 2, cells := 0, slots := 0, locals := 45 })).room s m args below meth c H locs 0 0 Q (F0 m 74 ls [])
def dj_X14_entry_51 (p : Program) (l : Launch) (e : Env) (s : State) (m : MethodId) (args : Array Value) (below : List Frame) (meth : Method) (c : Code) (Q : State → Prop) (A : Nat → Prop) (dC : Nat → ClassId) (dI : Nat → Nat → Nat) (a : Nat → Nat) (ac : Nat → ClassId) (g : Int32 → Int32 → Int32 → (St) → Option (St)) (r : St) : Prop := ∀ (x1 : Int32) (x2 : Int32) (y0 : Int32) (s0 : St) (H : Heap) (locs : List Loc) (ls : Array Slot), g x1 x2 y0 s0 = some r → va_P (dC, dI) vwCl (dw_X14 a ac s0) H → va_D A (dw_X14 a ac s0) → va_S A s.heap H locs → lv_has ls 8 [(0, .ref (a 0)), (1, .int x1), (2, .int x2)] → W p l e (headSpec ow_dm_X14_entry ({ frames := 2, cells := 0, slots := 0, locals := 45 })).room s m args below meth c H locs 0 0 Q (F0 m 51 ls [.int y0])
def dj_X14_entry_31 (p : Program) (l : Launch) (e : Env) (s : State) (m : MethodId) (args : Array Value) (below : List Frame) (meth : Method) (c : Code) (Q : State → Prop) (A : Nat → Prop) (dC : Nat → ClassId) (dI : Nat → Nat → Nat) (a : Nat → Nat) (ac : Nat → ClassId) (g : Int32 → Int32 → (St) → Option (St)) (r : St) : Prop := ∀ (x1 : Int32) (y0 : Int32) (s0 : St) (H : Heap) (locs : List Loc) (ls : Array Slot), g x1 y0 s0 = some r → va_P (dC, dI) vwCl (dw_X14 a ac s0) H → va_D A (dw_X14 a ac s0) → va_S A s.heap H locs → lv_has ls 8 [(0, .ref (a 0)), (1, .int x1)] → W p l e (headSpec ow_dm_X14_entry ({ frames := 2, cells := 0, slots := 0, locals := 45 })).room s m args below meth c H locs 0 0 Q (F0 m 31 ls [.int y0])
def dj_X14_entry_22 (p : Program) (l : Launch) (e : Env) (s : State) (m : MethodId) (args : Array Value) (below : List Frame) (meth : Method) (c : Code) (Q : State → Prop) (A : Nat → Prop) (dC : Nat → ClassId) (dI : Nat → Nat → Nat) (a : Nat → Nat) (ac : Nat → ClassId) (g : Int32 → Int64 → Int64 → (St) → Option (St)) (r : St) : Prop := ∀ (x1 : Int32) (y0 : Int64) (y1 : Int64) (s0 : St) (H : Heap) (locs : List Loc) (ls : Array Slot), g x1 y0 y1 s0 = some r → va_P (dC, dI) vwCl (dw_X14 a ac s0) H → va_D A (dw_X14 a ac s0) → va_S A s.heap H locs → lv_has ls 8 [(0, .ref (a 0)), (1, .int x1)] → W p l e (headSpec ow_dm_X14_entry ({ frames := 2, cells := 0, slots := 0, locals := 45 })).room s m args below meth c H locs 0 0 Q (F0 m 22 ls [.long y1, .long y0])
def dj_X14_entry_0 (p : Program) (l : Launch) (e : Env) (s : State) (m : MethodId) (args : Array Value) (below : List Frame) (meth : Method) (c : Code) (Q : State → Prop) (A : Nat → Prop) (dC : Nat → ClassId) (dI : Nat → Nat → Nat) (a : Nat → Nat) (ac : Nat → ClassId) (g : Int32 → (St) → Option (St)) (r : St) : Prop := ∀ (v0 : Int32) (s0 : St) (H : Heap) (locs : List Loc) (ls : Array Slot), g v0 s0 = some r → va_P (dC, dI) vwCl (dw_X14 a ac s0) H → va_D A (dw_X14 a ac s0) → va_S A s.heap H locs → lv_has ls 8 [(0, .ref (a 0)), (1, .int v0)] → W p l e (headSpec ow_dm_X14_entry ({ frames := 2, cells := 0, slots := 0, locals := 45 })).room s m args below meth c H locs 0 0 Q (F0 m 0 ls [])
set_option maxHeartbeats 40000000 in
set_option maxRecDepth 100000 in
theorem dB_X14_entry_291 {p : Program} {l : Launch} {e : Env} {s : State} {m : MethodId} {args : Array Value} {below : List Frame} {meth : Method} {c : Code} {Q : State → Prop} {A : Nat → Prop} {dC : Nat → ClassId} {dI : Nat → Nat → Nat} {a : Nat → Nat} {ac : Nat → ClassId} {n : Nat} {r : St} (C : nd_C p l s m args c A (dC, dI) cX14_entry 8 RX14 ow_dm_X14_entry (dk_X14 ac)) (K : nd_Kv p l e (headSpec ow_dm_X14_entry ({ frames := 2, cells := 0, slots := 0, locals := 45 })).room s m args below meth c Q A (dC, dI) cX14_entry (St) (dw_X14 a ac) r) {g291 : Int32 → Int32 → (St) → Option (St)} (J291 : dj_X14_entry_291 p l e s m args below meth c Q A dC dI a ac g291 r) : dj_X14_entry_291 p l e s m args below meth c Q A dC dI a ac (dF_X14_entry_291 n g291) r := by
  obtain ⟨hlt, hx, hb, hml, hown, hts, hN, hA, hK⟩ := id C
  intro x1 x7 s0 H locs ls h hP hD hS hl
  unfold dF_X14_entry_291 at h
  refine lv_iload hx hb dX14_entry_291 (lv_at hl 2 rfl) ?_
  refine lv_if_lt (tgt := 319) hx hb dX14_entry_293 (by decide) (fun c32 => ?_) (fun c32 => ?_)
  · have h := nd_pos h c32
    exact K _ _ _ _ _ dX14_entry_319 (Option.some.inj h).symm hP hD hS
  · have h := nd_neg h c32
    refine lv_aload_n hx hb dX14_entry_296 rfl (lv_at hl 0 rfl) ?_
    refine lv_aload_n hx hb dX14_entry_297 rfl (lv_at hl 0 rfl) ?_
    refine va_get (D := (dC, dI)) (ci := 15) (v := .ref (a 4)) (C := RX14) (T := TX14) (N := 11) hx hb hts hi_dm_X14_entry_X14 hown hK hP 0 rfl rfl 4 (by decide) (hts (.fieldLink RX14 20 "TimeMachineModel$Codec" "a" "[J") (List.mem_of_getElem? (i := 3) rfl)) (fun _ h9 => h9) rfl dX14_entry_298 ?_
    refine lv_iload_n hx hb dX14_entry_301 rfl (lv_at hl 1 rfl) ?_
    obtain ⟨i33, h⟩ := nd_ck_e h
    refine va_lald (i := x1) hx hb hK hP 4 3 rfl rfl i33 dX14_entry_302 ?_
    refine lv_bipush (v := 8) hx hb dX14_entry_303 (by decide) ?_
    refine lv_iload hx hb dX14_entry_305 (lv_at hl 2 rfl) ?_
    refine lv_imul hx hb dX14_entry_307 ?_
    refine lv_lshr hx hb dX14_entry_308 rfl ?_
    refine lv_l2i hx hb dX14_entry_309 rfl ?_
    obtain ⟨s35, hq, h⟩ := nd_b1_e h
    have hPc := hP
    have hDc := hD
    have hKc := hK
    have hFc := nd_rs hD hS hA
    refine nd_cVv (As := [.int ((((sQ s0 1 (Int32.toNatClampNeg x1)) : Int64) >>> (((8 * x7) : Int32).toInt64 &&& 63)).toInt32)]) (rest := []) (w' := dw_X14 a ac s35) ⟨hx, hb, hml, hown, hts⟩ (fun sz => dm_X14_put l hlt dC dI a ac n (((((sQ s0 1 (Int32.toNatClampNeg x1)) : Int64) >>> (((8 * x7) : Int32).toInt64 &&& 63)).toInt32)) s0 hq sz) (cwV 1 hts gi_dm_X14_entry_0 rfl rfl rfl (by decide +kernel) ⟨Nat.le_of_ble_eq_true rfl, Nat.le_of_ble_eq_true rfl⟩) hPc hDc hKc hS hA hN (va_recv hKc hPc (ci := 15) (q0 := 0) rfl rfl) rfl hl.1 rfl (Nat.le_of_ble_eq_true rfl) dX14_entry_310 (fun H locs hP1 hD1 hk1 hS => ?_)
    have hP := hP1
    have hD := hD1.weaken (fun k q _ h => hFc q.1 h)
    obtain ⟨z37, ez37, h⟩ := nd_let_e h
    refine lv_iinc (v := z37) (lv' := [(7, .int z37), (0, .ref (a 0)), (1, .int x1)]) hx hb dX14_entry_313 hl (k := 2) rfl (by rw [ez37]) (by decide) rfl (fun ls hl => ?_)
    refine lv_goto (tgt := 291) hx hb dX14_entry_316 (by decide) ?_
    exact (J291) (x1) (z37) s35 _ _ _ h hP hD hS (lv_sub hl [1, 2, 0] rfl)
set_option maxHeartbeats 40000000 in
set_option maxRecDepth 100000 in
theorem db_X14_entry_291 {p : Program} {l : Launch} {e : Env} {s : State} {m : MethodId} {args : Array Value} {below : List Frame} {meth : Method} {c : Code} {Q : State → Prop} {A : Nat → Prop} {dC : Nat → ClassId} {dI : Nat → Nat → Nat} {a : Nat → Nat} {ac : Nat → ClassId} {n : Nat} {r : St} (C : nd_C p l s m args c A (dC, dI) cX14_entry 8 RX14 ow_dm_X14_entry (dk_X14 ac)) (K : nd_Kv p l e (headSpec ow_dm_X14_entry ({ frames := 2, cells := 0, slots := 0, locals := 45 })).room s m args below meth c Q A (dC, dI) cX14_entry (St) (dw_X14 a ac) r) (k : Nat) : dj_X14_entry_291 p l e s m args below meth c Q A dC dI a ac (df_X14_entry_291 n k) r := by
  induction k with
  | zero => intro x1 x7 s0 H locs ls h; exact nomatch (show (none : Option (St)) = some r from h)
  | succ k ih => exact dB_X14_entry_291 C K ih
set_option maxHeartbeats 40000000 in
set_option maxRecDepth 100000 in
theorem db_X14_entry_283 {p : Program} {l : Launch} {e : Env} {s : State} {m : MethodId} {args : Array Value} {below : List Frame} {meth : Method} {c : Code} {Q : State → Prop} {A : Nat → Prop} {dC : Nat → ClassId} {dI : Nat → Nat → Nat} {a : Nat → Nat} {ac : Nat → ClassId} {n : Nat} {r : St} (C : nd_C p l s m args c A (dC, dI) cX14_entry 8 RX14 ow_dm_X14_entry (dk_X14 ac)) (K : nd_Kv p l e (headSpec ow_dm_X14_entry ({ frames := 2, cells := 0, slots := 0, locals := 45 })).room s m args below meth c Q A (dC, dI) cX14_entry (St) (dw_X14 a ac) r) : dj_X14_entry_283 p l e s m args below meth c Q A dC dI a ac (df_X14_entry_283 n) r := by
  obtain ⟨hlt, hx, hb, hml, hown, hts, hN, hA, hK⟩ := id C
  intro x1 y0 s0 H locs ls h hP hD hS hl
  unfold df_X14_entry_283 at h
  refine lv_istore (lv' := [(6, .int y0), (0, .ref (a 0)), (1, .int x1)]) hx hb dX14_entry_283 hl (by decide) rfl (fun ls hl => ?_)
  refine lv_iload hx hb dX14_entry_285 (lv_at hl 0 rfl) ?_
  refine lv_iconst (v := 1) hx hb dX14_entry_287 (by decide) ?_
  refine lv_isub hx hb dX14_entry_288 ?_
  refine lv_topi (fun z31 ez31 => ?_)
  have h := nd_at h ez31
  refine lv_istore (lv' := [(7, .int z31), (6, .int y0), (0, .ref (a 0)), (1, .int x1)]) hx hb dX14_entry_289 hl (by decide) rfl (fun ls hl => ?_)
  exact (db_X14_entry_291 C K n) (x1) (z31) s0 _ _ _ h hP hD hS (lv_sub hl [2, 3, 0] rfl)
set_option maxHeartbeats 40000000 in
set_option maxRecDepth 100000 in
theorem db_X14_entry_282 {p : Program} {l : Launch} {e : Env} {s : State} {m : MethodId} {args : Array Value} {below : List Frame} {meth : Method} {c : Code} {Q : State → Prop} {A : Nat → Prop} {dC : Nat → ClassId} {dI : Nat → Nat → Nat} {a : Nat → Nat} {ac : Nat → ClassId} {n : Nat} {r : St} (C : nd_C p l s m args c A (dC, dI) cX14_entry 8 RX14 ow_dm_X14_entry (dk_X14 ac)) (K : nd_Kv p l e (headSpec ow_dm_X14_entry ({ frames := 2, cells := 0, slots := 0, locals := 45 })).room s m args below meth c Q A (dC, dI) cX14_entry (St) (dw_X14 a ac) r) : dj_X14_entry_282 p l e s m args below meth c Q A dC dI a ac (df_X14_entry_282 n) r := by
  obtain ⟨hlt, hx, hb, hml, hown, hts, hN, hA, hK⟩ := id C
  intro x1 s0 H locs ls h hP hD hS hl
  unfold df_X14_entry_282 at h
  refine lv_iconst (v := 0) hx hb dX14_entry_282 (by decide) ?_
  exact (db_X14_entry_283 C K) (x1) (0) s0 _ _ _ h hP hD hS (lv_sub hl [0, 1] rfl)
set_option maxHeartbeats 40000000 in
set_option maxRecDepth 100000 in
theorem db_X14_entry_245 {p : Program} {l : Launch} {e : Env} {s : State} {m : MethodId} {args : Array Value} {below : List Frame} {meth : Method} {c : Code} {Q : State → Prop} {A : Nat → Prop} {dC : Nat → ClassId} {dI : Nat → Nat → Nat} {a : Nat → Nat} {ac : Nat → ClassId} {n : Nat} {r : St} (C : nd_C p l s m args c A (dC, dI) cX14_entry 8 RX14 ow_dm_X14_entry (dk_X14 ac)) (K : nd_Kv p l e (headSpec ow_dm_X14_entry ({ frames := 2, cells := 0, slots := 0, locals := 45 })).room s m args below meth c Q A (dC, dI) cX14_entry (St) (dw_X14 a ac) r) : dj_X14_entry_245 p l e s m args below meth c Q A dC dI a ac (df_X14_entry_245 n) r := by
  obtain ⟨hlt, hx, hb, hml, hown, hts, hN, hA, hK⟩ := id C
  intro x1 x3 s0 H locs ls h hP hD hS hl
  unfold df_X14_entry_245 at h
  refine lv_aload_n hx hb dX14_entry_245 rfl (lv_at hl 0 rfl) ?_
  refine va_get (D := (dC, dI)) (ci := 15) (v := .ref (a 1)) (C := RX14) (T := TX14) (N := 11) hx hb hts hi_dm_X14_entry_X14 hown hK hP 0 rfl rfl 1 (by decide) (hts (.fieldLink RX14 9 "TimeMachineModel$Codec" "kind" "[I") (List.mem_of_getElem? (i := 2) rfl)) (fun _ h9 => h9) rfl dX14_entry_246 ?_
  refine lv_iload_n hx hb dX14_entry_249 rfl (lv_at hl 1 rfl) ?_
  obtain ⟨i27, h⟩ := nd_ck_e h
  refine va_iald (i := x1) hx hb hK hP 1 0 rfl rfl i27 dX14_entry_250 ?_
  refine lv_iconst (v := 4) hx hb dX14_entry_251 (by decide) ?_
  refine lv_icmp_ne (tgt := 259) hx hb dX14_entry_252 (by decide) (fun c28 => ?_) (fun c28 => ?_)
  · have h := nd_neg h c28
    refine lv_aload_n hx hb dX14_entry_259 rfl (lv_at hl 0 rfl) ?_
    refine va_get (D := (dC, dI)) (ci := 15) (v := .ref (a 1)) (C := RX14) (T := TX14) (N := 11) hx hb hts hi_dm_X14_entry_X14 hown hK hP 0 rfl rfl 1 (by decide) (hts (.fieldLink RX14 9 "TimeMachineModel$Codec" "kind" "[I") (List.mem_of_getElem? (i := 2) rfl)) (fun _ h9 => h9) rfl dX14_entry_260 ?_
    refine lv_iload_n hx hb dX14_entry_263 rfl (lv_at hl 1 rfl) ?_
    obtain ⟨i29, h⟩ := nd_ck_e h
    refine va_iald (i := x1) hx hb hK hP 1 0 rfl rfl i29 dX14_entry_264 ?_
    refine lv_iconst (v := 1) hx hb dX14_entry_265 (by decide) ?_
    refine lv_icmp_ne (tgt := 282) hx hb dX14_entry_266 (by decide) (fun c30 => ?_) (fun c30 => ?_)
    · have h := nd_neg h c30
      exact (db_X14_entry_282 C K) (x1) s0 _ _ _ h hP hD hS (lv_sub hl [0, 1] rfl)
    · have h := nd_pos h c30
      refine lv_iload_n hx hb dX14_entry_269 rfl (lv_at hl 2 rfl) ?_
      refine lv_if_ne (tgt := 282) hx hb dX14_entry_270 (by decide) (fun c38 => ?_) (fun c38 => ?_)
      · have h := nd_neg h c38
        exact (db_X14_entry_282 C K) (x1) s0 _ _ _ h hP hD hS (lv_sub hl [0, 1] rfl)
      · have h := nd_pos h c38
        refine lv_aload_n hx hb dX14_entry_273 rfl (lv_at hl 0 rfl) ?_
        refine va_get (D := (dC, dI)) (ci := 15) (v := .ref (a 2)) (C := RX14) (T := TX14) (N := 11) hx hb hts hi_dm_X14_entry_X14 hown hK hP 0 rfl rfl 2 (by decide) (hts (.fieldLink RX14 13 "TimeMachineModel$Codec" "b" "[I") (List.mem_of_getElem? (i := 8) rfl)) (fun _ h9 => h9) rfl dX14_entry_274 ?_
        refine lv_iload_n hx hb dX14_entry_277 rfl (lv_at hl 1 rfl) ?_
        obtain ⟨i39, h⟩ := nd_ck_e h
        refine va_iald (i := x1) hx hb hK hP 2 1 rfl rfl i39 dX14_entry_278 ?_
        refine lv_goto (tgt := 283) hx hb dX14_entry_279 (by decide) ?_
        exact (db_X14_entry_283 C K) (x1) ((sR s0 1 (Int32.toNatClampNeg x1))) s0 _ _ _ h hP hD hS (lv_sub hl [0, 1] rfl)
  · have h := nd_pos h c28
    refine lv_iconst (v := 4) hx hb dX14_entry_255 (by decide) ?_
    refine lv_goto (tgt := 283) hx hb dX14_entry_256 (by decide) ?_
    exact (db_X14_entry_283 C K) (x1) (4) s0 _ _ _ h hP hD hS (lv_sub hl [0, 1] rfl)
set_option maxHeartbeats 40000000 in
set_option maxRecDepth 100000 in
theorem db_X14_entry_220 {p : Program} {l : Launch} {e : Env} {s : State} {m : MethodId} {args : Array Value} {below : List Frame} {meth : Method} {c : Code} {Q : State → Prop} {A : Nat → Prop} {dC : Nat → ClassId} {dI : Nat → Nat → Nat} {a : Nat → Nat} {ac : Nat → ClassId} {n : Nat} {r : St} (C : nd_C p l s m args c A (dC, dI) cX14_entry 8 RX14 ow_dm_X14_entry (dk_X14 ac)) (K : nd_Kv p l e (headSpec ow_dm_X14_entry ({ frames := 2, cells := 0, slots := 0, locals := 45 })).room s m args below meth c Q A (dC, dI) cX14_entry (St) (dw_X14 a ac) r) : dj_X14_entry_220 p l e s m args below meth c Q A dC dI a ac (df_X14_entry_220 n) r := by
  obtain ⟨hlt, hx, hb, hml, hown, hts, hN, hA, hK⟩ := id C
  intro x1 x3 x4 s0 H locs ls h hP hD hS hl
  unfold df_X14_entry_220 at h
  refine lv_aload_n hx hb dX14_entry_220 rfl (lv_at hl 0 rfl) ?_
  refine va_get (D := (dC, dI)) (ci := 15) (v := .ref (a 1)) (C := RX14) (T := TX14) (N := 11) hx hb hts hi_dm_X14_entry_X14 hown hK hP 0 rfl rfl 1 (by decide) (hts (.fieldLink RX14 9 "TimeMachineModel$Codec" "kind" "[I") (List.mem_of_getElem? (i := 2) rfl)) (fun _ h9 => h9) rfl dX14_entry_221 ?_
  refine lv_iload_n hx hb dX14_entry_224 rfl (lv_at hl 1 rfl) ?_
  obtain ⟨i25, h⟩ := nd_ck_e h
  refine va_iald (i := x1) hx hb hK hP 1 0 rfl rfl i25 dX14_entry_225 ?_
  refine lv_iconst (v := 3) hx hb dX14_entry_226 (by decide) ?_
  refine lv_icmp_ne (tgt := 245) hx hb dX14_entry_227 (by decide) (fun c26 => ?_) (fun c26 => ?_)
  · have h := nd_neg h c26
    exact (db_X14_entry_245 C K) (x1) (x3) s0 _ _ _ h hP hD hS (lv_sub hl [0, 1, 2] rfl)
  · have h := nd_pos h c26
    refine lv_iload hx hb dX14_entry_230 (lv_at hl 3 rfl) ?_
    refine lv_if_ne (tgt := 245) hx hb dX14_entry_232 (by decide) (fun c40 => ?_) (fun c40 => ?_)
    · have h := nd_neg h c40
      exact (db_X14_entry_245 C K) (x1) (x3) s0 _ _ _ h hP hD hS (lv_sub hl [0, 1, 2] rfl)
    · have h := nd_pos h c40
      refine lv_aload_n hx hb dX14_entry_235 rfl (lv_at hl 0 rfl) ?_
      refine lv_aload_n hx hb dX14_entry_236 rfl (lv_at hl 0 rfl) ?_
      refine va_get (D := (dC, dI)) (ci := 15) (v := .ref (a 4)) (C := RX14) (T := TX14) (N := 11) hx hb hts hi_dm_X14_entry_X14 hown hK hP 0 rfl rfl 4 (by decide) (hts (.fieldLink RX14 20 "TimeMachineModel$Codec" "a" "[J") (List.mem_of_getElem? (i := 3) rfl)) (fun _ h9 => h9) rfl dX14_entry_237 ?_
      refine lv_iload_n hx hb dX14_entry_240 rfl (lv_at hl 1 rfl) ?_
      obtain ⟨i41, h⟩ := nd_ck_e h
      refine va_lald (i := x1) hx hb hK hP 4 3 rfl rfl i41 dX14_entry_241 ?_
      obtain ⟨s43, hq, h⟩ := nd_b1_e h
      have hPc := hP
      have hDc := hD
      have hKc := hK
      have hFc := nd_rs hD hS hA
      refine nd_cVv (As := [.long (sQ s0 1 (Int32.toNatClampNeg x1))]) (rest := []) (w' := dw_X14 a ac s43) ⟨hx, hb, hml, hown, hts⟩ (fun sz => dm_X14_varint l hlt dC dI a ac n ((sQ s0 1 (Int32.toNatClampNeg x1))) s0 hq sz) (cwV 1 hts gi_dm_X14_entry_1 rfl rfl rfl (by decide +kernel) ⟨Nat.le_of_ble_eq_true rfl, Nat.le_of_ble_eq_true rfl⟩) hPc hDc hKc hS hA hN (va_recv hKc hPc (ci := 15) (q0 := 0) rfl rfl) rfl hl.1 rfl (Nat.le_of_ble_eq_true rfl) dX14_entry_242 (fun H locs hP1 hD1 hk1 hS => ?_)
      have hP := hP1
      have hD := hD1.weaken (fun k q _ h => hFc q.1 h)
      exact (db_X14_entry_245 C K) (x1) (x3) s43 _ _ _ h hP hD hS (lv_sub hl [0, 1, 2] rfl)
set_option maxHeartbeats 40000000 in
set_option maxRecDepth 100000 in
theorem db_X14_entry_200 {p : Program} {l : Launch} {e : Env} {s : State} {m : MethodId} {args : Array Value} {below : List Frame} {meth : Method} {c : Code} {Q : State → Prop} {A : Nat → Prop} {dC : Nat → ClassId} {dI : Nat → Nat → Nat} {a : Nat → Nat} {ac : Nat → ClassId} {n : Nat} {r : St} (C : nd_C p l s m args c A (dC, dI) cX14_entry 8 RX14 ow_dm_X14_entry (dk_X14 ac)) (K : nd_Kv p l e (headSpec ow_dm_X14_entry ({ frames := 2, cells := 0, slots := 0, locals := 45 })).room s m args below meth c Q A (dC, dI) cX14_entry (St) (dw_X14 a ac) r) : dj_X14_entry_200 p l e s m args below meth c Q A dC dI a ac (df_X14_entry_200 n) r := by
  obtain ⟨hlt, hx, hb, hml, hown, hts, hN, hA, hK⟩ := id C
  intro x1 x3 x4 s0 H locs ls h hP hD hS hl
  unfold df_X14_entry_200 at h
  refine lv_aload_n hx hb dX14_entry_200 rfl (lv_at hl 0 rfl) ?_
  refine va_get (D := (dC, dI)) (ci := 15) (v := .ref (a 1)) (C := RX14) (T := TX14) (N := 11) hx hb hts hi_dm_X14_entry_X14 hown hK hP 0 rfl rfl 1 (by decide) (hts (.fieldLink RX14 9 "TimeMachineModel$Codec" "kind" "[I") (List.mem_of_getElem? (i := 2) rfl)) (fun _ h9 => h9) rfl dX14_entry_201 ?_
  refine lv_iload_n hx hb dX14_entry_204 rfl (lv_at hl 1 rfl) ?_
  obtain ⟨i23, h⟩ := nd_ck_e h
  refine va_iald (i := x1) hx hb hK hP 1 0 rfl rfl i23 dX14_entry_205 ?_
  refine lv_iconst (v := 2) hx hb dX14_entry_206 (by decide) ?_
  refine lv_icmp_ne (tgt := 220) hx hb dX14_entry_207 (by decide) (fun c24 => ?_) (fun c24 => ?_)
  · have h := nd_neg h c24
    exact (db_X14_entry_220 C K) (x1) (x3) (x4) s0 _ _ _ h hP hD hS (lv_sub hl [0, 1, 2, 3] rfl)
  · have h := nd_pos h c24
    refine lv_aload_n hx hb dX14_entry_210 rfl (lv_at hl 0 rfl) ?_
    refine lv_aload_n hx hb dX14_entry_211 rfl (lv_at hl 0 rfl) ?_
    refine va_get (D := (dC, dI)) (ci := 15) (v := .ref (a 2)) (C := RX14) (T := TX14) (N := 11) hx hb hts hi_dm_X14_entry_X14 hown hK hP 0 rfl rfl 2 (by decide) (hts (.fieldLink RX14 13 "TimeMachineModel$Codec" "b" "[I") (List.mem_of_getElem? (i := 8) rfl)) (fun _ h9 => h9) rfl dX14_entry_212 ?_
    refine lv_iload_n hx hb dX14_entry_215 rfl (lv_at hl 1 rfl) ?_
    obtain ⟨i45, h⟩ := nd_ck_e h
    refine va_iald (i := x1) hx hb hK hP 2 1 rfl rfl i45 dX14_entry_216 ?_
    obtain ⟨s47, hq, h⟩ := nd_b1_e h
    have hPc := hP
    have hDc := hD
    have hKc := hK
    have hFc := nd_rs hD hS hA
    refine nd_cVv (As := [.int (sR s0 1 (Int32.toNatClampNeg x1))]) (rest := []) (w' := dw_X14 a ac s47) ⟨hx, hb, hml, hown, hts⟩ (fun sz => dm_X14_put l hlt dC dI a ac n ((sR s0 1 (Int32.toNatClampNeg x1))) s0 hq sz) (cwV 1 hts gi_dm_X14_entry_0 rfl rfl rfl (by decide +kernel) ⟨Nat.le_of_ble_eq_true rfl, Nat.le_of_ble_eq_true rfl⟩) hPc hDc hKc hS hA hN (va_recv hKc hPc (ci := 15) (q0 := 0) rfl rfl) rfl hl.1 rfl (Nat.le_of_ble_eq_true rfl) dX14_entry_217 (fun H locs hP1 hD1 hk1 hS => ?_)
    have hP := hP1
    have hD := hD1.weaken (fun k q _ h => hFc q.1 h)
    exact (db_X14_entry_220 C K) (x1) (x3) (x4) s47 _ _ _ h hP hD hS (lv_sub hl [0, 1, 2, 3] rfl)
set_option maxHeartbeats 40000000 in
set_option maxRecDepth 100000 in
theorem db_X14_entry_190 {p : Program} {l : Launch} {e : Env} {s : State} {m : MethodId} {args : Array Value} {below : List Frame} {meth : Method} {c : Code} {Q : State → Prop} {A : Nat → Prop} {dC : Nat → ClassId} {dI : Nat → Nat → Nat} {a : Nat → Nat} {ac : Nat → ClassId} {n : Nat} {r : St} (C : nd_C p l s m args c A (dC, dI) cX14_entry 8 RX14 ow_dm_X14_entry (dk_X14 ac)) (K : nd_Kv p l e (headSpec ow_dm_X14_entry ({ frames := 2, cells := 0, slots := 0, locals := 45 })).room s m args below meth c Q A (dC, dI) cX14_entry (St) (dw_X14 a ac) r) : dj_X14_entry_190 p l e s m args below meth c Q A dC dI a ac (df_X14_entry_190 n) r := by
  obtain ⟨hlt, hx, hb, hml, hown, hts, hN, hA, hK⟩ := id C
  intro x1 x3 x4 s0 H locs ls h hP hD hS hl
  unfold df_X14_entry_190 at h
  refine lv_iload_n hx hb dX14_entry_190 rfl (lv_at hl 2 rfl) ?_
  refine lv_if_le (tgt := 200) hx hb dX14_entry_191 (by decide) (fun c22 => ?_) (fun c22 => ?_)
  · have h := nd_pos h c22
    exact (db_X14_entry_200 C K) (x1) (x3) (x4) s0 _ _ _ h hP hD hS (lv_sub hl [0, 1, 2, 3] rfl)
  · have h := nd_neg h c22
    refine lv_aload_n hx hb dX14_entry_194 rfl (lv_at hl 0 rfl) ?_
    refine lv_iload_n hx hb dX14_entry_195 rfl (lv_at hl 2 rfl) ?_
    refine lv_i2l hx hb dX14_entry_196 rfl ?_
    obtain ⟨s50, hq, h⟩ := nd_b1_e h
    have hPc := hP
    have hDc := hD
    have hKc := hK
    have hFc := nd_rs hD hS hA
    refine nd_cVv (As := [.long (x3.toInt64)]) (rest := []) (w' := dw_X14 a ac s50) ⟨hx, hb, hml, hown, hts⟩ (fun sz => dm_X14_varint l hlt dC dI a ac n ((x3.toInt64)) s0 hq sz) (cwV 1 hts gi_dm_X14_entry_1 rfl rfl rfl (by decide +kernel) ⟨Nat.le_of_ble_eq_true rfl, Nat.le_of_ble_eq_true rfl⟩) hPc hDc hKc hS hA hN (va_recv hKc hPc (ci := 15) (q0 := 0) rfl rfl) rfl hl.1 rfl (Nat.le_of_ble_eq_true rfl) dX14_entry_197 (fun H locs hP1 hD1 hk1 hS => ?_)
    have hP := hP1
    have hD := hD1.weaken (fun k q _ h => hFc q.1 h)
    exact (db_X14_entry_200 C K) (x1) (x3) (x4) s50 _ _ _ h hP hD hS (lv_sub hl [0, 1, 2, 3] rfl)
set_option maxHeartbeats 40000000 in
set_option maxRecDepth 100000 in
theorem db_X14_entry_167 {p : Program} {l : Launch} {e : Env} {s : State} {m : MethodId} {args : Array Value} {below : List Frame} {meth : Method} {c : Code} {Q : State → Prop} {A : Nat → Prop} {dC : Nat → ClassId} {dI : Nat → Nat → Nat} {a : Nat → Nat} {ac : Nat → ClassId} {n : Nat} {r : St} (C : nd_C p l s m args c A (dC, dI) cX14_entry 8 RX14 ow_dm_X14_entry (dk_X14 ac)) (K : nd_Kv p l e (headSpec ow_dm_X14_entry ({ frames := 2, cells := 0, slots := 0, locals := 45 })).room s m args below meth c Q A (dC, dI) cX14_entry (St) (dw_X14 a ac) r) : dj_X14_entry_167 p l e s m args below meth c Q A dC dI a ac (df_X14_entry_167 n) r := by
  obtain ⟨hlt, hx, hb, hml, hown, hts, hN, hA, hK⟩ := id C
  intro x1 x2 x3 x4 x5 y1 y2 s0 H locs ls h hP hD hS hl
  unfold df_X14_entry_167 at h
  refine lv_ior hx hb dX14_entry_167 ?_
  refine lv_iload hx hb dX14_entry_168 (lv_at hl 5 rfl) ?_
  refine lv_iconst (v := 4) hx hb dX14_entry_170 (by decide) ?_
  refine lv_ishl hx hb dX14_entry_171 ?_
  refine lv_ior hx hb dX14_entry_172 ?_
  obtain ⟨s19, hq, h⟩ := nd_b1_e h
  have hPc := hP
  have hDc := hD
  have hKc := hK
  have hFc := nd_rs hD hS hA
  refine nd_cVv (As := [.int ((y1 ||| y2) ||| ((x5 : Int32) <<< ((4 : Int32) &&& 31)))]) (rest := []) (w' := dw_X14 a ac s19) ⟨hx, hb, hml, hown, hts⟩ (fun sz => dm_X14_put l hlt dC dI a ac n (((y1 ||| y2) ||| ((x5 : Int32) <<< ((4 : Int32) &&& 31)))) s0 hq sz) (cwV 1 hts gi_dm_X14_entry_0 rfl rfl rfl (by decide +kernel) ⟨Nat.le_of_ble_eq_true rfl, Nat.le_of_ble_eq_true rfl⟩) hPc hDc hKc hS hA hN (va_recv hKc hPc (ci := 15) (q0 := 0) rfl rfl) rfl hl.1 rfl (Nat.le_of_ble_eq_true rfl) dX14_entry_173 (fun H locs hP1 hD1 hk1 hS => ?_)
  have hP := hP1
  have hD := hD1.weaken (fun k q _ h => hFc q.1 h)
  refine lv_iload_n hx hb dX14_entry_176 rfl (lv_at hl 2 rfl) ?_
  refine lv_if_ne (tgt := 190) hx hb dX14_entry_177 (by decide) (fun c21 => ?_) (fun c21 => ?_)
  · have h := nd_neg h c21
    exact (db_X14_entry_190 C K) (x1) (x3) (x4) s19 _ _ _ h hP hD hS (lv_sub hl [0, 1, 3, 4] rfl)
  · have h := nd_pos h c21
    refine lv_aload_n hx hb dX14_entry_180 rfl (lv_at hl 0 rfl) ?_
    refine lv_aload_n hx hb dX14_entry_181 rfl (lv_at hl 0 rfl) ?_
    refine va_get (D := (dC, dI)) (ci := 15) (v := .ref (a 3)) (C := RX14) (T := TX14) (N := 11) hx hb hts hi_dm_X14_entry_X14 hown hK hP 0 rfl rfl 3 (by decide) (hts (.fieldLink RX14 16 "TimeMachineModel$Codec" "difference" "[J") (List.mem_of_getElem? (i := 1) rfl)) (fun _ h9 => h9) rfl dX14_entry_182 ?_
    refine lv_iload_n hx hb dX14_entry_185 rfl (lv_at hl 1 rfl) ?_
    obtain ⟨i52, h⟩ := nd_ck_e h
    refine va_lald (i := x1) hx hb hK hP 3 2 rfl rfl i52 dX14_entry_186 ?_
    obtain ⟨s54, hq, h⟩ := nd_b1_e h
    have hPc := hP
    have hDc := hD
    have hKc := hK
    have hFc := nd_rs hD hS hA
    refine nd_cVv (As := [.long (sQ s19 0 (Int32.toNatClampNeg x1))]) (rest := []) (w' := dw_X14 a ac s54) ⟨hx, hb, hml, hown, hts⟩ (fun sz => dm_X14_varint l hlt dC dI a ac n ((sQ s19 0 (Int32.toNatClampNeg x1))) s19 hq sz) (cwV 1 hts gi_dm_X14_entry_1 rfl rfl rfl (by decide +kernel) ⟨Nat.le_of_ble_eq_true rfl, Nat.le_of_ble_eq_true rfl⟩) hPc hDc hKc hS hA hN (va_recv hKc hPc (ci := 15) (q0 := 0) rfl rfl) rfl hl.1 rfl (Nat.le_of_ble_eq_true rfl) dX14_entry_187 (fun H locs hP1 hD1 hk1 hS => ?_)
    have hP := hP1
    have hD := hD1.weaken (fun k q _ h => hFc q.1 h)
    exact (db_X14_entry_190 C K) (x1) (x3) (x4) s54 _ _ _ h hP hD hS (lv_sub hl [0, 1, 3, 4] rfl)
set_option maxHeartbeats 40000000 in
set_option maxRecDepth 100000 in
theorem db_X14_entry_148 {p : Program} {l : Launch} {e : Env} {s : State} {m : MethodId} {args : Array Value} {below : List Frame} {meth : Method} {c : Code} {Q : State → Prop} {A : Nat → Prop} {dC : Nat → ClassId} {dI : Nat → Nat → Nat} {a : Nat → Nat} {ac : Nat → ClassId} {n : Nat} {r : St} (C : nd_C p l s m args c A (dC, dI) cX14_entry 8 RX14 ow_dm_X14_entry (dk_X14 ac)) (K : nd_Kv p l e (headSpec ow_dm_X14_entry ({ frames := 2, cells := 0, slots := 0, locals := 45 })).room s m args below meth c Q A (dC, dI) cX14_entry (St) (dw_X14 a ac) r) : dj_X14_entry_148 p l e s m args below meth c Q A dC dI a ac (df_X14_entry_148 n) r := by
  obtain ⟨hlt, hx, hb, hml, hown, hts, hN, hA, hK⟩ := id C
  intro x1 x2 x3 x4 y0 s0 H locs ls h hP hD hS hl
  unfold df_X14_entry_148 at h
  refine lv_istore (lv' := [(5, .int y0), (0, .ref (a 0)), (1, .int x1), (2, .int x2), (3, .int x3), (4, .int x4)]) hx hb dX14_entry_148 hl (by decide) rfl (fun ls hl => ?_)
  refine lv_aload_n hx hb dX14_entry_150 rfl (lv_at hl 1 rfl) ?_
  refine lv_aload_n hx hb dX14_entry_151 rfl (lv_at hl 1 rfl) ?_
  refine va_get (D := (dC, dI)) (ci := 15) (v := .ref (a 1)) (C := RX14) (T := TX14) (N := 11) hx hb hts hi_dm_X14_entry_X14 hown hK hP 0 rfl rfl 1 (by decide) (hts (.fieldLink RX14 9 "TimeMachineModel$Codec" "kind" "[I") (List.mem_of_getElem? (i := 2) rfl)) (fun _ h9 => h9) rfl dX14_entry_152 ?_
  refine lv_iload_n hx hb dX14_entry_155 rfl (lv_at hl 2 rfl) ?_
  obtain ⟨i16, h⟩ := nd_ck_e h
  refine va_iald (i := x1) hx hb hK hP 1 0 rfl rfl i16 dX14_entry_156 ?_
  refine lv_iload_n hx hb dX14_entry_157 rfl (lv_at hl 3 rfl) ?_
  refine lv_if_eq (tgt := 166) hx hb dX14_entry_158 (by decide) (fun c17 => ?_) (fun c17 => ?_)
  · have h := nd_pos h c17
    refine lv_iconst (v := 0) hx hb dX14_entry_166 (by decide) ?_
    exact (db_X14_entry_167 C K) (x1) (x2) (x3) (x4) (y0) ((sR s0 0 (Int32.toNatClampNeg x1))) (0) s0 _ _ _ h hP hD hS (lv_sub hl [1, 2, 3, 4, 5, 0] rfl)
  · have h := nd_neg h c17
    refine lv_bipush (v := 8) hx hb dX14_entry_161 (by decide) ?_
    refine lv_goto (tgt := 167) hx hb dX14_entry_163 (by decide) ?_
    exact (db_X14_entry_167 C K) (x1) (x2) (x3) (x4) (y0) ((sR s0 0 (Int32.toNatClampNeg x1))) (8) s0 _ _ _ h hP hD hS (lv_sub hl [1, 2, 3, 4, 5, 0] rfl)
set_option maxHeartbeats 40000000 in
set_option maxRecDepth 100000 in
theorem db_X14_entry_75 {p : Program} {l : Launch} {e : Env} {s : State} {m : MethodId} {args : Array Value} {below : List Frame} {meth : Method} {c : Code} {Q : State → Prop} {A : Nat → Prop} {dC : Nat → ClassId} {dI : Nat → Nat → Nat} {a : Nat → Nat} {ac : Nat → ClassId} {n : Nat} {r : St} (C : nd_C p l s m args c A (dC, dI) cX14_entry 8 RX14 ow_dm_X14_entry (dk_X14 ac)) (K : nd_Kv p l e (headSpec ow_dm_X14_entry ({ frames := 2, cells := 0, slots := 0, locals := 45 })).room s m args below meth c Q A (dC, dI) cX14_entry (St) (dw_X14 a ac) r) : dj_X14_entry_75 p l e s m args below meth c Q A dC dI a ac (df_X14_entry_75 n) r := by
  obtain ⟨hlt, hx, hb, hml, hown, hts, hN, hA, hK⟩ := id C
  intro x1 x2 x3 y0 s0 H locs ls h hP hD hS hl
  unfold df_X14_entry_75 at h
  refine lv_istore (lv' := [(4, .int y0), (0, .ref (a 0)), (1, .int x1), (2, .int x2), (3, .int x3)]) hx hb dX14_entry_75 hl (by decide) rfl (fun ls hl => ?_)
  refine lv_aload_n hx hb dX14_entry_77 rfl (lv_at hl 1 rfl) ?_
  refine va_get (D := (dC, dI)) (ci := 15) (v := .ref (a 1)) (C := RX14) (T := TX14) (N := 11) hx hb hts hi_dm_X14_entry_X14 hown hK hP 0 rfl rfl 1 (by decide) (hts (.fieldLink RX14 9 "TimeMachineModel$Codec" "kind" "[I") (List.mem_of_getElem? (i := 2) rfl)) (fun _ h9 => h9) rfl dX14_entry_78 ?_
  refine lv_iload_n hx hb dX14_entry_81 rfl (lv_at hl 2 rfl) ?_
  obtain ⟨i9, h⟩ := nd_ck_e h
  refine va_iald (i := x1) hx hb hK hP 1 0 rfl rfl i9 dX14_entry_82 ?_
  refine lv_iconst (v := 1) hx hb dX14_entry_83 (by decide) ?_
  refine lv_icmp_ne (tgt := 104) hx hb dX14_entry_84 (by decide) (fun c10 => ?_) (fun c10 => ?_)
  · have h := nd_neg h c10
    refine lv_aload_n hx hb dX14_entry_104 rfl (lv_at hl 1 rfl) ?_
    refine va_get (D := (dC, dI)) (ci := 15) (v := .ref (a 1)) (C := RX14) (T := TX14) (N := 11) hx hb hts hi_dm_X14_entry_X14 hown hK hP 0 rfl rfl 1 (by decide) (hts (.fieldLink RX14 9 "TimeMachineModel$Codec" "kind" "[I") (List.mem_of_getElem? (i := 2) rfl)) (fun _ h9 => h9) rfl dX14_entry_105 ?_
    refine lv_iload_n hx hb dX14_entry_108 rfl (lv_at hl 2 rfl) ?_
    obtain ⟨i11, h⟩ := nd_ck_e h
    refine va_iald (i := x1) hx hb hK hP 1 0 rfl rfl i11 dX14_entry_109 ?_
    refine lv_iconst (v := 3) hx hb dX14_entry_110 (by decide) ?_
    refine lv_icmp_ne (tgt := 127) hx hb dX14_entry_111 (by decide) (fun c12 => ?_) (fun c12 => ?_)
    · have h := nd_neg h c12
      refine lv_aload_n hx hb dX14_entry_127 rfl (lv_at hl 1 rfl) ?_
      refine va_get (D := (dC, dI)) (ci := 15) (v := .ref (a 1)) (C := RX14) (T := TX14) (N := 11) hx hb hts hi_dm_X14_entry_X14 hown hK hP 0 rfl rfl 1 (by decide) (hts (.fieldLink RX14 9 "TimeMachineModel$Codec" "kind" "[I") (List.mem_of_getElem? (i := 2) rfl)) (fun _ h9 => h9) rfl dX14_entry_128 ?_
      refine lv_iload_n hx hb dX14_entry_131 rfl (lv_at hl 2 rfl) ?_
      obtain ⟨i13, h⟩ := nd_ck_e h
      refine va_iald (i := x1) hx hb hK hP 1 0 rfl rfl i13 dX14_entry_132 ?_
      refine lv_iconst (v := 4) hx hb dX14_entry_133 (by decide) ?_
      refine lv_icmp_ne (tgt := 141) hx hb dX14_entry_134 (by decide) (fun c14 => ?_) (fun c14 => ?_)
      · have h := nd_neg h c14
        refine lv_aload_n hx hb dX14_entry_141 rfl (lv_at hl 1 rfl) ?_
        refine va_get (D := (dC, dI)) (ci := 15) (v := .ref (a 4)) (C := RX14) (T := TX14) (N := 11) hx hb hts hi_dm_X14_entry_X14 hown hK hP 0 rfl rfl 4 (by decide) (hts (.fieldLink RX14 20 "TimeMachineModel$Codec" "a" "[J") (List.mem_of_getElem? (i := 3) rfl)) (fun _ h9 => h9) rfl dX14_entry_142 ?_
        refine lv_iload_n hx hb dX14_entry_145 rfl (lv_at hl 2 rfl) ?_
        obtain ⟨i15, h⟩ := nd_ck_e h
        refine va_lald (i := x1) hx hb hK hP 4 3 rfl rfl i15 dX14_entry_146 ?_
        refine lv_l2i hx hb dX14_entry_147 rfl ?_
        exact (db_X14_entry_148 C K) (x1) (x2) (x3) (y0) (((sQ s0 1 (Int32.toNatClampNeg x1)).toInt32)) s0 _ _ _ h hP hD hS (lv_sub hl [1, 2, 3, 4, 0] rfl)
      · have h := nd_pos h c14
        refine lv_iconst (v := 0) hx hb dX14_entry_137 (by decide) ?_
        refine lv_goto (tgt := 148) hx hb dX14_entry_138 (by decide) ?_
        exact (db_X14_entry_148 C K) (x1) (x2) (x3) (y0) (0) s0 _ _ _ h hP hD hS (lv_sub hl [1, 2, 3, 4, 0] rfl)
    · have h := nd_pos h c12
      refine lv_iload hx hb dX14_entry_114 (lv_at hl 0 rfl) ?_
      refine lv_if_eq (tgt := 123) hx hb dX14_entry_116 (by decide) (fun c56 => ?_) (fun c56 => ?_)
      · have h := nd_pos h c56
        refine lv_iconst (v := 0) hx hb dX14_entry_123 (by decide) ?_
        refine lv_goto (tgt := 148) hx hb dX14_entry_124 (by decide) ?_
        exact (db_X14_entry_148 C K) (x1) (x2) (x3) (y0) (0) s0 _ _ _ h hP hD hS (lv_sub hl [1, 2, 3, 4, 0] rfl)
      · have h := nd_neg h c56
        refine lv_iconst (v := 1) hx hb dX14_entry_119 (by decide) ?_
        refine lv_goto (tgt := 148) hx hb dX14_entry_120 (by decide) ?_
        exact (db_X14_entry_148 C K) (x1) (x2) (x3) (y0) (1) s0 _ _ _ h hP hD hS (lv_sub hl [1, 2, 3, 4, 0] rfl)
  · have h := nd_pos h c10
    refine lv_iload_n hx hb dX14_entry_87 rfl (lv_at hl 4 rfl) ?_
    refine lv_if_le (tgt := 95) hx hb dX14_entry_88 (by decide) (fun c57 => ?_) (fun c57 => ?_)
    · have h := nd_pos h c57
      refine lv_aload_n hx hb dX14_entry_95 rfl (lv_at hl 1 rfl) ?_
      refine va_get (D := (dC, dI)) (ci := 15) (v := .ref (a 2)) (C := RX14) (T := TX14) (N := 11) hx hb hts hi_dm_X14_entry_X14 hown hK hP 0 rfl rfl 2 (by decide) (hts (.fieldLink RX14 13 "TimeMachineModel$Codec" "b" "[I") (List.mem_of_getElem? (i := 8) rfl)) (fun _ h9 => h9) rfl dX14_entry_96 ?_
      refine lv_iload_n hx hb dX14_entry_99 rfl (lv_at hl 2 rfl) ?_
      obtain ⟨i58, h⟩ := nd_ck_e h
      refine va_iald (i := x1) hx hb hK hP 2 1 rfl rfl i58 dX14_entry_100 ?_
      refine lv_goto (tgt := 148) hx hb dX14_entry_101 (by decide) ?_
      exact (db_X14_entry_148 C K) (x1) (x2) (x3) (y0) ((sR s0 1 (Int32.toNatClampNeg x1))) s0 _ _ _ h hP hD hS (lv_sub hl [1, 2, 3, 4, 0] rfl)
    · have h := nd_neg h c57
      refine lv_iconst (v := 0) hx hb dX14_entry_91 (by decide) ?_
      refine lv_goto (tgt := 148) hx hb dX14_entry_92 (by decide) ?_
      exact (db_X14_entry_148 C K) (x1) (x2) (x3) (y0) (0) s0 _ _ _ h hP hD hS (lv_sub hl [1, 2, 3, 4, 0] rfl)
set_option maxHeartbeats 40000000 in
set_option maxRecDepth 100000 in
theorem db_X14_entry_74 {p : Program} {l : Launch} {e : Env} {s : State} {m : MethodId} {args : Array Value} {below : List Frame} {meth : Method} {c : Code} {Q : State → Prop} {A : Nat → Prop} {dC : Nat → ClassId} {dI : Nat → Nat → Nat} {a : Nat → Nat} {ac : Nat → ClassId} {n : Nat} {r : St} (C : nd_C p l s m args c A (dC, dI) cX14_entry 8 RX14 ow_dm_X14_entry (dk_X14 ac)) (K : nd_Kv p l e (headSpec ow_dm_X14_entry ({ frames := 2, cells := 0, slots := 0, locals := 45 })).room s m args below meth c Q A (dC, dI) cX14_entry (St) (dw_X14 a ac) r) : dj_X14_entry_74 p l e s m args below meth c Q A dC dI a ac (df_X14_entry_74 n) r := by
  obtain ⟨hlt, hx, hb, hml, hown, hts, hN, hA, hK⟩ := id C
  intro x1 x2 x3 s0 H locs ls h hP hD hS hl
  unfold df_X14_entry_74 at h
  refine lv_iconst (v := 0) hx hb dX14_entry_74 (by decide) ?_
  exact (db_X14_entry_75 C K) (x1) (x2) (x3) (0) s0 _ _ _ h hP hD hS (lv_sub hl [0, 1, 2, 3] rfl)
set_option maxHeartbeats 40000000 in
set_option maxRecDepth 100000 in
theorem db_X14_entry_51 {p : Program} {l : Launch} {e : Env} {s : State} {m : MethodId} {args : Array Value} {below : List Frame} {meth : Method} {c : Code} {Q : State → Prop} {A : Nat → Prop} {dC : Nat → ClassId} {dI : Nat → Nat → Nat} {a : Nat → Nat} {ac : Nat → ClassId} {n : Nat} {r : St} (C : nd_C p l s m args c A (dC, dI) cX14_entry 8 RX14 ow_dm_X14_entry (dk_X14 ac)) (K : nd_Kv p l e (headSpec ow_dm_X14_entry ({ frames := 2, cells := 0, slots := 0, locals := 45 })).room s m args below meth c Q A (dC, dI) cX14_entry (St) (dw_X14 a ac) r) : dj_X14_entry_51 p l e s m args below meth c Q A dC dI a ac (df_X14_entry_51 n) r := by
  obtain ⟨hlt, hx, hb, hml, hown, hts, hN, hA, hK⟩ := id C
  intro x1 x2 y0 s0 H locs ls h hP hD hS hl
  unfold df_X14_entry_51 at h
  refine lv_istore_n (lv' := [(3, .int y0), (0, .ref (a 0)), (1, .int x1), (2, .int x2)]) hx hb dX14_entry_51 rfl hl (by decide) rfl (fun ls hl => ?_)
  refine lv_aload_n hx hb dX14_entry_52 rfl (lv_at hl 1 rfl) ?_
  refine va_get (D := (dC, dI)) (ci := 15) (v := .ref (a 1)) (C := RX14) (T := TX14) (N := 11) hx hb hts hi_dm_X14_entry_X14 hown hK hP 0 rfl rfl 1 (by decide) (hts (.fieldLink RX14 9 "TimeMachineModel$Codec" "kind" "[I") (List.mem_of_getElem? (i := 2) rfl)) (fun _ h9 => h9) rfl dX14_entry_53 ?_
  refine lv_iload_n hx hb dX14_entry_56 rfl (lv_at hl 2 rfl) ?_
  obtain ⟨i7, h⟩ := nd_ck_e h
  refine va_iald (i := x1) hx hb hK hP 1 0 rfl rfl i7 dX14_entry_57 ?_
  refine lv_iconst (v := 3) hx hb dX14_entry_58 (by decide) ?_
  refine lv_icmp_ne (tgt := 74) hx hb dX14_entry_59 (by decide) (fun c8 => ?_) (fun c8 => ?_)
  · have h := nd_neg h c8
    exact (db_X14_entry_74 C K) (x1) (x2) (y0) s0 _ _ _ h hP hD hS (lv_sub hl [1, 2, 3, 0] rfl)
  · have h := nd_pos h c8
    refine lv_aload_n hx hb dX14_entry_62 rfl (lv_at hl 1 rfl) ?_
    refine lv_iload_n hx hb dX14_entry_63 rfl (lv_at hl 2 rfl) ?_
    obtain ⟨q59, s60, hq, h⟩ := nd_b2_e h
    have hPc := hP
    have hDc := hD
    have hKc := hK
    have hFc := nd_rs hD hS hA
    refine nd_cVi (As := [.int x1]) (rest := []) (q := q59) (w' := dw_X14 a ac s60) ⟨hx, hb, hml, hown, hts⟩ (fun sz => dm_X14_isAsFar l hlt dC dI a ac n (x1) s0 hq sz) (cwV 1 hts gi_dm_X14_entry_2 rfl rfl rfl (by decide +kernel) ⟨Nat.le_of_ble_eq_true rfl, Nat.le_of_ble_eq_true rfl⟩) hPc hDc hKc hS hA hN (va_recv hKc hPc (ci := 15) (q0 := 0) rfl rfl) rfl hl.1 rfl (Nat.le_of_ble_eq_true rfl) dX14_entry_64 (fun H locs hP1 hD1 hk1 hS => ?_)
    have hP := hP1
    have hD := hD1.weaken (fun k q _ h => hFc q.1 h)
    refine lv_if_eq (tgt := 74) hx hb dX14_entry_67 (by decide) (fun c62 => ?_) (fun c62 => ?_)
    · have h := nd_pos h c62
      exact (db_X14_entry_74 C K) (x1) (x2) (y0) s60 _ _ _ h hP hD hS (lv_sub hl [1, 2, 3, 0] rfl)
    · have h := nd_neg h c62
      refine lv_iconst (v := 1) hx hb dX14_entry_70 (by decide) ?_
      refine lv_goto (tgt := 75) hx hb dX14_entry_71 (by decide) ?_
      exact (db_X14_entry_75 C K) (x1) (x2) (y0) (1) s60 _ _ _ h hP hD hS (lv_sub hl [1, 2, 3, 0] rfl)
set_option maxHeartbeats 40000000 in
set_option maxRecDepth 100000 in
theorem db_X14_entry_31 {p : Program} {l : Launch} {e : Env} {s : State} {m : MethodId} {args : Array Value} {below : List Frame} {meth : Method} {c : Code} {Q : State → Prop} {A : Nat → Prop} {dC : Nat → ClassId} {dI : Nat → Nat → Nat} {a : Nat → Nat} {ac : Nat → ClassId} {n : Nat} {r : St} (C : nd_C p l s m args c A (dC, dI) cX14_entry 8 RX14 ow_dm_X14_entry (dk_X14 ac)) (K : nd_Kv p l e (headSpec ow_dm_X14_entry ({ frames := 2, cells := 0, slots := 0, locals := 45 })).room s m args below meth c Q A (dC, dI) cX14_entry (St) (dw_X14 a ac) r) : dj_X14_entry_31 p l e s m args below meth c Q A dC dI a ac (df_X14_entry_31 n) r := by
  obtain ⟨hlt, hx, hb, hml, hown, hts, hN, hA, hK⟩ := id C
  intro x1 y0 s0 H locs ls h hP hD hS hl
  unfold df_X14_entry_31 at h
  refine lv_istore_n (lv' := [(2, .int y0), (0, .ref (a 0)), (1, .int x1)]) hx hb dX14_entry_31 rfl hl (by decide) rfl (fun ls hl => ?_)
  refine lv_aload_n hx hb dX14_entry_32 rfl (lv_at hl 1 rfl) ?_
  refine va_get (D := (dC, dI)) (ci := 15) (v := .ref (a 1)) (C := RX14) (T := TX14) (N := 11) hx hb hts hi_dm_X14_entry_X14 hown hK hP 0 rfl rfl 1 (by decide) (hts (.fieldLink RX14 9 "TimeMachineModel$Codec" "kind" "[I") (List.mem_of_getElem? (i := 2) rfl)) (fun _ h9 => h9) rfl dX14_entry_33 ?_
  refine lv_iload_n hx hb dX14_entry_36 rfl (lv_at hl 2 rfl) ?_
  obtain ⟨i5, h⟩ := nd_ck_e h
  refine va_iald (i := x1) hx hb hK hP 1 0 rfl rfl i5 dX14_entry_37 ?_
  refine lv_iconst (v := 1) hx hb dX14_entry_38 (by decide) ?_
  refine lv_icmp_ne (tgt := 50) hx hb dX14_entry_39 (by decide) (fun c6 => ?_) (fun c6 => ?_)
  · have h := nd_neg h c6
    refine lv_iconst (v := 0) hx hb dX14_entry_50 (by decide) ?_
    exact (db_X14_entry_51 C K) (x1) (y0) (0) s0 _ _ _ h hP hD hS (lv_sub hl [1, 2, 0] rfl)
  · have h := nd_pos h c6
    refine lv_aload_n hx hb dX14_entry_42 rfl (lv_at hl 1 rfl) ?_
    refine lv_iload_n hx hb dX14_entry_43 rfl (lv_at hl 2 rfl) ?_
    obtain ⟨q63, s64, hq, h⟩ := nd_b2_e h
    have hPc := hP
    have hDc := hD
    have hKc := hK
    have hFc := nd_rs hD hS hA
    refine nd_cVi (As := [.int x1]) (rest := []) (q := q63) (w' := dw_X14 a ac s64) ⟨hx, hb, hml, hown, hts⟩ (fun sz => dm_X14_copyOf l hlt dC dI a ac n (x1) s0 hq sz) (cwV 1 hts gi_dm_X14_entry_3 rfl rfl rfl (by decide +kernel) ⟨Nat.le_of_ble_eq_true rfl, Nat.le_of_ble_eq_true rfl⟩) hPc hDc hKc hS hA hN (va_recv hKc hPc (ci := 15) (q0 := 0) rfl rfl) rfl hl.1 rfl (Nat.le_of_ble_eq_true rfl) dX14_entry_44 (fun H locs hP1 hD1 hk1 hS => ?_)
    have hP := hP1
    have hD := hD1.weaken (fun k q _ h => hFc q.1 h)
    refine lv_goto (tgt := 51) hx hb dX14_entry_47 (by decide) ?_
    exact (db_X14_entry_51 C K) (x1) (y0) (q63) s64 _ _ _ h hP hD hS (lv_sub hl [1, 2, 0] rfl)
set_option maxHeartbeats 40000000 in
set_option maxRecDepth 100000 in
theorem db_X14_entry_22 {p : Program} {l : Launch} {e : Env} {s : State} {m : MethodId} {args : Array Value} {below : List Frame} {meth : Method} {c : Code} {Q : State → Prop} {A : Nat → Prop} {dC : Nat → ClassId} {dI : Nat → Nat → Nat} {a : Nat → Nat} {ac : Nat → ClassId} {n : Nat} {r : St} (C : nd_C p l s m args c A (dC, dI) cX14_entry 8 RX14 ow_dm_X14_entry (dk_X14 ac)) (K : nd_Kv p l e (headSpec ow_dm_X14_entry ({ frames := 2, cells := 0, slots := 0, locals := 45 })).room s m args below meth c Q A (dC, dI) cX14_entry (St) (dw_X14 a ac) r) : dj_X14_entry_22 p l e s m args below meth c Q A dC dI a ac (df_X14_entry_22 n) r := by
  obtain ⟨hlt, hx, hb, hml, hown, hts, hN, hA, hK⟩ := id C
  intro x1 y0 y1 s0 H locs ls h hP hD hS hl
  unfold df_X14_entry_22 at h
  refine W.lcmp hx hb dX14_entry_22 ?_
  refine lv_if_ne (tgt := 30) hx hb dX14_entry_23 (by decide) (fun c4 => ?_) (fun c4 => ?_)
  · have h := nd_neg h c4
    refine lv_iconst (v := 0) hx hb dX14_entry_30 (by decide) ?_
    exact (db_X14_entry_31 C K) (x1) (0) s0 _ _ _ h hP hD hS (lv_sub hl [0, 1] rfl)
  · have h := nd_pos h c4
    refine lv_iconst (v := 1) hx hb dX14_entry_26 (by decide) ?_
    refine lv_goto (tgt := 31) hx hb dX14_entry_27 (by decide) ?_
    exact (db_X14_entry_31 C K) (x1) (1) s0 _ _ _ h hP hD hS (lv_sub hl [0, 1] rfl)
set_option maxHeartbeats 40000000 in
set_option maxRecDepth 100000 in
theorem db_X14_entry_0 {p : Program} {l : Launch} {e : Env} {s : State} {m : MethodId} {args : Array Value} {below : List Frame} {meth : Method} {c : Code} {Q : State → Prop} {A : Nat → Prop} {dC : Nat → ClassId} {dI : Nat → Nat → Nat} {a : Nat → Nat} {ac : Nat → ClassId} {n : Nat} {r : St} (C : nd_C p l s m args c A (dC, dI) cX14_entry 8 RX14 ow_dm_X14_entry (dk_X14 ac)) (K : nd_Kv p l e (headSpec ow_dm_X14_entry ({ frames := 2, cells := 0, slots := 0, locals := 45 })).room s m args below meth c Q A (dC, dI) cX14_entry (St) (dw_X14 a ac) r) : dj_X14_entry_0 p l e s m args below meth c Q A dC dI a ac (df_X14_entry_0 n) r := by
  obtain ⟨hlt, hx, hb, hml, hown, hts, hN, hA, hK⟩ := id C
  intro v0 s0 H locs ls h hP hD hS hl
  unfold df_X14_entry_0 at h
  refine lv_aload_n hx hb dX14_entry_0 rfl (lv_at hl 0 rfl) ?_
  refine va_get (D := (dC, dI)) (ci := 15) (v := .ref (a 3)) (C := RX14) (T := TX14) (N := 11) hx hb hts hi_dm_X14_entry_X14 hown hK hP 0 rfl rfl 3 (by decide) (hts (.fieldLink RX14 16 "TimeMachineModel$Codec" "difference" "[J") (List.mem_of_getElem? (i := 1) rfl)) (fun _ h9 => h9) rfl dX14_entry_1 ?_
  refine lv_iload_n hx hb dX14_entry_4 rfl (lv_at hl 1 rfl) ?_
  obtain ⟨i1, h⟩ := nd_ck_e h
  refine va_lald (i := v0) hx hb hK hP 3 2 rfl rfl i1 dX14_entry_5 ?_
  refine lv_iload_n hx hb dX14_entry_6 rfl (lv_at hl 1 rfl) ?_
  refine lv_if_ne (tgt := 14) hx hb dX14_entry_7 (by decide) (fun c2 => ?_) (fun c2 => ?_)
  · have h := nd_neg h c2
    refine lv_aload_n hx hb dX14_entry_14 rfl (lv_at hl 0 rfl) ?_
    refine va_get (D := (dC, dI)) (ci := 15) (v := .ref (a 3)) (C := RX14) (T := TX14) (N := 11) hx hb hts hi_dm_X14_entry_X14 hown hK hP 0 rfl rfl 3 (by decide) (hts (.fieldLink RX14 16 "TimeMachineModel$Codec" "difference" "[J") (List.mem_of_getElem? (i := 1) rfl)) (fun _ h9 => h9) rfl dX14_entry_15 ?_
    refine lv_iload_n hx hb dX14_entry_18 rfl (lv_at hl 1 rfl) ?_
    refine lv_iconst (v := 1) hx hb dX14_entry_19 (by decide) ?_
    refine lv_isub hx hb dX14_entry_20 ?_
    obtain ⟨i3, h⟩ := nd_ck_e h
    refine va_lald (i := (v0 - 1)) hx hb hK hP 3 2 rfl rfl i3 dX14_entry_21 ?_
    exact (db_X14_entry_22 C K) (v0) ((sQ s0 0 (Int32.toNatClampNeg v0))) ((sQ s0 0 (Int32.toNatClampNeg (v0 - 1)))) s0 _ _ _ h hP hD hS (lv_sub hl [0, 1] rfl)
  · have h := nd_pos h c2
    refine lv_lconst (v := 0) hx hb dX14_entry_10 (by decide) ?_
    refine lv_goto (tgt := 22) hx hb dX14_entry_11 (by decide) ?_
    exact (db_X14_entry_22 C K) (v0) ((sQ s0 0 (Int32.toNatClampNeg v0))) (0) s0 _ _ _ h hP hD hS (lv_sub hl [0, 1] rfl)
set_option maxHeartbeats 40000000 in
set_option maxRecDepth 100000 in
theorem dm_X14_entry (l : Launch) (hlt : l.stackTraces = false) (dC : Nat → ClassId) (dI : Nat → Nat → Nat) (a : Nat → Nat) (ac : Nat → ClassId) (n : Nat) (v0 : Int32) (s0 : St) {r : St} (h : df_X14_entry n v0 s0 = some r) (sz : Nat) : Met l yX14_entry ow_dm_X14_entry ({ frames := 2, cells := 0, slots := 0, locals := 45 }) (va_Pc [.ref (a 0), .int v0] (fun U => U.heap.size = sz ∧ va_P (dC, dI) vwCl (dw_X14 a ac s0) U.heap ∧ va_K (dC, dI) vwCl (dk_X14 ac) U ∧ va_D (fun _ => True) (dw_X14 a ac s0) ∧ nv_E dI (va_A (dw_X14 a ac s0) sz) U)) (va_Qv (fun _ => True) (fun (_ : Unit) t => va_P (dC, dI) vwCl (dw_X14 a ac r) t.heap ∧ va_K (dC, dI) vwCl (dk_X14 ac) t ∧ va_D (va_A (dw_X14 a ac s0) sz) (dw_X14 a ac r)) (va_A (dw_X14 a ac s0) sz)) 0 0 (va_A (dw_X14 a ac s0) sz) := by
  refine Met.ofW (cc := cX14_entry) (maxL := 8) (ret := none) (by decide) rfl ?_
  intro p e s m args below meth c s₁ B hml hv
  obtain ⟨rfl, hsz, hP, hK, hD0, hN⟩ := hv
  have hx := B.exec
  have hb := B.bytes
  have hr := B.returns
  have hts := atoms_spec (ws := ow_dm_X14_entry) B.pre
  have hown : s.vm.findClass RX14 = some m.cls := findClass_of_methodNamed B.named
  have hlocks := B.notSynchronized
  subst hsz
  have hD := hD0.self (sz := s.heap.size)
  generalize hAe : va_A (dw_X14 a ac s0) s.heap.size = A at hD hN ⊢
  have hA : ∀ q : Nat, s.heap.size ≤ q → A q := fun q h => by rw [← hAe]; exact Or.inr h
  have hl := lv_entry ([.ref (a 0), .int v0]) (n := 8) (Nat.le_of_ble_eq_true rfl)
  rw [lg_entry_eq]
  generalize (lg_sl ([.ref (a 0), .int v0]) ++ List.replicate (8 - (lg_sl ([.ref (a 0), .int v0])).length) Slot.unset).toArray = ls at hl ⊢
  have hl : lv_has ls 8 [(0, .ref (a 0)), (1, .int v0)] := hl
  exact db_X14_entry_0 (dC := dC) (dI := dI) (a := a) (ac := ac) (n := n) (r := r) ⟨hlt, hx, hb, hml, hown, hts, hN, hA, hK⟩ (fun pc τ H locs ls d er hP hD hS => by subst er; exact W.vret hx hb hr (fun t ht hW => ⟨⟨(), rfl, trivial, by rw [ht]; exact hP, va_K.moved hW.alike hK, hD⟩, hS.F ht⟩) hS.2.2 d) v0 s0 _ _ _ h hP hD va_S.rf (lv_sub hl [0, 1] rfl)
def ow_dm_X14_pack : List Cond := Cond.code yX14_pack cX14_pack 4 (some .int) :: ([Cond.fieldLink RX14 31 "TimeMachineModel$Codec" "size" "I", Cond.fieldLink RX14 27 "TimeMachineModel$Codec" "events" "I", Cond.methodLink RX14 44 yX14_varint, Cond.instanceMethod yX14_varint, Cond.selects RX14 yX14_varint yX14_varint, Cond.initialized RX14, Cond.methodLink RX14 56 yX14_isAlike, Cond.instanceMethod yX14_isAlike, Cond.selects RX14 yX14_isAlike yX14_isAlike, Cond.methodLink RX14 62 yX14_entry, Cond.instanceMethod yX14_entry, Cond.selects RX14 yX14_entry yX14_entry, Cond.methodLink RX14 59 yX14_run, Cond.instanceMethod yX14_run, Cond.selects RX14 yX14_run yX14_run] ++ (u_ws RX14 TX14 11 ++ (ow_dm_X14_varint ++ (ow_dm_X14_isAlike ++ (ow_dm_X14_entry ++ (ow_dm_X14_run ++ []))))))
theorem gd_dm_X14_pack : ∀ w ∈ ow_dm_X14_pack, (w.onTables && w.keeps) = true ∨ ∃ ty, w = Cond.arrayClass ty := List.forall_mem_cons.mpr ⟨good_of_word rfl, List.forall_mem_append.mpr ⟨fun w h => good_of_word (List.all_eq_true.mp (by decide +kernel) w h), List.forall_mem_append.mpr ⟨gu_X14, List.forall_mem_append.mpr ⟨gd_dm_X14_varint, List.forall_mem_append.mpr ⟨gd_dm_X14_isAlike, List.forall_mem_append.mpr ⟨gd_dm_X14_entry, List.forall_mem_append.mpr ⟨gd_dm_X14_run, fun _ h => nomatch h⟩⟩⟩⟩⟩⟩⟩
theorem hi_dm_X14_pack_X14 : ∀ w ∈ u_ws RX14 TX14 11, w ∈ ow_dm_X14_pack := fun w h => List.mem_cons_of_mem _ (List.mem_append_right _ (List.mem_append_left _ h))
theorem gi_dm_X14_pack_0 : GoodIn ow_dm_X14_pack (wsV RX14 44 RX14 yX14_varint ow_dm_X14_varint) := goodIn_app (goodIn_of _ (by decide +kernel)) (fun w h => ⟨List.mem_cons_of_mem _ (List.mem_append_right _ (List.mem_append_right _ (List.mem_append_left _ h))), gd_dm_X14_varint w h⟩)
theorem gi_dm_X14_pack_1 : GoodIn ow_dm_X14_pack (wsV RX14 56 RX14 yX14_isAlike ow_dm_X14_isAlike) := goodIn_app (goodIn_of _ (by decide +kernel)) (fun w h => ⟨List.mem_cons_of_mem _ (List.mem_append_right _ (List.mem_append_right _ (List.mem_append_right _ (List.mem_append_left _ h)))), gd_dm_X14_isAlike w h⟩)
theorem gi_dm_X14_pack_2 : GoodIn ow_dm_X14_pack (wsV RX14 62 RX14 yX14_entry ow_dm_X14_entry) := goodIn_app (goodIn_of _ (by decide +kernel)) (fun w h => ⟨List.mem_cons_of_mem _ (List.mem_append_right _ (List.mem_append_right _ (List.mem_append_right _ (List.mem_append_right _ (List.mem_append_left _ h))))), gd_dm_X14_entry w h⟩)
theorem gi_dm_X14_pack_3 : GoodIn ow_dm_X14_pack (wsV RX14 59 RX14 yX14_run ow_dm_X14_run) := goodIn_app (goodIn_of _ (by decide +kernel)) (fun w h => ⟨List.mem_cons_of_mem _ (List.mem_append_right _ (List.mem_append_right _ (List.mem_append_right _ (List.mem_append_right _ (List.mem_append_right _ (List.mem_append_left _ h)))))), gd_dm_X14_run w h⟩)
def dj_X14_pack_96 (p : Program) (l : Launch) (e : Env) (s : State) (m : MethodId) (args : Array Value) (below : List Frame) (meth : Method) (c : Code) (Q : State → Prop) (A : Nat → Prop) (dC : Nat → ClassId) (dI : Nat → Nat → Nat) (a : Nat → Nat) (ac : Nat → ClassId) (g : Int32 → Int32 → (St) → Option (Int32 × (St))) (r : Int32 × (St)) : Prop := ∀ (x1 : Int32) (x2 : Int32) (s0 : St) (H : Heap) (locs : List Loc) (ls : Array Slot), g x1 x2 s0 = some r → va_P (dC, dI) vwCl (dw_X14 a ac s0) H → va_D A (dw_X14 a ac s0) → va_S A s.heap H locs → lv_has ls 4 [(0, .ref (a 0)), (1, .int x1), (2, .int x2)] → W p l e (headSpec ow_dm_X14_pack ({ frames := 3, cells := 0, slots := 0, locals := 72 })).room s m args below meth c H locs 0 0 Q (F0 m 96 ls [])
def dj_X14_pack_79 (p : Program) (l : Launch) (e : Env) (s : State) (m : MethodId) (args : Array Value) (below : List Frame) (meth : Method) (c : Code) (Q : State → Prop) (A : Nat → Prop) (dC : Nat → ClassId) (dI : Nat → Nat → Nat) (a : Nat → Nat) (ac : Nat → ClassId) (g : Int32 → Int32 → (St) → Option (Int32 × (St))) (r : Int32 × (St)) : Prop := ∀ (x1 : Int32) (x2 : Int32) (s0 : St) (H : Heap) (locs : List Loc) (ls : Array Slot), g x1 x2 s0 = some r → va_P (dC, dI) vwCl (dw_X14 a ac s0) H → va_D A (dw_X14 a ac s0) → va_S A s.heap H locs → lv_has ls 4 [(0, .ref (a 0)), (1, .int x1), (2, .int x2)] → W p l e (headSpec ow_dm_X14_pack ({ frames := 3, cells := 0, slots := 0, locals := 72 })).room s m args below meth c H locs 0 0 Q (F0 m 79 ls [])
def dj_X14_pack_67 (p : Program) (l : Launch) (e : Env) (s : State) (m : MethodId) (args : Array Value) (below : List Frame) (meth : Method) (c : Code) (Q : State → Prop) (A : Nat → Prop) (dC : Nat → ClassId) (dI : Nat → Nat → Nat) (a : Nat → Nat) (ac : Nat → ClassId) (g : Int32 → Int32 → Int32 → (St) → Option (Int32 × (St))) (r : Int32 × (St)) : Prop := ∀ (x1 : Int32) (x2 : Int32) (y0 : Int32) (s0 : St) (H : Heap) (locs : List Loc) (ls : Array Slot), g x1 x2 y0 s0 = some r → va_P (dC, dI) vwCl (dw_X14 a ac s0) H → va_D A (dw_X14 a ac s0) → va_S A s.heap H locs → lv_has ls 4 [(0, .ref (a 0)), (1, .int x1), (2, .int x2)] → W p l e (headSpec ow_dm_X14_pack ({ frames := 3, cells := 0, slots := 0, locals := 72 })).room s m args below meth c H locs 0 0 Q (F0 m 67 ls [.int y0])
def dj_X14_pack_62 (p : Program) (l : Launch) (e : Env) (s : State) (m : MethodId) (args : Array Value) (below : List Frame) (meth : Method) (c : Code) (Q : State → Prop) (A : Nat → Prop) (dC : Nat → ClassId) (dI : Nat → Nat → Nat) (a : Nat → Nat) (ac : Nat → ClassId) (g : Int32 → Int32 → (St) → Option (Int32 × (St))) (r : Int32 × (St)) : Prop := ∀ (x1 : Int32) (x2 : Int32) (s0 : St) (H : Heap) (locs : List Loc) (ls : Array Slot), g x1 x2 s0 = some r → va_P (dC, dI) vwCl (dw_X14 a ac s0) H → va_D A (dw_X14 a ac s0) → va_S A s.heap H locs → lv_has ls 4 [(0, .ref (a 0)), (1, .int x1), (2, .int x2)] → W p l e (headSpec ow_dm_X14_pack ({ frames := 3, cells := 0, slots := 0, locals := 72 })).room s m args below meth c H locs 0 0 Q (F0 m 62 ls [])
def dj_X14_pack_41 (p : Program) (l : Launch) (e : Env) (s : State) (m : MethodId) (args : Array Value) (below : List Frame) (meth : Method) (c : Code) (Q : State → Prop) (A : Nat → Prop) (dC : Nat → ClassId) (dI : Nat → Nat → Nat) (a : Nat → Nat) (ac : Nat → ClassId) (g : Int32 → Int32 → (St) → Option (Int32 × (St))) (r : Int32 × (St)) : Prop := ∀ (x2 : Int32) (y0 : Int32) (s0 : St) (H : Heap) (locs : List Loc) (ls : Array Slot), g x2 y0 s0 = some r → va_P (dC, dI) vwCl (dw_X14 a ac s0) H → va_D A (dw_X14 a ac s0) → va_S A s.heap H locs → lv_has ls 4 [(0, .ref (a 0)), (2, .int x2)] → W p l e (headSpec ow_dm_X14_pack ({ frames := 3, cells := 0, slots := 0, locals := 72 })).room s m args below meth c H locs 0 0 Q (F0 m 41 ls [.int y0])
def dj_X14_pack_18 (p : Program) (l : Launch) (e : Env) (s : State) (m : MethodId) (args : Array Value) (below : List Frame) (meth : Method) (c : Code) (Q : State → Prop) (A : Nat → Prop) (dC : Nat → ClassId) (dI : Nat → Nat → Nat) (a : Nat → Nat) (ac : Nat → ClassId) (g : Int32 → Int32 → (St) → Option (Int32 × (St))) (r : Int32 × (St)) : Prop := ∀ (x1 : Int32) (x2 : Int32) (s0 : St) (H : Heap) (locs : List Loc) (ls : Array Slot), g x1 x2 s0 = some r → va_P (dC, dI) vwCl (dw_X14 a ac s0) H → va_D A (dw_X14 a ac s0) → va_S A s.heap H locs → lv_has ls 4 [(0, .ref (a 0)), (1, .int x1), (2, .int x2)] → W p l e (headSpec ow_dm_X14_pack ({ frames := 3, cells := 0, slots := 0, locals := 72 })).room s m args below meth c H locs 0 0 Q (F0 m 18 ls [])
def dj_X14_pack_0 (p : Program) (l : Launch) (e : Env) (s : State) (m : MethodId) (args : Array Value) (below : List Frame) (meth : Method) (c : Code) (Q : State → Prop) (A : Nat → Prop) (dC : Nat → ClassId) (dI : Nat → Nat → Nat) (a : Nat → Nat) (ac : Nat → ClassId) (g : (St) → Option (Int32 × (St))) (r : Int32 × (St)) : Prop := ∀ (s0 : St) (H : Heap) (locs : List Loc) (ls : Array Slot), g s0 = some r → va_P (dC, dI) vwCl (dw_X14 a ac s0) H → va_D A (dw_X14 a ac s0) → va_S A s.heap H locs → lv_has ls 4 [(0, .ref (a 0))] → W p l e (headSpec ow_dm_X14_pack ({ frames := 3, cells := 0, slots := 0, locals := 72 })).room s m args below meth c H locs 0 0 Q (F0 m 0 ls [])
set_option maxHeartbeats 40000000 in
set_option maxRecDepth 100000 in
theorem db_X14_pack_96 {p : Program} {l : Launch} {e : Env} {s : State} {m : MethodId} {args : Array Value} {below : List Frame} {meth : Method} {c : Code} {Q : State → Prop} {A : Nat → Prop} {dC : Nat → ClassId} {dI : Nat → Nat → Nat} {a : Nat → Nat} {ac : Nat → ClassId} {n : Nat} {r : Int32 × (St)} (C : nd_C p l s m args c A (dC, dI) cX14_pack 4 RX14 ow_dm_X14_pack (dk_X14 ac)) (K : nd_Ki p l e (headSpec ow_dm_X14_pack ({ frames := 3, cells := 0, slots := 0, locals := 72 })).room s m args below meth c Q A (dC, dI) cX14_pack .int (St) (dw_X14 a ac) r) {g18 : Int32 → Int32 → (St) → Option (Int32 × (St))} (J18 : dj_X14_pack_18 p l e s m args below meth c Q A dC dI a ac g18 r) : dj_X14_pack_96 p l e s m args below meth c Q A dC dI a ac (df_X14_pack_96 n g18) r := by
  obtain ⟨hlt, hx, hb, hml, hown, hts, hN, hA, hK⟩ := id C
  intro x1 x2 s0 H locs ls h hP hD hS hl
  unfold df_X14_pack_96 at h
  obtain ⟨z16, ez16, h⟩ := nd_let_e h
  refine lv_iinc (v := z16) (lv' := [(2, .int z16), (0, .ref (a 0)), (1, .int x1)]) hx hb dX14_pack_96 hl (k := 2) rfl (by rw [ez16]) (by decide) rfl (fun ls hl => ?_)
  refine lv_goto (tgt := 18) hx hb dX14_pack_99 (by decide) ?_
  exact (J18) (x1) (z16) s0 _ _ _ h hP hD hS (lv_sub hl [1, 2, 0] rfl)
set_option maxHeartbeats 40000000 in
set_option maxRecDepth 100000 in
theorem db_X14_pack_79 {p : Program} {l : Launch} {e : Env} {s : State} {m : MethodId} {args : Array Value} {below : List Frame} {meth : Method} {c : Code} {Q : State → Prop} {A : Nat → Prop} {dC : Nat → ClassId} {dI : Nat → Nat → Nat} {a : Nat → Nat} {ac : Nat → ClassId} {n : Nat} {r : Int32 × (St)} (C : nd_C p l s m args c A (dC, dI) cX14_pack 4 RX14 ow_dm_X14_pack (dk_X14 ac)) (K : nd_Ki p l e (headSpec ow_dm_X14_pack ({ frames := 3, cells := 0, slots := 0, locals := 72 })).room s m args below meth c Q A (dC, dI) cX14_pack .int (St) (dw_X14 a ac) r) {g18 : Int32 → Int32 → (St) → Option (Int32 × (St))} (J18 : dj_X14_pack_18 p l e s m args below meth c Q A dC dI a ac g18 r) : dj_X14_pack_79 p l e s m args below meth c Q A dC dI a ac (df_X14_pack_79 n g18) r := by
  obtain ⟨hlt, hx, hb, hml, hown, hts, hN, hA, hK⟩ := id C
  intro x1 x2 s0 H locs ls h hP hD hS hl
  unfold df_X14_pack_79 at h
  refine lv_iload_n hx hb dX14_pack_79 rfl (lv_at hl 1 rfl) ?_
  refine lv_if_le (tgt := 91) hx hb dX14_pack_80 (by decide) (fun c12 => ?_) (fun c12 => ?_)
  · have h := nd_pos h c12
    refine lv_aload_n hx hb dX14_pack_91 rfl (lv_at hl 0 rfl) ?_
    refine lv_iload_n hx hb dX14_pack_92 rfl (lv_at hl 2 rfl) ?_
    obtain ⟨s14, hq, h⟩ := nd_b1_e h
    have hPc := hP
    have hDc := hD
    have hKc := hK
    have hFc := nd_rs hD hS hA
    refine nd_cVv (As := [.int x2]) (rest := []) (w' := dw_X14 a ac s14) ⟨hx, hb, hml, hown, hts⟩ (fun sz => dm_X14_entry l hlt dC dI a ac n (x2) s0 hq sz) (cwV 1 hts gi_dm_X14_pack_2 rfl rfl rfl (by decide +kernel) ⟨Nat.le_of_ble_eq_true rfl, Nat.le_of_ble_eq_true rfl⟩) hPc hDc hKc hS hA hN (va_recv hKc hPc (ci := 15) (q0 := 0) rfl rfl) rfl hl.1 rfl (Nat.le_of_ble_eq_true rfl) dX14_pack_93 (fun H locs hP1 hD1 hk1 hS => ?_)
    have hP := hP1
    have hD := hD1.weaken (fun k q _ h => hFc q.1 h)
    exact (db_X14_pack_96 C K J18) (x1) (x2) s14 _ _ _ h hP hD hS (lv_sub hl [0, 1, 2] rfl)
  · have h := nd_neg h c12
    refine lv_aload_n hx hb dX14_pack_83 rfl (lv_at hl 0 rfl) ?_
    refine lv_iload_n hx hb dX14_pack_84 rfl (lv_at hl 1 rfl) ?_
    obtain ⟨s18, hq, h⟩ := nd_b1_e h
    have hPc := hP
    have hDc := hD
    have hKc := hK
    have hFc := nd_rs hD hS hA
    refine nd_cVv (As := [.int x1]) (rest := []) (w' := dw_X14 a ac s18) ⟨hx, hb, hml, hown, hts⟩ (fun sz => dm_X14_run l hlt dC dI a ac n (x1) s0 hq sz) (cwV 1 hts gi_dm_X14_pack_3 rfl rfl rfl (by decide +kernel) ⟨Nat.le_of_ble_eq_true rfl, Nat.le_of_ble_eq_true rfl⟩) hPc hDc hKc hS hA hN (va_recv hKc hPc (ci := 15) (q0 := 0) rfl rfl) rfl hl.1 rfl (Nat.le_of_ble_eq_true rfl) dX14_pack_85 (fun H locs hP1 hD1 hk1 hS => ?_)
    have hP := hP1
    have hD := hD1.weaken (fun k q _ h => hFc q.1 h)
    refine lv_goto (tgt := 96) hx hb dX14_pack_88 (by decide) ?_
    exact (db_X14_pack_96 C K J18) (x1) (x2) s18 _ _ _ h hP hD hS (lv_sub hl [0, 1, 2] rfl)
set_option maxHeartbeats 40000000 in
set_option maxRecDepth 100000 in
theorem db_X14_pack_67 {p : Program} {l : Launch} {e : Env} {s : State} {m : MethodId} {args : Array Value} {below : List Frame} {meth : Method} {c : Code} {Q : State → Prop} {A : Nat → Prop} {dC : Nat → ClassId} {dI : Nat → Nat → Nat} {a : Nat → Nat} {ac : Nat → ClassId} {n : Nat} {r : Int32 × (St)} (C : nd_C p l s m args c A (dC, dI) cX14_pack 4 RX14 ow_dm_X14_pack (dk_X14 ac)) (K : nd_Ki p l e (headSpec ow_dm_X14_pack ({ frames := 3, cells := 0, slots := 0, locals := 72 })).room s m args below meth c Q A (dC, dI) cX14_pack .int (St) (dw_X14 a ac) r) {g18 : Int32 → Int32 → (St) → Option (Int32 × (St))} (J18 : dj_X14_pack_18 p l e s m args below meth c Q A dC dI a ac g18 r) : dj_X14_pack_67 p l e s m args below meth c Q A dC dI a ac (df_X14_pack_67 n g18) r := by
  obtain ⟨hlt, hx, hb, hml, hown, hts, hN, hA, hK⟩ := id C
  intro x1 x2 y0 s0 H locs ls h hP hD hS hl
  unfold df_X14_pack_67 at h
  refine lv_istore_n (lv' := [(3, .int y0), (0, .ref (a 0)), (1, .int x1), (2, .int x2)]) hx hb dX14_pack_67 rfl hl (by decide) rfl (fun ls hl => ?_)
  refine lv_iload_n hx hb dX14_pack_68 rfl (lv_at hl 2 rfl) ?_
  refine lv_if_le (tgt := 79) hx hb dX14_pack_69 (by decide) (fun c11 => ?_) (fun c11 => ?_)
  · have h := nd_pos h c11
    exact (db_X14_pack_79 C K J18) (x1) (x2) s0 _ _ _ h hP hD hS (lv_sub hl [1, 2, 3] rfl)
  · have h := nd_neg h c11
    refine lv_iload_n hx hb dX14_pack_72 rfl (lv_at hl 0 rfl) ?_
    refine lv_if_ne (tgt := 79) hx hb dX14_pack_73 (by decide) (fun c20 => ?_) (fun c20 => ?_)
    · have h := nd_neg h c20
      exact (db_X14_pack_79 C K J18) (x1) (x2) s0 _ _ _ h hP hD hS (lv_sub hl [1, 2, 3] rfl)
    · have h := nd_pos h c20
      refine lv_goto (tgt := 96) hx hb dX14_pack_76 (by decide) ?_
      exact (db_X14_pack_96 C K J18) (x1) (x2) s0 _ _ _ h hP hD hS (lv_sub hl [1, 2, 3] rfl)
set_option maxHeartbeats 40000000 in
set_option maxRecDepth 100000 in
theorem db_X14_pack_62 {p : Program} {l : Launch} {e : Env} {s : State} {m : MethodId} {args : Array Value} {below : List Frame} {meth : Method} {c : Code} {Q : State → Prop} {A : Nat → Prop} {dC : Nat → ClassId} {dI : Nat → Nat → Nat} {a : Nat → Nat} {ac : Nat → ClassId} {n : Nat} {r : Int32 × (St)} (C : nd_C p l s m args c A (dC, dI) cX14_pack 4 RX14 ow_dm_X14_pack (dk_X14 ac)) (K : nd_Ki p l e (headSpec ow_dm_X14_pack ({ frames := 3, cells := 0, slots := 0, locals := 72 })).room s m args below meth c Q A (dC, dI) cX14_pack .int (St) (dw_X14 a ac) r) {g18 : Int32 → Int32 → (St) → Option (Int32 × (St))} (J18 : dj_X14_pack_18 p l e s m args below meth c Q A dC dI a ac g18 r) : dj_X14_pack_62 p l e s m args below meth c Q A dC dI a ac (df_X14_pack_62 n g18) r := by
  obtain ⟨hlt, hx, hb, hml, hown, hts, hN, hA, hK⟩ := id C
  intro x1 x2 s0 H locs ls h hP hD hS hl
  unfold df_X14_pack_62 at h
  refine lv_iconst (v := 1) hx hb dX14_pack_62 (by decide) ?_
  refine lv_goto (tgt := 67) hx hb dX14_pack_63 (by decide) ?_
  exact (db_X14_pack_67 C K J18) (x1) (x2) (1) s0 _ _ _ h hP hD hS (lv_sub hl [0, 1, 2] rfl)
set_option maxHeartbeats 40000000 in
set_option maxRecDepth 100000 in
theorem db_X14_pack_41 {p : Program} {l : Launch} {e : Env} {s : State} {m : MethodId} {args : Array Value} {below : List Frame} {meth : Method} {c : Code} {Q : State → Prop} {A : Nat → Prop} {dC : Nat → ClassId} {dI : Nat → Nat → Nat} {a : Nat → Nat} {ac : Nat → ClassId} {n : Nat} {r : Int32 × (St)} (C : nd_C p l s m args c A (dC, dI) cX14_pack 4 RX14 ow_dm_X14_pack (dk_X14 ac)) (K : nd_Ki p l e (headSpec ow_dm_X14_pack ({ frames := 3, cells := 0, slots := 0, locals := 72 })).room s m args below meth c Q A (dC, dI) cX14_pack .int (St) (dw_X14 a ac) r) {g18 : Int32 → Int32 → (St) → Option (Int32 × (St))} (J18 : dj_X14_pack_18 p l e s m args below meth c Q A dC dI a ac g18 r) : dj_X14_pack_41 p l e s m args below meth c Q A dC dI a ac (df_X14_pack_41 n g18) r := by
  obtain ⟨hlt, hx, hb, hml, hown, hts, hN, hA, hK⟩ := id C
  intro x2 y0 s0 H locs ls h hP hD hS hl
  unfold df_X14_pack_41 at h
  refine lv_istore_n (lv' := [(1, .int y0), (0, .ref (a 0)), (2, .int x2)]) hx hb dX14_pack_41 rfl hl (by decide) rfl (fun ls hl => ?_)
  refine lv_iload_n hx hb dX14_pack_42 rfl (lv_at hl 2 rfl) ?_
  refine lv_iconst (v := 1) hx hb dX14_pack_43 (by decide) ?_
  refine lv_iadd hx hb dX14_pack_44 ?_
  refine lv_aload_n hx hb dX14_pack_45 rfl (lv_at hl 1 rfl) ?_
  refine va_get (D := (dC, dI)) (ci := 15) (v := .int (sI s0 0)) (C := RX14) (T := TX14) (N := 11) hx hb hts hi_dm_X14_pack_X14 hown hK hP 0 rfl rfl 0 (by decide) (hts (.fieldLink RX14 27 "TimeMachineModel$Codec" "events" "I") (List.mem_of_getElem? (i := 2) rfl)) (fun _ h9 => h9) rfl dX14_pack_46 ?_
  refine lv_icmp_eq (tgt := 62) hx hb dX14_pack_49 (by decide) (fun c10 => ?_) (fun c10 => ?_)
  · have h := nd_pos h c10
    exact (db_X14_pack_62 C K J18) (y0) (x2) s0 _ _ _ h hP hD hS (lv_sub hl [1, 0, 2] rfl)
  · have h := nd_neg h c10
    refine lv_aload_n hx hb dX14_pack_52 rfl (lv_at hl 1 rfl) ?_
    refine lv_iload_n hx hb dX14_pack_53 rfl (lv_at hl 2 rfl) ?_
    refine lv_iconst (v := 1) hx hb dX14_pack_54 (by decide) ?_
    refine lv_iadd hx hb dX14_pack_55 ?_
    obtain ⟨q21, s22, hq, h⟩ := nd_b2_e h
    have hPc := hP
    have hDc := hD
    have hKc := hK
    have hFc := nd_rs hD hS hA
    refine nd_cVi (As := [.int (x2 + 1)]) (rest := []) (q := q21) (w' := dw_X14 a ac s22) ⟨hx, hb, hml, hown, hts⟩ (fun sz => dm_X14_isAlike l hlt dC dI a ac n ((x2 + 1)) s0 hq sz) (cwV 1 hts gi_dm_X14_pack_1 rfl rfl rfl (by decide +kernel) ⟨Nat.le_of_ble_eq_true rfl, Nat.le_of_ble_eq_true rfl⟩) hPc hDc hKc hS hA hN (va_recv hKc hPc (ci := 15) (q0 := 0) rfl rfl) rfl hl.1 rfl (Nat.le_of_ble_eq_true rfl) dX14_pack_56 (fun H locs hP1 hD1 hk1 hS => ?_)
    have hP := hP1
    have hD := hD1.weaken (fun k q _ h => hFc q.1 h)
    refine lv_if_ne (tgt := 66) hx hb dX14_pack_59 (by decide) (fun c24 => ?_) (fun c24 => ?_)
    · have h := nd_neg h c24
      refine lv_iconst (v := 0) hx hb dX14_pack_66 (by decide) ?_
      exact (db_X14_pack_67 C K J18) (y0) (x2) (0) s22 _ _ _ h hP hD hS (lv_sub hl [1, 0, 2] rfl)
    · have h := nd_pos h c24
      exact (db_X14_pack_62 C K J18) (y0) (x2) s22 _ _ _ h hP hD hS (lv_sub hl [1, 0, 2] rfl)
set_option maxHeartbeats 40000000 in
set_option maxRecDepth 100000 in
theorem dB_X14_pack_18 {p : Program} {l : Launch} {e : Env} {s : State} {m : MethodId} {args : Array Value} {below : List Frame} {meth : Method} {c : Code} {Q : State → Prop} {A : Nat → Prop} {dC : Nat → ClassId} {dI : Nat → Nat → Nat} {a : Nat → Nat} {ac : Nat → ClassId} {n : Nat} {r : Int32 × (St)} (C : nd_C p l s m args c A (dC, dI) cX14_pack 4 RX14 ow_dm_X14_pack (dk_X14 ac)) (K : nd_Ki p l e (headSpec ow_dm_X14_pack ({ frames := 3, cells := 0, slots := 0, locals := 72 })).room s m args below meth c Q A (dC, dI) cX14_pack .int (St) (dw_X14 a ac) r) {g18 : Int32 → Int32 → (St) → Option (Int32 × (St))} (J18 : dj_X14_pack_18 p l e s m args below meth c Q A dC dI a ac g18 r) : dj_X14_pack_18 p l e s m args below meth c Q A dC dI a ac (dF_X14_pack_18 n g18) r := by
  obtain ⟨hlt, hx, hb, hml, hown, hts, hN, hA, hK⟩ := id C
  intro x1 x2 s0 H locs ls h hP hD hS hl
  unfold dF_X14_pack_18 at h
  refine lv_iload_n hx hb dX14_pack_18 rfl (lv_at hl 2 rfl) ?_
  refine lv_aload_n hx hb dX14_pack_19 rfl (lv_at hl 0 rfl) ?_
  refine va_get (D := (dC, dI)) (ci := 15) (v := .int (sI s0 0)) (C := RX14) (T := TX14) (N := 11) hx hb hts hi_dm_X14_pack_X14 hown hK hP 0 rfl rfl 0 (by decide) (hts (.fieldLink RX14 27 "TimeMachineModel$Codec" "events" "I") (List.mem_of_getElem? (i := 2) rfl)) (fun _ h9 => h9) rfl dX14_pack_20 ?_
  refine lv_icmp_ge (tgt := 102) hx hb dX14_pack_23 (by decide) (fun c5 => ?_) (fun c5 => ?_)
  · have h := nd_pos h c5
    refine lv_aload_n hx hb dX14_pack_102 rfl (lv_at hl 0 rfl) ?_
    refine va_get (D := (dC, dI)) (ci := 15) (v := .int (sI s0 1)) (C := RX14) (T := TX14) (N := 11) hx hb hts hi_dm_X14_pack_X14 hown hK hP 0 rfl rfl 6 (by decide) (hts (.fieldLink RX14 31 "TimeMachineModel$Codec" "size" "I") (List.mem_of_getElem? (i := 1) rfl)) (fun _ h9 => h9) rfl dX14_pack_103 ?_
    exact K _ _ _ _ _ _ dX14_pack_106 rfl (Option.some.inj h).symm hP hD hS
  · have h := nd_neg h c5
    refine lv_aload_n hx hb dX14_pack_26 rfl (lv_at hl 0 rfl) ?_
    refine lv_iload_n hx hb dX14_pack_27 rfl (lv_at hl 2 rfl) ?_
    obtain ⟨q6, s7, hq, h⟩ := nd_b2_e h
    have hPc := hP
    have hDc := hD
    have hKc := hK
    have hFc := nd_rs hD hS hA
    refine nd_cVi (As := [.int x2]) (rest := []) (q := q6) (w' := dw_X14 a ac s7) ⟨hx, hb, hml, hown, hts⟩ (fun sz => dm_X14_isAlike l hlt dC dI a ac n (x2) s0 hq sz) (cwV 1 hts gi_dm_X14_pack_1 rfl rfl rfl (by decide +kernel) ⟨Nat.le_of_ble_eq_true rfl, Nat.le_of_ble_eq_true rfl⟩) hPc hDc hKc hS hA hN (va_recv hKc hPc (ci := 15) (q0 := 0) rfl rfl) rfl hl.1 rfl (Nat.le_of_ble_eq_true rfl) dX14_pack_28 (fun H locs hP1 hD1 hk1 hS => ?_)
    have hP := hP1
    have hD := hD1.weaken (fun k q _ h => hFc q.1 h)
    refine lv_if_eq (tgt := 40) hx hb dX14_pack_31 (by decide) (fun c9 => ?_) (fun c9 => ?_)
    · have h := nd_pos h c9
      refine lv_iconst (v := 0) hx hb dX14_pack_40 (by decide) ?_
      exact (db_X14_pack_41 C K J18) (x2) (0) s7 _ _ _ h hP hD hS (lv_sub hl [0, 2] rfl)
    · have h := nd_neg h c9
      refine lv_iload_n hx hb dX14_pack_34 rfl (lv_at hl 1 rfl) ?_
      refine lv_iconst (v := 1) hx hb dX14_pack_35 (by decide) ?_
      refine lv_iadd hx hb dX14_pack_36 ?_
      refine lv_goto (tgt := 41) hx hb dX14_pack_37 (by decide) ?_
      exact (db_X14_pack_41 C K J18) (x2) ((x1 + 1)) s7 _ _ _ h hP hD hS (lv_sub hl [0, 2] rfl)
set_option maxHeartbeats 40000000 in
set_option maxRecDepth 100000 in
theorem db_X14_pack_18 {p : Program} {l : Launch} {e : Env} {s : State} {m : MethodId} {args : Array Value} {below : List Frame} {meth : Method} {c : Code} {Q : State → Prop} {A : Nat → Prop} {dC : Nat → ClassId} {dI : Nat → Nat → Nat} {a : Nat → Nat} {ac : Nat → ClassId} {n : Nat} {r : Int32 × (St)} (C : nd_C p l s m args c A (dC, dI) cX14_pack 4 RX14 ow_dm_X14_pack (dk_X14 ac)) (K : nd_Ki p l e (headSpec ow_dm_X14_pack ({ frames := 3, cells := 0, slots := 0, locals := 72 })).room s m args below meth c Q A (dC, dI) cX14_pack .int (St) (dw_X14 a ac) r) (k : Nat) : dj_X14_pack_18 p l e s m args below meth c Q A dC dI a ac (df_X14_pack_18 n k) r := by
  induction k with
  | zero => intro x1 x2 s0 H locs ls h; exact nomatch (show (none : Option (Int32 × (St))) = some r from h)
  | succ k ih => exact dB_X14_pack_18 C K ih
set_option maxHeartbeats 40000000 in
set_option maxRecDepth 100000 in
theorem db_X14_pack_0 {p : Program} {l : Launch} {e : Env} {s : State} {m : MethodId} {args : Array Value} {below : List Frame} {meth : Method} {c : Code} {Q : State → Prop} {A : Nat → Prop} {dC : Nat → ClassId} {dI : Nat → Nat → Nat} {a : Nat → Nat} {ac : Nat → ClassId} {n : Nat} {r : Int32 × (St)} (C : nd_C p l s m args c A (dC, dI) cX14_pack 4 RX14 ow_dm_X14_pack (dk_X14 ac)) (K : nd_Ki p l e (headSpec ow_dm_X14_pack ({ frames := 3, cells := 0, slots := 0, locals := 72 })).room s m args below meth c Q A (dC, dI) cX14_pack .int (St) (dw_X14 a ac) r) : dj_X14_pack_0 p l e s m args below meth c Q A dC dI a ac (df_X14_pack_0 n) r := by
  obtain ⟨hlt, hx, hb, hml, hown, hts, hN, hA, hK⟩ := id C
  intro s0 H locs ls h hP hD hS hl
  unfold df_X14_pack_0 at h
  refine lv_aload_n hx hb dX14_pack_0 rfl (lv_at hl 0 rfl) ?_
  refine lv_iconst (v := 0) hx hb dX14_pack_1 (by decide) ?_
  refine va_put (D := (dC, dI)) (ci := 15) (v := .int 0) (ty := .int) (C := RX14) (T := TX14) (N := 11) hx hb hts hi_dm_X14_pack_X14 tyX14 tyX14_ok nmX14 hown hK hP hD hS 0 rfl rfl 6 (by decide) (hts (.fieldLink RX14 31 "TimeMachineModel$Codec" "size" "I") (List.mem_of_getElem? (i := 1) rfl)) (fun _ h9 => h9) rfl (by decide +kernel) rfl rfl (Nat.le_of_ble_eq_true rfl) dX14_pack_2 (fun H locs hP hD hS => ?_)
  obtain ⟨s1, es1, h⟩ := nd_let_e h
  have hP : va_P (dC, dI) vwCl (dw_X14 a ac s1) H := by rw [es1]; exact hP
  have hD : va_D A (dw_X14 a ac s1) := by rw [es1]; exact hD
  refine lv_aload_n hx hb dX14_pack_5 rfl (lv_at hl 0 rfl) ?_
  refine lv_aload_n hx hb dX14_pack_6 rfl (lv_at hl 0 rfl) ?_
  refine va_get (D := (dC, dI)) (ci := 15) (v := .int (sI s1 0)) (C := RX14) (T := TX14) (N := 11) hx hb hts hi_dm_X14_pack_X14 hown hK hP 0 rfl rfl 0 (by decide) (hts (.fieldLink RX14 27 "TimeMachineModel$Codec" "events" "I") (List.mem_of_getElem? (i := 2) rfl)) (fun _ h9 => h9) rfl dX14_pack_7 ?_
  refine lv_i2l hx hb dX14_pack_10 rfl ?_
  obtain ⟨s3, hq, h⟩ := nd_b1_e h
  have hPc := hP
  have hDc := hD
  have hKc := hK
  have hFc := nd_rs hD hS hA
  refine nd_cVv (As := [.long (((sI s1 0) : Int32).toInt64)]) (rest := []) (w' := dw_X14 a ac s3) ⟨hx, hb, hml, hown, hts⟩ (fun sz => dm_X14_varint l hlt dC dI a ac n ((((sI s1 0) : Int32).toInt64)) s1 hq sz) (cwV 1 hts gi_dm_X14_pack_0 rfl rfl rfl (by decide +kernel) ⟨Nat.le_of_ble_eq_true rfl, Nat.le_of_ble_eq_true rfl⟩) hPc hDc hKc hS hA hN (va_recv hKc hPc (ci := 15) (q0 := 0) rfl rfl) rfl hl.1 rfl (Nat.le_of_ble_eq_true rfl) dX14_pack_11 (fun H locs hP1 hD1 hk1 hS => ?_)
  have hP := hP1
  have hD := hD1.weaken (fun k q _ h => hFc q.1 h)
  refine lv_iconst (v := 0) hx hb dX14_pack_14 (by decide) ?_
  refine lv_istore_n (lv' := [(1, .int 0), (0, .ref (a 0))]) hx hb dX14_pack_15 rfl hl (by decide) rfl (fun ls hl => ?_)
  refine lv_iconst (v := 0) hx hb dX14_pack_16 (by decide) ?_
  refine lv_istore_n (lv' := [(2, .int 0), (1, .int 0), (0, .ref (a 0))]) hx hb dX14_pack_17 rfl hl (by decide) rfl (fun ls hl => ?_)
  exact (db_X14_pack_18 C K n) (0) (0) s3 _ _ _ h hP hD hS (lv_sub hl [2, 1, 0] rfl)
set_option maxHeartbeats 40000000 in
set_option maxRecDepth 100000 in
theorem dm_X14_pack (l : Launch) (hlt : l.stackTraces = false) (dC : Nat → ClassId) (dI : Nat → Nat → Nat) (a : Nat → Nat) (ac : Nat → ClassId) (n : Nat) (s0 : St) {r : Int32 × (St)} (h : df_X14_pack n s0 = some r) (sz : Nat) : Met l yX14_pack ow_dm_X14_pack ({ frames := 3, cells := 0, slots := 0, locals := 72 }) (va_Pc [.ref (a 0)] (fun U => U.heap.size = sz ∧ va_P (dC, dI) vwCl (dw_X14 a ac s0) U.heap ∧ va_K (dC, dI) vwCl (dk_X14 ac) U ∧ va_D (fun _ => True) (dw_X14 a ac s0) ∧ nv_E dI (va_A (dw_X14 a ac s0) sz) U)) (va_Qi (fun x _ => x = r.1) (fun (_ : Unit) t => va_P (dC, dI) vwCl (dw_X14 a ac r.2) t.heap ∧ va_K (dC, dI) vwCl (dk_X14 ac) t ∧ va_D (va_A (dw_X14 a ac s0) sz) (dw_X14 a ac r.2)) (va_A (dw_X14 a ac s0) sz)) 0 0 (va_A (dw_X14 a ac s0) sz) := by
  refine Met.ofW (cc := cX14_pack) (maxL := 4) (ret := (some .int)) (by decide) rfl ?_
  intro p e s m args below meth c s₁ B hml hv
  obtain ⟨rfl, hsz, hP, hK, hD0, hN⟩ := hv
  have hx := B.exec
  have hb := B.bytes
  have hr := B.returns
  have hts := atoms_spec (ws := ow_dm_X14_pack) B.pre
  have hown : s.vm.findClass RX14 = some m.cls := findClass_of_methodNamed B.named
  have hlocks := B.notSynchronized
  subst hsz
  have hD := hD0.self (sz := s.heap.size)
  generalize hAe : va_A (dw_X14 a ac s0) s.heap.size = A at hD hN ⊢
  have hA : ∀ q : Nat, s.heap.size ≤ q → A q := fun q h => by rw [← hAe]; exact Or.inr h
  have hl := lv_entry ([.ref (a 0)]) (n := 4) (Nat.le_of_ble_eq_true rfl)
  rw [lg_entry_eq]
  generalize (lg_sl ([.ref (a 0)]) ++ List.replicate (4 - (lg_sl ([.ref (a 0)])).length) Slot.unset).toArray = ls at hl ⊢
  have hl : lv_has ls 4 [(0, .ref (a 0))] := hl
  exact db_X14_pack_0 (dC := dC) (dI := dI) (a := a) (ac := ac) (n := n) (r := r) ⟨hlt, hx, hb, hml, hown, hts, hN, hA, hK⟩ (fun pc v τ H locs ls d z er hP hD hS => by subst er; exact W.zret (v := v) hx hb hr z (fun t ht hW => ⟨⟨v, (), rfl, rfl, by rw [ht]; exact hP, va_K.moved hW.alike hK, hD⟩, hS.F ht⟩) hS.2.2 d) s0 _ _ _ h hP hD va_S.rf (lv_sub hl [0] rfl)
def ow_dm_X14_meet : List Cond := Cond.code yX14_meet cX14_meet 3 none :: ([Cond.fieldLink RX14 65 "TimeMachineModel$Codec" "fault" "I"] ++ (u_ws RX14 TX14 11 ++ []))
theorem gd_dm_X14_meet : ∀ w ∈ ow_dm_X14_meet, (w.onTables && w.keeps) = true ∨ ∃ ty, w = Cond.arrayClass ty := List.forall_mem_cons.mpr ⟨good_of_word rfl, List.forall_mem_append.mpr ⟨fun w h => good_of_word (List.all_eq_true.mp (by decide +kernel) w h), List.forall_mem_append.mpr ⟨gu_X14, fun _ h => nomatch h⟩⟩⟩
theorem hi_dm_X14_meet_X14 : ∀ w ∈ u_ws RX14 TX14 11, w ∈ ow_dm_X14_meet := fun w h => List.mem_cons_of_mem _ (List.mem_append_right _ (List.mem_append_left _ h))
def dj_X14_meet_17 (p : Program) (l : Launch) (e : Env) (s : State) (m : MethodId) (args : Array Value) (below : List Frame) (meth : Method) (c : Code) (Q : State → Prop) (A : Nat → Prop) (dC : Nat → ClassId) (dI : Nat → Nat → Nat) (a : Nat → Nat) (ac : Nat → ClassId) (g : (St) → Option (St)) (r : St) : Prop := ∀ (s0 : St) (H : Heap) (locs : List Loc) (ls : Array Slot), g s0 = some r → va_P (dC, dI) vwCl (dw_X14 a ac s0) H → va_D A (dw_X14 a ac s0) → va_S A s.heap H locs → lv_has ls 3 [] → W p l e (headSpec ow_dm_X14_meet ({ frames := 0, cells := 0, slots := 0, locals := 0 })).room s m args below meth c H locs 0 0 Q (F0 m 17 ls [])
def dj_X14_meet_0 (p : Program) (l : Launch) (e : Env) (s : State) (m : MethodId) (args : Array Value) (below : List Frame) (meth : Method) (c : Code) (Q : State → Prop) (A : Nat → Prop) (dC : Nat → ClassId) (dI : Nat → Nat → Nat) (a : Nat → Nat) (ac : Nat → ClassId) (g : Int32 → Int32 → (St) → Option (St)) (r : St) : Prop := ∀ (v0 : Int32) (v1 : Int32) (s0 : St) (H : Heap) (locs : List Loc) (ls : Array Slot), g v0 v1 s0 = some r → va_P (dC, dI) vwCl (dw_X14 a ac s0) H → va_D A (dw_X14 a ac s0) → va_S A s.heap H locs → lv_has ls 3 [(0, .ref (a 0)), (1, .int v0), (2, .int v1)] → W p l e (headSpec ow_dm_X14_meet ({ frames := 0, cells := 0, slots := 0, locals := 0 })).room s m args below meth c H locs 0 0 Q (F0 m 0 ls [])
set_option maxHeartbeats 40000000 in
set_option maxRecDepth 100000 in
theorem db_X14_meet_17 {p : Program} {l : Launch} {e : Env} {s : State} {m : MethodId} {args : Array Value} {below : List Frame} {meth : Method} {c : Code} {Q : State → Prop} {A : Nat → Prop} {dC : Nat → ClassId} {dI : Nat → Nat → Nat} {a : Nat → Nat} {ac : Nat → ClassId} {n : Nat} {r : St} (C : nd_C p l s m args c A (dC, dI) cX14_meet 3 RX14 ow_dm_X14_meet (dk_X14 ac)) (K : nd_Kv p l e (headSpec ow_dm_X14_meet ({ frames := 0, cells := 0, slots := 0, locals := 0 })).room s m args below meth c Q A (dC, dI) cX14_meet (St) (dw_X14 a ac) r) : dj_X14_meet_17 p l e s m args below meth c Q A dC dI a ac (df_X14_meet_17 n) r := by
  obtain ⟨hlt, hx, hb, hml, hown, hts, hN, hA, hK⟩ := id C
  intro s0 H locs ls h hP hD hS hl
  unfold df_X14_meet_17 at h
  exact K _ _ _ _ _ dX14_meet_17 (Option.some.inj h).symm hP hD hS
set_option maxHeartbeats 40000000 in
set_option maxRecDepth 100000 in
theorem db_X14_meet_0 {p : Program} {l : Launch} {e : Env} {s : State} {m : MethodId} {args : Array Value} {below : List Frame} {meth : Method} {c : Code} {Q : State → Prop} {A : Nat → Prop} {dC : Nat → ClassId} {dI : Nat → Nat → Nat} {a : Nat → Nat} {ac : Nat → ClassId} {n : Nat} {r : St} (C : nd_C p l s m args c A (dC, dI) cX14_meet 3 RX14 ow_dm_X14_meet (dk_X14 ac)) (K : nd_Kv p l e (headSpec ow_dm_X14_meet ({ frames := 0, cells := 0, slots := 0, locals := 0 })).room s m args below meth c Q A (dC, dI) cX14_meet (St) (dw_X14 a ac) r) : dj_X14_meet_0 p l e s m args below meth c Q A dC dI a ac (df_X14_meet_0 n) r := by
  obtain ⟨hlt, hx, hb, hml, hown, hts, hN, hA, hK⟩ := id C
  intro v0 v1 s0 H locs ls h hP hD hS hl
  unfold df_X14_meet_0 at h
  refine lv_aload_n hx hb dX14_meet_0 rfl (lv_at hl 0 rfl) ?_
  refine va_get (D := (dC, dI)) (ci := 15) (v := .int (sI s0 4)) (C := RX14) (T := TX14) (N := 11) hx hb hts hi_dm_X14_meet_X14 hown hK hP 0 rfl rfl 10 (by decide) (hts (.fieldLink RX14 65 "TimeMachineModel$Codec" "fault" "I") (List.mem_of_getElem? (i := 1) rfl)) (fun _ h9 => h9) rfl dX14_meet_1 ?_
  refine lv_if_ne (tgt := 17) hx hb dX14_meet_4 (by decide) (fun c1 => ?_) (fun c1 => ?_)
  · have h := nd_neg h c1
    exact (db_X14_meet_17 C K)  s0 _ _ _ h hP hD hS (lv_sub hl [] rfl)
  · have h := nd_pos h c1
    refine lv_aload_n hx hb dX14_meet_7 rfl (lv_at hl 0 rfl) ?_
    refine lv_iload_n hx hb dX14_meet_8 rfl (lv_at hl 1 rfl) ?_
    refine lv_bipush (v := 8) hx hb dX14_meet_9 (by decide) ?_
    refine lv_iload_n hx hb dX14_meet_11 rfl (lv_at hl 2 rfl) ?_
    refine lv_imul hx hb dX14_meet_12 ?_
    refine lv_iadd hx hb dX14_meet_13 ?_
    refine va_put (D := (dC, dI)) (ci := 15) (v := .int (v0 + (8 * v1))) (ty := .int) (C := RX14) (T := TX14) (N := 11) hx hb hts hi_dm_X14_meet_X14 tyX14 tyX14_ok nmX14 hown hK hP hD hS 0 rfl rfl 10 (by decide) (hts (.fieldLink RX14 65 "TimeMachineModel$Codec" "fault" "I") (List.mem_of_getElem? (i := 1) rfl)) (fun _ h9 => h9) rfl (by decide +kernel) rfl rfl (Nat.le_of_ble_eq_true rfl) dX14_meet_14 (fun H locs hP hD hS => ?_)
    obtain ⟨s2, es2, h⟩ := nd_let_e h
    have hP : va_P (dC, dI) vwCl (dw_X14 a ac s2) H := by rw [es2]; exact hP
    have hD : va_D A (dw_X14 a ac s2) := by rw [es2]; exact hD
    exact (db_X14_meet_17 C K)  s2 _ _ _ h hP hD hS (lv_sub hl [] rfl)
set_option maxHeartbeats 40000000 in
set_option maxRecDepth 100000 in
theorem dm_X14_meet (l : Launch) (hlt : l.stackTraces = false) (dC : Nat → ClassId) (dI : Nat → Nat → Nat) (a : Nat → Nat) (ac : Nat → ClassId) (n : Nat) (v0 : Int32) (v1 : Int32) (s0 : St) {r : St} (h : df_X14_meet n v0 v1 s0 = some r) (sz : Nat) : Met l yX14_meet ow_dm_X14_meet ({ frames := 0, cells := 0, slots := 0, locals := 0 }) (va_Pc [.ref (a 0), .int v0, .int v1] (fun U => U.heap.size = sz ∧ va_P (dC, dI) vwCl (dw_X14 a ac s0) U.heap ∧ va_K (dC, dI) vwCl (dk_X14 ac) U ∧ va_D (fun _ => True) (dw_X14 a ac s0) ∧ nv_E dI (va_A (dw_X14 a ac s0) sz) U)) (va_Qv (fun _ => True) (fun (_ : Unit) t => va_P (dC, dI) vwCl (dw_X14 a ac r) t.heap ∧ va_K (dC, dI) vwCl (dk_X14 ac) t ∧ va_D (va_A (dw_X14 a ac s0) sz) (dw_X14 a ac r)) (va_A (dw_X14 a ac s0) sz)) 0 0 (va_A (dw_X14 a ac s0) sz) := by
  refine Met.ofW (cc := cX14_meet) (maxL := 3) (ret := none) (by decide) rfl ?_
  intro p e s m args below meth c s₁ B hml hv
  obtain ⟨rfl, hsz, hP, hK, hD0, hN⟩ := hv
  have hx := B.exec
  have hb := B.bytes
  have hr := B.returns
  have hts := atoms_spec (ws := ow_dm_X14_meet) B.pre
  have hown : s.vm.findClass RX14 = some m.cls := findClass_of_methodNamed B.named
  have hlocks := B.notSynchronized
  subst hsz
  have hD := hD0.self (sz := s.heap.size)
  generalize hAe : va_A (dw_X14 a ac s0) s.heap.size = A at hD hN ⊢
  have hA : ∀ q : Nat, s.heap.size ≤ q → A q := fun q h => by rw [← hAe]; exact Or.inr h
  have hl := lv_entry ([.ref (a 0), .int v0, .int v1]) (n := 3) (Nat.le_of_ble_eq_true rfl)
  rw [lg_entry_eq]
  generalize (lg_sl ([.ref (a 0), .int v0, .int v1]) ++ List.replicate (3 - (lg_sl ([.ref (a 0), .int v0, .int v1])).length) Slot.unset).toArray = ls at hl ⊢
  have hl : lv_has ls 3 [(0, .ref (a 0)), (1, .int v0), (2, .int v1)] := hl
  exact db_X14_meet_0 (dC := dC) (dI := dI) (a := a) (ac := ac) (n := n) (r := r) ⟨hlt, hx, hb, hml, hown, hts, hN, hA, hK⟩ (fun pc τ H locs ls d er hP hD hS => by subst er; exact W.vret hx hb hr (fun t ht hW => ⟨⟨(), rfl, trivial, by rw [ht]; exact hP, va_K.moved hW.alike hK, hD⟩, hS.F ht⟩) hS.2.2 d) v0 v1 s0 _ _ _ h hP hD va_S.rf (lv_sub hl [0, 1, 2] rfl)
def ow_dm_X14_next : List Cond := Cond.code yX14_next cX14_next 1 (some .int) :: ([Cond.fieldLink RX14 68 "TimeMachineModel$Codec" "at" "I", Cond.fieldLink RX14 71 "TimeMachineModel$Codec" "length" "I", Cond.fieldLink RX14 65 "TimeMachineModel$Codec" "fault" "I", Cond.fieldLink RX14 78 "TimeMachineModel$Codec" "log" "[I", Cond.methodLink RX14 74 yX14_meet, Cond.instanceMethod yX14_meet, Cond.selects RX14 yX14_meet yX14_meet, Cond.initialized RX14] ++ (u_ws RX14 TX14 11 ++ (ow_dm_X14_meet ++ [])))
theorem gd_dm_X14_next : ∀ w ∈ ow_dm_X14_next, (w.onTables && w.keeps) = true ∨ ∃ ty, w = Cond.arrayClass ty := List.forall_mem_cons.mpr ⟨good_of_word rfl, List.forall_mem_append.mpr ⟨fun w h => good_of_word (List.all_eq_true.mp (by decide +kernel) w h), List.forall_mem_append.mpr ⟨gu_X14, List.forall_mem_append.mpr ⟨gd_dm_X14_meet, fun _ h => nomatch h⟩⟩⟩⟩
theorem hi_dm_X14_next_X14 : ∀ w ∈ u_ws RX14 TX14 11, w ∈ ow_dm_X14_next := fun w h => List.mem_cons_of_mem _ (List.mem_append_right _ (List.mem_append_left _ h))
theorem gi_dm_X14_next_0 : GoodIn ow_dm_X14_next (wsV RX14 74 RX14 yX14_meet ow_dm_X14_meet) := goodIn_app (goodIn_of _ (by decide +kernel)) (fun w h => ⟨List.mem_cons_of_mem _ (List.mem_append_right _ (List.mem_append_right _ (List.mem_append_left _ h))), gd_dm_X14_meet w h⟩)
def dj_X14_next_52 (p : Program) (l : Launch) (e : Env) (s : State) (m : MethodId) (args : Array Value) (below : List Frame) (meth : Method) (c : Code) (Q : State → Prop) (A : Nat → Prop) (dC : Nat → ClassId) (dI : Nat → Nat → Nat) (a : Nat → Nat) (ac : Nat → ClassId) (g : Int32 → (St) → Option (Int32 × (St))) (r : Int32 × (St)) : Prop := ∀ (y0 : Int32) (s0 : St) (H : Heap) (locs : List Loc) (ls : Array Slot), g y0 s0 = some r → va_P (dC, dI) vwCl (dw_X14 a ac s0) H → va_D A (dw_X14 a ac s0) → va_S A s.heap H locs → lv_has ls 1 [] → W p l e (headSpec ow_dm_X14_next ({ frames := 1, cells := 0, slots := 0, locals := 22 })).room s m args below meth c H locs 0 0 Q (F0 m 52 ls [.int y0])
def dj_X14_next_20 (p : Program) (l : Launch) (e : Env) (s : State) (m : MethodId) (args : Array Value) (below : List Frame) (meth : Method) (c : Code) (Q : State → Prop) (A : Nat → Prop) (dC : Nat → ClassId) (dI : Nat → Nat → Nat) (a : Nat → Nat) (ac : Nat → ClassId) (g : (St) → Option (Int32 × (St))) (r : Int32 × (St)) : Prop := ∀ (s0 : St) (H : Heap) (locs : List Loc) (ls : Array Slot), g s0 = some r → va_P (dC, dI) vwCl (dw_X14 a ac s0) H → va_D A (dw_X14 a ac s0) → va_S A s.heap H locs → lv_has ls 1 [(0, .ref (a 0))] → W p l e (headSpec ow_dm_X14_next ({ frames := 1, cells := 0, slots := 0, locals := 22 })).room s m args below meth c H locs 0 0 Q (F0 m 20 ls [])
def dj_X14_next_0 (p : Program) (l : Launch) (e : Env) (s : State) (m : MethodId) (args : Array Value) (below : List Frame) (meth : Method) (c : Code) (Q : State → Prop) (A : Nat → Prop) (dC : Nat → ClassId) (dI : Nat → Nat → Nat) (a : Nat → Nat) (ac : Nat → ClassId) (g : (St) → Option (Int32 × (St))) (r : Int32 × (St)) : Prop := ∀ (s0 : St) (H : Heap) (locs : List Loc) (ls : Array Slot), g s0 = some r → va_P (dC, dI) vwCl (dw_X14 a ac s0) H → va_D A (dw_X14 a ac s0) → va_S A s.heap H locs → lv_has ls 1 [(0, .ref (a 0))] → W p l e (headSpec ow_dm_X14_next ({ frames := 1, cells := 0, slots := 0, locals := 22 })).room s m args below meth c H locs 0 0 Q (F0 m 0 ls [])
set_option maxHeartbeats 40000000 in
set_option maxRecDepth 100000 in
theorem db_X14_next_52 {p : Program} {l : Launch} {e : Env} {s : State} {m : MethodId} {args : Array Value} {below : List Frame} {meth : Method} {c : Code} {Q : State → Prop} {A : Nat → Prop} {dC : Nat → ClassId} {dI : Nat → Nat → Nat} {a : Nat → Nat} {ac : Nat → ClassId} {n : Nat} {r : Int32 × (St)} (C : nd_C p l s m args c A (dC, dI) cX14_next 1 RX14 ow_dm_X14_next (dk_X14 ac)) (K : nd_Ki p l e (headSpec ow_dm_X14_next ({ frames := 1, cells := 0, slots := 0, locals := 22 })).room s m args below meth c Q A (dC, dI) cX14_next .int (St) (dw_X14 a ac) r) : dj_X14_next_52 p l e s m args below meth c Q A dC dI a ac (df_X14_next_52 n) r := by
  obtain ⟨hlt, hx, hb, hml, hown, hts, hN, hA, hK⟩ := id C
  intro y0 s0 H locs ls h hP hD hS hl
  unfold df_X14_next_52 at h
  exact K _ _ _ _ _ _ dX14_next_52 rfl (Option.some.inj h).symm hP hD hS
set_option maxHeartbeats 40000000 in
set_option maxRecDepth 100000 in
theorem db_X14_next_20 {p : Program} {l : Launch} {e : Env} {s : State} {m : MethodId} {args : Array Value} {below : List Frame} {meth : Method} {c : Code} {Q : State → Prop} {A : Nat → Prop} {dC : Nat → ClassId} {dI : Nat → Nat → Nat} {a : Nat → Nat} {ac : Nat → ClassId} {n : Nat} {r : Int32 × (St)} (C : nd_C p l s m args c A (dC, dI) cX14_next 1 RX14 ow_dm_X14_next (dk_X14 ac)) (K : nd_Ki p l e (headSpec ow_dm_X14_next ({ frames := 1, cells := 0, slots := 0, locals := 22 })).room s m args below meth c Q A (dC, dI) cX14_next .int (St) (dw_X14 a ac) r) : dj_X14_next_20 p l e s m args below meth c Q A dC dI a ac (df_X14_next_20 n) r := by
  obtain ⟨hlt, hx, hb, hml, hown, hts, hN, hA, hK⟩ := id C
  intro s0 H locs ls h hP hD hS hl
  unfold df_X14_next_20 at h
  refine lv_aload_n hx hb dX14_next_20 rfl (lv_at hl 0 rfl) ?_
  refine lv_dup hx hb dX14_next_21 rfl ?_
  refine va_get (D := (dC, dI)) (ci := 15) (v := .int (sI s0 3)) (C := RX14) (T := TX14) (N := 11) hx hb hts hi_dm_X14_next_X14 hown hK hP 0 rfl rfl 9 (by decide) (hts (.fieldLink RX14 68 "TimeMachineModel$Codec" "at" "I") (List.mem_of_getElem? (i := 1) rfl)) (fun _ h9 => h9) rfl dX14_next_22 ?_
  refine lv_iconst (v := 1) hx hb dX14_next_25 (by decide) ?_
  refine lv_iadd hx hb dX14_next_26 ?_
  refine va_put (D := (dC, dI)) (ci := 15) (v := .int ((sI s0 3) + 1)) (ty := .int) (C := RX14) (T := TX14) (N := 11) hx hb hts hi_dm_X14_next_X14 tyX14 tyX14_ok nmX14 hown hK hP hD hS 0 rfl rfl 9 (by decide) (hts (.fieldLink RX14 68 "TimeMachineModel$Codec" "at" "I") (List.mem_of_getElem? (i := 1) rfl)) (fun _ h9 => h9) rfl (by decide +kernel) rfl rfl (Nat.le_of_ble_eq_true rfl) dX14_next_27 (fun H locs hP hD hS => ?_)
  obtain ⟨s2, es2, h⟩ := nd_let_e h
  have hP : va_P (dC, dI) vwCl (dw_X14 a ac s2) H := by rw [es2]; exact hP
  have hD : va_D A (dw_X14 a ac s2) := by rw [es2]; exact hD
  refine lv_aload_n hx hb dX14_next_30 rfl (lv_at hl 0 rfl) ?_
  refine va_get (D := (dC, dI)) (ci := 15) (v := .int (sI s2 4)) (C := RX14) (T := TX14) (N := 11) hx hb hts hi_dm_X14_next_X14 hown hK hP 0 rfl rfl 10 (by decide) (hts (.fieldLink RX14 65 "TimeMachineModel$Codec" "fault" "I") (List.mem_of_getElem? (i := 3) rfl)) (fun _ h9 => h9) rfl dX14_next_31 ?_
  refine lv_if_le (tgt := 41) hx hb dX14_next_34 (by decide) (fun c3 => ?_) (fun c3 => ?_)
  · have h := nd_pos h c3
    refine lv_aload_n hx hb dX14_next_41 rfl (lv_at hl 0 rfl) ?_
    obtain ⟨o4, h⟩ := nd_o_e h
    refine va_get (D := (dC, dI)) (ci := 15) (v := .ref (a 6)) (C := RX14) (T := TX14) (N := 11) hx hb hts hi_dm_X14_next_X14 hown hK hP 0 rfl rfl 7 (by decide) (hts (.fieldLink RX14 78 "TimeMachineModel$Codec" "log" "[I") (List.mem_of_getElem? (i := 4) rfl)) (fun _ h9 => h9) (congrArg (fun z => some (va_rf (Option.map a z))) o4) dX14_next_42 ?_
    refine lv_aload_n hx hb dX14_next_45 rfl (lv_at hl 0 rfl) ?_
    refine va_get (D := (dC, dI)) (ci := 15) (v := .int (sI s2 3)) (C := RX14) (T := TX14) (N := 11) hx hb hts hi_dm_X14_next_X14 hown hK hP 0 rfl rfl 9 (by decide) (hts (.fieldLink RX14 68 "TimeMachineModel$Codec" "at" "I") (List.mem_of_getElem? (i := 1) rfl)) (fun _ h9 => h9) rfl dX14_next_46 ?_
    refine lv_iconst (v := 1) hx hb dX14_next_49 (by decide) ?_
    refine lv_isub hx hb dX14_next_50 ?_
    obtain ⟨i5, h⟩ := nd_ck_e h
    refine va_iald (i := ((sI s2 3) - 1)) hx hb hK hP 6 5 rfl rfl i5 dX14_next_51 ?_
    exact (db_X14_next_52 C K) ((sR s2 3 (Int32.toNatClampNeg ((sI s2 3) - 1)))) s2 _ _ _ h hP hD hS (lv_sub hl [] rfl)
  · have h := nd_neg h c3
    refine lv_iconst (v := 0) hx hb dX14_next_37 (by decide) ?_
    refine lv_goto (tgt := 52) hx hb dX14_next_38 (by decide) ?_
    exact (db_X14_next_52 C K) (0) s2 _ _ _ h hP hD hS (lv_sub hl [] rfl)
set_option maxHeartbeats 40000000 in
set_option maxRecDepth 100000 in
theorem db_X14_next_0 {p : Program} {l : Launch} {e : Env} {s : State} {m : MethodId} {args : Array Value} {below : List Frame} {meth : Method} {c : Code} {Q : State → Prop} {A : Nat → Prop} {dC : Nat → ClassId} {dI : Nat → Nat → Nat} {a : Nat → Nat} {ac : Nat → ClassId} {n : Nat} {r : Int32 × (St)} (C : nd_C p l s m args c A (dC, dI) cX14_next 1 RX14 ow_dm_X14_next (dk_X14 ac)) (K : nd_Ki p l e (headSpec ow_dm_X14_next ({ frames := 1, cells := 0, slots := 0, locals := 22 })).room s m args below meth c Q A (dC, dI) cX14_next .int (St) (dw_X14 a ac) r) : dj_X14_next_0 p l e s m args below meth c Q A dC dI a ac (df_X14_next_0 n) r := by
  obtain ⟨hlt, hx, hb, hml, hown, hts, hN, hA, hK⟩ := id C
  intro s0 H locs ls h hP hD hS hl
  unfold df_X14_next_0 at h
  refine lv_aload_n hx hb dX14_next_0 rfl (lv_at hl 0 rfl) ?_
  refine va_get (D := (dC, dI)) (ci := 15) (v := .int (sI s0 3)) (C := RX14) (T := TX14) (N := 11) hx hb hts hi_dm_X14_next_X14 hown hK hP 0 rfl rfl 9 (by decide) (hts (.fieldLink RX14 68 "TimeMachineModel$Codec" "at" "I") (List.mem_of_getElem? (i := 1) rfl)) (fun _ h9 => h9) rfl dX14_next_1 ?_
  refine lv_aload_n hx hb dX14_next_4 rfl (lv_at hl 0 rfl) ?_
  refine va_get (D := (dC, dI)) (ci := 15) (v := .int (sI s0 2)) (C := RX14) (T := TX14) (N := 11) hx hb hts hi_dm_X14_next_X14 hown hK hP 0 rfl rfl 8 (by decide) (hts (.fieldLink RX14 71 "TimeMachineModel$Codec" "length" "I") (List.mem_of_getElem? (i := 2) rfl)) (fun _ h9 => h9) rfl dX14_next_5 ?_
  refine lv_icmp_lt (tgt := 20) hx hb dX14_next_8 (by decide) (fun c1 => ?_) (fun c1 => ?_)
  · have h := nd_pos h c1
    exact (db_X14_next_20 C K)  s0 _ _ _ h hP hD hS (lv_sub hl [0] rfl)
  · have h := nd_neg h c1
    refine lv_aload_n hx hb dX14_next_11 rfl (lv_at hl 0 rfl) ?_
    refine lv_iconst (v := 2) hx hb dX14_next_12 (by decide) ?_
    refine lv_aload_n hx hb dX14_next_13 rfl (lv_at hl 0 rfl) ?_
    refine va_get (D := (dC, dI)) (ci := 15) (v := .int (sI s0 2)) (C := RX14) (T := TX14) (N := 11) hx hb hts hi_dm_X14_next_X14 hown hK hP 0 rfl rfl 8 (by decide) (hts (.fieldLink RX14 71 "TimeMachineModel$Codec" "length" "I") (List.mem_of_getElem? (i := 2) rfl)) (fun _ h9 => h9) rfl dX14_next_14 ?_
    obtain ⟨s7, hq, h⟩ := nd_b1_e h
    have hPc := hP
    have hDc := hD
    have hKc := hK
    have hFc := nd_rs hD hS hA
    refine nd_cVv (As := [.int 2, .int (sI s0 2)]) (rest := []) (w' := dw_X14 a ac s7) ⟨hx, hb, hml, hown, hts⟩ (fun sz => dm_X14_meet l hlt dC dI a ac n (2) ((sI s0 2)) s0 hq sz) (cwV 2 hts gi_dm_X14_next_0 rfl rfl rfl (by decide +kernel) ⟨Nat.le_of_ble_eq_true rfl, Nat.le_of_ble_eq_true rfl⟩) hPc hDc hKc hS hA hN (va_recv hKc hPc (ci := 15) (q0 := 0) rfl rfl) rfl hl.1 rfl (Nat.le_of_ble_eq_true rfl) dX14_next_17 (fun H locs hP1 hD1 hk1 hS => ?_)
    have hP := hP1
    have hD := hD1.weaken (fun k q _ h => hFc q.1 h)
    exact (db_X14_next_20 C K)  s7 _ _ _ h hP hD hS (lv_sub hl [0] rfl)
set_option maxHeartbeats 40000000 in
set_option maxRecDepth 100000 in
theorem dm_X14_next (l : Launch) (hlt : l.stackTraces = false) (dC : Nat → ClassId) (dI : Nat → Nat → Nat) (a : Nat → Nat) (ac : Nat → ClassId) (n : Nat) (s0 : St) {r : Int32 × (St)} (h : df_X14_next n s0 = some r) (sz : Nat) : Met l yX14_next ow_dm_X14_next ({ frames := 1, cells := 0, slots := 0, locals := 22 }) (va_Pc [.ref (a 0)] (fun U => U.heap.size = sz ∧ va_P (dC, dI) vwCl (dw_X14 a ac s0) U.heap ∧ va_K (dC, dI) vwCl (dk_X14 ac) U ∧ va_D (fun _ => True) (dw_X14 a ac s0) ∧ nv_E dI (va_A (dw_X14 a ac s0) sz) U)) (va_Qi (fun x _ => x = r.1) (fun (_ : Unit) t => va_P (dC, dI) vwCl (dw_X14 a ac r.2) t.heap ∧ va_K (dC, dI) vwCl (dk_X14 ac) t ∧ va_D (va_A (dw_X14 a ac s0) sz) (dw_X14 a ac r.2)) (va_A (dw_X14 a ac s0) sz)) 0 0 (va_A (dw_X14 a ac s0) sz) := by
  refine Met.ofW (cc := cX14_next) (maxL := 1) (ret := (some .int)) (by decide) rfl ?_
  intro p e s m args below meth c s₁ B hml hv
  obtain ⟨rfl, hsz, hP, hK, hD0, hN⟩ := hv
  have hx := B.exec
  have hb := B.bytes
  have hr := B.returns
  have hts := atoms_spec (ws := ow_dm_X14_next) B.pre
  have hown : s.vm.findClass RX14 = some m.cls := findClass_of_methodNamed B.named
  have hlocks := B.notSynchronized
  subst hsz
  have hD := hD0.self (sz := s.heap.size)
  generalize hAe : va_A (dw_X14 a ac s0) s.heap.size = A at hD hN ⊢
  have hA : ∀ q : Nat, s.heap.size ≤ q → A q := fun q h => by rw [← hAe]; exact Or.inr h
  have hl := lv_entry ([.ref (a 0)]) (n := 1) (Nat.le_of_ble_eq_true rfl)
  rw [lg_entry_eq]
  generalize (lg_sl ([.ref (a 0)]) ++ List.replicate (1 - (lg_sl ([.ref (a 0)])).length) Slot.unset).toArray = ls at hl ⊢
  have hl : lv_has ls 1 [(0, .ref (a 0))] := hl
  exact db_X14_next_0 (dC := dC) (dI := dI) (a := a) (ac := ac) (n := n) (r := r) ⟨hlt, hx, hb, hml, hown, hts, hN, hA, hK⟩ (fun pc v τ H locs ls d z er hP hD hS => by subst er; exact W.zret (v := v) hx hb hr z (fun t ht hW => ⟨⟨v, (), rfl, rfl, by rw [ht]; exact hP, va_K.moved hW.alike hK, hD⟩, hS.F ht⟩) hS.2.2 d) s0 _ _ _ h hP hD va_S.rf (lv_sub hl [0] rfl)
def ow_dm_X14_readVarint : List Cond := Cond.code yX14_readVarint cX14_readVarint 5 (some .long) :: ([Cond.constantLong RX14 85 (1099511627776), Cond.fieldLink RX14 68 "TimeMachineModel$Codec" "at" "I", Cond.methodLink RX14 74 yX14_meet, Cond.instanceMethod yX14_meet, Cond.selects RX14 yX14_meet yX14_meet, Cond.initialized RX14, Cond.fieldLink RX14 65 "TimeMachineModel$Codec" "fault" "I", Cond.methodLink RX14 81 yX14_next, Cond.instanceMethod yX14_next, Cond.selects RX14 yX14_next yX14_next] ++ (u_ws RX14 TX14 11 ++ (ow_dm_X14_meet ++ (ow_dm_X14_next ++ []))))
theorem gd_dm_X14_readVarint : ∀ w ∈ ow_dm_X14_readVarint, (w.onTables && w.keeps) = true ∨ ∃ ty, w = Cond.arrayClass ty := List.forall_mem_cons.mpr ⟨good_of_word rfl, List.forall_mem_append.mpr ⟨fun w h => good_of_word (List.all_eq_true.mp (by decide +kernel) w h), List.forall_mem_append.mpr ⟨gu_X14, List.forall_mem_append.mpr ⟨gd_dm_X14_meet, List.forall_mem_append.mpr ⟨gd_dm_X14_next, fun _ h => nomatch h⟩⟩⟩⟩⟩
theorem hi_dm_X14_readVarint_X14 : ∀ w ∈ u_ws RX14 TX14 11, w ∈ ow_dm_X14_readVarint := fun w h => List.mem_cons_of_mem _ (List.mem_append_right _ (List.mem_append_left _ h))
theorem gi_dm_X14_readVarint_0 : GoodIn ow_dm_X14_readVarint (wsV RX14 74 RX14 yX14_meet ow_dm_X14_meet) := goodIn_app (goodIn_of _ (by decide +kernel)) (fun w h => ⟨List.mem_cons_of_mem _ (List.mem_append_right _ (List.mem_append_right _ (List.mem_append_left _ h))), gd_dm_X14_meet w h⟩)
theorem gi_dm_X14_readVarint_1 : GoodIn ow_dm_X14_readVarint (wsV RX14 81 RX14 yX14_next ow_dm_X14_next) := goodIn_app (goodIn_of _ (by decide +kernel)) (fun w h => ⟨List.mem_cons_of_mem _ (List.mem_append_right _ (List.mem_append_right _ (List.mem_append_right _ (List.mem_append_left _ h)))), gd_dm_X14_next w h⟩)
def dj_X14_readVarint_102 (p : Program) (l : Launch) (e : Env) (s : State) (m : MethodId) (args : Array Value) (below : List Frame) (meth : Method) (c : Code) (Q : State → Prop) (A : Nat → Prop) (dC : Nat → ClassId) (dI : Nat → Nat → Nat) (a : Nat → Nat) (ac : Nat → ClassId) (g : Int64 → (St) → Option (Int64 × (St))) (r : Int64 × (St)) : Prop := ∀ (x1 : Int64) (s0 : St) (H : Heap) (locs : List Loc) (ls : Array Slot), g x1 s0 = some r → va_P (dC, dI) vwCl (dw_X14 a ac s0) H → va_D A (dw_X14 a ac s0) → va_S A s.heap H locs → lv_has ls 5 [(1, .long x1)] → W p l e (headSpec ow_dm_X14_readVarint ({ frames := 2, cells := 0, slots := 0, locals := 42 })).room s m args below meth c H locs 0 0 Q (F0 m 102 ls [])
def dj_X14_readVarint_91 (p : Program) (l : Launch) (e : Env) (s : State) (m : MethodId) (args : Array Value) (below : List Frame) (meth : Method) (c : Code) (Q : State → Prop) (A : Nat → Prop) (dC : Nat → ClassId) (dI : Nat → Nat → Nat) (a : Nat → Nat) (ac : Nat → ClassId) (g : Int64 → (St) → Option (Int64 × (St))) (r : Int64 × (St)) : Prop := ∀ (x1 : Int64) (s0 : St) (H : Heap) (locs : List Loc) (ls : Array Slot), g x1 s0 = some r → va_P (dC, dI) vwCl (dw_X14 a ac s0) H → va_D A (dw_X14 a ac s0) → va_S A s.heap H locs → lv_has ls 5 [(0, .ref (a 0)), (1, .long x1)] → W p l e (headSpec ow_dm_X14_readVarint ({ frames := 2, cells := 0, slots := 0, locals := 42 })).room s m args below meth c H locs 0 0 Q (F0 m 91 ls [])
def dj_X14_readVarint_83 (p : Program) (l : Launch) (e : Env) (s : State) (m : MethodId) (args : Array Value) (below : List Frame) (meth : Method) (c : Code) (Q : State → Prop) (A : Nat → Prop) (dC : Nat → ClassId) (dI : Nat → Nat → Nat) (a : Nat → Nat) (ac : Nat → ClassId) (g : Int64 → (St) → Option (Int64 × (St))) (r : Int64 × (St)) : Prop := ∀ (x1 : Int64) (s0 : St) (H : Heap) (locs : List Loc) (ls : Array Slot), g x1 s0 = some r → va_P (dC, dI) vwCl (dw_X14 a ac s0) H → va_D A (dw_X14 a ac s0) → va_S A s.heap H locs → lv_has ls 5 [(0, .ref (a 0)), (1, .long x1)] → W p l e (headSpec ow_dm_X14_readVarint ({ frames := 2, cells := 0, slots := 0, locals := 42 })).room s m args below meth c H locs 0 0 Q (F0 m 83 ls [])
def dj_X14_readVarint_73 (p : Program) (l : Launch) (e : Env) (s : State) (m : MethodId) (args : Array Value) (below : List Frame) (meth : Method) (c : Code) (Q : State → Prop) (A : Nat → Prop) (dC : Nat → ClassId) (dI : Nat → Nat → Nat) (a : Nat → Nat) (ac : Nat → ClassId) (g : Int64 → Int32 → Int32 → (St) → Option (Int64 × (St))) (r : Int64 × (St)) : Prop := ∀ (x1 : Int64) (x3 : Int32) (x4 : Int32) (s0 : St) (H : Heap) (locs : List Loc) (ls : Array Slot), g x1 x3 x4 s0 = some r → va_P (dC, dI) vwCl (dw_X14 a ac s0) H → va_D A (dw_X14 a ac s0) → va_S A s.heap H locs → lv_has ls 5 [(0, .ref (a 0)), (1, .long x1), (3, .int x3), (4, .int x4)] → W p l e (headSpec ow_dm_X14_readVarint ({ frames := 2, cells := 0, slots := 0, locals := 42 })).room s m args below meth c H locs 0 0 Q (F0 m 73 ls [])
def dj_X14_readVarint_9 (p : Program) (l : Launch) (e : Env) (s : State) (m : MethodId) (args : Array Value) (below : List Frame) (meth : Method) (c : Code) (Q : State → Prop) (A : Nat → Prop) (dC : Nat → ClassId) (dI : Nat → Nat → Nat) (a : Nat → Nat) (ac : Nat → ClassId) (g : Int64 → Int32 → Int32 → (St) → Option (Int64 × (St))) (r : Int64 × (St)) : Prop := ∀ (x1 : Int64) (x3 : Int32) (x4 : Int32) (s0 : St) (H : Heap) (locs : List Loc) (ls : Array Slot), g x1 x3 x4 s0 = some r → va_P (dC, dI) vwCl (dw_X14 a ac s0) H → va_D A (dw_X14 a ac s0) → va_S A s.heap H locs → lv_has ls 5 [(0, .ref (a 0)), (1, .long x1), (3, .int x3), (4, .int x4)] → W p l e (headSpec ow_dm_X14_readVarint ({ frames := 2, cells := 0, slots := 0, locals := 42 })).room s m args below meth c H locs 0 0 Q (F0 m 9 ls [])
def dj_X14_readVarint_0 (p : Program) (l : Launch) (e : Env) (s : State) (m : MethodId) (args : Array Value) (below : List Frame) (meth : Method) (c : Code) (Q : State → Prop) (A : Nat → Prop) (dC : Nat → ClassId) (dI : Nat → Nat → Nat) (a : Nat → Nat) (ac : Nat → ClassId) (g : (St) → Option (Int64 × (St))) (r : Int64 × (St)) : Prop := ∀ (s0 : St) (H : Heap) (locs : List Loc) (ls : Array Slot), g s0 = some r → va_P (dC, dI) vwCl (dw_X14 a ac s0) H → va_D A (dw_X14 a ac s0) → va_S A s.heap H locs → lv_has ls 5 [(0, .ref (a 0))] → W p l e (headSpec ow_dm_X14_readVarint ({ frames := 2, cells := 0, slots := 0, locals := 42 })).room s m args below meth c H locs 0 0 Q (F0 m 0 ls [])
set_option maxHeartbeats 40000000 in
set_option maxRecDepth 100000 in
theorem db_X14_readVarint_102 {p : Program} {l : Launch} {e : Env} {s : State} {m : MethodId} {args : Array Value} {below : List Frame} {meth : Method} {c : Code} {Q : State → Prop} {A : Nat → Prop} {dC : Nat → ClassId} {dI : Nat → Nat → Nat} {a : Nat → Nat} {ac : Nat → ClassId} {n : Nat} {r : Int64 × (St)} (C : nd_C p l s m args c A (dC, dI) cX14_readVarint 5 RX14 ow_dm_X14_readVarint (dk_X14 ac)) (K : nd_Kl p l e (headSpec ow_dm_X14_readVarint ({ frames := 2, cells := 0, slots := 0, locals := 42 })).room s m args below meth c Q A (dC, dI) cX14_readVarint (St) (dw_X14 a ac) r) : dj_X14_readVarint_102 p l e s m args below meth c Q A dC dI a ac (df_X14_readVarint_102 n) r := by
  obtain ⟨hlt, hx, hb, hml, hown, hts, hN, hA, hK⟩ := id C
  intro x1 s0 H locs ls h hP hD hS hl
  unfold df_X14_readVarint_102 at h
  refine lv_lload_n hx hb dX14_readVarint_102 rfl (lv_at hl 0 rfl) ?_
  exact K _ _ _ _ _ _ dX14_readVarint_103 (Option.some.inj h).symm hP hD hS
set_option maxHeartbeats 40000000 in
set_option maxRecDepth 100000 in
theorem db_X14_readVarint_91 {p : Program} {l : Launch} {e : Env} {s : State} {m : MethodId} {args : Array Value} {below : List Frame} {meth : Method} {c : Code} {Q : State → Prop} {A : Nat → Prop} {dC : Nat → ClassId} {dI : Nat → Nat → Nat} {a : Nat → Nat} {ac : Nat → ClassId} {n : Nat} {r : Int64 × (St)} (C : nd_C p l s m args c A (dC, dI) cX14_readVarint 5 RX14 ow_dm_X14_readVarint (dk_X14 ac)) (K : nd_Kl p l e (headSpec ow_dm_X14_readVarint ({ frames := 2, cells := 0, slots := 0, locals := 42 })).room s m args below meth c Q A (dC, dI) cX14_readVarint (St) (dw_X14 a ac) r) : dj_X14_readVarint_91 p l e s m args below meth c Q A dC dI a ac (df_X14_readVarint_91 n) r := by
  obtain ⟨hlt, hx, hb, hml, hown, hts, hN, hA, hK⟩ := id C
  intro x1 s0 H locs ls h hP hD hS hl
  unfold df_X14_readVarint_91 at h
  refine lv_aload_n hx hb dX14_readVarint_91 rfl (lv_at hl 0 rfl) ?_
  refine lv_iconst (v := 3) hx hb dX14_readVarint_92 (by decide) ?_
  refine lv_aload_n hx hb dX14_readVarint_93 rfl (lv_at hl 0 rfl) ?_
  refine va_get (D := (dC, dI)) (ci := 15) (v := .int (sI s0 3)) (C := RX14) (T := TX14) (N := 11) hx hb hts hi_dm_X14_readVarint_X14 hown hK hP 0 rfl rfl 9 (by decide) (hts (.fieldLink RX14 68 "TimeMachineModel$Codec" "at" "I") (List.mem_of_getElem? (i := 2) rfl)) (fun _ h9 => h9) rfl dX14_readVarint_94 ?_
  refine lv_iconst (v := 1) hx hb dX14_readVarint_97 (by decide) ?_
  refine lv_isub hx hb dX14_readVarint_98 ?_
  obtain ⟨s5, hq, h⟩ := nd_b1_e h
  have hPc := hP
  have hDc := hD
  have hKc := hK
  have hFc := nd_rs hD hS hA
  refine nd_cVv (As := [.int 3, .int ((sI s0 3) - 1)]) (rest := []) (w' := dw_X14 a ac s5) ⟨hx, hb, hml, hown, hts⟩ (fun sz => dm_X14_meet l hlt dC dI a ac n (3) (((sI s0 3) - 1)) s0 hq sz) (cwV 2 hts gi_dm_X14_readVarint_0 rfl rfl rfl (by decide +kernel) ⟨Nat.le_of_ble_eq_true rfl, Nat.le_of_ble_eq_true rfl⟩) hPc hDc hKc hS hA hN (va_recv hKc hPc (ci := 15) (q0 := 0) rfl rfl) rfl hl.1 rfl (Nat.le_of_ble_eq_true rfl) dX14_readVarint_99 (fun H locs hP1 hD1 hk1 hS => ?_)
  have hP := hP1
  have hD := hD1.weaken (fun k q _ h => hFc q.1 h)
  exact (db_X14_readVarint_102 C K) (x1) s5 _ _ _ h hP hD hS (lv_sub hl [1] rfl)
set_option maxHeartbeats 40000000 in
set_option maxRecDepth 100000 in
theorem db_X14_readVarint_83 {p : Program} {l : Launch} {e : Env} {s : State} {m : MethodId} {args : Array Value} {below : List Frame} {meth : Method} {c : Code} {Q : State → Prop} {A : Nat → Prop} {dC : Nat → ClassId} {dI : Nat → Nat → Nat} {a : Nat → Nat} {ac : Nat → ClassId} {n : Nat} {r : Int64 × (St)} (C : nd_C p l s m args c A (dC, dI) cX14_readVarint 5 RX14 ow_dm_X14_readVarint (dk_X14 ac)) (K : nd_Kl p l e (headSpec ow_dm_X14_readVarint ({ frames := 2, cells := 0, slots := 0, locals := 42 })).room s m args below meth c Q A (dC, dI) cX14_readVarint (St) (dw_X14 a ac) r) : dj_X14_readVarint_83 p l e s m args below meth c Q A dC dI a ac (df_X14_readVarint_83 n) r := by
  obtain ⟨hlt, hx, hb, hml, hown, hts, hN, hA, hK⟩ := id C
  intro x1 s0 H locs ls h hP hD hS hl
  unfold df_X14_readVarint_83 at h
  refine lv_lload_n hx hb dX14_readVarint_83 rfl (lv_at hl 1 rfl) ?_
  refine lv_ldc2 hx hb hown (hts (.constantLong RX14 85 (1099511627776)) (List.mem_of_getElem? (i := 1) rfl)) dX14_readVarint_84 ?_
  refine W.lcmp hx hb dX14_readVarint_87 ?_
  refine lv_if_le (tgt := 102) hx hb dX14_readVarint_88 (by decide) (fun c3 => ?_) (fun c3 => ?_)
  · have h := nd_pos h c3
    exact (db_X14_readVarint_102 C K) (x1) s0 _ _ _ h hP hD hS (lv_sub hl [1] rfl)
  · have h := nd_neg h c3
    exact (db_X14_readVarint_91 C K) (x1) s0 _ _ _ h hP hD hS (lv_sub hl [0, 1] rfl)
set_option maxHeartbeats 40000000 in
set_option maxRecDepth 100000 in
theorem db_X14_readVarint_73 {p : Program} {l : Launch} {e : Env} {s : State} {m : MethodId} {args : Array Value} {below : List Frame} {meth : Method} {c : Code} {Q : State → Prop} {A : Nat → Prop} {dC : Nat → ClassId} {dI : Nat → Nat → Nat} {a : Nat → Nat} {ac : Nat → ClassId} {n : Nat} {r : Int64 × (St)} (C : nd_C p l s m args c A (dC, dI) cX14_readVarint 5 RX14 ow_dm_X14_readVarint (dk_X14 ac)) (K : nd_Kl p l e (headSpec ow_dm_X14_readVarint ({ frames := 2, cells := 0, slots := 0, locals := 42 })).room s m args below meth c Q A (dC, dI) cX14_readVarint (St) (dw_X14 a ac) r) : dj_X14_readVarint_73 p l e s m args below meth c Q A dC dI a ac (df_X14_readVarint_73 n) r := by
  obtain ⟨hlt, hx, hb, hml, hown, hts, hN, hA, hK⟩ := id C
  intro x1 x3 x4 s0 H locs ls h hP hD hS hl
  unfold df_X14_readVarint_73 at h
  refine lv_iload_n hx hb dX14_readVarint_73 rfl (lv_at hl 2 rfl) ?_
  refine lv_iconst (v := 1) hx hb dX14_readVarint_74 (by decide) ?_
  refine lv_icmp_le (tgt := 83) hx hb dX14_readVarint_75 (by decide) (fun c2 => ?_) (fun c2 => ?_)
  · have h := nd_pos h c2
    exact (db_X14_readVarint_83 C K) (x1) s0 _ _ _ h hP hD hS (lv_sub hl [0, 1] rfl)
  · have h := nd_neg h c2
    refine lv_iload hx hb dX14_readVarint_78 (lv_at hl 3 rfl) ?_
    refine lv_if_eq (tgt := 91) hx hb dX14_readVarint_80 (by decide) (fun c7 => ?_) (fun c7 => ?_)
    · have h := nd_pos h c7
      exact (db_X14_readVarint_91 C K) (x1) s0 _ _ _ h hP hD hS (lv_sub hl [0, 1] rfl)
    · have h := nd_neg h c7
      exact (db_X14_readVarint_83 C K) (x1) s0 _ _ _ h hP hD hS (lv_sub hl [0, 1] rfl)
set_option maxHeartbeats 40000000 in
set_option maxRecDepth 100000 in
theorem dB_X14_readVarint_9 {p : Program} {l : Launch} {e : Env} {s : State} {m : MethodId} {args : Array Value} {below : List Frame} {meth : Method} {c : Code} {Q : State → Prop} {A : Nat → Prop} {dC : Nat → ClassId} {dI : Nat → Nat → Nat} {a : Nat → Nat} {ac : Nat → ClassId} {n : Nat} {r : Int64 × (St)} (C : nd_C p l s m args c A (dC, dI) cX14_readVarint 5 RX14 ow_dm_X14_readVarint (dk_X14 ac)) (K : nd_Kl p l e (headSpec ow_dm_X14_readVarint ({ frames := 2, cells := 0, slots := 0, locals := 42 })).room s m args below meth c Q A (dC, dI) cX14_readVarint (St) (dw_X14 a ac) r) {g9 : Int64 → Int32 → Int32 → (St) → Option (Int64 × (St))} (J9 : dj_X14_readVarint_9 p l e s m args below meth c Q A dC dI a ac g9 r) : dj_X14_readVarint_9 p l e s m args below meth c Q A dC dI a ac (dF_X14_readVarint_9 n g9) r := by
  obtain ⟨hlt, hx, hb, hml, hown, hts, hN, hA, hK⟩ := id C
  intro x1 x3 x4 s0 H locs ls h hP hD hS hl
  unfold dF_X14_readVarint_9 at h
  refine lv_iload hx hb dX14_readVarint_9 (lv_at hl 3 rfl) ?_
  refine lv_bipush (v := 127) hx hb dX14_readVarint_11 (by decide) ?_
  refine lv_icmp_le (tgt := 73) hx hb dX14_readVarint_13 (by decide) (fun c1 => ?_) (fun c1 => ?_)
  · have h := nd_pos h c1
    exact (db_X14_readVarint_73 C K) (x1) (x3) (x4) s0 _ _ _ h hP hD hS (lv_sub hl [0, 1, 2, 3] rfl)
  · have h := nd_neg h c1
    refine lv_aload_n hx hb dX14_readVarint_16 rfl (lv_at hl 0 rfl) ?_
    refine va_get (D := (dC, dI)) (ci := 15) (v := .int (sI s0 4)) (C := RX14) (T := TX14) (N := 11) hx hb hts hi_dm_X14_readVarint_X14 hown hK hP 0 rfl rfl 10 (by decide) (hts (.fieldLink RX14 65 "TimeMachineModel$Codec" "fault" "I") (List.mem_of_getElem? (i := 7) rfl)) (fun _ h9 => h9) rfl dX14_readVarint_17 ?_
    refine lv_if_ne (tgt := 73) hx hb dX14_readVarint_20 (by decide) (fun c8 => ?_) (fun c8 => ?_)
    · have h := nd_neg h c8
      exact (db_X14_readVarint_73 C K) (x1) (x3) (x4) s0 _ _ _ h hP hD hS (lv_sub hl [0, 1, 2, 3] rfl)
    · have h := nd_pos h c8
      refine lv_aload_n hx hb dX14_readVarint_23 rfl (lv_at hl 0 rfl) ?_
      obtain ⟨q9, s10, hq, h⟩ := nd_b2_e h
      have hPc := hP
      have hDc := hD
      have hKc := hK
      have hFc := nd_rs hD hS hA
      refine nd_cVi (As := []) (rest := []) (q := q9) (w' := dw_X14 a ac s10) ⟨hx, hb, hml, hown, hts⟩ (fun sz => dm_X14_next l hlt dC dI a ac n  s0 hq sz) (cwV 0 hts gi_dm_X14_readVarint_1 rfl rfl rfl (by decide +kernel) ⟨Nat.le_of_ble_eq_true rfl, Nat.le_of_ble_eq_true rfl⟩) hPc hDc hKc hS hA hN (va_recv hKc hPc (ci := 15) (q0 := 0) rfl rfl) rfl hl.1 rfl (Nat.le_of_ble_eq_true rfl) dX14_readVarint_24 (fun H locs hP1 hD1 hk1 hS => ?_)
      have hP := hP1
      have hD := hD1.weaken (fun k q _ h => hFc q.1 h)
      refine lv_istore (lv' := [(4, .int q9), (0, .ref (a 0)), (1, .long x1), (3, .int x3)]) hx hb dX14_readVarint_27 hl (by decide) rfl (fun ls hl => ?_)
      refine lv_lload_n hx hb dX14_readVarint_29 rfl (lv_at hl 2 rfl) ?_
      refine lv_iload hx hb dX14_readVarint_30 (lv_at hl 0 rfl) ?_
      refine lv_bipush (v := 127) hx hb dX14_readVarint_32 (by decide) ?_
      refine lv_iand hx hb dX14_readVarint_34 ?_
      refine lv_i2l hx hb dX14_readVarint_35 rfl ?_
      refine lv_bipush (v := 7) hx hb dX14_readVarint_36 (by decide) ?_
      refine lv_iload_n hx hb dX14_readVarint_38 rfl (lv_at hl 3 rfl) ?_
      refine lv_imul hx hb dX14_readVarint_39 ?_
      refine lv_lshl hx hb dX14_readVarint_40 rfl ?_
      refine lv_lor hx hb dX14_readVarint_41 ?_
      refine lv_topl (fun z12 ez12 => ?_)
      have h := nd_at h ez12
      refine lv_lstore_n (lv' := [(1, .long z12), (4, .int q9), (0, .ref (a 0)), (3, .int x3)]) hx hb dX14_readVarint_42 rfl hl (by decide) rfl (fun ls hl => ?_)
      obtain ⟨z13, ez13, h⟩ := nd_let_e h
      refine lv_iinc (v := z13) (lv' := [(3, .int z13), (1, .long z12), (4, .int q9), (0, .ref (a 0))]) hx hb dX14_readVarint_43 hl (k := 3) rfl (by rw [ez13]) (by decide) rfl (fun ls hl => ?_)
      refine lv_iload_n hx hb dX14_readVarint_46 rfl (lv_at hl 0 rfl) ?_
      refine lv_bipush (v := 7) hx hb dX14_readVarint_47 (by decide) ?_
      refine lv_icmp_ne (tgt := 9) hx hb dX14_readVarint_49 (by decide) (fun c14 => ?_) (fun c14 => ?_)
      · have h := nd_neg h c14
        exact (J9) (z12) (z13) (q9) s10 _ _ _ h hP hD hS (lv_sub hl [3, 1, 0, 2] rfl)
      · have h := nd_pos h c14
        refine lv_iload hx hb dX14_readVarint_52 (lv_at hl 2 rfl) ?_
        refine lv_bipush (v := 127) hx hb dX14_readVarint_54 (by decide) ?_
        refine lv_icmp_le (tgt := 9) hx hb dX14_readVarint_56 (by decide) (fun c15 => ?_) (fun c15 => ?_)
        · have h := nd_pos h c15
          exact (J9) (z12) (z13) (q9) s10 _ _ _ h hP hD hS (lv_sub hl [3, 1, 0, 2] rfl)
        · have h := nd_neg h c15
          refine lv_aload_n hx hb dX14_readVarint_59 rfl (lv_at hl 3 rfl) ?_
          refine lv_iconst (v := 3) hx hb dX14_readVarint_60 (by decide) ?_
          refine lv_aload_n hx hb dX14_readVarint_61 rfl (lv_at hl 3 rfl) ?_
          refine va_get (D := (dC, dI)) (ci := 15) (v := .int (sI s10 3)) (C := RX14) (T := TX14) (N := 11) hx hb hts hi_dm_X14_readVarint_X14 hown hK hP 0 rfl rfl 9 (by decide) (hts (.fieldLink RX14 68 "TimeMachineModel$Codec" "at" "I") (List.mem_of_getElem? (i := 2) rfl)) (fun _ h9 => h9) rfl dX14_readVarint_62 ?_
          refine lv_iconst (v := 1) hx hb dX14_readVarint_65 (by decide) ?_
          refine lv_isub hx hb dX14_readVarint_66 ?_
          obtain ⟨s17, hq, h⟩ := nd_b1_e h
          have hPc := hP
          have hDc := hD
          have hKc := hK
          have hFc := nd_rs hD hS hA
          refine nd_cVv (As := [.int 3, .int ((sI s10 3) - 1)]) (rest := []) (w' := dw_X14 a ac s17) ⟨hx, hb, hml, hown, hts⟩ (fun sz => dm_X14_meet l hlt dC dI a ac n (3) (((sI s10 3) - 1)) s10 hq sz) (cwV 2 hts gi_dm_X14_readVarint_0 rfl rfl rfl (by decide +kernel) ⟨Nat.le_of_ble_eq_true rfl, Nat.le_of_ble_eq_true rfl⟩) hPc hDc hKc hS hA hN (va_recv hKc hPc (ci := 15) (q0 := 0) rfl rfl) rfl hl.1 rfl (Nat.le_of_ble_eq_true rfl) dX14_readVarint_67 (fun H locs hP1 hD1 hk1 hS => ?_)
          have hP := hP1
          have hD := hD1.weaken (fun k q _ h => hFc q.1 h)
          refine lv_goto (tgt := 9) hx hb dX14_readVarint_70 (by decide) ?_
          exact (J9) (z12) (z13) (q9) s17 _ _ _ h hP hD hS (lv_sub hl [3, 1, 0, 2] rfl)
set_option maxHeartbeats 40000000 in
set_option maxRecDepth 100000 in
theorem db_X14_readVarint_9 {p : Program} {l : Launch} {e : Env} {s : State} {m : MethodId} {args : Array Value} {below : List Frame} {meth : Method} {c : Code} {Q : State → Prop} {A : Nat → Prop} {dC : Nat → ClassId} {dI : Nat → Nat → Nat} {a : Nat → Nat} {ac : Nat → ClassId} {n : Nat} {r : Int64 × (St)} (C : nd_C p l s m args c A (dC, dI) cX14_readVarint 5 RX14 ow_dm_X14_readVarint (dk_X14 ac)) (K : nd_Kl p l e (headSpec ow_dm_X14_readVarint ({ frames := 2, cells := 0, slots := 0, locals := 42 })).room s m args below meth c Q A (dC, dI) cX14_readVarint (St) (dw_X14 a ac) r) (k : Nat) : dj_X14_readVarint_9 p l e s m args below meth c Q A dC dI a ac (df_X14_readVarint_9 n k) r := by
  induction k with
  | zero => intro x1 x3 x4 s0 H locs ls h; exact nomatch (show (none : Option (Int64 × (St))) = some r from h)
  | succ k ih => exact dB_X14_readVarint_9 C K ih
set_option maxHeartbeats 40000000 in
set_option maxRecDepth 100000 in
theorem db_X14_readVarint_0 {p : Program} {l : Launch} {e : Env} {s : State} {m : MethodId} {args : Array Value} {below : List Frame} {meth : Method} {c : Code} {Q : State → Prop} {A : Nat → Prop} {dC : Nat → ClassId} {dI : Nat → Nat → Nat} {a : Nat → Nat} {ac : Nat → ClassId} {n : Nat} {r : Int64 × (St)} (C : nd_C p l s m args c A (dC, dI) cX14_readVarint 5 RX14 ow_dm_X14_readVarint (dk_X14 ac)) (K : nd_Kl p l e (headSpec ow_dm_X14_readVarint ({ frames := 2, cells := 0, slots := 0, locals := 42 })).room s m args below meth c Q A (dC, dI) cX14_readVarint (St) (dw_X14 a ac) r) : dj_X14_readVarint_0 p l e s m args below meth c Q A dC dI a ac (df_X14_readVarint_0 n) r := by
  obtain ⟨hlt, hx, hb, hml, hown, hts, hN, hA, hK⟩ := id C
  intro s0 H locs ls h hP hD hS hl
  unfold df_X14_readVarint_0 at h
  refine lv_lconst (v := 0) hx hb dX14_readVarint_0 (by decide) ?_
  refine lv_lstore_n (lv' := [(1, .long 0), (0, .ref (a 0))]) hx hb dX14_readVarint_1 rfl hl (by decide) rfl (fun ls hl => ?_)
  refine lv_iconst (v := 0) hx hb dX14_readVarint_2 (by decide) ?_
  refine lv_istore_n (lv' := [(3, .int 0), (1, .long 0), (0, .ref (a 0))]) hx hb dX14_readVarint_3 rfl hl (by decide) rfl (fun ls hl => ?_)
  refine lv_sipush (v := 128) hx hb dX14_readVarint_4 (by decide) ?_
  refine lv_istore (lv' := [(4, .int 128), (3, .int 0), (1, .long 0), (0, .ref (a 0))]) hx hb dX14_readVarint_7 hl (by decide) rfl (fun ls hl => ?_)
  exact (db_X14_readVarint_9 C K n) (0) (0) (128) s0 _ _ _ h hP hD hS (lv_sub hl [3, 2, 1, 0] rfl)
set_option maxHeartbeats 40000000 in
set_option maxRecDepth 100000 in
theorem dm_X14_readVarint (l : Launch) (hlt : l.stackTraces = false) (dC : Nat → ClassId) (dI : Nat → Nat → Nat) (a : Nat → Nat) (ac : Nat → ClassId) (n : Nat) (s0 : St) {r : Int64 × (St)} (h : df_X14_readVarint n s0 = some r) (sz : Nat) : Met l yX14_readVarint ow_dm_X14_readVarint ({ frames := 2, cells := 0, slots := 0, locals := 42 }) (va_Pc [.ref (a 0)] (fun U => U.heap.size = sz ∧ va_P (dC, dI) vwCl (dw_X14 a ac s0) U.heap ∧ va_K (dC, dI) vwCl (dk_X14 ac) U ∧ va_D (fun _ => True) (dw_X14 a ac s0) ∧ nv_E dI (va_A (dw_X14 a ac s0) sz) U)) (va_Ql (fun x _ => x = r.1) (fun (_ : Unit) t => va_P (dC, dI) vwCl (dw_X14 a ac r.2) t.heap ∧ va_K (dC, dI) vwCl (dk_X14 ac) t ∧ va_D (va_A (dw_X14 a ac s0) sz) (dw_X14 a ac r.2)) (va_A (dw_X14 a ac s0) sz)) 0 0 (va_A (dw_X14 a ac s0) sz) := by
  refine Met.ofW (cc := cX14_readVarint) (maxL := 5) (ret := (some .long)) (by decide) rfl ?_
  intro p e s m args below meth c s₁ B hml hv
  obtain ⟨rfl, hsz, hP, hK, hD0, hN⟩ := hv
  have hx := B.exec
  have hb := B.bytes
  have hr := B.returns
  have hts := atoms_spec (ws := ow_dm_X14_readVarint) B.pre
  have hown : s.vm.findClass RX14 = some m.cls := findClass_of_methodNamed B.named
  have hlocks := B.notSynchronized
  subst hsz
  have hD := hD0.self (sz := s.heap.size)
  generalize hAe : va_A (dw_X14 a ac s0) s.heap.size = A at hD hN ⊢
  have hA : ∀ q : Nat, s.heap.size ≤ q → A q := fun q h => by rw [← hAe]; exact Or.inr h
  have hl := lv_entry ([.ref (a 0)]) (n := 5) (Nat.le_of_ble_eq_true rfl)
  rw [lg_entry_eq]
  generalize (lg_sl ([.ref (a 0)]) ++ List.replicate (5 - (lg_sl ([.ref (a 0)])).length) Slot.unset).toArray = ls at hl ⊢
  have hl : lv_has ls 5 [(0, .ref (a 0))] := hl
  exact db_X14_readVarint_0 (dC := dC) (dI := dI) (a := a) (ac := ac) (n := n) (r := r) ⟨hlt, hx, hb, hml, hown, hts, hN, hA, hK⟩ (fun pc v τ H locs ls d er hP hD hS => by subst er; exact W.lret (v := v) hx hb hr (fun t ht hW => ⟨⟨v, (), rfl, rfl, by rw [ht]; exact hP, va_K.moved hW.alike hK, hD⟩, hS.F ht⟩) hS.2.2 d) s0 _ _ _ h hP hD va_S.rf (lv_sub hl [0] rfl)
def ow_dm_X14_before : List Cond := Cond.code yX14_before cX14_before 7 (some .int) :: ([Cond.fieldLink RX14 27 "TimeMachineModel$Codec" "events" "I", Cond.fieldLink RX14 9 "TimeMachineModel$Codec" "kind" "[I"] ++ (u_ws RX14 TX14 11 ++ []))
theorem gd_dm_X14_before : ∀ w ∈ ow_dm_X14_before, (w.onTables && w.keeps) = true ∨ ∃ ty, w = Cond.arrayClass ty := List.forall_mem_cons.mpr ⟨good_of_word rfl, List.forall_mem_append.mpr ⟨fun w h => good_of_word (List.all_eq_true.mp (by decide +kernel) w h), List.forall_mem_append.mpr ⟨gu_X14, fun _ h => nomatch h⟩⟩⟩
theorem hi_dm_X14_before_X14 : ∀ w ∈ u_ws RX14 TX14 11, w ∈ ow_dm_X14_before := fun w h => List.mem_cons_of_mem _ (List.mem_append_right _ (List.mem_append_left _ h))
def dj_X14_before_59 (p : Program) (l : Launch) (e : Env) (s : State) (m : MethodId) (args : Array Value) (below : List Frame) (meth : Method) (c : Code) (Q : State → Prop) (A : Nat → Prop) (dC : Nat → ClassId) (dI : Nat → Nat → Nat) (a : Nat → Nat) (ac : Nat → ClassId) (g : Int32 → Int64 → Int32 → (St) → Option (Int32 × (St))) (r : Int32 × (St)) : Prop := ∀ (x1 : Int32) (x4 : Int64) (x6 : Int32) (s0 : St) (H : Heap) (locs : List Loc) (ls : Array Slot), g x1 x4 x6 s0 = some r → va_P (dC, dI) vwCl (dw_X14 a ac s0) H → va_D A (dw_X14 a ac s0) → va_S A s.heap H locs → lv_has ls 7 [(0, .ref (a 0)), (1, .int x1), (4, .long x4), (6, .int x6)] → W p l e (headSpec ow_dm_X14_before ({ frames := 0, cells := 0, slots := 0, locals := 0 })).room s m args below meth c H locs 0 0 Q (F0 m 59 ls [])
def dj_X14_before_36 (p : Program) (l : Launch) (e : Env) (s : State) (m : MethodId) (args : Array Value) (below : List Frame) (meth : Method) (c : Code) (Q : State → Prop) (A : Nat → Prop) (dC : Nat → ClassId) (dI : Nat → Nat → Nat) (a : Nat → Nat) (ac : Nat → ClassId) (g : Int32 → Int32 → Int64 → (St) → Option (Int32 × (St))) (r : Int32 × (St)) : Prop := ∀ (x1 : Int32) (x6 : Int32) (y0 : Int64) (s0 : St) (H : Heap) (locs : List Loc) (ls : Array Slot), g x1 x6 y0 s0 = some r → va_P (dC, dI) vwCl (dw_X14 a ac s0) H → va_D A (dw_X14 a ac s0) → va_S A s.heap H locs → lv_has ls 7 [(0, .ref (a 0)), (1, .int x1), (6, .int x6)] → W p l e (headSpec ow_dm_X14_before ({ frames := 0, cells := 0, slots := 0, locals := 0 })).room s m args below meth c H locs 0 0 Q (F0 m 36 ls [.long y0])
def dj_X14_before_11 (p : Program) (l : Launch) (e : Env) (s : State) (m : MethodId) (args : Array Value) (below : List Frame) (meth : Method) (c : Code) (Q : State → Prop) (A : Nat → Prop) (dC : Nat → ClassId) (dI : Nat → Nat → Nat) (a : Nat → Nat) (ac : Nat → ClassId) (g : Int32 → Int64 → Int32 → (St) → Option (Int32 × (St))) (r : Int32 × (St)) : Prop := ∀ (x1 : Int32) (x4 : Int64) (x6 : Int32) (s0 : St) (H : Heap) (locs : List Loc) (ls : Array Slot), g x1 x4 x6 s0 = some r → va_P (dC, dI) vwCl (dw_X14 a ac s0) H → va_D A (dw_X14 a ac s0) → va_S A s.heap H locs → lv_has ls 7 [(0, .ref (a 0)), (1, .int x1), (4, .long x4), (6, .int x6)] → W p l e (headSpec ow_dm_X14_before ({ frames := 0, cells := 0, slots := 0, locals := 0 })).room s m args below meth c H locs 0 0 Q (F0 m 11 ls [])
def dj_X14_before_0 (p : Program) (l : Launch) (e : Env) (s : State) (m : MethodId) (args : Array Value) (below : List Frame) (meth : Method) (c : Code) (Q : State → Prop) (A : Nat → Prop) (dC : Nat → ClassId) (dI : Nat → Nat → Nat) (a : Nat → Nat) (ac : Nat → ClassId) (g : Int32 → Int64 → (St) → Option (Int32 × (St))) (r : Int32 × (St)) : Prop := ∀ (v0 : Int32) (v1 : Int64) (s0 : St) (H : Heap) (locs : List Loc) (ls : Array Slot), g v0 v1 s0 = some r → va_P (dC, dI) vwCl (dw_X14 a ac s0) H → va_D A (dw_X14 a ac s0) → va_S A s.heap H locs → lv_has ls 7 [(0, .ref (a 0)), (1, .int v0), (2, .long v1)] → W p l e (headSpec ow_dm_X14_before ({ frames := 0, cells := 0, slots := 0, locals := 0 })).room s m args below meth c H locs 0 0 Q (F0 m 0 ls [])
set_option maxHeartbeats 40000000 in
set_option maxRecDepth 100000 in
theorem db_X14_before_59 {p : Program} {l : Launch} {e : Env} {s : State} {m : MethodId} {args : Array Value} {below : List Frame} {meth : Method} {c : Code} {Q : State → Prop} {A : Nat → Prop} {dC : Nat → ClassId} {dI : Nat → Nat → Nat} {a : Nat → Nat} {ac : Nat → ClassId} {n : Nat} {r : Int32 × (St)} (C : nd_C p l s m args c A (dC, dI) cX14_before 7 RX14 ow_dm_X14_before (dk_X14 ac)) (K : nd_Ki p l e (headSpec ow_dm_X14_before ({ frames := 0, cells := 0, slots := 0, locals := 0 })).room s m args below meth c Q A (dC, dI) cX14_before .int (St) (dw_X14 a ac) r) {g11 : Int32 → Int64 → Int32 → (St) → Option (Int32 × (St))} (J11 : dj_X14_before_11 p l e s m args below meth c Q A dC dI a ac g11 r) : dj_X14_before_59 p l e s m args below meth c Q A dC dI a ac (df_X14_before_59 n g11) r := by
  obtain ⟨hlt, hx, hb, hml, hown, hts, hN, hA, hK⟩ := id C
  intro x1 x4 x6 s0 H locs ls h hP hD hS hl
  unfold df_X14_before_59 at h
  obtain ⟨z7, ez7, h⟩ := nd_let_e h
  refine lv_iinc (v := z7) (lv' := [(6, .int z7), (0, .ref (a 0)), (1, .int x1), (4, .long x4)]) hx hb dX14_before_59 hl (k := 3) rfl (by rw [ez7]) (by decide) rfl (fun ls hl => ?_)
  refine lv_goto (tgt := 11) hx hb dX14_before_62 (by decide) ?_
  exact (J11) (x1) (x4) (z7) s0 _ _ _ h hP hD hS (lv_sub hl [1, 2, 3, 0] rfl)
set_option maxHeartbeats 40000000 in
set_option maxRecDepth 100000 in
theorem db_X14_before_36 {p : Program} {l : Launch} {e : Env} {s : State} {m : MethodId} {args : Array Value} {below : List Frame} {meth : Method} {c : Code} {Q : State → Prop} {A : Nat → Prop} {dC : Nat → ClassId} {dI : Nat → Nat → Nat} {a : Nat → Nat} {ac : Nat → ClassId} {n : Nat} {r : Int32 × (St)} (C : nd_C p l s m args c A (dC, dI) cX14_before 7 RX14 ow_dm_X14_before (dk_X14 ac)) (K : nd_Ki p l e (headSpec ow_dm_X14_before ({ frames := 0, cells := 0, slots := 0, locals := 0 })).room s m args below meth c Q A (dC, dI) cX14_before .int (St) (dw_X14 a ac) r) {g11 : Int32 → Int64 → Int32 → (St) → Option (Int32 × (St))} (J11 : dj_X14_before_11 p l e s m args below meth c Q A dC dI a ac g11 r) : dj_X14_before_36 p l e s m args below meth c Q A dC dI a ac (df_X14_before_36 n g11) r := by
  obtain ⟨hlt, hx, hb, hml, hown, hts, hN, hA, hK⟩ := id C
  intro x1 x6 y0 s0 H locs ls h hP hD hS hl
  unfold df_X14_before_36 at h
  refine lv_lstore (lv' := [(4, .long y0), (0, .ref (a 0)), (1, .int x1), (6, .int x6)]) hx hb dX14_before_36 hl (by decide) rfl (fun ls hl => ?_)
  refine lv_aload_n hx hb dX14_before_38 rfl (lv_at hl 1 rfl) ?_
  refine va_get (D := (dC, dI)) (ci := 15) (v := .ref (a 1)) (C := RX14) (T := TX14) (N := 11) hx hb hts hi_dm_X14_before_X14 hown hK hP 0 rfl rfl 1 (by decide) (hts (.fieldLink RX14 9 "TimeMachineModel$Codec" "kind" "[I") (List.mem_of_getElem? (i := 2) rfl)) (fun _ h9 => h9) rfl dX14_before_39 ?_
  refine lv_iload hx hb dX14_before_42 (lv_at hl 3 rfl) ?_
  obtain ⟨i5, h⟩ := nd_ck_e h
  refine va_iald (i := x6) hx hb hK hP 1 0 rfl rfl i5 dX14_before_44 ?_
  refine lv_iload_n hx hb dX14_before_45 rfl (lv_at hl 2 rfl) ?_
  refine lv_icmp_ne (tgt := 59) hx hb dX14_before_46 (by decide) (fun c6 => ?_) (fun c6 => ?_)
  · have h := nd_neg h c6
    exact (db_X14_before_59 C K J11) (x1) (y0) (x6) s0 _ _ _ h hP hD hS (lv_sub hl [1, 2, 0, 3] rfl)
  · have h := nd_pos h c6
    refine lv_lload hx hb dX14_before_49 (lv_at hl 0 rfl) ?_
    refine lv_lconst (v := 0) hx hb dX14_before_51 (by decide) ?_
    refine W.lcmp hx hb dX14_before_52 ?_
    refine lv_if_ne (tgt := 59) hx hb dX14_before_53 (by decide) (fun c8 => ?_) (fun c8 => ?_)
    · have h := nd_neg h c8
      exact (db_X14_before_59 C K J11) (x1) (y0) (x6) s0 _ _ _ h hP hD hS (lv_sub hl [1, 2, 0, 3] rfl)
    · have h := nd_pos h c8
      refine lv_iload hx hb dX14_before_56 (lv_at hl 3 rfl) ?_
      exact K _ _ _ _ _ _ dX14_before_58 rfl (Option.some.inj h).symm hP hD hS
set_option maxHeartbeats 40000000 in
set_option maxRecDepth 100000 in
theorem dB_X14_before_11 {p : Program} {l : Launch} {e : Env} {s : State} {m : MethodId} {args : Array Value} {below : List Frame} {meth : Method} {c : Code} {Q : State → Prop} {A : Nat → Prop} {dC : Nat → ClassId} {dI : Nat → Nat → Nat} {a : Nat → Nat} {ac : Nat → ClassId} {n : Nat} {r : Int32 × (St)} (C : nd_C p l s m args c A (dC, dI) cX14_before 7 RX14 ow_dm_X14_before (dk_X14 ac)) (K : nd_Ki p l e (headSpec ow_dm_X14_before ({ frames := 0, cells := 0, slots := 0, locals := 0 })).room s m args below meth c Q A (dC, dI) cX14_before .int (St) (dw_X14 a ac) r) {g11 : Int32 → Int64 → Int32 → (St) → Option (Int32 × (St))} (J11 : dj_X14_before_11 p l e s m args below meth c Q A dC dI a ac g11 r) : dj_X14_before_11 p l e s m args below meth c Q A dC dI a ac (dF_X14_before_11 n g11) r := by
  obtain ⟨hlt, hx, hb, hml, hown, hts, hN, hA, hK⟩ := id C
  intro x1 x4 x6 s0 H locs ls h hP hD hS hl
  unfold dF_X14_before_11 at h
  refine lv_iload hx hb dX14_before_11 (lv_at hl 3 rfl) ?_
  refine lv_if_lt (tgt := 65) hx hb dX14_before_13 (by decide) (fun c2 => ?_) (fun c2 => ?_)
  · have h := nd_pos h c2
    refine lv_iconst (v := (-1)) hx hb dX14_before_65 (by decide) ?_
    exact K _ _ _ _ _ _ dX14_before_66 rfl (Option.some.inj h).symm hP hD hS
  · have h := nd_neg h c2
    refine lv_aload_n hx hb dX14_before_16 rfl (lv_at hl 0 rfl) ?_
    refine va_get (D := (dC, dI)) (ci := 15) (v := .ref (a 1)) (C := RX14) (T := TX14) (N := 11) hx hb hts hi_dm_X14_before_X14 hown hK hP 0 rfl rfl 1 (by decide) (hts (.fieldLink RX14 9 "TimeMachineModel$Codec" "kind" "[I") (List.mem_of_getElem? (i := 2) rfl)) (fun _ h9 => h9) rfl dX14_before_17 ?_
    refine lv_iload hx hb dX14_before_20 (lv_at hl 3 rfl) ?_
    obtain ⟨i3, h⟩ := nd_ck_e h
    refine va_iald (i := x6) hx hb hK hP 1 0 rfl rfl i3 dX14_before_22 ?_
    refine lv_iload_n hx hb dX14_before_23 rfl (lv_at hl 1 rfl) ?_
    refine lv_icmp_ne (tgt := 34) hx hb dX14_before_24 (by decide) (fun c4 => ?_) (fun c4 => ?_)
    · have h := nd_neg h c4
      refine lv_lload hx hb dX14_before_34 (lv_at hl 2 rfl) ?_
      exact (db_X14_before_36 C K J11) (x1) (x6) (x4) s0 _ _ _ h hP hD hS (lv_sub hl [0, 1, 3] rfl)
    · have h := nd_pos h c4
      refine lv_lload hx hb dX14_before_27 (lv_at hl 2 rfl) ?_
      refine lv_lconst (v := 1) hx hb dX14_before_29 (by decide) ?_
      refine lv_lsub hx hb dX14_before_30 ?_
      refine lv_goto (tgt := 36) hx hb dX14_before_31 (by decide) ?_
      exact (db_X14_before_36 C K J11) (x1) (x6) (((x4 : Int64) - 1)) s0 _ _ _ h hP hD hS (lv_sub hl [0, 1, 3] rfl)
set_option maxHeartbeats 40000000 in
set_option maxRecDepth 100000 in
theorem db_X14_before_11 {p : Program} {l : Launch} {e : Env} {s : State} {m : MethodId} {args : Array Value} {below : List Frame} {meth : Method} {c : Code} {Q : State → Prop} {A : Nat → Prop} {dC : Nat → ClassId} {dI : Nat → Nat → Nat} {a : Nat → Nat} {ac : Nat → ClassId} {n : Nat} {r : Int32 × (St)} (C : nd_C p l s m args c A (dC, dI) cX14_before 7 RX14 ow_dm_X14_before (dk_X14 ac)) (K : nd_Ki p l e (headSpec ow_dm_X14_before ({ frames := 0, cells := 0, slots := 0, locals := 0 })).room s m args below meth c Q A (dC, dI) cX14_before .int (St) (dw_X14 a ac) r) (k : Nat) : dj_X14_before_11 p l e s m args below meth c Q A dC dI a ac (df_X14_before_11 n k) r := by
  induction k with
  | zero => intro x1 x4 x6 s0 H locs ls h; exact nomatch (show (none : Option (Int32 × (St))) = some r from h)
  | succ k ih => exact dB_X14_before_11 C K ih
set_option maxHeartbeats 40000000 in
set_option maxRecDepth 100000 in
theorem db_X14_before_0 {p : Program} {l : Launch} {e : Env} {s : State} {m : MethodId} {args : Array Value} {below : List Frame} {meth : Method} {c : Code} {Q : State → Prop} {A : Nat → Prop} {dC : Nat → ClassId} {dI : Nat → Nat → Nat} {a : Nat → Nat} {ac : Nat → ClassId} {n : Nat} {r : Int32 × (St)} (C : nd_C p l s m args c A (dC, dI) cX14_before 7 RX14 ow_dm_X14_before (dk_X14 ac)) (K : nd_Ki p l e (headSpec ow_dm_X14_before ({ frames := 0, cells := 0, slots := 0, locals := 0 })).room s m args below meth c Q A (dC, dI) cX14_before .int (St) (dw_X14 a ac) r) : dj_X14_before_0 p l e s m args below meth c Q A dC dI a ac (df_X14_before_0 n) r := by
  obtain ⟨hlt, hx, hb, hml, hown, hts, hN, hA, hK⟩ := id C
  intro v0 v1 s0 H locs ls h hP hD hS hl
  unfold df_X14_before_0 at h
  refine lv_lload_n hx hb dX14_before_0 rfl (lv_at hl 2 rfl) ?_
  refine lv_lstore (lv' := [(4, .long v1), (0, .ref (a 0)), (1, .int v0), (2, .long v1)]) hx hb dX14_before_1 hl (by decide) rfl (fun ls hl => ?_)
  refine lv_aload_n hx hb dX14_before_3 rfl (lv_at hl 1 rfl) ?_
  refine va_get (D := (dC, dI)) (ci := 15) (v := .int (sI s0 0)) (C := RX14) (T := TX14) (N := 11) hx hb hts hi_dm_X14_before_X14 hown hK hP 0 rfl rfl 0 (by decide) (hts (.fieldLink RX14 27 "TimeMachineModel$Codec" "events" "I") (List.mem_of_getElem? (i := 1) rfl)) (fun _ h9 => h9) rfl dX14_before_4 ?_
  refine lv_iconst (v := 1) hx hb dX14_before_7 (by decide) ?_
  refine lv_isub hx hb dX14_before_8 ?_
  refine lv_topi (fun z1 ez1 => ?_)
  have h := nd_at h ez1
  refine lv_istore (lv' := [(6, .int z1), (4, .long v1), (0, .ref (a 0)), (1, .int v0), (2, .long v1)]) hx hb dX14_before_9 hl (by decide) rfl (fun ls hl => ?_)
  exact (db_X14_before_11 C K n) (v0) (v1) (z1) s0 _ _ _ h hP hD hS (lv_sub hl [2, 3, 1, 0] rfl)
set_option maxHeartbeats 40000000 in
set_option maxRecDepth 100000 in
theorem dm_X14_before (l : Launch) (hlt : l.stackTraces = false) (dC : Nat → ClassId) (dI : Nat → Nat → Nat) (a : Nat → Nat) (ac : Nat → ClassId) (n : Nat) (v0 : Int32) (v1 : Int64) (s0 : St) {r : Int32 × (St)} (h : df_X14_before n v0 v1 s0 = some r) (sz : Nat) : Met l yX14_before ow_dm_X14_before ({ frames := 0, cells := 0, slots := 0, locals := 0 }) (va_Pc [.ref (a 0), .int v0, .long v1] (fun U => U.heap.size = sz ∧ va_P (dC, dI) vwCl (dw_X14 a ac s0) U.heap ∧ va_K (dC, dI) vwCl (dk_X14 ac) U ∧ va_D (fun _ => True) (dw_X14 a ac s0) ∧ nv_E dI (va_A (dw_X14 a ac s0) sz) U)) (va_Qi (fun x _ => x = r.1) (fun (_ : Unit) t => va_P (dC, dI) vwCl (dw_X14 a ac r.2) t.heap ∧ va_K (dC, dI) vwCl (dk_X14 ac) t ∧ va_D (va_A (dw_X14 a ac s0) sz) (dw_X14 a ac r.2)) (va_A (dw_X14 a ac s0) sz)) 0 0 (va_A (dw_X14 a ac s0) sz) := by
  refine Met.ofW (cc := cX14_before) (maxL := 7) (ret := (some .int)) (by decide) rfl ?_
  intro p e s m args below meth c s₁ B hml hv
  obtain ⟨rfl, hsz, hP, hK, hD0, hN⟩ := hv
  have hx := B.exec
  have hb := B.bytes
  have hr := B.returns
  have hts := atoms_spec (ws := ow_dm_X14_before) B.pre
  have hown : s.vm.findClass RX14 = some m.cls := findClass_of_methodNamed B.named
  have hlocks := B.notSynchronized
  subst hsz
  have hD := hD0.self (sz := s.heap.size)
  generalize hAe : va_A (dw_X14 a ac s0) s.heap.size = A at hD hN ⊢
  have hA : ∀ q : Nat, s.heap.size ≤ q → A q := fun q h => by rw [← hAe]; exact Or.inr h
  have hl := lv_entry ([.ref (a 0), .int v0, .long v1]) (n := 7) (Nat.le_of_ble_eq_true rfl)
  rw [lg_entry_eq]
  generalize (lg_sl ([.ref (a 0), .int v0, .long v1]) ++ List.replicate (7 - (lg_sl ([.ref (a 0), .int v0, .long v1])).length) Slot.unset).toArray = ls at hl ⊢
  have hl : lv_has ls 7 [(0, .ref (a 0)), (1, .int v0), (2, .long v1)] := hl
  exact db_X14_before_0 (dC := dC) (dI := dI) (a := a) (ac := ac) (n := n) (r := r) ⟨hlt, hx, hb, hml, hown, hts, hN, hA, hK⟩ (fun pc v τ H locs ls d z er hP hD hS => by subst er; exact W.zret (v := v) hx hb hr z (fun t ht hW => ⟨⟨v, (), rfl, rfl, by rw [ht]; exact hP, va_K.moved hW.alike hK, hD⟩, hS.F ht⟩) hS.2.2 d) v0 v1 s0 _ _ _ h hP hD va_S.rf (lv_sub hl [0, 1, 2] rfl)
def ow_dm_X14_readCount : List Cond := Cond.code yX14_readCount cX14_readCount 4 (some .long) :: ([Cond.fieldLink RX14 68 "TimeMachineModel$Codec" "at" "I", Cond.methodLink RX14 87 yX14_readVarint, Cond.instanceMethod yX14_readVarint, Cond.selects RX14 yX14_readVarint yX14_readVarint, Cond.initialized RX14, Cond.fieldLink RX14 65 "TimeMachineModel$Codec" "fault" "I", Cond.methodLink RX14 74 yX14_meet, Cond.instanceMethod yX14_meet, Cond.selects RX14 yX14_meet yX14_meet] ++ (u_ws RX14 TX14 11 ++ (ow_dm_X14_readVarint ++ (ow_dm_X14_meet ++ []))))
theorem gd_dm_X14_readCount : ∀ w ∈ ow_dm_X14_readCount, (w.onTables && w.keeps) = true ∨ ∃ ty, w = Cond.arrayClass ty := List.forall_mem_cons.mpr ⟨good_of_word rfl, List.forall_mem_append.mpr ⟨fun w h => good_of_word (List.all_eq_true.mp (by decide +kernel) w h), List.forall_mem_append.mpr ⟨gu_X14, List.forall_mem_append.mpr ⟨gd_dm_X14_readVarint, List.forall_mem_append.mpr ⟨gd_dm_X14_meet, fun _ h => nomatch h⟩⟩⟩⟩⟩
theorem hi_dm_X14_readCount_X14 : ∀ w ∈ u_ws RX14 TX14 11, w ∈ ow_dm_X14_readCount := fun w h => List.mem_cons_of_mem _ (List.mem_append_right _ (List.mem_append_left _ h))
theorem gi_dm_X14_readCount_0 : GoodIn ow_dm_X14_readCount (wsV RX14 87 RX14 yX14_readVarint ow_dm_X14_readVarint) := goodIn_app (goodIn_of _ (by decide +kernel)) (fun w h => ⟨List.mem_cons_of_mem _ (List.mem_append_right _ (List.mem_append_right _ (List.mem_append_left _ h))), gd_dm_X14_readVarint w h⟩)
theorem gi_dm_X14_readCount_1 : GoodIn ow_dm_X14_readCount (wsV RX14 74 RX14 yX14_meet ow_dm_X14_meet) := goodIn_app (goodIn_of _ (by decide +kernel)) (fun w h => ⟨List.mem_cons_of_mem _ (List.mem_append_right _ (List.mem_append_right _ (List.mem_append_right _ (List.mem_append_left _ h)))), gd_dm_X14_meet w h⟩)
def dj_X14_readCount_29 (p : Program) (l : Launch) (e : Env) (s : State) (m : MethodId) (args : Array Value) (below : List Frame) (meth : Method) (c : Code) (Q : State → Prop) (A : Nat → Prop) (dC : Nat → ClassId) (dI : Nat → Nat → Nat) (a : Nat → Nat) (ac : Nat → ClassId) (g : Int64 → (St) → Option (Int64 × (St))) (r : Int64 × (St)) : Prop := ∀ (x2 : Int64) (s0 : St) (H : Heap) (locs : List Loc) (ls : Array Slot), g x2 s0 = some r → va_P (dC, dI) vwCl (dw_X14 a ac s0) H → va_D A (dw_X14 a ac s0) → va_S A s.heap H locs → lv_has ls 4 [(2, .long x2)] → W p l e (headSpec ow_dm_X14_readCount ({ frames := 3, cells := 0, slots := 0, locals := 66 })).room s m args below meth c H locs 0 0 Q (F0 m 29 ls [])
def dj_X14_readCount_0 (p : Program) (l : Launch) (e : Env) (s : State) (m : MethodId) (args : Array Value) (below : List Frame) (meth : Method) (c : Code) (Q : State → Prop) (A : Nat → Prop) (dC : Nat → ClassId) (dI : Nat → Nat → Nat) (a : Nat → Nat) (ac : Nat → ClassId) (g : (St) → Option (Int64 × (St))) (r : Int64 × (St)) : Prop := ∀ (s0 : St) (H : Heap) (locs : List Loc) (ls : Array Slot), g s0 = some r → va_P (dC, dI) vwCl (dw_X14 a ac s0) H → va_D A (dw_X14 a ac s0) → va_S A s.heap H locs → lv_has ls 4 [(0, .ref (a 0))] → W p l e (headSpec ow_dm_X14_readCount ({ frames := 3, cells := 0, slots := 0, locals := 66 })).room s m args below meth c H locs 0 0 Q (F0 m 0 ls [])
set_option maxHeartbeats 40000000 in
set_option maxRecDepth 100000 in
theorem db_X14_readCount_29 {p : Program} {l : Launch} {e : Env} {s : State} {m : MethodId} {args : Array Value} {below : List Frame} {meth : Method} {c : Code} {Q : State → Prop} {A : Nat → Prop} {dC : Nat → ClassId} {dI : Nat → Nat → Nat} {a : Nat → Nat} {ac : Nat → ClassId} {n : Nat} {r : Int64 × (St)} (C : nd_C p l s m args c A (dC, dI) cX14_readCount 4 RX14 ow_dm_X14_readCount (dk_X14 ac)) (K : nd_Kl p l e (headSpec ow_dm_X14_readCount ({ frames := 3, cells := 0, slots := 0, locals := 66 })).room s m args below meth c Q A (dC, dI) cX14_readCount (St) (dw_X14 a ac) r) : dj_X14_readCount_29 p l e s m args below meth c Q A dC dI a ac (df_X14_readCount_29 n) r := by
  obtain ⟨hlt, hx, hb, hml, hown, hts, hN, hA, hK⟩ := id C
  intro x2 s0 H locs ls h hP hD hS hl
  unfold df_X14_readCount_29 at h
  refine lv_lload_n hx hb dX14_readCount_29 rfl (lv_at hl 0 rfl) ?_
  exact K _ _ _ _ _ _ dX14_readCount_30 (Option.some.inj h).symm hP hD hS
set_option maxHeartbeats 40000000 in
set_option maxRecDepth 100000 in
theorem db_X14_readCount_0 {p : Program} {l : Launch} {e : Env} {s : State} {m : MethodId} {args : Array Value} {below : List Frame} {meth : Method} {c : Code} {Q : State → Prop} {A : Nat → Prop} {dC : Nat → ClassId} {dI : Nat → Nat → Nat} {a : Nat → Nat} {ac : Nat → ClassId} {n : Nat} {r : Int64 × (St)} (C : nd_C p l s m args c A (dC, dI) cX14_readCount 4 RX14 ow_dm_X14_readCount (dk_X14 ac)) (K : nd_Kl p l e (headSpec ow_dm_X14_readCount ({ frames := 3, cells := 0, slots := 0, locals := 66 })).room s m args below meth c Q A (dC, dI) cX14_readCount (St) (dw_X14 a ac) r) : dj_X14_readCount_0 p l e s m args below meth c Q A dC dI a ac (df_X14_readCount_0 n) r := by
  obtain ⟨hlt, hx, hb, hml, hown, hts, hN, hA, hK⟩ := id C
  intro s0 H locs ls h hP hD hS hl
  unfold df_X14_readCount_0 at h
  refine lv_aload_n hx hb dX14_readCount_0 rfl (lv_at hl 0 rfl) ?_
  refine va_get (D := (dC, dI)) (ci := 15) (v := .int (sI s0 3)) (C := RX14) (T := TX14) (N := 11) hx hb hts hi_dm_X14_readCount_X14 hown hK hP 0 rfl rfl 9 (by decide) (hts (.fieldLink RX14 68 "TimeMachineModel$Codec" "at" "I") (List.mem_of_getElem? (i := 1) rfl)) (fun _ h9 => h9) rfl dX14_readCount_1 ?_
  refine lv_topi (fun z1 ez1 => ?_)
  have h := nd_at h ez1
  refine lv_istore_n (lv' := [(1, .int z1), (0, .ref (a 0))]) hx hb dX14_readCount_4 rfl hl (by decide) rfl (fun ls hl => ?_)
  refine lv_aload_n hx hb dX14_readCount_5 rfl (lv_at hl 1 rfl) ?_
  obtain ⟨q2, s3, hq, h⟩ := nd_b2_e h
  have hPc := hP
  have hDc := hD
  have hKc := hK
  have hFc := nd_rs hD hS hA
  refine nd_cVl (As := []) (rest := []) (q := q2) (w' := dw_X14 a ac s3) ⟨hx, hb, hml, hown, hts⟩ (fun sz => dm_X14_readVarint l hlt dC dI a ac n  s0 hq sz) (cwV 0 hts gi_dm_X14_readCount_0 rfl rfl rfl (by decide +kernel) ⟨Nat.le_of_ble_eq_true rfl, Nat.le_of_ble_eq_true rfl⟩) hPc hDc hKc hS hA hN (va_recv hKc hPc (ci := 15) (q0 := 0) rfl rfl) rfl hl.1 rfl (Nat.le_of_ble_eq_true rfl) dX14_readCount_6 (fun H locs hP1 hD1 hk1 hS => ?_)
  have hP := hP1
  have hD := hD1.weaken (fun k q _ h => hFc q.1 h)
  refine lv_lstore_n (lv' := [(2, .long q2), (1, .int z1), (0, .ref (a 0))]) hx hb dX14_readCount_9 rfl hl (by decide) rfl (fun ls hl => ?_)
  refine lv_aload_n hx hb dX14_readCount_10 rfl (lv_at hl 2 rfl) ?_
  refine va_get (D := (dC, dI)) (ci := 15) (v := .int (sI s3 4)) (C := RX14) (T := TX14) (N := 11) hx hb hts hi_dm_X14_readCount_X14 hown hK hP 0 rfl rfl 10 (by decide) (hts (.fieldLink RX14 65 "TimeMachineModel$Codec" "fault" "I") (List.mem_of_getElem? (i := 6) rfl)) (fun _ h9 => h9) rfl dX14_readCount_11 ?_
  refine lv_if_ne (tgt := 29) hx hb dX14_readCount_14 (by decide) (fun c5 => ?_) (fun c5 => ?_)
  · have h := nd_neg h c5
    exact (db_X14_readCount_29 C K) (q2) s3 _ _ _ h hP hD hS (lv_sub hl [0] rfl)
  · have h := nd_pos h c5
    refine lv_lload_n hx hb dX14_readCount_17 rfl (lv_at hl 0 rfl) ?_
    refine lv_lconst (v := 0) hx hb dX14_readCount_18 (by decide) ?_
    refine W.lcmp hx hb dX14_readCount_19 ?_
    refine lv_if_ne (tgt := 29) hx hb dX14_readCount_20 (by decide) (fun c6 => ?_) (fun c6 => ?_)
    · have h := nd_neg h c6
      exact (db_X14_readCount_29 C K) (q2) s3 _ _ _ h hP hD hS (lv_sub hl [0] rfl)
    · have h := nd_pos h c6
      refine lv_aload_n hx hb dX14_readCount_23 rfl (lv_at hl 2 rfl) ?_
      refine lv_iconst (v := 5) hx hb dX14_readCount_24 (by decide) ?_
      refine lv_iload_n hx hb dX14_readCount_25 rfl (lv_at hl 1 rfl) ?_
      obtain ⟨s8, hq, h⟩ := nd_b1_e h
      have hPc := hP
      have hDc := hD
      have hKc := hK
      have hFc := nd_rs hD hS hA
      refine nd_cVv (As := [.int 5, .int z1]) (rest := []) (w' := dw_X14 a ac s8) ⟨hx, hb, hml, hown, hts⟩ (fun sz => dm_X14_meet l hlt dC dI a ac n (5) (z1) s3 hq sz) (cwV 2 hts gi_dm_X14_readCount_1 rfl rfl rfl (by decide +kernel) ⟨Nat.le_of_ble_eq_true rfl, Nat.le_of_ble_eq_true rfl⟩) hPc hDc hKc hS hA hN (va_recv hKc hPc (ci := 15) (q0 := 0) rfl rfl) rfl hl.1 rfl (Nat.le_of_ble_eq_true rfl) dX14_readCount_26 (fun H locs hP1 hD1 hk1 hS => ?_)
      have hP := hP1
      have hD := hD1.weaken (fun k q _ h => hFc q.1 h)
      exact (db_X14_readCount_29 C K) (q2) s8 _ _ _ h hP hD hS (lv_sub hl [0] rfl)
set_option maxHeartbeats 40000000 in
set_option maxRecDepth 100000 in
theorem dm_X14_readCount (l : Launch) (hlt : l.stackTraces = false) (dC : Nat → ClassId) (dI : Nat → Nat → Nat) (a : Nat → Nat) (ac : Nat → ClassId) (n : Nat) (s0 : St) {r : Int64 × (St)} (h : df_X14_readCount n s0 = some r) (sz : Nat) : Met l yX14_readCount ow_dm_X14_readCount ({ frames := 3, cells := 0, slots := 0, locals := 66 }) (va_Pc [.ref (a 0)] (fun U => U.heap.size = sz ∧ va_P (dC, dI) vwCl (dw_X14 a ac s0) U.heap ∧ va_K (dC, dI) vwCl (dk_X14 ac) U ∧ va_D (fun _ => True) (dw_X14 a ac s0) ∧ nv_E dI (va_A (dw_X14 a ac s0) sz) U)) (va_Ql (fun x _ => x = r.1) (fun (_ : Unit) t => va_P (dC, dI) vwCl (dw_X14 a ac r.2) t.heap ∧ va_K (dC, dI) vwCl (dk_X14 ac) t ∧ va_D (va_A (dw_X14 a ac s0) sz) (dw_X14 a ac r.2)) (va_A (dw_X14 a ac s0) sz)) 0 0 (va_A (dw_X14 a ac s0) sz) := by
  refine Met.ofW (cc := cX14_readCount) (maxL := 4) (ret := (some .long)) (by decide) rfl ?_
  intro p e s m args below meth c s₁ B hml hv
  obtain ⟨rfl, hsz, hP, hK, hD0, hN⟩ := hv
  have hx := B.exec
  have hb := B.bytes
  have hr := B.returns
  have hts := atoms_spec (ws := ow_dm_X14_readCount) B.pre
  have hown : s.vm.findClass RX14 = some m.cls := findClass_of_methodNamed B.named
  have hlocks := B.notSynchronized
  subst hsz
  have hD := hD0.self (sz := s.heap.size)
  generalize hAe : va_A (dw_X14 a ac s0) s.heap.size = A at hD hN ⊢
  have hA : ∀ q : Nat, s.heap.size ≤ q → A q := fun q h => by rw [← hAe]; exact Or.inr h
  have hl := lv_entry ([.ref (a 0)]) (n := 4) (Nat.le_of_ble_eq_true rfl)
  rw [lg_entry_eq]
  generalize (lg_sl ([.ref (a 0)]) ++ List.replicate (4 - (lg_sl ([.ref (a 0)])).length) Slot.unset).toArray = ls at hl ⊢
  have hl : lv_has ls 4 [(0, .ref (a 0))] := hl
  exact db_X14_readCount_0 (dC := dC) (dI := dI) (a := a) (ac := ac) (n := n) (r := r) ⟨hlt, hx, hb, hml, hown, hts, hN, hA, hK⟩ (fun pc v τ H locs ls d er hP hD hS => by subst er; exact W.lret (v := v) hx hb hr (fun t ht hW => ⟨⟨v, (), rfl, rfl, by rw [ht]; exact hP, va_K.moved hW.alike hK, hD⟩, hS.F ht⟩) hS.2.2 d) s0 _ _ _ h hP hD va_S.rf (lv_sub hl [0] rfl)
def ow_dm_X14_readRun : List Cond := Cond.code yX14_readRun cX14_readRun 8 none :: ([Cond.fieldLink RX14 27 "TimeMachineModel$Codec" "events" "I", Cond.fieldLink RX14 65 "TimeMachineModel$Codec" "fault" "I", Cond.methodLink RX14 91 yX14_readCount, Cond.instanceMethod yX14_readCount, Cond.selects RX14 yX14_readCount yX14_readCount, Cond.initialized RX14, Cond.fieldLink RX14 9 "TimeMachineModel$Codec" "kind" "[I", Cond.fieldLink RX14 16 "TimeMachineModel$Codec" "difference" "[J", Cond.fieldLink RX14 20 "TimeMachineModel$Codec" "a" "[J", Cond.fieldLink RX14 13 "TimeMachineModel$Codec" "b" "[I", Cond.methodLink RX14 94 yX14_take, Cond.instanceMethod yX14_take, Cond.selects RX14 yX14_take yX14_take, Cond.methodLink RX14 74 yX14_meet, Cond.instanceMethod yX14_meet, Cond.selects RX14 yX14_meet yX14_meet] ++ (u_ws RX14 TX14 11 ++ (ow_dm_X14_readCount ++ (ow_dm_X14_take ++ (ow_dm_X14_meet ++ [])))))
theorem gd_dm_X14_readRun : ∀ w ∈ ow_dm_X14_readRun, (w.onTables && w.keeps) = true ∨ ∃ ty, w = Cond.arrayClass ty := List.forall_mem_cons.mpr ⟨good_of_word rfl, List.forall_mem_append.mpr ⟨fun w h => good_of_word (List.all_eq_true.mp (by decide +kernel) w h), List.forall_mem_append.mpr ⟨gu_X14, List.forall_mem_append.mpr ⟨gd_dm_X14_readCount, List.forall_mem_append.mpr ⟨gd_dm_X14_take, List.forall_mem_append.mpr ⟨gd_dm_X14_meet, fun _ h => nomatch h⟩⟩⟩⟩⟩⟩
theorem hi_dm_X14_readRun_X14 : ∀ w ∈ u_ws RX14 TX14 11, w ∈ ow_dm_X14_readRun := fun w h => List.mem_cons_of_mem _ (List.mem_append_right _ (List.mem_append_left _ h))
theorem gi_dm_X14_readRun_0 : GoodIn ow_dm_X14_readRun (wsV RX14 91 RX14 yX14_readCount ow_dm_X14_readCount) := goodIn_app (goodIn_of _ (by decide +kernel)) (fun w h => ⟨List.mem_cons_of_mem _ (List.mem_append_right _ (List.mem_append_right _ (List.mem_append_left _ h))), gd_dm_X14_readCount w h⟩)
theorem gi_dm_X14_readRun_1 : GoodIn ow_dm_X14_readRun (wsV RX14 94 RX14 yX14_take ow_dm_X14_take) := goodIn_app (goodIn_of _ (by decide +kernel)) (fun w h => ⟨List.mem_cons_of_mem _ (List.mem_append_right _ (List.mem_append_right _ (List.mem_append_right _ (List.mem_append_left _ h)))), gd_dm_X14_take w h⟩)
theorem gi_dm_X14_readRun_2 : GoodIn ow_dm_X14_readRun (wsV RX14 74 RX14 yX14_meet ow_dm_X14_meet) := goodIn_app (goodIn_of _ (by decide +kernel)) (fun w h => ⟨List.mem_cons_of_mem _ (List.mem_append_right _ (List.mem_append_right _ (List.mem_append_right _ (List.mem_append_right _ (List.mem_append_left _ h))))), gd_dm_X14_meet w h⟩)
def dj_X14_readRun_156 (p : Program) (l : Launch) (e : Env) (s : State) (m : MethodId) (args : Array Value) (below : List Frame) (meth : Method) (c : Code) (Q : State → Prop) (A : Nat → Prop) (dC : Nat → ClassId) (dI : Nat → Nat → Nat) (a : Nat → Nat) (ac : Nat → ClassId) (g : (St) → Option (St)) (r : St) : Prop := ∀ (s0 : St) (H : Heap) (locs : List Loc) (ls : Array Slot), g s0 = some r → va_P (dC, dI) vwCl (dw_X14 a ac s0) H → va_D A (dw_X14 a ac s0) → va_S A s.heap H locs → lv_has ls 8 [] → W p l e (headSpec ow_dm_X14_readRun ({ frames := 4, cells := 0, slots := 0, locals := 89 })).room s m args below meth c H locs 0 0 Q (F0 m 156 ls [])
def dj_X14_readRun_84 (p : Program) (l : Launch) (e : Env) (s : State) (m : MethodId) (args : Array Value) (below : List Frame) (meth : Method) (c : Code) (Q : State → Prop) (A : Nat → Prop) (dC : Nat → ClassId) (dI : Nat → Nat → Nat) (a : Nat → Nat) (ac : Nat → ClassId) (g : Int64 → Int64 → (St) → Option (St)) (r : St) : Prop := ∀ (x4 : Int64) (x6 : Int64) (s0 : St) (H : Heap) (locs : List Loc) (ls : Array Slot), g x4 x6 s0 = some r → va_P (dC, dI) vwCl (dw_X14 a ac s0) H → va_D A (dw_X14 a ac s0) → va_S A s.heap H locs → lv_has ls 8 [(0, .ref (a 0)), (4, .long x4), (6, .long x6)] → W p l e (headSpec ow_dm_X14_readRun ({ frames := 4, cells := 0, slots := 0, locals := 89 })).room s m args below meth c H locs 0 0 Q (F0 m 84 ls [])
def dj_X14_readRun_81 (p : Program) (l : Launch) (e : Env) (s : State) (m : MethodId) (args : Array Value) (below : List Frame) (meth : Method) (c : Code) (Q : State → Prop) (A : Nat → Prop) (dC : Nat → ClassId) (dI : Nat → Nat → Nat) (a : Nat → Nat) (ac : Nat → ClassId) (g : Int64 → (St) → Option (St)) (r : St) : Prop := ∀ (x4 : Int64) (s0 : St) (H : Heap) (locs : List Loc) (ls : Array Slot), g x4 s0 = some r → va_P (dC, dI) vwCl (dw_X14 a ac s0) H → va_D A (dw_X14 a ac s0) → va_S A s.heap H locs → lv_has ls 8 [(0, .ref (a 0)), (4, .long x4)] → W p l e (headSpec ow_dm_X14_readRun ({ frames := 4, cells := 0, slots := 0, locals := 89 })).room s m args below meth c H locs 0 0 Q (F0 m 81 ls [])
def dj_X14_readRun_51 (p : Program) (l : Launch) (e : Env) (s : State) (m : MethodId) (args : Array Value) (below : List Frame) (meth : Method) (c : Code) (Q : State → Prop) (A : Nat → Prop) (dC : Nat → ClassId) (dI : Nat → Nat → Nat) (a : Nat → Nat) (ac : Nat → ClassId) (g : Int32 → Int32 → Int64 → (St) → Option (St)) (r : St) : Prop := ∀ (x2 : Int32) (x3 : Int32) (y0 : Int64) (s0 : St) (H : Heap) (locs : List Loc) (ls : Array Slot), g x2 x3 y0 s0 = some r → va_P (dC, dI) vwCl (dw_X14 a ac s0) H → va_D A (dw_X14 a ac s0) → va_S A s.heap H locs → lv_has ls 8 [(0, .ref (a 0)), (2, .int x2), (3, .int x3)] → W p l e (headSpec ow_dm_X14_readRun ({ frames := 4, cells := 0, slots := 0, locals := 89 })).room s m args below meth c H locs 0 0 Q (F0 m 51 ls [.long y0])
def dj_X14_readRun_26 (p : Program) (l : Launch) (e : Env) (s : State) (m : MethodId) (args : Array Value) (below : List Frame) (meth : Method) (c : Code) (Q : State → Prop) (A : Nat → Prop) (dC : Nat → ClassId) (dI : Nat → Nat → Nat) (a : Nat → Nat) (ac : Nat → ClassId) (g : Int32 → Int32 → Int32 → (St) → Option (St)) (r : St) : Prop := ∀ (x1 : Int32) (x2 : Int32) (x3 : Int32) (s0 : St) (H : Heap) (locs : List Loc) (ls : Array Slot), g x1 x2 x3 s0 = some r → va_P (dC, dI) vwCl (dw_X14 a ac s0) H → va_D A (dw_X14 a ac s0) → va_S A s.heap H locs → lv_has ls 8 [(0, .ref (a 0)), (1, .int x1), (2, .int x2), (3, .int x3)] → W p l e (headSpec ow_dm_X14_readRun ({ frames := 4, cells := 0, slots := 0, locals := 89 })).room s m args below meth c H locs 0 0 Q (F0 m 26 ls [])
def dj_X14_readRun_13 (p : Program) (l : Launch) (e : Env) (s : State) (m : MethodId) (args : Array Value) (below : List Frame) (meth : Method) (c : Code) (Q : State → Prop) (A : Nat → Prop) (dC : Nat → ClassId) (dI : Nat → Nat → Nat) (a : Nat → Nat) (ac : Nat → ClassId) (g : Int32 → Int32 → Int32 → (St) → Option (St)) (r : St) : Prop := ∀ (x1 : Int32) (x2 : Int32) (x3 : Int32) (s0 : St) (H : Heap) (locs : List Loc) (ls : Array Slot), g x1 x2 x3 s0 = some r → va_P (dC, dI) vwCl (dw_X14 a ac s0) H → va_D A (dw_X14 a ac s0) → va_S A s.heap H locs → lv_has ls 8 [(0, .ref (a 0)), (1, .int x1), (2, .int x2), (3, .int x3)] → W p l e (headSpec ow_dm_X14_readRun ({ frames := 4, cells := 0, slots := 0, locals := 89 })).room s m args below meth c H locs 0 0 Q (F0 m 13 ls [])
def dj_X14_readRun_0 (p : Program) (l : Launch) (e : Env) (s : State) (m : MethodId) (args : Array Value) (below : List Frame) (meth : Method) (c : Code) (Q : State → Prop) (A : Nat → Prop) (dC : Nat → ClassId) (dI : Nat → Nat → Nat) (a : Nat → Nat) (ac : Nat → ClassId) (g : Int32 → Int32 → Int32 → (St) → Option (St)) (r : St) : Prop := ∀ (v0 : Int32) (v1 : Int32) (v2 : Int32) (s0 : St) (H : Heap) (locs : List Loc) (ls : Array Slot), g v0 v1 v2 s0 = some r → va_P (dC, dI) vwCl (dw_X14 a ac s0) H → va_D A (dw_X14 a ac s0) → va_S A s.heap H locs → lv_has ls 8 [(0, .ref (a 0)), (1, .int v0), (2, .int v1), (3, .int v2)] → W p l e (headSpec ow_dm_X14_readRun ({ frames := 4, cells := 0, slots := 0, locals := 89 })).room s m args below meth c H locs 0 0 Q (F0 m 0 ls [])
set_option maxHeartbeats 40000000 in
set_option maxRecDepth 100000 in
theorem db_X14_readRun_156 {p : Program} {l : Launch} {e : Env} {s : State} {m : MethodId} {args : Array Value} {below : List Frame} {meth : Method} {c : Code} {Q : State → Prop} {A : Nat → Prop} {dC : Nat → ClassId} {dI : Nat → Nat → Nat} {a : Nat → Nat} {ac : Nat → ClassId} {n : Nat} {r : St} (C : nd_C p l s m args c A (dC, dI) cX14_readRun 8 RX14 ow_dm_X14_readRun (dk_X14 ac)) (K : nd_Kv p l e (headSpec ow_dm_X14_readRun ({ frames := 4, cells := 0, slots := 0, locals := 89 })).room s m args below meth c Q A (dC, dI) cX14_readRun (St) (dw_X14 a ac) r) : dj_X14_readRun_156 p l e s m args below meth c Q A dC dI a ac (df_X14_readRun_156 n) r := by
  obtain ⟨hlt, hx, hb, hml, hown, hts, hN, hA, hK⟩ := id C
  intro s0 H locs ls h hP hD hS hl
  unfold df_X14_readRun_156 at h
  exact K _ _ _ _ _ dX14_readRun_156 (Option.some.inj h).symm hP hD hS
set_option maxHeartbeats 40000000 in
set_option maxRecDepth 100000 in
theorem dB_X14_readRun_84 {p : Program} {l : Launch} {e : Env} {s : State} {m : MethodId} {args : Array Value} {below : List Frame} {meth : Method} {c : Code} {Q : State → Prop} {A : Nat → Prop} {dC : Nat → ClassId} {dI : Nat → Nat → Nat} {a : Nat → Nat} {ac : Nat → ClassId} {n : Nat} {r : St} (C : nd_C p l s m args c A (dC, dI) cX14_readRun 8 RX14 ow_dm_X14_readRun (dk_X14 ac)) (K : nd_Kv p l e (headSpec ow_dm_X14_readRun ({ frames := 4, cells := 0, slots := 0, locals := 89 })).room s m args below meth c Q A (dC, dI) cX14_readRun (St) (dw_X14 a ac) r) {g84 : Int64 → Int64 → (St) → Option (St)} (J84 : dj_X14_readRun_84 p l e s m args below meth c Q A dC dI a ac g84 r) : dj_X14_readRun_84 p l e s m args below meth c Q A dC dI a ac (dF_X14_readRun_84 n g84) r := by
  obtain ⟨hlt, hx, hb, hml, hown, hts, hN, hA, hK⟩ := id C
  intro x4 x6 s0 H locs ls h hP hD hS hl
  unfold dF_X14_readRun_84 at h
  refine lv_lload hx hb dX14_readRun_84 (lv_at hl 2 rfl) ?_
  refine lv_lload hx hb dX14_readRun_86 (lv_at hl 1 rfl) ?_
  refine W.lcmp hx hb dX14_readRun_88 ?_
  refine lv_if_ge (tgt := 156) hx hb dX14_readRun_89 (by decide) (fun c9 => ?_) (fun c9 => ?_)
  · have h := nd_pos h c9
    exact (db_X14_readRun_156 C K)  s0 _ _ _ h hP hD hS (lv_sub hl [] rfl)
  · have h := nd_neg h c9
    refine lv_aload_n hx hb dX14_readRun_92 rfl (lv_at hl 0 rfl) ?_
    refine va_get (D := (dC, dI)) (ci := 15) (v := .int (sI s0 4)) (C := RX14) (T := TX14) (N := 11) hx hb hts hi_dm_X14_readRun_X14 hown hK hP 0 rfl rfl 10 (by decide) (hts (.fieldLink RX14 65 "TimeMachineModel$Codec" "fault" "I") (List.mem_of_getElem? (i := 2) rfl)) (fun _ h9 => h9) rfl dX14_readRun_93 ?_
    refine lv_if_ne (tgt := 156) hx hb dX14_readRun_96 (by decide) (fun c10 => ?_) (fun c10 => ?_)
    · have h := nd_neg h c10
      exact (db_X14_readRun_156 C K)  s0 _ _ _ h hP hD hS (lv_sub hl [] rfl)
    · have h := nd_pos h c10
      refine lv_aload_n hx hb dX14_readRun_99 rfl (lv_at hl 0 rfl) ?_
      refine lv_aload_n hx hb dX14_readRun_100 rfl (lv_at hl 0 rfl) ?_
      refine va_get (D := (dC, dI)) (ci := 15) (v := .ref (a 1)) (C := RX14) (T := TX14) (N := 11) hx hb hts hi_dm_X14_readRun_X14 hown hK hP 0 rfl rfl 1 (by decide) (hts (.fieldLink RX14 9 "TimeMachineModel$Codec" "kind" "[I") (List.mem_of_getElem? (i := 7) rfl)) (fun _ h9 => h9) rfl dX14_readRun_101 ?_
      refine lv_aload_n hx hb dX14_readRun_104 rfl (lv_at hl 0 rfl) ?_
      refine va_get (D := (dC, dI)) (ci := 15) (v := .int (sI s0 0)) (C := RX14) (T := TX14) (N := 11) hx hb hts hi_dm_X14_readRun_X14 hown hK hP 0 rfl rfl 0 (by decide) (hts (.fieldLink RX14 27 "TimeMachineModel$Codec" "events" "I") (List.mem_of_getElem? (i := 1) rfl)) (fun _ h9 => h9) rfl dX14_readRun_105 ?_
      refine lv_iconst (v := 1) hx hb dX14_readRun_108 (by decide) ?_
      refine lv_isub hx hb dX14_readRun_109 ?_
      obtain ⟨i11, h⟩ := nd_ck_e h
      refine va_iald (i := ((sI s0 0) - 1)) hx hb hK hP 1 0 rfl rfl i11 dX14_readRun_110 ?_
      refine lv_aload_n hx hb dX14_readRun_111 rfl (lv_at hl 0 rfl) ?_
      refine va_get (D := (dC, dI)) (ci := 15) (v := .ref (a 3)) (C := RX14) (T := TX14) (N := 11) hx hb hts hi_dm_X14_readRun_X14 hown hK hP 0 rfl rfl 3 (by decide) (hts (.fieldLink RX14 16 "TimeMachineModel$Codec" "difference" "[J") (List.mem_of_getElem? (i := 8) rfl)) (fun _ h9 => h9) rfl dX14_readRun_112 ?_
      refine lv_aload_n hx hb dX14_readRun_115 rfl (lv_at hl 0 rfl) ?_
      refine va_get (D := (dC, dI)) (ci := 15) (v := .int (sI s0 0)) (C := RX14) (T := TX14) (N := 11) hx hb hts hi_dm_X14_readRun_X14 hown hK hP 0 rfl rfl 0 (by decide) (hts (.fieldLink RX14 27 "TimeMachineModel$Codec" "events" "I") (List.mem_of_getElem? (i := 1) rfl)) (fun _ h9 => h9) rfl dX14_readRun_116 ?_
      refine lv_iconst (v := 1) hx hb dX14_readRun_119 (by decide) ?_
      refine lv_isub hx hb dX14_readRun_120 ?_
      obtain ⟨i12, h⟩ := nd_ck_e h
      refine va_lald (i := ((sI s0 0) - 1)) hx hb hK hP 3 2 rfl rfl i12 dX14_readRun_121 ?_
      refine lv_aload_n hx hb dX14_readRun_122 rfl (lv_at hl 0 rfl) ?_
      refine va_get (D := (dC, dI)) (ci := 15) (v := .ref (a 4)) (C := RX14) (T := TX14) (N := 11) hx hb hts hi_dm_X14_readRun_X14 hown hK hP 0 rfl rfl 4 (by decide) (hts (.fieldLink RX14 20 "TimeMachineModel$Codec" "a" "[J") (List.mem_of_getElem? (i := 9) rfl)) (fun _ h9 => h9) rfl dX14_readRun_123 ?_
      refine lv_aload_n hx hb dX14_readRun_126 rfl (lv_at hl 0 rfl) ?_
      refine va_get (D := (dC, dI)) (ci := 15) (v := .int (sI s0 0)) (C := RX14) (T := TX14) (N := 11) hx hb hts hi_dm_X14_readRun_X14 hown hK hP 0 rfl rfl 0 (by decide) (hts (.fieldLink RX14 27 "TimeMachineModel$Codec" "events" "I") (List.mem_of_getElem? (i := 1) rfl)) (fun _ h9 => h9) rfl dX14_readRun_127 ?_
      refine lv_iconst (v := 1) hx hb dX14_readRun_130 (by decide) ?_
      refine lv_isub hx hb dX14_readRun_131 ?_
      obtain ⟨i13, h⟩ := nd_ck_e h
      refine va_lald (i := ((sI s0 0) - 1)) hx hb hK hP 4 3 rfl rfl i13 dX14_readRun_132 ?_
      refine lv_aload_n hx hb dX14_readRun_133 rfl (lv_at hl 0 rfl) ?_
      refine va_get (D := (dC, dI)) (ci := 15) (v := .ref (a 2)) (C := RX14) (T := TX14) (N := 11) hx hb hts hi_dm_X14_readRun_X14 hown hK hP 0 rfl rfl 2 (by decide) (hts (.fieldLink RX14 13 "TimeMachineModel$Codec" "b" "[I") (List.mem_of_getElem? (i := 10) rfl)) (fun _ h9 => h9) rfl dX14_readRun_134 ?_
      refine lv_aload_n hx hb dX14_readRun_137 rfl (lv_at hl 0 rfl) ?_
      refine va_get (D := (dC, dI)) (ci := 15) (v := .int (sI s0 0)) (C := RX14) (T := TX14) (N := 11) hx hb hts hi_dm_X14_readRun_X14 hown hK hP 0 rfl rfl 0 (by decide) (hts (.fieldLink RX14 27 "TimeMachineModel$Codec" "events" "I") (List.mem_of_getElem? (i := 1) rfl)) (fun _ h9 => h9) rfl dX14_readRun_138 ?_
      refine lv_iconst (v := 1) hx hb dX14_readRun_141 (by decide) ?_
      refine lv_isub hx hb dX14_readRun_142 ?_
      obtain ⟨i14, h⟩ := nd_ck_e h
      refine va_iald (i := ((sI s0 0) - 1)) hx hb hK hP 2 1 rfl rfl i14 dX14_readRun_143 ?_
      obtain ⟨s16, hq, h⟩ := nd_b1_e h
      have hPc := hP
      have hDc := hD
      have hKc := hK
      have hFc := nd_rs hD hS hA
      refine nd_cVv (As := [.int (sR s0 0 (Int32.toNatClampNeg ((sI s0 0) - 1))), .long (sQ s0 0 (Int32.toNatClampNeg ((sI s0 0) - 1))), .long (sQ s0 1 (Int32.toNatClampNeg ((sI s0 0) - 1))), .int (sR s0 1 (Int32.toNatClampNeg ((sI s0 0) - 1)))]) (rest := []) (w' := dw_X14 a ac s16) ⟨hx, hb, hml, hown, hts⟩ (fun sz => dm_X14_take l hlt dC dI a ac n ((sR s0 0 (Int32.toNatClampNeg ((sI s0 0) - 1)))) ((sQ s0 0 (Int32.toNatClampNeg ((sI s0 0) - 1)))) ((sQ s0 1 (Int32.toNatClampNeg ((sI s0 0) - 1)))) ((sR s0 1 (Int32.toNatClampNeg ((sI s0 0) - 1)))) s0 hq sz) (cwV 4 hts gi_dm_X14_readRun_1 rfl rfl rfl (by decide +kernel) ⟨Nat.le_of_ble_eq_true rfl, Nat.le_of_ble_eq_true rfl⟩) hPc hDc hKc hS hA hN (va_recv hKc hPc (ci := 15) (q0 := 0) rfl rfl) rfl hl.1 rfl (Nat.le_of_ble_eq_true rfl) dX14_readRun_144 (fun H locs hP1 hD1 hk1 hS => ?_)
      have hP := hP1
      have hD := hD1.weaken (fun k q _ h => hFc q.1 h)
      refine lv_lload hx hb dX14_readRun_147 (lv_at hl 2 rfl) ?_
      refine lv_lconst (v := 1) hx hb dX14_readRun_149 (by decide) ?_
      refine lv_ladd hx hb dX14_readRun_150 ?_
      refine lv_topl (fun z18 ez18 => ?_)
      have h := nd_at h ez18
      refine lv_lstore (lv' := [(6, .long z18), (0, .ref (a 0)), (4, .long x4)]) hx hb dX14_readRun_151 hl (by decide) rfl (fun ls hl => ?_)
      refine lv_goto (tgt := 84) hx hb dX14_readRun_153 (by decide) ?_
      exact (J84) (x4) (z18) s16 _ _ _ h hP hD hS (lv_sub hl [1, 2, 0] rfl)
set_option maxHeartbeats 40000000 in
set_option maxRecDepth 100000 in
theorem db_X14_readRun_84 {p : Program} {l : Launch} {e : Env} {s : State} {m : MethodId} {args : Array Value} {below : List Frame} {meth : Method} {c : Code} {Q : State → Prop} {A : Nat → Prop} {dC : Nat → ClassId} {dI : Nat → Nat → Nat} {a : Nat → Nat} {ac : Nat → ClassId} {n : Nat} {r : St} (C : nd_C p l s m args c A (dC, dI) cX14_readRun 8 RX14 ow_dm_X14_readRun (dk_X14 ac)) (K : nd_Kv p l e (headSpec ow_dm_X14_readRun ({ frames := 4, cells := 0, slots := 0, locals := 89 })).room s m args below meth c Q A (dC, dI) cX14_readRun (St) (dw_X14 a ac) r) (k : Nat) : dj_X14_readRun_84 p l e s m args below meth c Q A dC dI a ac (df_X14_readRun_84 n k) r := by
  induction k with
  | zero => intro x4 x6 s0 H locs ls h; exact nomatch (show (none : Option (St)) = some r from h)
  | succ k ih => exact dB_X14_readRun_84 C K ih
set_option maxHeartbeats 40000000 in
set_option maxRecDepth 100000 in
theorem db_X14_readRun_81 {p : Program} {l : Launch} {e : Env} {s : State} {m : MethodId} {args : Array Value} {below : List Frame} {meth : Method} {c : Code} {Q : State → Prop} {A : Nat → Prop} {dC : Nat → ClassId} {dI : Nat → Nat → Nat} {a : Nat → Nat} {ac : Nat → ClassId} {n : Nat} {r : St} (C : nd_C p l s m args c A (dC, dI) cX14_readRun 8 RX14 ow_dm_X14_readRun (dk_X14 ac)) (K : nd_Kv p l e (headSpec ow_dm_X14_readRun ({ frames := 4, cells := 0, slots := 0, locals := 89 })).room s m args below meth c Q A (dC, dI) cX14_readRun (St) (dw_X14 a ac) r) : dj_X14_readRun_81 p l e s m args below meth c Q A dC dI a ac (df_X14_readRun_81 n) r := by
  obtain ⟨hlt, hx, hb, hml, hown, hts, hN, hA, hK⟩ := id C
  intro x4 s0 H locs ls h hP hD hS hl
  unfold df_X14_readRun_81 at h
  refine lv_lconst (v := 0) hx hb dX14_readRun_81 (by decide) ?_
  refine lv_lstore (lv' := [(6, .long 0), (0, .ref (a 0)), (4, .long x4)]) hx hb dX14_readRun_82 hl (by decide) rfl (fun ls hl => ?_)
  exact (db_X14_readRun_84 C K n) (x4) (0) s0 _ _ _ h hP hD hS (lv_sub hl [1, 2, 0] rfl)
set_option maxHeartbeats 40000000 in
set_option maxRecDepth 100000 in
theorem db_X14_readRun_51 {p : Program} {l : Launch} {e : Env} {s : State} {m : MethodId} {args : Array Value} {below : List Frame} {meth : Method} {c : Code} {Q : State → Prop} {A : Nat → Prop} {dC : Nat → ClassId} {dI : Nat → Nat → Nat} {a : Nat → Nat} {ac : Nat → ClassId} {n : Nat} {r : St} (C : nd_C p l s m args c A (dC, dI) cX14_readRun 8 RX14 ow_dm_X14_readRun (dk_X14 ac)) (K : nd_Kv p l e (headSpec ow_dm_X14_readRun ({ frames := 4, cells := 0, slots := 0, locals := 89 })).room s m args below meth c Q A (dC, dI) cX14_readRun (St) (dw_X14 a ac) r) : dj_X14_readRun_51 p l e s m args below meth c Q A dC dI a ac (df_X14_readRun_51 n) r := by
  obtain ⟨hlt, hx, hb, hml, hown, hts, hN, hA, hK⟩ := id C
  intro x2 x3 y0 s0 H locs ls h hP hD hS hl
  unfold df_X14_readRun_51 at h
  refine lv_lstore (lv' := [(4, .long y0), (0, .ref (a 0)), (2, .int x2), (3, .int x3)]) hx hb dX14_readRun_51 hl (by decide) rfl (fun ls hl => ?_)
  refine lv_aload_n hx hb dX14_readRun_53 rfl (lv_at hl 1 rfl) ?_
  refine va_get (D := (dC, dI)) (ci := 15) (v := .int (sI s0 4)) (C := RX14) (T := TX14) (N := 11) hx hb hts hi_dm_X14_readRun_X14 hown hK hP 0 rfl rfl 10 (by decide) (hts (.fieldLink RX14 65 "TimeMachineModel$Codec" "fault" "I") (List.mem_of_getElem? (i := 2) rfl)) (fun _ h9 => h9) rfl dX14_readRun_54 ?_
  refine lv_if_ne (tgt := 81) hx hb dX14_readRun_57 (by decide) (fun c8 => ?_) (fun c8 => ?_)
  · have h := nd_neg h c8
    exact (db_X14_readRun_81 C K) (y0) s0 _ _ _ h hP hD hS (lv_sub hl [1, 0] rfl)
  · have h := nd_pos h c8
    refine lv_aload_n hx hb dX14_readRun_60 rfl (lv_at hl 1 rfl) ?_
    refine va_get (D := (dC, dI)) (ci := 15) (v := .int (sI s0 0)) (C := RX14) (T := TX14) (N := 11) hx hb hts hi_dm_X14_readRun_X14 hown hK hP 0 rfl rfl 0 (by decide) (hts (.fieldLink RX14 27 "TimeMachineModel$Codec" "events" "I") (List.mem_of_getElem? (i := 1) rfl)) (fun _ h9 => h9) rfl dX14_readRun_61 ?_
    refine lv_i2l hx hb dX14_readRun_64 rfl ?_
    refine lv_lload hx hb dX14_readRun_65 (lv_at hl 0 rfl) ?_
    refine lv_ladd hx hb dX14_readRun_67 ?_
    refine lv_iload_n hx hb dX14_readRun_68 rfl (lv_at hl 3 rfl) ?_
    refine lv_i2l hx hb dX14_readRun_69 rfl ?_
    refine W.lcmp hx hb dX14_readRun_70 ?_
    refine lv_if_le (tgt := 81) hx hb dX14_readRun_71 (by decide) (fun c19 => ?_) (fun c19 => ?_)
    · have h := nd_pos h c19
      exact (db_X14_readRun_81 C K) (y0) s0 _ _ _ h hP hD hS (lv_sub hl [1, 0] rfl)
    · have h := nd_neg h c19
      refine lv_aload_n hx hb dX14_readRun_74 rfl (lv_at hl 1 rfl) ?_
      refine lv_bipush (v := 6) hx hb dX14_readRun_75 (by decide) ?_
      refine lv_iload_n hx hb dX14_readRun_77 rfl (lv_at hl 2 rfl) ?_
      obtain ⟨s21, hq, h⟩ := nd_b1_e h
      have hPc := hP
      have hDc := hD
      have hKc := hK
      have hFc := nd_rs hD hS hA
      refine nd_cVv (As := [.int 6, .int x2]) (rest := []) (w' := dw_X14 a ac s21) ⟨hx, hb, hml, hown, hts⟩ (fun sz => dm_X14_meet l hlt dC dI a ac n (6) (x2) s0 hq sz) (cwV 2 hts gi_dm_X14_readRun_2 rfl rfl rfl (by decide +kernel) ⟨Nat.le_of_ble_eq_true rfl, Nat.le_of_ble_eq_true rfl⟩) hPc hDc hKc hS hA hN (va_recv hKc hPc (ci := 15) (q0 := 0) rfl rfl) rfl hl.1 rfl (Nat.le_of_ble_eq_true rfl) dX14_readRun_78 (fun H locs hP1 hD1 hk1 hS => ?_)
      have hP := hP1
      have hD := hD1.weaken (fun k q _ h => hFc q.1 h)
      exact (db_X14_readRun_81 C K) (y0) s21 _ _ _ h hP hD hS (lv_sub hl [1, 0] rfl)
set_option maxHeartbeats 40000000 in
set_option maxRecDepth 100000 in
theorem db_X14_readRun_26 {p : Program} {l : Launch} {e : Env} {s : State} {m : MethodId} {args : Array Value} {below : List Frame} {meth : Method} {c : Code} {Q : State → Prop} {A : Nat → Prop} {dC : Nat → ClassId} {dI : Nat → Nat → Nat} {a : Nat → Nat} {ac : Nat → ClassId} {n : Nat} {r : St} (C : nd_C p l s m args c A (dC, dI) cX14_readRun 8 RX14 ow_dm_X14_readRun (dk_X14 ac)) (K : nd_Kv p l e (headSpec ow_dm_X14_readRun ({ frames := 4, cells := 0, slots := 0, locals := 89 })).room s m args below meth c Q A (dC, dI) cX14_readRun (St) (dw_X14 a ac) r) : dj_X14_readRun_26 p l e s m args below meth c Q A dC dI a ac (df_X14_readRun_26 n) r := by
  obtain ⟨hlt, hx, hb, hml, hown, hts, hN, hA, hK⟩ := id C
  intro x1 x2 x3 s0 H locs ls h hP hD hS hl
  unfold df_X14_readRun_26 at h
  refine lv_aload_n hx hb dX14_readRun_26 rfl (lv_at hl 0 rfl) ?_
  refine va_get (D := (dC, dI)) (ci := 15) (v := .int (sI s0 4)) (C := RX14) (T := TX14) (N := 11) hx hb hts hi_dm_X14_readRun_X14 hown hK hP 0 rfl rfl 10 (by decide) (hts (.fieldLink RX14 65 "TimeMachineModel$Codec" "fault" "I") (List.mem_of_getElem? (i := 2) rfl)) (fun _ h9 => h9) rfl dX14_readRun_27 ?_
  refine lv_if_le (tgt := 34) hx hb dX14_readRun_30 (by decide) (fun c3 => ?_) (fun c3 => ?_)
  · have h := nd_pos h c3
    refine lv_iload_n hx hb dX14_readRun_34 rfl (lv_at hl 1 rfl) ?_
    refine lv_iconst (v := 4) hx hb dX14_readRun_35 (by decide) ?_
    refine lv_ishr hx hb dX14_readRun_36 ?_
    refine lv_if_le (tgt := 47) hx hb dX14_readRun_37 (by decide) (fun c4 => ?_) (fun c4 => ?_)
    · have h := nd_pos h c4
      refine lv_aload_n hx hb dX14_readRun_47 rfl (lv_at hl 0 rfl) ?_
      obtain ⟨q5, s6, hq, h⟩ := nd_b2_e h
      have hPc := hP
      have hDc := hD
      have hKc := hK
      have hFc := nd_rs hD hS hA
      refine nd_cVl (As := []) (rest := []) (q := q5) (w' := dw_X14 a ac s6) ⟨hx, hb, hml, hown, hts⟩ (fun sz => dm_X14_readCount l hlt dC dI a ac n  s0 hq sz) (cwV 0 hts gi_dm_X14_readRun_0 rfl rfl rfl (by decide +kernel) ⟨Nat.le_of_ble_eq_true rfl, Nat.le_of_ble_eq_true rfl⟩) hPc hDc hKc hS hA hN (va_recv hKc hPc (ci := 15) (q0 := 0) rfl rfl) rfl hl.1 rfl (Nat.le_of_ble_eq_true rfl) dX14_readRun_48 (fun H locs hP1 hD1 hk1 hS => ?_)
      have hP := hP1
      have hD := hD1.weaken (fun k q _ h => hFc q.1 h)
      exact (db_X14_readRun_51 C K) (x2) (x3) (q5) s6 _ _ _ h hP hD hS (lv_sub hl [0, 2, 3] rfl)
    · have h := nd_neg h c4
      refine lv_iload_n hx hb dX14_readRun_40 rfl (lv_at hl 1 rfl) ?_
      refine lv_iconst (v := 4) hx hb dX14_readRun_41 (by decide) ?_
      refine lv_ishr hx hb dX14_readRun_42 ?_
      refine lv_i2l hx hb dX14_readRun_43 rfl ?_
      refine lv_goto (tgt := 51) hx hb dX14_readRun_44 (by decide) ?_
      exact (db_X14_readRun_51 C K) (x2) (x3) (((((x1 : Int32) >>> ((4 : Int32) &&& 31)) : Int32).toInt64)) s0 _ _ _ h hP hD hS (lv_sub hl [0, 2, 3] rfl)
  · have h := nd_neg h c3
    exact K _ _ _ _ _ dX14_readRun_33 (Option.some.inj h).symm hP hD hS
set_option maxHeartbeats 40000000 in
set_option maxRecDepth 100000 in
theorem db_X14_readRun_13 {p : Program} {l : Launch} {e : Env} {s : State} {m : MethodId} {args : Array Value} {below : List Frame} {meth : Method} {c : Code} {Q : State → Prop} {A : Nat → Prop} {dC : Nat → ClassId} {dI : Nat → Nat → Nat} {a : Nat → Nat} {ac : Nat → ClassId} {n : Nat} {r : St} (C : nd_C p l s m args c A (dC, dI) cX14_readRun 8 RX14 ow_dm_X14_readRun (dk_X14 ac)) (K : nd_Kv p l e (headSpec ow_dm_X14_readRun ({ frames := 4, cells := 0, slots := 0, locals := 89 })).room s m args below meth c Q A (dC, dI) cX14_readRun (St) (dw_X14 a ac) r) : dj_X14_readRun_13 p l e s m args below meth c Q A dC dI a ac (df_X14_readRun_13 n) r := by
  obtain ⟨hlt, hx, hb, hml, hown, hts, hN, hA, hK⟩ := id C
  intro x1 x2 x3 s0 H locs ls h hP hD hS hl
  unfold df_X14_readRun_13 at h
  refine lv_aload_n hx hb dX14_readRun_13 rfl (lv_at hl 0 rfl) ?_
  refine va_get (D := (dC, dI)) (ci := 15) (v := .int (sI s0 0)) (C := RX14) (T := TX14) (N := 11) hx hb hts hi_dm_X14_readRun_X14 hown hK hP 0 rfl rfl 0 (by decide) (hts (.fieldLink RX14 27 "TimeMachineModel$Codec" "events" "I") (List.mem_of_getElem? (i := 1) rfl)) (fun _ h9 => h9) rfl dX14_readRun_14 ?_
  refine lv_if_ne (tgt := 26) hx hb dX14_readRun_17 (by decide) (fun c2 => ?_) (fun c2 => ?_)
  · have h := nd_neg h c2
    exact (db_X14_readRun_26 C K) (x1) (x2) (x3) s0 _ _ _ h hP hD hS (lv_sub hl [0, 1, 2, 3] rfl)
  · have h := nd_pos h c2
    refine lv_aload_n hx hb dX14_readRun_20 rfl (lv_at hl 0 rfl) ?_
    refine lv_iconst (v := 4) hx hb dX14_readRun_21 (by decide) ?_
    refine lv_iload_n hx hb dX14_readRun_22 rfl (lv_at hl 2 rfl) ?_
    obtain ⟨s24, hq, h⟩ := nd_b1_e h
    have hPc := hP
    have hDc := hD
    have hKc := hK
    have hFc := nd_rs hD hS hA
    refine nd_cVv (As := [.int 4, .int x2]) (rest := []) (w' := dw_X14 a ac s24) ⟨hx, hb, hml, hown, hts⟩ (fun sz => dm_X14_meet l hlt dC dI a ac n (4) (x2) s0 hq sz) (cwV 2 hts gi_dm_X14_readRun_2 rfl rfl rfl (by decide +kernel) ⟨Nat.le_of_ble_eq_true rfl, Nat.le_of_ble_eq_true rfl⟩) hPc hDc hKc hS hA hN (va_recv hKc hPc (ci := 15) (q0 := 0) rfl rfl) rfl hl.1 rfl (Nat.le_of_ble_eq_true rfl) dX14_readRun_23 (fun H locs hP1 hD1 hk1 hS => ?_)
    have hP := hP1
    have hD := hD1.weaken (fun k q _ h => hFc q.1 h)
    exact (db_X14_readRun_26 C K) (x1) (x2) (x3) s24 _ _ _ h hP hD hS (lv_sub hl [0, 1, 2, 3] rfl)
set_option maxHeartbeats 40000000 in
set_option maxRecDepth 100000 in
theorem db_X14_readRun_0 {p : Program} {l : Launch} {e : Env} {s : State} {m : MethodId} {args : Array Value} {below : List Frame} {meth : Method} {c : Code} {Q : State → Prop} {A : Nat → Prop} {dC : Nat → ClassId} {dI : Nat → Nat → Nat} {a : Nat → Nat} {ac : Nat → ClassId} {n : Nat} {r : St} (C : nd_C p l s m args c A (dC, dI) cX14_readRun 8 RX14 ow_dm_X14_readRun (dk_X14 ac)) (K : nd_Kv p l e (headSpec ow_dm_X14_readRun ({ frames := 4, cells := 0, slots := 0, locals := 89 })).room s m args below meth c Q A (dC, dI) cX14_readRun (St) (dw_X14 a ac) r) : dj_X14_readRun_0 p l e s m args below meth c Q A dC dI a ac (df_X14_readRun_0 n) r := by
  obtain ⟨hlt, hx, hb, hml, hown, hts, hN, hA, hK⟩ := id C
  intro v0 v1 v2 s0 H locs ls h hP hD hS hl
  unfold df_X14_readRun_0 at h
  refine lv_iload_n hx hb dX14_readRun_0 rfl (lv_at hl 1 rfl) ?_
  refine lv_bipush (v := 8) hx hb dX14_readRun_1 (by decide) ?_
  refine lv_iand hx hb dX14_readRun_3 ?_
  refine lv_if_le (tgt := 13) hx hb dX14_readRun_4 (by decide) (fun c1 => ?_) (fun c1 => ?_)
  · have h := nd_pos h c1
    exact (db_X14_readRun_13 C K) (v0) (v1) (v2) s0 _ _ _ h hP hD hS (lv_sub hl [0, 1, 2, 3] rfl)
  · have h := nd_neg h c1
    refine lv_aload_n hx hb dX14_readRun_7 rfl (lv_at hl 0 rfl) ?_
    refine lv_iconst (v := 1) hx hb dX14_readRun_8 (by decide) ?_
    refine lv_iload_n hx hb dX14_readRun_9 rfl (lv_at hl 2 rfl) ?_
    obtain ⟨s27, hq, h⟩ := nd_b1_e h
    have hPc := hP
    have hDc := hD
    have hKc := hK
    have hFc := nd_rs hD hS hA
    refine nd_cVv (As := [.int 1, .int v1]) (rest := []) (w' := dw_X14 a ac s27) ⟨hx, hb, hml, hown, hts⟩ (fun sz => dm_X14_meet l hlt dC dI a ac n (1) (v1) s0 hq sz) (cwV 2 hts gi_dm_X14_readRun_2 rfl rfl rfl (by decide +kernel) ⟨Nat.le_of_ble_eq_true rfl, Nat.le_of_ble_eq_true rfl⟩) hPc hDc hKc hS hA hN (va_recv hKc hPc (ci := 15) (q0 := 0) rfl rfl) rfl hl.1 rfl (Nat.le_of_ble_eq_true rfl) dX14_readRun_10 (fun H locs hP1 hD1 hk1 hS => ?_)
    have hP := hP1
    have hD := hD1.weaken (fun k q _ h => hFc q.1 h)
    exact (db_X14_readRun_13 C K) (v0) (v1) (v2) s27 _ _ _ h hP hD hS (lv_sub hl [0, 1, 2, 3] rfl)
set_option maxHeartbeats 40000000 in
set_option maxRecDepth 100000 in
theorem dm_X14_readRun (l : Launch) (hlt : l.stackTraces = false) (dC : Nat → ClassId) (dI : Nat → Nat → Nat) (a : Nat → Nat) (ac : Nat → ClassId) (n : Nat) (v0 : Int32) (v1 : Int32) (v2 : Int32) (s0 : St) {r : St} (h : df_X14_readRun n v0 v1 v2 s0 = some r) (sz : Nat) : Met l yX14_readRun ow_dm_X14_readRun ({ frames := 4, cells := 0, slots := 0, locals := 89 }) (va_Pc [.ref (a 0), .int v0, .int v1, .int v2] (fun U => U.heap.size = sz ∧ va_P (dC, dI) vwCl (dw_X14 a ac s0) U.heap ∧ va_K (dC, dI) vwCl (dk_X14 ac) U ∧ va_D (fun _ => True) (dw_X14 a ac s0) ∧ nv_E dI (va_A (dw_X14 a ac s0) sz) U)) (va_Qv (fun _ => True) (fun (_ : Unit) t => va_P (dC, dI) vwCl (dw_X14 a ac r) t.heap ∧ va_K (dC, dI) vwCl (dk_X14 ac) t ∧ va_D (va_A (dw_X14 a ac s0) sz) (dw_X14 a ac r)) (va_A (dw_X14 a ac s0) sz)) 0 0 (va_A (dw_X14 a ac s0) sz) := by
  refine Met.ofW (cc := cX14_readRun) (maxL := 8) (ret := none) (by decide) rfl ?_
  intro p e s m args below meth c s₁ B hml hv
  obtain ⟨rfl, hsz, hP, hK, hD0, hN⟩ := hv
  have hx := B.exec
  have hb := B.bytes
  have hr := B.returns
  have hts := atoms_spec (ws := ow_dm_X14_readRun) B.pre
  have hown : s.vm.findClass RX14 = some m.cls := findClass_of_methodNamed B.named
  have hlocks := B.notSynchronized
  subst hsz
  have hD := hD0.self (sz := s.heap.size)
  generalize hAe : va_A (dw_X14 a ac s0) s.heap.size = A at hD hN ⊢
  have hA : ∀ q : Nat, s.heap.size ≤ q → A q := fun q h => by rw [← hAe]; exact Or.inr h
  have hl := lv_entry ([.ref (a 0), .int v0, .int v1, .int v2]) (n := 8) (Nat.le_of_ble_eq_true rfl)
  rw [lg_entry_eq]
  generalize (lg_sl ([.ref (a 0), .int v0, .int v1, .int v2]) ++ List.replicate (8 - (lg_sl ([.ref (a 0), .int v0, .int v1, .int v2])).length) Slot.unset).toArray = ls at hl ⊢
  have hl : lv_has ls 8 [(0, .ref (a 0)), (1, .int v0), (2, .int v1), (3, .int v2)] := hl
  exact db_X14_readRun_0 (dC := dC) (dI := dI) (a := a) (ac := ac) (n := n) (r := r) ⟨hlt, hx, hb, hml, hown, hts, hN, hA, hK⟩ (fun pc τ H locs ls d er hP hD hS => by subst er; exact W.vret hx hb hr (fun t ht hW => ⟨⟨(), rfl, trivial, by rw [ht]; exact hP, va_K.moved hW.alike hK, hD⟩, hS.F ht⟩) hS.2.2 d) v0 v1 v2 s0 _ _ _ h hP hD va_S.rf (lv_sub hl [0, 1, 2, 3] rfl)
def ow_dm_X14_readBytes : List Cond := Cond.code yX14_readBytes cX14_readBytes 5 (some .long) :: ([Cond.methodLink RX14 81 yX14_next, Cond.instanceMethod yX14_next, Cond.selects RX14 yX14_next yX14_next, Cond.initialized RX14] ++ (ow_dm_X14_next ++ []))
theorem gd_dm_X14_readBytes : ∀ w ∈ ow_dm_X14_readBytes, (w.onTables && w.keeps) = true ∨ ∃ ty, w = Cond.arrayClass ty := List.forall_mem_cons.mpr ⟨good_of_word rfl, List.forall_mem_append.mpr ⟨fun w h => good_of_word (List.all_eq_true.mp (by decide +kernel) w h), List.forall_mem_append.mpr ⟨gd_dm_X14_next, fun _ h => nomatch h⟩⟩⟩
theorem gi_dm_X14_readBytes_0 : GoodIn ow_dm_X14_readBytes (wsV RX14 81 RX14 yX14_next ow_dm_X14_next) := goodIn_app (goodIn_of _ (by decide +kernel)) (fun w h => ⟨List.mem_cons_of_mem _ (List.mem_append_right _ (List.mem_append_left _ h)), gd_dm_X14_next w h⟩)
def dj_X14_readBytes_5 (p : Program) (l : Launch) (e : Env) (s : State) (m : MethodId) (args : Array Value) (below : List Frame) (meth : Method) (c : Code) (Q : State → Prop) (A : Nat → Prop) (dC : Nat → ClassId) (dI : Nat → Nat → Nat) (a : Nat → Nat) (ac : Nat → ClassId) (g : Int32 → Int64 → Int32 → (St) → Option (Int64 × (St))) (r : Int64 × (St)) : Prop := ∀ (x1 : Int32) (x2 : Int64) (x4 : Int32) (s0 : St) (H : Heap) (locs : List Loc) (ls : Array Slot), g x1 x2 x4 s0 = some r → va_P (dC, dI) vwCl (dw_X14 a ac s0) H → va_D A (dw_X14 a ac s0) → va_S A s.heap H locs → lv_has ls 5 [(0, .ref (a 0)), (1, .int x1), (2, .long x2), (4, .int x4)] → W p l e (headSpec ow_dm_X14_readBytes ({ frames := 2, cells := 0, slots := 0, locals := 42 })).room s m args below meth c H locs 0 0 Q (F0 m 5 ls [])
def dj_X14_readBytes_0 (p : Program) (l : Launch) (e : Env) (s : State) (m : MethodId) (args : Array Value) (below : List Frame) (meth : Method) (c : Code) (Q : State → Prop) (A : Nat → Prop) (dC : Nat → ClassId) (dI : Nat → Nat → Nat) (a : Nat → Nat) (ac : Nat → ClassId) (g : Int32 → (St) → Option (Int64 × (St))) (r : Int64 × (St)) : Prop := ∀ (v0 : Int32) (s0 : St) (H : Heap) (locs : List Loc) (ls : Array Slot), g v0 s0 = some r → va_P (dC, dI) vwCl (dw_X14 a ac s0) H → va_D A (dw_X14 a ac s0) → va_S A s.heap H locs → lv_has ls 5 [(0, .ref (a 0)), (1, .int v0)] → W p l e (headSpec ow_dm_X14_readBytes ({ frames := 2, cells := 0, slots := 0, locals := 42 })).room s m args below meth c H locs 0 0 Q (F0 m 0 ls [])
set_option maxHeartbeats 40000000 in
set_option maxRecDepth 100000 in
theorem dB_X14_readBytes_5 {p : Program} {l : Launch} {e : Env} {s : State} {m : MethodId} {args : Array Value} {below : List Frame} {meth : Method} {c : Code} {Q : State → Prop} {A : Nat → Prop} {dC : Nat → ClassId} {dI : Nat → Nat → Nat} {a : Nat → Nat} {ac : Nat → ClassId} {n : Nat} {r : Int64 × (St)} (C : nd_C p l s m args c A (dC, dI) cX14_readBytes 5 RX14 ow_dm_X14_readBytes (dk_X14 ac)) (K : nd_Kl p l e (headSpec ow_dm_X14_readBytes ({ frames := 2, cells := 0, slots := 0, locals := 42 })).room s m args below meth c Q A (dC, dI) cX14_readBytes (St) (dw_X14 a ac) r) {g5 : Int32 → Int64 → Int32 → (St) → Option (Int64 × (St))} (J5 : dj_X14_readBytes_5 p l e s m args below meth c Q A dC dI a ac g5 r) : dj_X14_readBytes_5 p l e s m args below meth c Q A dC dI a ac (dF_X14_readBytes_5 n g5) r := by
  obtain ⟨hlt, hx, hb, hml, hown, hts, hN, hA, hK⟩ := id C
  intro x1 x2 x4 s0 H locs ls h hP hD hS hl
  unfold dF_X14_readBytes_5 at h
  refine lv_iload hx hb dX14_readBytes_5 (lv_at hl 3 rfl) ?_
  refine lv_iload_n hx hb dX14_readBytes_7 rfl (lv_at hl 1 rfl) ?_
  refine lv_icmp_ge (tgt := 28) hx hb dX14_readBytes_8 (by decide) (fun c1 => ?_) (fun c1 => ?_)
  · have h := nd_pos h c1
    refine lv_lload_n hx hb dX14_readBytes_28 rfl (lv_at hl 2 rfl) ?_
    exact K _ _ _ _ _ _ dX14_readBytes_29 (Option.some.inj h).symm hP hD hS
  · have h := nd_neg h c1
    refine lv_lload_n hx hb dX14_readBytes_11 rfl (lv_at hl 2 rfl) ?_
    refine lv_bipush (v := 8) hx hb dX14_readBytes_12 (by decide) ?_
    refine lv_lshl hx hb dX14_readBytes_14 rfl ?_
    refine lv_aload_n hx hb dX14_readBytes_15 rfl (lv_at hl 0 rfl) ?_
    obtain ⟨q2, s3, hq, h⟩ := nd_b2_e h
    have hPc := hP
    have hDc := hD
    have hKc := hK
    have hFc := nd_rs hD hS hA
    refine nd_cVi (As := []) (rest := [.long ((x2 : Int64) <<< ((8 : Int32).toInt64 &&& 63))]) (q := q2) (w' := dw_X14 a ac s3) ⟨hx, hb, hml, hown, hts⟩ (fun sz => dm_X14_next l hlt dC dI a ac n  s0 hq sz) (cwV 0 hts gi_dm_X14_readBytes_0 rfl rfl rfl (by decide +kernel) ⟨Nat.le_of_ble_eq_true rfl, Nat.le_of_ble_eq_true rfl⟩) hPc hDc hKc hS hA hN (va_recv hKc hPc (ci := 15) (q0 := 0) rfl rfl) rfl hl.1 rfl (Nat.le_of_ble_eq_true rfl) dX14_readBytes_16 (fun H locs hP1 hD1 hk1 hS => ?_)
    have hP := hP1
    have hD := hD1.weaken (fun k q _ h => hFc q.1 h)
    refine lv_i2l hx hb dX14_readBytes_19 rfl ?_
    refine lv_lor hx hb dX14_readBytes_20 ?_
    refine lv_topl (fun z5 ez5 => ?_)
    have h := nd_at h ez5
    refine lv_lstore_n (lv' := [(2, .long z5), (0, .ref (a 0)), (1, .int x1), (4, .int x4)]) hx hb dX14_readBytes_21 rfl hl (by decide) rfl (fun ls hl => ?_)
    obtain ⟨z6, ez6, h⟩ := nd_let_e h
    refine lv_iinc (v := z6) (lv' := [(4, .int z6), (2, .long z5), (0, .ref (a 0)), (1, .int x1)]) hx hb dX14_readBytes_22 hl (k := 3) rfl (by rw [ez6]) (by decide) rfl (fun ls hl => ?_)
    refine lv_goto (tgt := 5) hx hb dX14_readBytes_25 (by decide) ?_
    exact (J5) (x1) (z5) (z6) s3 _ _ _ h hP hD hS (lv_sub hl [2, 3, 1, 0] rfl)
set_option maxHeartbeats 40000000 in
set_option maxRecDepth 100000 in
theorem db_X14_readBytes_5 {p : Program} {l : Launch} {e : Env} {s : State} {m : MethodId} {args : Array Value} {below : List Frame} {meth : Method} {c : Code} {Q : State → Prop} {A : Nat → Prop} {dC : Nat → ClassId} {dI : Nat → Nat → Nat} {a : Nat → Nat} {ac : Nat → ClassId} {n : Nat} {r : Int64 × (St)} (C : nd_C p l s m args c A (dC, dI) cX14_readBytes 5 RX14 ow_dm_X14_readBytes (dk_X14 ac)) (K : nd_Kl p l e (headSpec ow_dm_X14_readBytes ({ frames := 2, cells := 0, slots := 0, locals := 42 })).room s m args below meth c Q A (dC, dI) cX14_readBytes (St) (dw_X14 a ac) r) (k : Nat) : dj_X14_readBytes_5 p l e s m args below meth c Q A dC dI a ac (df_X14_readBytes_5 n k) r := by
  induction k with
  | zero => intro x1 x2 x4 s0 H locs ls h; exact nomatch (show (none : Option (Int64 × (St))) = some r from h)
  | succ k ih => exact dB_X14_readBytes_5 C K ih
set_option maxHeartbeats 40000000 in
set_option maxRecDepth 100000 in
theorem db_X14_readBytes_0 {p : Program} {l : Launch} {e : Env} {s : State} {m : MethodId} {args : Array Value} {below : List Frame} {meth : Method} {c : Code} {Q : State → Prop} {A : Nat → Prop} {dC : Nat → ClassId} {dI : Nat → Nat → Nat} {a : Nat → Nat} {ac : Nat → ClassId} {n : Nat} {r : Int64 × (St)} (C : nd_C p l s m args c A (dC, dI) cX14_readBytes 5 RX14 ow_dm_X14_readBytes (dk_X14 ac)) (K : nd_Kl p l e (headSpec ow_dm_X14_readBytes ({ frames := 2, cells := 0, slots := 0, locals := 42 })).room s m args below meth c Q A (dC, dI) cX14_readBytes (St) (dw_X14 a ac) r) : dj_X14_readBytes_0 p l e s m args below meth c Q A dC dI a ac (df_X14_readBytes_0 n) r := by
  obtain ⟨hlt, hx, hb, hml, hown, hts, hN, hA, hK⟩ := id C
  intro v0 s0 H locs ls h hP hD hS hl
  unfold df_X14_readBytes_0 at h
  refine lv_lconst (v := 0) hx hb dX14_readBytes_0 (by decide) ?_
  refine lv_lstore_n (lv' := [(2, .long 0), (0, .ref (a 0)), (1, .int v0)]) hx hb dX14_readBytes_1 rfl hl (by decide) rfl (fun ls hl => ?_)
  refine lv_iconst (v := 0) hx hb dX14_readBytes_2 (by decide) ?_
  refine lv_istore (lv' := [(4, .int 0), (2, .long 0), (0, .ref (a 0)), (1, .int v0)]) hx hb dX14_readBytes_3 hl (by decide) rfl (fun ls hl => ?_)
  exact (db_X14_readBytes_5 C K n) (v0) (0) (0) s0 _ _ _ h hP hD hS (lv_sub hl [2, 3, 1, 0] rfl)
set_option maxHeartbeats 40000000 in
set_option maxRecDepth 100000 in
theorem dm_X14_readBytes (l : Launch) (hlt : l.stackTraces = false) (dC : Nat → ClassId) (dI : Nat → Nat → Nat) (a : Nat → Nat) (ac : Nat → ClassId) (n : Nat) (v0 : Int32) (s0 : St) {r : Int64 × (St)} (h : df_X14_readBytes n v0 s0 = some r) (sz : Nat) : Met l yX14_readBytes ow_dm_X14_readBytes ({ frames := 2, cells := 0, slots := 0, locals := 42 }) (va_Pc [.ref (a 0), .int v0] (fun U => U.heap.size = sz ∧ va_P (dC, dI) vwCl (dw_X14 a ac s0) U.heap ∧ va_K (dC, dI) vwCl (dk_X14 ac) U ∧ va_D (fun _ => True) (dw_X14 a ac s0) ∧ nv_E dI (va_A (dw_X14 a ac s0) sz) U)) (va_Ql (fun x _ => x = r.1) (fun (_ : Unit) t => va_P (dC, dI) vwCl (dw_X14 a ac r.2) t.heap ∧ va_K (dC, dI) vwCl (dk_X14 ac) t ∧ va_D (va_A (dw_X14 a ac s0) sz) (dw_X14 a ac r.2)) (va_A (dw_X14 a ac s0) sz)) 0 0 (va_A (dw_X14 a ac s0) sz) := by
  refine Met.ofW (cc := cX14_readBytes) (maxL := 5) (ret := (some .long)) (by decide) rfl ?_
  intro p e s m args below meth c s₁ B hml hv
  obtain ⟨rfl, hsz, hP, hK, hD0, hN⟩ := hv
  have hx := B.exec
  have hb := B.bytes
  have hr := B.returns
  have hts := atoms_spec (ws := ow_dm_X14_readBytes) B.pre
  have hown : s.vm.findClass RX14 = some m.cls := findClass_of_methodNamed B.named
  have hlocks := B.notSynchronized
  subst hsz
  have hD := hD0.self (sz := s.heap.size)
  generalize hAe : va_A (dw_X14 a ac s0) s.heap.size = A at hD hN ⊢
  have hA : ∀ q : Nat, s.heap.size ≤ q → A q := fun q h => by rw [← hAe]; exact Or.inr h
  have hl := lv_entry ([.ref (a 0), .int v0]) (n := 5) (Nat.le_of_ble_eq_true rfl)
  rw [lg_entry_eq]
  generalize (lg_sl ([.ref (a 0), .int v0]) ++ List.replicate (5 - (lg_sl ([.ref (a 0), .int v0])).length) Slot.unset).toArray = ls at hl ⊢
  have hl : lv_has ls 5 [(0, .ref (a 0)), (1, .int v0)] := hl
  exact db_X14_readBytes_0 (dC := dC) (dI := dI) (a := a) (ac := ac) (n := n) (r := r) ⟨hlt, hx, hb, hml, hown, hts, hN, hA, hK⟩ (fun pc v τ H locs ls d er hP hD hS => by subst er; exact W.lret (v := v) hx hb hr (fun t ht hW => ⟨⟨v, (), rfl, rfl, by rw [ht]; exact hP, va_K.moved hW.alike hK, hD⟩, hS.F ht⟩) hS.2.2 d) v0 s0 _ _ _ h hP hD va_S.rf (lv_sub hl [0, 1] rfl)
def ow_dm_X14_readEntry : List Cond := Cond.code yX14_readEntry cX14_readEntry 12 none :: ([Cond.methodLink RX14 74 yX14_meet, Cond.instanceMethod yX14_meet, Cond.selects RX14 yX14_meet yX14_meet, Cond.initialized RX14, Cond.fieldLink RX14 65 "TimeMachineModel$Codec" "fault" "I", Cond.methodLink RX14 98 yX14_before, Cond.instanceMethod yX14_before, Cond.selects RX14 yX14_before yX14_before, Cond.fieldLink RX14 27 "TimeMachineModel$Codec" "events" "I", Cond.fieldLink RX14 16 "TimeMachineModel$Codec" "difference" "[J", Cond.methodLink RX14 94 yX14_take, Cond.instanceMethod yX14_take, Cond.selects RX14 yX14_take yX14_take, Cond.methodLink RX14 81 yX14_next, Cond.instanceMethod yX14_next, Cond.selects RX14 yX14_next yX14_next, Cond.fieldLink RX14 68 "TimeMachineModel$Codec" "at" "I", Cond.methodLink RX14 91 yX14_readCount, Cond.instanceMethod yX14_readCount, Cond.selects RX14 yX14_readCount yX14_readCount, Cond.fieldLink RX14 20 "TimeMachineModel$Codec" "a" "[J", Cond.fieldLink RX14 13 "TimeMachineModel$Codec" "b" "[I", Cond.methodLink RX14 87 yX14_readVarint, Cond.instanceMethod yX14_readVarint, Cond.selects RX14 yX14_readVarint yX14_readVarint, Cond.methodLink RX14 102 yX14_readBytes, Cond.instanceMethod yX14_readBytes, Cond.selects RX14 yX14_readBytes yX14_readBytes] ++ (u_ws RX14 TX14 11 ++ (ow_dm_X14_meet ++ (ow_dm_X14_before ++ (ow_dm_X14_take ++ (ow_dm_X14_next ++ (ow_dm_X14_readCount ++ (ow_dm_X14_readVarint ++ (ow_dm_X14_readBytes ++ [])))))))))
theorem gd_dm_X14_readEntry : ∀ w ∈ ow_dm_X14_readEntry, (w.onTables && w.keeps) = true ∨ ∃ ty, w = Cond.arrayClass ty := List.forall_mem_cons.mpr ⟨good_of_word rfl, List.forall_mem_append.mpr ⟨fun w h => good_of_word (List.all_eq_true.mp (by decide +kernel) w h), List.forall_mem_append.mpr ⟨gu_X14, List.forall_mem_append.mpr ⟨gd_dm_X14_meet, List.forall_mem_append.mpr ⟨gd_dm_X14_before, List.forall_mem_append.mpr ⟨gd_dm_X14_take, List.forall_mem_append.mpr ⟨gd_dm_X14_next, List.forall_mem_append.mpr ⟨gd_dm_X14_readCount, List.forall_mem_append.mpr ⟨gd_dm_X14_readVarint, List.forall_mem_append.mpr ⟨gd_dm_X14_readBytes, fun _ h => nomatch h⟩⟩⟩⟩⟩⟩⟩⟩⟩⟩
theorem hi_dm_X14_readEntry_X14 : ∀ w ∈ u_ws RX14 TX14 11, w ∈ ow_dm_X14_readEntry := fun w h => List.mem_cons_of_mem _ (List.mem_append_right _ (List.mem_append_left _ h))
theorem gi_dm_X14_readEntry_0 : GoodIn ow_dm_X14_readEntry (wsV RX14 74 RX14 yX14_meet ow_dm_X14_meet) := goodIn_app (goodIn_of _ (by decide +kernel)) (fun w h => ⟨List.mem_cons_of_mem _ (List.mem_append_right _ (List.mem_append_right _ (List.mem_append_left _ h))), gd_dm_X14_meet w h⟩)
theorem gi_dm_X14_readEntry_1 : GoodIn ow_dm_X14_readEntry (wsV RX14 98 RX14 yX14_before ow_dm_X14_before) := goodIn_app (goodIn_of _ (by decide +kernel)) (fun w h => ⟨List.mem_cons_of_mem _ (List.mem_append_right _ (List.mem_append_right _ (List.mem_append_right _ (List.mem_append_left _ h)))), gd_dm_X14_before w h⟩)
theorem gi_dm_X14_readEntry_2 : GoodIn ow_dm_X14_readEntry (wsV RX14 94 RX14 yX14_take ow_dm_X14_take) := goodIn_app (goodIn_of _ (by decide +kernel)) (fun w h => ⟨List.mem_cons_of_mem _ (List.mem_append_right _ (List.mem_append_right _ (List.mem_append_right _ (List.mem_append_right _ (List.mem_append_left _ h))))), gd_dm_X14_take w h⟩)
theorem gi_dm_X14_readEntry_3 : GoodIn ow_dm_X14_readEntry (wsV RX14 81 RX14 yX14_next ow_dm_X14_next) := goodIn_app (goodIn_of _ (by decide +kernel)) (fun w h => ⟨List.mem_cons_of_mem _ (List.mem_append_right _ (List.mem_append_right _ (List.mem_append_right _ (List.mem_append_right _ (List.mem_append_right _ (List.mem_append_left _ h)))))), gd_dm_X14_next w h⟩)
theorem gi_dm_X14_readEntry_4 : GoodIn ow_dm_X14_readEntry (wsV RX14 91 RX14 yX14_readCount ow_dm_X14_readCount) := goodIn_app (goodIn_of _ (by decide +kernel)) (fun w h => ⟨List.mem_cons_of_mem _ (List.mem_append_right _ (List.mem_append_right _ (List.mem_append_right _ (List.mem_append_right _ (List.mem_append_right _ (List.mem_append_right _ (List.mem_append_left _ h))))))), gd_dm_X14_readCount w h⟩)
theorem gi_dm_X14_readEntry_5 : GoodIn ow_dm_X14_readEntry (wsV RX14 87 RX14 yX14_readVarint ow_dm_X14_readVarint) := goodIn_app (goodIn_of _ (by decide +kernel)) (fun w h => ⟨List.mem_cons_of_mem _ (List.mem_append_right _ (List.mem_append_right _ (List.mem_append_right _ (List.mem_append_right _ (List.mem_append_right _ (List.mem_append_right _ (List.mem_append_right _ (List.mem_append_left _ h)))))))), gd_dm_X14_readVarint w h⟩)
theorem gi_dm_X14_readEntry_6 : GoodIn ow_dm_X14_readEntry (wsV RX14 102 RX14 yX14_readBytes ow_dm_X14_readBytes) := goodIn_app (goodIn_of _ (by decide +kernel)) (fun w h => ⟨List.mem_cons_of_mem _ (List.mem_append_right _ (List.mem_append_right _ (List.mem_append_right _ (List.mem_append_right _ (List.mem_append_right _ (List.mem_append_right _ (List.mem_append_right _ (List.mem_append_right _ (List.mem_append_left _ h))))))))), gd_dm_X14_readBytes w h⟩)
def dj_X14_readEntry_350 (p : Program) (l : Launch) (e : Env) (s : State) (m : MethodId) (args : Array Value) (below : List Frame) (meth : Method) (c : Code) (Q : State → Prop) (A : Nat → Prop) (dC : Nat → ClassId) (dI : Nat → Nat → Nat) (a : Nat → Nat) (ac : Nat → ClassId) (g : (St) → Option (St)) (r : St) : Prop := ∀ (s0 : St) (H : Heap) (locs : List Loc) (ls : Array Slot), g s0 = some r → va_P (dC, dI) vwCl (dw_X14 a ac s0) H → va_D A (dw_X14 a ac s0) → va_S A s.heap H locs → lv_has ls 12 [] → W p l e (headSpec ow_dm_X14_readEntry ({ frames := 4, cells := 0, slots := 0, locals := 89 })).room s m args below meth c H locs 0 0 Q (F0 m 350 ls [])
def dj_X14_readEntry_332 (p : Program) (l : Launch) (e : Env) (s : State) (m : MethodId) (args : Array Value) (below : List Frame) (meth : Method) (c : Code) (Q : State → Prop) (A : Nat → Prop) (dC : Nat → ClassId) (dI : Nat → Nat → Nat) (a : Nat → Nat) (ac : Nat → ClassId) (g : Int32 → Int64 → Int64 → Int32 → (St) → Option (St)) (r : St) : Prop := ∀ (x3 : Int32) (x6 : Int64) (x8 : Int64) (x10 : Int32) (s0 : St) (H : Heap) (locs : List Loc) (ls : Array Slot), g x3 x6 x8 x10 s0 = some r → va_P (dC, dI) vwCl (dw_X14 a ac s0) H → va_D A (dw_X14 a ac s0) → va_S A s.heap H locs → lv_has ls 12 [(0, .ref (a 0)), (3, .int x3), (6, .long x6), (8, .long x8), (10, .int x10)] → W p l e (headSpec ow_dm_X14_readEntry ({ frames := 4, cells := 0, slots := 0, locals := 89 })).room s m args below meth c H locs 0 0 Q (F0 m 332 ls [])
def dj_X14_readEntry_321 (p : Program) (l : Launch) (e : Env) (s : State) (m : MethodId) (args : Array Value) (below : List Frame) (meth : Method) (c : Code) (Q : State → Prop) (A : Nat → Prop) (dC : Nat → ClassId) (dI : Nat → Nat → Nat) (a : Nat → Nat) (ac : Nat → ClassId) (g : Int32 → Int64 → Int64 → Int32 → (St) → Option (St)) (r : St) : Prop := ∀ (x3 : Int32) (x6 : Int64) (x8 : Int64) (x10 : Int32) (s0 : St) (H : Heap) (locs : List Loc) (ls : Array Slot), g x3 x6 x8 x10 s0 = some r → va_P (dC, dI) vwCl (dw_X14 a ac s0) H → va_D A (dw_X14 a ac s0) → va_S A s.heap H locs → lv_has ls 12 [(0, .ref (a 0)), (3, .int x3), (6, .long x6), (8, .long x8), (10, .int x10)] → W p l e (headSpec ow_dm_X14_readEntry ({ frames := 4, cells := 0, slots := 0, locals := 89 })).room s m args below meth c H locs 0 0 Q (F0 m 321 ls [])
def dj_X14_readEntry_283 (p : Program) (l : Launch) (e : Env) (s : State) (m : MethodId) (args : Array Value) (below : List Frame) (meth : Method) (c : Code) (Q : State → Prop) (A : Nat → Prop) (dC : Nat → ClassId) (dI : Nat → Nat → Nat) (a : Nat → Nat) (ac : Nat → ClassId) (g : Int32 → Int64 → Int64 → Int32 → (St) → Option (St)) (r : St) : Prop := ∀ (x3 : Int32) (x6 : Int64) (x8 : Int64) (x10 : Int32) (s0 : St) (H : Heap) (locs : List Loc) (ls : Array Slot), g x3 x6 x8 x10 s0 = some r → va_P (dC, dI) vwCl (dw_X14 a ac s0) H → va_D A (dw_X14 a ac s0) → va_S A s.heap H locs → lv_has ls 12 [(0, .ref (a 0)), (3, .int x3), (6, .long x6), (8, .long x8), (10, .int x10)] → W p l e (headSpec ow_dm_X14_readEntry ({ frames := 4, cells := 0, slots := 0, locals := 89 })).room s m args below meth c H locs 0 0 Q (F0 m 283 ls [])
def dj_X14_readEntry_281 (p : Program) (l : Launch) (e : Env) (s : State) (m : MethodId) (args : Array Value) (below : List Frame) (meth : Method) (c : Code) (Q : State → Prop) (A : Nat → Prop) (dC : Nat → ClassId) (dI : Nat → Nat → Nat) (a : Nat → Nat) (ac : Nat → ClassId) (g : Int32 → Int64 → Int64 → Int32 → (St) → Option (St)) (r : St) : Prop := ∀ (x3 : Int32) (x6 : Int64) (x8 : Int64) (y0 : Int32) (s0 : St) (H : Heap) (locs : List Loc) (ls : Array Slot), g x3 x6 x8 y0 s0 = some r → va_P (dC, dI) vwCl (dw_X14 a ac s0) H → va_D A (dw_X14 a ac s0) → va_S A s.heap H locs → lv_has ls 12 [(0, .ref (a 0)), (3, .int x3), (6, .long x6), (8, .long x8)] → W p l e (headSpec ow_dm_X14_readEntry ({ frames := 4, cells := 0, slots := 0, locals := 89 })).room s m args below meth c H locs 0 0 Q (F0 m 281 ls [.int y0])
def dj_X14_readEntry_263 (p : Program) (l : Launch) (e : Env) (s : State) (m : MethodId) (args : Array Value) (below : List Frame) (meth : Method) (c : Code) (Q : State → Prop) (A : Nat → Prop) (dC : Nat → ClassId) (dI : Nat → Nat → Nat) (a : Nat → Nat) (ac : Nat → ClassId) (g : Int32 → Int64 → Int32 → Int64 → (St) → Option (St)) (r : St) : Prop := ∀ (x3 : Int32) (x6 : Int64) (x11 : Int32) (y0 : Int64) (s0 : St) (H : Heap) (locs : List Loc) (ls : Array Slot), g x3 x6 x11 y0 s0 = some r → va_P (dC, dI) vwCl (dw_X14 a ac s0) H → va_D A (dw_X14 a ac s0) → va_S A s.heap H locs → lv_has ls 12 [(0, .ref (a 0)), (3, .int x3), (6, .long x6), (11, .int x11)] → W p l e (headSpec ow_dm_X14_readEntry ({ frames := 4, cells := 0, slots := 0, locals := 89 })).room s m args below meth c H locs 0 0 Q (F0 m 263 ls [.long y0])
def dj_X14_readEntry_247 (p : Program) (l : Launch) (e : Env) (s : State) (m : MethodId) (args : Array Value) (below : List Frame) (meth : Method) (c : Code) (Q : State → Prop) (A : Nat → Prop) (dC : Nat → ClassId) (dI : Nat → Nat → Nat) (a : Nat → Nat) (ac : Nat → ClassId) (g : Int32 → Int64 → Int32 → (St) → Option (St)) (r : St) : Prop := ∀ (x3 : Int32) (x6 : Int64) (x11 : Int32) (s0 : St) (H : Heap) (locs : List Loc) (ls : Array Slot), g x3 x6 x11 s0 = some r → va_P (dC, dI) vwCl (dw_X14 a ac s0) H → va_D A (dw_X14 a ac s0) → va_S A s.heap H locs → lv_has ls 12 [(0, .ref (a 0)), (3, .int x3), (6, .long x6), (11, .int x11)] → W p l e (headSpec ow_dm_X14_readEntry ({ frames := 4, cells := 0, slots := 0, locals := 89 })).room s m args below meth c H locs 0 0 Q (F0 m 247 ls [])
def dj_X14_readEntry_213 (p : Program) (l : Launch) (e : Env) (s : State) (m : MethodId) (args : Array Value) (below : List Frame) (meth : Method) (c : Code) (Q : State → Prop) (A : Nat → Prop) (dC : Nat → ClassId) (dI : Nat → Nat → Nat) (a : Nat → Nat) (ac : Nat → ClassId) (g : Int32 → Int32 → Int32 → Int64 → Int64 → Int32 → (St) → Option (St)) (r : St) : Prop := ∀ (x2 : Int32) (x3 : Int32) (x4 : Int32) (x6 : Int64) (x8 : Int64) (y0 : Int32) (s0 : St) (H : Heap) (locs : List Loc) (ls : Array Slot), g x2 x3 x4 x6 x8 y0 s0 = some r → va_P (dC, dI) vwCl (dw_X14 a ac s0) H → va_D A (dw_X14 a ac s0) → va_S A s.heap H locs → lv_has ls 12 [(0, .ref (a 0)), (2, .int x2), (3, .int x3), (4, .int x4), (6, .long x6), (8, .long x8)] → W p l e (headSpec ow_dm_X14_readEntry ({ frames := 4, cells := 0, slots := 0, locals := 89 })).room s m args below meth c H locs 0 0 Q (F0 m 213 ls [.int y0])
def dj_X14_readEntry_200 (p : Program) (l : Launch) (e : Env) (s : State) (m : MethodId) (args : Array Value) (below : List Frame) (meth : Method) (c : Code) (Q : State → Prop) (A : Nat → Prop) (dC : Nat → ClassId) (dI : Nat → Nat → Nat) (a : Nat → Nat) (ac : Nat → ClassId) (g : Int32 → Int32 → Int32 → Int64 → Int64 → (St) → Option (St)) (r : St) : Prop := ∀ (x2 : Int32) (x3 : Int32) (x4 : Int32) (x6 : Int64) (y0 : Int64) (s0 : St) (H : Heap) (locs : List Loc) (ls : Array Slot), g x2 x3 x4 x6 y0 s0 = some r → va_P (dC, dI) vwCl (dw_X14 a ac s0) H → va_D A (dw_X14 a ac s0) → va_S A s.heap H locs → lv_has ls 12 [(0, .ref (a 0)), (2, .int x2), (3, .int x3), (4, .int x4), (6, .long x6)] → W p l e (headSpec ow_dm_X14_readEntry ({ frames := 4, cells := 0, slots := 0, locals := 89 })).room s m args below meth c H locs 0 0 Q (F0 m 200 ls [.long y0])
def dj_X14_readEntry_147 (p : Program) (l : Launch) (e : Env) (s : State) (m : MethodId) (args : Array Value) (below : List Frame) (meth : Method) (c : Code) (Q : State → Prop) (A : Nat → Prop) (dC : Nat → ClassId) (dI : Nat → Nat → Nat) (a : Nat → Nat) (ac : Nat → ClassId) (g : Int32 → Int32 → Int32 → Int64 → (St) → Option (St)) (r : St) : Prop := ∀ (x2 : Int32) (x3 : Int32) (x4 : Int32) (x6 : Int64) (s0 : St) (H : Heap) (locs : List Loc) (ls : Array Slot), g x2 x3 x4 x6 s0 = some r → va_P (dC, dI) vwCl (dw_X14 a ac s0) H → va_D A (dw_X14 a ac s0) → va_S A s.heap H locs → lv_has ls 12 [(0, .ref (a 0)), (2, .int x2), (3, .int x3), (4, .int x4), (6, .long x6)] → W p l e (headSpec ow_dm_X14_readEntry ({ frames := 4, cells := 0, slots := 0, locals := 89 })).room s m args below meth c H locs 0 0 Q (F0 m 147 ls [])
def dj_X14_readEntry_130 (p : Program) (l : Launch) (e : Env) (s : State) (m : MethodId) (args : Array Value) (below : List Frame) (meth : Method) (c : Code) (Q : State → Prop) (A : Nat → Prop) (dC : Nat → ClassId) (dI : Nat → Nat → Nat) (a : Nat → Nat) (ac : Nat → ClassId) (g : Int32 → Int32 → Int32 → Int32 → Int64 → (St) → Option (St)) (r : St) : Prop := ∀ (x2 : Int32) (x3 : Int32) (x4 : Int32) (x5 : Int32) (x6 : Int64) (s0 : St) (H : Heap) (locs : List Loc) (ls : Array Slot), g x2 x3 x4 x5 x6 s0 = some r → va_P (dC, dI) vwCl (dw_X14 a ac s0) H → va_D A (dw_X14 a ac s0) → va_S A s.heap H locs → lv_has ls 12 [(0, .ref (a 0)), (2, .int x2), (3, .int x3), (4, .int x4), (5, .int x5), (6, .long x6)] → W p l e (headSpec ow_dm_X14_readEntry ({ frames := 4, cells := 0, slots := 0, locals := 89 })).room s m args below meth c H locs 0 0 Q (F0 m 130 ls [])
def dj_X14_readEntry_106 (p : Program) (l : Launch) (e : Env) (s : State) (m : MethodId) (args : Array Value) (below : List Frame) (meth : Method) (c : Code) (Q : State → Prop) (A : Nat → Prop) (dC : Nat → ClassId) (dI : Nat → Nat → Nat) (a : Nat → Nat) (ac : Nat → ClassId) (g : Int32 → Int32 → Int32 → Int32 → Int64 → (St) → Option (St)) (r : St) : Prop := ∀ (x2 : Int32) (x3 : Int32) (x4 : Int32) (x5 : Int32) (y0 : Int64) (s0 : St) (H : Heap) (locs : List Loc) (ls : Array Slot), g x2 x3 x4 x5 y0 s0 = some r → va_P (dC, dI) vwCl (dw_X14 a ac s0) H → va_D A (dw_X14 a ac s0) → va_S A s.heap H locs → lv_has ls 12 [(0, .ref (a 0)), (2, .int x2), (3, .int x3), (4, .int x4), (5, .int x5)] → W p l e (headSpec ow_dm_X14_readEntry ({ frames := 4, cells := 0, slots := 0, locals := 89 })).room s m args below meth c H locs 0 0 Q (F0 m 106 ls [.long y0])
def dj_X14_readEntry_54 (p : Program) (l : Launch) (e : Env) (s : State) (m : MethodId) (args : Array Value) (below : List Frame) (meth : Method) (c : Code) (Q : State → Prop) (A : Nat → Prop) (dC : Nat → ClassId) (dI : Nat → Nat → Nat) (a : Nat → Nat) (ac : Nat → ClassId) (g : Int32 → Int32 → Int32 → Int32 → (St) → Option (St)) (r : St) : Prop := ∀ (x1 : Int32) (x2 : Int32) (x3 : Int32) (x4 : Int32) (s0 : St) (H : Heap) (locs : List Loc) (ls : Array Slot), g x1 x2 x3 x4 s0 = some r → va_P (dC, dI) vwCl (dw_X14 a ac s0) H → va_D A (dw_X14 a ac s0) → va_S A s.heap H locs → lv_has ls 12 [(0, .ref (a 0)), (1, .int x1), (2, .int x2), (3, .int x3), (4, .int x4)] → W p l e (headSpec ow_dm_X14_readEntry ({ frames := 4, cells := 0, slots := 0, locals := 89 })).room s m args below meth c H locs 0 0 Q (F0 m 54 ls [])
def dj_X14_readEntry_48 (p : Program) (l : Launch) (e : Env) (s : State) (m : MethodId) (args : Array Value) (below : List Frame) (meth : Method) (c : Code) (Q : State → Prop) (A : Nat → Prop) (dC : Nat → ClassId) (dI : Nat → Nat → Nat) (a : Nat → Nat) (ac : Nat → ClassId) (g : Int32 → Int32 → Int32 → Int32 → (St) → Option (St)) (r : St) : Prop := ∀ (x1 : Int32) (x2 : Int32) (x3 : Int32) (x4 : Int32) (s0 : St) (H : Heap) (locs : List Loc) (ls : Array Slot), g x1 x2 x3 x4 s0 = some r → va_P (dC, dI) vwCl (dw_X14 a ac s0) H → va_D A (dw_X14 a ac s0) → va_S A s.heap H locs → lv_has ls 12 [(0, .ref (a 0)), (1, .int x1), (2, .int x2), (3, .int x3), (4, .int x4)] → W p l e (headSpec ow_dm_X14_readEntry ({ frames := 4, cells := 0, slots := 0, locals := 89 })).room s m args below meth c H locs 0 0 Q (F0 m 48 ls [])
def dj_X14_readEntry_38 (p : Program) (l : Launch) (e : Env) (s : State) (m : MethodId) (args : Array Value) (below : List Frame) (meth : Method) (c : Code) (Q : State → Prop) (A : Nat → Prop) (dC : Nat → ClassId) (dI : Nat → Nat → Nat) (a : Nat → Nat) (ac : Nat → ClassId) (g : Int32 → Int32 → Int32 → Int32 → (St) → Option (St)) (r : St) : Prop := ∀ (x1 : Int32) (x2 : Int32) (x3 : Int32) (x4 : Int32) (s0 : St) (H : Heap) (locs : List Loc) (ls : Array Slot), g x1 x2 x3 x4 s0 = some r → va_P (dC, dI) vwCl (dw_X14 a ac s0) H → va_D A (dw_X14 a ac s0) → va_S A s.heap H locs → lv_has ls 12 [(0, .ref (a 0)), (1, .int x1), (2, .int x2), (3, .int x3), (4, .int x4)] → W p l e (headSpec ow_dm_X14_readEntry ({ frames := 4, cells := 0, slots := 0, locals := 89 })).room s m args below meth c H locs 0 0 Q (F0 m 38 ls [])
def dj_X14_readEntry_27 (p : Program) (l : Launch) (e : Env) (s : State) (m : MethodId) (args : Array Value) (below : List Frame) (meth : Method) (c : Code) (Q : State → Prop) (A : Nat → Prop) (dC : Nat → ClassId) (dI : Nat → Nat → Nat) (a : Nat → Nat) (ac : Nat → ClassId) (g : Int32 → Int32 → Int32 → Int32 → (St) → Option (St)) (r : St) : Prop := ∀ (x1 : Int32) (x2 : Int32) (x3 : Int32) (x4 : Int32) (s0 : St) (H : Heap) (locs : List Loc) (ls : Array Slot), g x1 x2 x3 x4 s0 = some r → va_P (dC, dI) vwCl (dw_X14 a ac s0) H → va_D A (dw_X14 a ac s0) → va_S A s.heap H locs → lv_has ls 12 [(0, .ref (a 0)), (1, .int x1), (2, .int x2), (3, .int x3), (4, .int x4)] → W p l e (headSpec ow_dm_X14_readEntry ({ frames := 4, cells := 0, slots := 0, locals := 89 })).room s m args below meth c H locs 0 0 Q (F0 m 27 ls [])
def dj_X14_readEntry_0 (p : Program) (l : Launch) (e : Env) (s : State) (m : MethodId) (args : Array Value) (below : List Frame) (meth : Method) (c : Code) (Q : State → Prop) (A : Nat → Prop) (dC : Nat → ClassId) (dI : Nat → Nat → Nat) (a : Nat → Nat) (ac : Nat → ClassId) (g : Int32 → Int32 → (St) → Option (St)) (r : St) : Prop := ∀ (v0 : Int32) (v1 : Int32) (s0 : St) (H : Heap) (locs : List Loc) (ls : Array Slot), g v0 v1 s0 = some r → va_P (dC, dI) vwCl (dw_X14 a ac s0) H → va_D A (dw_X14 a ac s0) → va_S A s.heap H locs → lv_has ls 12 [(0, .ref (a 0)), (1, .int v0), (2, .int v1)] → W p l e (headSpec ow_dm_X14_readEntry ({ frames := 4, cells := 0, slots := 0, locals := 89 })).room s m args below meth c H locs 0 0 Q (F0 m 0 ls [])
set_option maxHeartbeats 40000000 in
set_option maxRecDepth 100000 in
theorem db_X14_readEntry_350 {p : Program} {l : Launch} {e : Env} {s : State} {m : MethodId} {args : Array Value} {below : List Frame} {meth : Method} {c : Code} {Q : State → Prop} {A : Nat → Prop} {dC : Nat → ClassId} {dI : Nat → Nat → Nat} {a : Nat → Nat} {ac : Nat → ClassId} {n : Nat} {r : St} (C : nd_C p l s m args c A (dC, dI) cX14_readEntry 12 RX14 ow_dm_X14_readEntry (dk_X14 ac)) (K : nd_Kv p l e (headSpec ow_dm_X14_readEntry ({ frames := 4, cells := 0, slots := 0, locals := 89 })).room s m args below meth c Q A (dC, dI) cX14_readEntry (St) (dw_X14 a ac) r) : dj_X14_readEntry_350 p l e s m args below meth c Q A dC dI a ac (df_X14_readEntry_350 n) r := by
  obtain ⟨hlt, hx, hb, hml, hown, hts, hN, hA, hK⟩ := id C
  intro s0 H locs ls h hP hD hS hl
  unfold df_X14_readEntry_350 at h
  exact K _ _ _ _ _ dX14_readEntry_350 (Option.some.inj h).symm hP hD hS
set_option maxHeartbeats 40000000 in
set_option maxRecDepth 100000 in
theorem db_X14_readEntry_332 {p : Program} {l : Launch} {e : Env} {s : State} {m : MethodId} {args : Array Value} {below : List Frame} {meth : Method} {c : Code} {Q : State → Prop} {A : Nat → Prop} {dC : Nat → ClassId} {dI : Nat → Nat → Nat} {a : Nat → Nat} {ac : Nat → ClassId} {n : Nat} {r : St} (C : nd_C p l s m args c A (dC, dI) cX14_readEntry 12 RX14 ow_dm_X14_readEntry (dk_X14 ac)) (K : nd_Kv p l e (headSpec ow_dm_X14_readEntry ({ frames := 4, cells := 0, slots := 0, locals := 89 })).room s m args below meth c Q A (dC, dI) cX14_readEntry (St) (dw_X14 a ac) r) : dj_X14_readEntry_332 p l e s m args below meth c Q A dC dI a ac (df_X14_readEntry_332 n) r := by
  obtain ⟨hlt, hx, hb, hml, hown, hts, hN, hA, hK⟩ := id C
  intro x3 x6 x8 x10 s0 H locs ls h hP hD hS hl
  unfold df_X14_readEntry_332 at h
  refine lv_aload_n hx hb dX14_readEntry_332 rfl (lv_at hl 0 rfl) ?_
  refine va_get (D := (dC, dI)) (ci := 15) (v := .int (sI s0 4)) (C := RX14) (T := TX14) (N := 11) hx hb hts hi_dm_X14_readEntry_X14 hown hK hP 0 rfl rfl 10 (by decide) (hts (.fieldLink RX14 65 "TimeMachineModel$Codec" "fault" "I") (List.mem_of_getElem? (i := 5) rfl)) (fun _ h9 => h9) rfl dX14_readEntry_333 ?_
  refine lv_if_ne (tgt := 350) hx hb dX14_readEntry_336 (by decide) (fun c20 => ?_) (fun c20 => ?_)
  · have h := nd_neg h c20
    exact (db_X14_readEntry_350 C K)  s0 _ _ _ h hP hD hS (lv_sub hl [] rfl)
  · have h := nd_pos h c20
    refine lv_aload_n hx hb dX14_readEntry_339 rfl (lv_at hl 0 rfl) ?_
    refine lv_iload_n hx hb dX14_readEntry_340 rfl (lv_at hl 1 rfl) ?_
    refine lv_lload hx hb dX14_readEntry_341 (lv_at hl 2 rfl) ?_
    refine lv_lload hx hb dX14_readEntry_343 (lv_at hl 3 rfl) ?_
    refine lv_iload hx hb dX14_readEntry_345 (lv_at hl 4 rfl) ?_
    obtain ⟨s22, hq, h⟩ := nd_b1_e h
    have hPc := hP
    have hDc := hD
    have hKc := hK
    have hFc := nd_rs hD hS hA
    refine nd_cVv (As := [.int x3, .long x6, .long x8, .int x10]) (rest := []) (w' := dw_X14 a ac s22) ⟨hx, hb, hml, hown, hts⟩ (fun sz => dm_X14_take l hlt dC dI a ac n (x3) (x6) (x8) (x10) s0 hq sz) (cwV 4 hts gi_dm_X14_readEntry_2 rfl rfl rfl (by decide +kernel) ⟨Nat.le_of_ble_eq_true rfl, Nat.le_of_ble_eq_true rfl⟩) hPc hDc hKc hS hA hN (va_recv hKc hPc (ci := 15) (q0 := 0) rfl rfl) rfl hl.1 rfl (Nat.le_of_ble_eq_true rfl) dX14_readEntry_347 (fun H locs hP1 hD1 hk1 hS => ?_)
    have hP := hP1
    have hD := hD1.weaken (fun k q _ h => hFc q.1 h)
    exact (db_X14_readEntry_350 C K)  s22 _ _ _ h hP hD hS (lv_sub hl [] rfl)
set_option maxHeartbeats 40000000 in
set_option maxRecDepth 100000 in
theorem db_X14_readEntry_321 {p : Program} {l : Launch} {e : Env} {s : State} {m : MethodId} {args : Array Value} {below : List Frame} {meth : Method} {c : Code} {Q : State → Prop} {A : Nat → Prop} {dC : Nat → ClassId} {dI : Nat → Nat → Nat} {a : Nat → Nat} {ac : Nat → ClassId} {n : Nat} {r : St} (C : nd_C p l s m args c A (dC, dI) cX14_readEntry 12 RX14 ow_dm_X14_readEntry (dk_X14 ac)) (K : nd_Kv p l e (headSpec ow_dm_X14_readEntry ({ frames := 4, cells := 0, slots := 0, locals := 89 })).room s m args below meth c Q A (dC, dI) cX14_readEntry (St) (dw_X14 a ac) r) : dj_X14_readEntry_321 p l e s m args below meth c Q A dC dI a ac (df_X14_readEntry_321 n) r := by
  obtain ⟨hlt, hx, hb, hml, hown, hts, hN, hA, hK⟩ := id C
  intro x3 x6 x8 x10 s0 H locs ls h hP hD hS hl
  unfold df_X14_readEntry_321 at h
  refine lv_aload_n hx hb dX14_readEntry_321 rfl (lv_at hl 0 rfl) ?_
  refine lv_iconst (v := 5) hx hb dX14_readEntry_322 (by decide) ?_
  refine lv_aload_n hx hb dX14_readEntry_323 rfl (lv_at hl 0 rfl) ?_
  refine va_get (D := (dC, dI)) (ci := 15) (v := .int (sI s0 3)) (C := RX14) (T := TX14) (N := 11) hx hb hts hi_dm_X14_readEntry_X14 hown hK hP 0 rfl rfl 9 (by decide) (hts (.fieldLink RX14 68 "TimeMachineModel$Codec" "at" "I") (List.mem_of_getElem? (i := 17) rfl)) (fun _ h9 => h9) rfl dX14_readEntry_324 ?_
  refine lv_iconst (v := 1) hx hb dX14_readEntry_327 (by decide) ?_
  refine lv_isub hx hb dX14_readEntry_328 ?_
  obtain ⟨s31, hq, h⟩ := nd_b1_e h
  have hPc := hP
  have hDc := hD
  have hKc := hK
  have hFc := nd_rs hD hS hA
  refine nd_cVv (As := [.int 5, .int ((sI s0 3) - 1)]) (rest := []) (w' := dw_X14 a ac s31) ⟨hx, hb, hml, hown, hts⟩ (fun sz => dm_X14_meet l hlt dC dI a ac n (5) (((sI s0 3) - 1)) s0 hq sz) (cwV 2 hts gi_dm_X14_readEntry_0 rfl rfl rfl (by decide +kernel) ⟨Nat.le_of_ble_eq_true rfl, Nat.le_of_ble_eq_true rfl⟩) hPc hDc hKc hS hA hN (va_recv hKc hPc (ci := 15) (q0 := 0) rfl rfl) rfl hl.1 rfl (Nat.le_of_ble_eq_true rfl) dX14_readEntry_329 (fun H locs hP1 hD1 hk1 hS => ?_)
  have hP := hP1
  have hD := hD1.weaken (fun k q _ h => hFc q.1 h)
  exact (db_X14_readEntry_332 C K) (x3) (x6) (x8) (x10) s31 _ _ _ h hP hD hS (lv_sub hl [0, 1, 2, 3, 4] rfl)
set_option maxHeartbeats 40000000 in
set_option maxRecDepth 100000 in
theorem db_X14_readEntry_283 {p : Program} {l : Launch} {e : Env} {s : State} {m : MethodId} {args : Array Value} {below : List Frame} {meth : Method} {c : Code} {Q : State → Prop} {A : Nat → Prop} {dC : Nat → ClassId} {dI : Nat → Nat → Nat} {a : Nat → Nat} {ac : Nat → ClassId} {n : Nat} {r : St} (C : nd_C p l s m args c A (dC, dI) cX14_readEntry 12 RX14 ow_dm_X14_readEntry (dk_X14 ac)) (K : nd_Kv p l e (headSpec ow_dm_X14_readEntry ({ frames := 4, cells := 0, slots := 0, locals := 89 })).room s m args below meth c Q A (dC, dI) cX14_readEntry (St) (dw_X14 a ac) r) : dj_X14_readEntry_283 p l e s m args below meth c Q A dC dI a ac (df_X14_readEntry_283 n) r := by
  obtain ⟨hlt, hx, hb, hml, hown, hts, hN, hA, hK⟩ := id C
  intro x3 x6 x8 x10 s0 H locs ls h hP hD hS hl
  unfold df_X14_readEntry_283 at h
  refine lv_iload_n hx hb dX14_readEntry_283 rfl (lv_at hl 1 rfl) ?_
  refine lv_iconst (v := 2) hx hb dX14_readEntry_284 (by decide) ?_
  refine lv_icmp_ne (tgt := 332) hx hb dX14_readEntry_285 (by decide) (fun c19 => ?_) (fun c19 => ?_)
  · have h := nd_neg h c19
    exact (db_X14_readEntry_332 C K) (x3) (x6) (x8) (x10) s0 _ _ _ h hP hD hS (lv_sub hl [0, 1, 2, 3, 4] rfl)
  · have h := nd_pos h c19
    refine lv_aload_n hx hb dX14_readEntry_288 rfl (lv_at hl 0 rfl) ?_
    refine va_get (D := (dC, dI)) (ci := 15) (v := .int (sI s0 4)) (C := RX14) (T := TX14) (N := 11) hx hb hts hi_dm_X14_readEntry_X14 hown hK hP 0 rfl rfl 10 (by decide) (hts (.fieldLink RX14 65 "TimeMachineModel$Codec" "fault" "I") (List.mem_of_getElem? (i := 5) rfl)) (fun _ h9 => h9) rfl dX14_readEntry_289 ?_
    refine lv_if_ne (tgt := 332) hx hb dX14_readEntry_292 (by decide) (fun c24 => ?_) (fun c24 => ?_)
    · have h := nd_neg h c24
      exact (db_X14_readEntry_332 C K) (x3) (x6) (x8) (x10) s0 _ _ _ h hP hD hS (lv_sub hl [0, 1, 2, 3, 4] rfl)
    · have h := nd_pos h c24
      refine lv_aload_n hx hb dX14_readEntry_295 rfl (lv_at hl 0 rfl) ?_
      obtain ⟨q25, s26, hq, h⟩ := nd_b2_e h
      have hPc := hP
      have hDc := hD
      have hKc := hK
      have hFc := nd_rs hD hS hA
      refine nd_cVi (As := []) (rest := []) (q := q25) (w' := dw_X14 a ac s26) ⟨hx, hb, hml, hown, hts⟩ (fun sz => dm_X14_next l hlt dC dI a ac n  s0 hq sz) (cwV 0 hts gi_dm_X14_readEntry_3 rfl rfl rfl (by decide +kernel) ⟨Nat.le_of_ble_eq_true rfl, Nat.le_of_ble_eq_true rfl⟩) hPc hDc hKc hS hA hN (va_recv hKc hPc (ci := 15) (q0 := 0) rfl rfl) rfl hl.1 rfl (Nat.le_of_ble_eq_true rfl) dX14_readEntry_296 (fun H locs hP1 hD1 hk1 hS => ?_)
      have hP := hP1
      have hD := hD1.weaken (fun k q _ h => hFc q.1 h)
      refine lv_istore (lv' := [(10, .int q25), (0, .ref (a 0)), (3, .int x3), (6, .long x6), (8, .long x8)]) hx hb dX14_readEntry_299 hl (by decide) rfl (fun ls hl => ?_)
      refine lv_aload_n hx hb dX14_readEntry_301 rfl (lv_at hl 1 rfl) ?_
      refine va_get (D := (dC, dI)) (ci := 15) (v := .int (sI s26 4)) (C := RX14) (T := TX14) (N := 11) hx hb hts hi_dm_X14_readEntry_X14 hown hK hP 0 rfl rfl 10 (by decide) (hts (.fieldLink RX14 65 "TimeMachineModel$Codec" "fault" "I") (List.mem_of_getElem? (i := 5) rfl)) (fun _ h9 => h9) rfl dX14_readEntry_302 ?_
      refine lv_if_ne (tgt := 332) hx hb dX14_readEntry_305 (by decide) (fun c28 => ?_) (fun c28 => ?_)
      · have h := nd_neg h c28
        exact (db_X14_readEntry_332 C K) (x3) (x6) (x8) (q25) s26 _ _ _ h hP hD hS (lv_sub hl [1, 2, 3, 4, 0] rfl)
      · have h := nd_pos h c28
        refine lv_iload hx hb dX14_readEntry_308 (lv_at hl 0 rfl) ?_
        refine lv_iconst (v := 1) hx hb dX14_readEntry_310 (by decide) ?_
        refine lv_icmp_lt (tgt := 321) hx hb dX14_readEntry_311 (by decide) (fun c29 => ?_) (fun c29 => ?_)
        · have h := nd_pos h c29
          exact (db_X14_readEntry_321 C K) (x3) (x6) (x8) (q25) s26 _ _ _ h hP hD hS (lv_sub hl [1, 2, 3, 4, 0] rfl)
        · have h := nd_neg h c29
          refine lv_iload hx hb dX14_readEntry_314 (lv_at hl 0 rfl) ?_
          refine lv_bipush (v := 31) hx hb dX14_readEntry_316 (by decide) ?_
          refine lv_icmp_le (tgt := 332) hx hb dX14_readEntry_318 (by decide) (fun c33 => ?_) (fun c33 => ?_)
          · have h := nd_pos h c33
            exact (db_X14_readEntry_332 C K) (x3) (x6) (x8) (q25) s26 _ _ _ h hP hD hS (lv_sub hl [1, 2, 3, 4, 0] rfl)
          · have h := nd_neg h c33
            exact (db_X14_readEntry_321 C K) (x3) (x6) (x8) (q25) s26 _ _ _ h hP hD hS (lv_sub hl [1, 2, 3, 4, 0] rfl)
set_option maxHeartbeats 40000000 in
set_option maxRecDepth 100000 in
theorem db_X14_readEntry_281 {p : Program} {l : Launch} {e : Env} {s : State} {m : MethodId} {args : Array Value} {below : List Frame} {meth : Method} {c : Code} {Q : State → Prop} {A : Nat → Prop} {dC : Nat → ClassId} {dI : Nat → Nat → Nat} {a : Nat → Nat} {ac : Nat → ClassId} {n : Nat} {r : St} (C : nd_C p l s m args c A (dC, dI) cX14_readEntry 12 RX14 ow_dm_X14_readEntry (dk_X14 ac)) (K : nd_Kv p l e (headSpec ow_dm_X14_readEntry ({ frames := 4, cells := 0, slots := 0, locals := 89 })).room s m args below meth c Q A (dC, dI) cX14_readEntry (St) (dw_X14 a ac) r) : dj_X14_readEntry_281 p l e s m args below meth c Q A dC dI a ac (df_X14_readEntry_281 n) r := by
  obtain ⟨hlt, hx, hb, hml, hown, hts, hN, hA, hK⟩ := id C
  intro x3 x6 x8 y0 s0 H locs ls h hP hD hS hl
  unfold df_X14_readEntry_281 at h
  refine lv_istore (lv' := [(10, .int y0), (0, .ref (a 0)), (3, .int x3), (6, .long x6), (8, .long x8)]) hx hb dX14_readEntry_281 hl (by decide) rfl (fun ls hl => ?_)
  exact (db_X14_readEntry_283 C K) (x3) (x6) (x8) (y0) s0 _ _ _ h hP hD hS (lv_sub hl [1, 2, 3, 4, 0] rfl)
set_option maxHeartbeats 40000000 in
set_option maxRecDepth 100000 in
theorem db_X14_readEntry_263 {p : Program} {l : Launch} {e : Env} {s : State} {m : MethodId} {args : Array Value} {below : List Frame} {meth : Method} {c : Code} {Q : State → Prop} {A : Nat → Prop} {dC : Nat → ClassId} {dI : Nat → Nat → Nat} {a : Nat → Nat} {ac : Nat → ClassId} {n : Nat} {r : St} (C : nd_C p l s m args c A (dC, dI) cX14_readEntry 12 RX14 ow_dm_X14_readEntry (dk_X14 ac)) (K : nd_Kv p l e (headSpec ow_dm_X14_readEntry ({ frames := 4, cells := 0, slots := 0, locals := 89 })).room s m args below meth c Q A (dC, dI) cX14_readEntry (St) (dw_X14 a ac) r) : dj_X14_readEntry_263 p l e s m args below meth c Q A dC dI a ac (df_X14_readEntry_263 n) r := by
  obtain ⟨hlt, hx, hb, hml, hown, hts, hN, hA, hK⟩ := id C
  intro x3 x6 x11 y0 s0 H locs ls h hP hD hS hl
  unfold df_X14_readEntry_263 at h
  refine lv_lstore (lv' := [(8, .long y0), (0, .ref (a 0)), (3, .int x3), (6, .long x6), (11, .int x11)]) hx hb dX14_readEntry_263 hl (by decide) rfl (fun ls hl => ?_)
  refine lv_iload hx hb dX14_readEntry_265 (lv_at hl 4 rfl) ?_
  refine lv_if_ge (tgt := 274) hx hb dX14_readEntry_267 (by decide) (fun c44 => ?_) (fun c44 => ?_)
  · have h := nd_pos h c44
    refine lv_aload_n hx hb dX14_readEntry_274 rfl (lv_at hl 1 rfl) ?_
    refine va_get (D := (dC, dI)) (ci := 15) (v := .ref (a 2)) (C := RX14) (T := TX14) (N := 11) hx hb hts hi_dm_X14_readEntry_X14 hown hK hP 0 rfl rfl 2 (by decide) (hts (.fieldLink RX14 13 "TimeMachineModel$Codec" "b" "[I") (List.mem_of_getElem? (i := 22) rfl)) (fun _ h9 => h9) rfl dX14_readEntry_275 ?_
    refine lv_iload hx hb dX14_readEntry_278 (lv_at hl 4 rfl) ?_
    obtain ⟨i45, h⟩ := nd_ck_e h
    refine va_iald (i := x11) hx hb hK hP 2 1 rfl rfl i45 dX14_readEntry_280 ?_
    exact (db_X14_readEntry_281 C K) (x3) (x6) (y0) ((sR s0 1 (Int32.toNatClampNeg x11))) s0 _ _ _ h hP hD hS (lv_sub hl [1, 2, 3, 0] rfl)
  · have h := nd_neg h c44
    refine lv_iconst (v := 0) hx hb dX14_readEntry_270 (by decide) ?_
    refine lv_goto (tgt := 281) hx hb dX14_readEntry_271 (by decide) ?_
    exact (db_X14_readEntry_281 C K) (x3) (x6) (y0) (0) s0 _ _ _ h hP hD hS (lv_sub hl [1, 2, 3, 0] rfl)
set_option maxHeartbeats 40000000 in
set_option maxRecDepth 100000 in
theorem db_X14_readEntry_247 {p : Program} {l : Launch} {e : Env} {s : State} {m : MethodId} {args : Array Value} {below : List Frame} {meth : Method} {c : Code} {Q : State → Prop} {A : Nat → Prop} {dC : Nat → ClassId} {dI : Nat → Nat → Nat} {a : Nat → Nat} {ac : Nat → ClassId} {n : Nat} {r : St} (C : nd_C p l s m args c A (dC, dI) cX14_readEntry 12 RX14 ow_dm_X14_readEntry (dk_X14 ac)) (K : nd_Kv p l e (headSpec ow_dm_X14_readEntry ({ frames := 4, cells := 0, slots := 0, locals := 89 })).room s m args below meth c Q A (dC, dI) cX14_readEntry (St) (dw_X14 a ac) r) : dj_X14_readEntry_247 p l e s m args below meth c Q A dC dI a ac (df_X14_readEntry_247 n) r := by
  obtain ⟨hlt, hx, hb, hml, hown, hts, hN, hA, hK⟩ := id C
  intro x3 x6 x11 s0 H locs ls h hP hD hS hl
  unfold df_X14_readEntry_247 at h
  refine lv_iload hx hb dX14_readEntry_247 (lv_at hl 3 rfl) ?_
  refine lv_if_ge (tgt := 256) hx hb dX14_readEntry_249 (by decide) (fun c42 => ?_) (fun c42 => ?_)
  · have h := nd_pos h c42
    refine lv_aload_n hx hb dX14_readEntry_256 rfl (lv_at hl 0 rfl) ?_
    refine va_get (D := (dC, dI)) (ci := 15) (v := .ref (a 4)) (C := RX14) (T := TX14) (N := 11) hx hb hts hi_dm_X14_readEntry_X14 hown hK hP 0 rfl rfl 4 (by decide) (hts (.fieldLink RX14 20 "TimeMachineModel$Codec" "a" "[J") (List.mem_of_getElem? (i := 21) rfl)) (fun _ h9 => h9) rfl dX14_readEntry_257 ?_
    refine lv_iload hx hb dX14_readEntry_260 (lv_at hl 3 rfl) ?_
    obtain ⟨i43, h⟩ := nd_ck_e h
    refine va_lald (i := x11) hx hb hK hP 4 3 rfl rfl i43 dX14_readEntry_262 ?_
    exact (db_X14_readEntry_263 C K) (x3) (x6) (x11) ((sQ s0 1 (Int32.toNatClampNeg x11))) s0 _ _ _ h hP hD hS (lv_sub hl [0, 1, 2, 3] rfl)
  · have h := nd_neg h c42
    refine lv_lconst (v := 0) hx hb dX14_readEntry_252 (by decide) ?_
    refine lv_goto (tgt := 263) hx hb dX14_readEntry_253 (by decide) ?_
    exact (db_X14_readEntry_263 C K) (x3) (x6) (x11) (0) s0 _ _ _ h hP hD hS (lv_sub hl [0, 1, 2, 3] rfl)
set_option maxHeartbeats 40000000 in
set_option maxRecDepth 100000 in
theorem db_X14_readEntry_213 {p : Program} {l : Launch} {e : Env} {s : State} {m : MethodId} {args : Array Value} {below : List Frame} {meth : Method} {c : Code} {Q : State → Prop} {A : Nat → Prop} {dC : Nat → ClassId} {dI : Nat → Nat → Nat} {a : Nat → Nat} {ac : Nat → ClassId} {n : Nat} {r : St} (C : nd_C p l s m args c A (dC, dI) cX14_readEntry 12 RX14 ow_dm_X14_readEntry (dk_X14 ac)) (K : nd_Kv p l e (headSpec ow_dm_X14_readEntry ({ frames := 4, cells := 0, slots := 0, locals := 89 })).room s m args below meth c Q A (dC, dI) cX14_readEntry (St) (dw_X14 a ac) r) : dj_X14_readEntry_213 p l e s m args below meth c Q A dC dI a ac (df_X14_readEntry_213 n) r := by
  obtain ⟨hlt, hx, hb, hml, hown, hts, hN, hA, hK⟩ := id C
  intro x2 x3 x4 x6 x8 y0 s0 H locs ls h hP hD hS hl
  unfold df_X14_readEntry_213 at h
  refine lv_istore (lv' := [(10, .int y0), (0, .ref (a 0)), (2, .int x2), (3, .int x3), (4, .int x4), (6, .long x6), (8, .long x8)]) hx hb dX14_readEntry_213 hl (by decide) rfl (fun ls hl => ?_)
  refine lv_iload_n hx hb dX14_readEntry_215 rfl (lv_at hl 3 rfl) ?_
  refine lv_iconst (v := 1) hx hb dX14_readEntry_216 (by decide) ?_
  refine lv_icmp_ne (tgt := 283) hx hb dX14_readEntry_217 (by decide) (fun c18 => ?_) (fun c18 => ?_)
  · have h := nd_neg h c18
    exact (db_X14_readEntry_283 C K) (x3) (x6) (x8) (y0) s0 _ _ _ h hP hD hS (lv_sub hl [1, 3, 5, 6, 0] rfl)
  · have h := nd_pos h c18
    refine lv_iload hx hb dX14_readEntry_220 (lv_at hl 4 rfl) ?_
    refine lv_if_ne (tgt := 283) hx hb dX14_readEntry_222 (by decide) (fun c34 => ?_) (fun c34 => ?_)
    · have h := nd_neg h c34
      exact (db_X14_readEntry_283 C K) (x3) (x6) (x8) (y0) s0 _ _ _ h hP hD hS (lv_sub hl [1, 3, 5, 6, 0] rfl)
    · have h := nd_pos h c34
      refine lv_aload_n hx hb dX14_readEntry_225 rfl (lv_at hl 1 rfl) ?_
      refine lv_iconst (v := 1) hx hb dX14_readEntry_226 (by decide) ?_
      refine lv_aload_n hx hb dX14_readEntry_227 rfl (lv_at hl 1 rfl) ?_
      obtain ⟨q35, s36, hq, h⟩ := nd_b2_e h
      have hPc := hP
      have hDc := hD
      have hKc := hK
      have hFc := nd_rs hD hS hA
      refine nd_cVl (As := []) (rest := [.int 1, .ref (a 0)]) (q := q35) (w' := dw_X14 a ac s36) ⟨hx, hb, hml, hown, hts⟩ (fun sz => dm_X14_readCount l hlt dC dI a ac n  s0 hq sz) (cwV 0 hts gi_dm_X14_readEntry_4 rfl rfl rfl (by decide +kernel) ⟨Nat.le_of_ble_eq_true rfl, Nat.le_of_ble_eq_true rfl⟩) hPc hDc hKc hS hA hN (va_recv hKc hPc (ci := 15) (q0 := 0) rfl rfl) rfl hl.1 rfl (Nat.le_of_ble_eq_true rfl) dX14_readEntry_228 (fun H locs hP1 hD1 hk1 hS => ?_)
      have hP := hP1
      have hD := hD1.weaken (fun k q _ h => hFc q.1 h)
      obtain ⟨q38, s39, hq, h⟩ := nd_b2_e h
      have hPc := hP
      have hDc := hD
      have hKc := hK
      have hFc := nd_rs hD hS hA
      refine nd_cVi (As := [.int 1, .long q35]) (rest := []) (q := q38) (w' := dw_X14 a ac s39) ⟨hx, hb, hml, hown, hts⟩ (fun sz => dm_X14_before l hlt dC dI a ac n (1) (q35) s36 hq sz) (cwV 2 hts gi_dm_X14_readEntry_1 rfl rfl rfl (by decide +kernel) ⟨Nat.le_of_ble_eq_true rfl, Nat.le_of_ble_eq_true rfl⟩) hPc hDc hKc hS hA hN (va_recv hKc hPc (ci := 15) (q0 := 0) rfl rfl) rfl hl.1 rfl (Nat.le_of_ble_eq_true rfl) dX14_readEntry_231 (fun H locs hP1 hD1 hk1 hS => ?_)
      have hP := hP1
      have hD := hD1.weaken (fun k q _ h => hFc q.1 h)
      refine lv_istore (lv' := [(11, .int q38), (10, .int y0), (0, .ref (a 0)), (2, .int x2), (3, .int x3), (4, .int x4), (6, .long x6), (8, .long x8)]) hx hb dX14_readEntry_234 hl (by decide) rfl (fun ls hl => ?_)
      refine lv_iload hx hb dX14_readEntry_236 (lv_at hl 0 rfl) ?_
      refine lv_if_ge (tgt := 247) hx hb dX14_readEntry_238 (by decide) (fun c41 => ?_) (fun c41 => ?_)
      · have h := nd_pos h c41
        exact (db_X14_readEntry_247 C K) (x3) (x6) (q38) s39 _ _ _ h hP hD hS (lv_sub hl [2, 4, 6, 0] rfl)
      · have h := nd_neg h c41
        refine lv_aload_n hx hb dX14_readEntry_241 rfl (lv_at hl 2 rfl) ?_
        refine lv_iconst (v := 4) hx hb dX14_readEntry_242 (by decide) ?_
        refine lv_iload_n hx hb dX14_readEntry_243 rfl (lv_at hl 3 rfl) ?_
        obtain ⟨s47, hq, h⟩ := nd_b1_e h
        have hPc := hP
        have hDc := hD
        have hKc := hK
        have hFc := nd_rs hD hS hA
        refine nd_cVv (As := [.int 4, .int x2]) (rest := []) (w' := dw_X14 a ac s47) ⟨hx, hb, hml, hown, hts⟩ (fun sz => dm_X14_meet l hlt dC dI a ac n (4) (x2) s39 hq sz) (cwV 2 hts gi_dm_X14_readEntry_0 rfl rfl rfl (by decide +kernel) ⟨Nat.le_of_ble_eq_true rfl, Nat.le_of_ble_eq_true rfl⟩) hPc hDc hKc hS hA hN (va_recv hKc hPc (ci := 15) (q0 := 0) rfl rfl) rfl hl.1 rfl (Nat.le_of_ble_eq_true rfl) dX14_readEntry_244 (fun H locs hP1 hD1 hk1 hS => ?_)
        have hP := hP1
        have hD := hD1.weaken (fun k q _ h => hFc q.1 h)
        exact (db_X14_readEntry_247 C K) (x3) (x6) (q38) s47 _ _ _ h hP hD hS (lv_sub hl [2, 4, 6, 0] rfl)
set_option maxHeartbeats 40000000 in
set_option maxRecDepth 100000 in
theorem db_X14_readEntry_200 {p : Program} {l : Launch} {e : Env} {s : State} {m : MethodId} {args : Array Value} {below : List Frame} {meth : Method} {c : Code} {Q : State → Prop} {A : Nat → Prop} {dC : Nat → ClassId} {dI : Nat → Nat → Nat} {a : Nat → Nat} {ac : Nat → ClassId} {n : Nat} {r : St} (C : nd_C p l s m args c A (dC, dI) cX14_readEntry 12 RX14 ow_dm_X14_readEntry (dk_X14 ac)) (K : nd_Kv p l e (headSpec ow_dm_X14_readEntry ({ frames := 4, cells := 0, slots := 0, locals := 89 })).room s m args below meth c Q A (dC, dI) cX14_readEntry (St) (dw_X14 a ac) r) : dj_X14_readEntry_200 p l e s m args below meth c Q A dC dI a ac (df_X14_readEntry_200 n) r := by
  obtain ⟨hlt, hx, hb, hml, hown, hts, hN, hA, hK⟩ := id C
  intro x2 x3 x4 x6 y0 s0 H locs ls h hP hD hS hl
  unfold df_X14_readEntry_200 at h
  refine lv_lstore (lv' := [(8, .long y0), (0, .ref (a 0)), (2, .int x2), (3, .int x3), (4, .int x4), (6, .long x6)]) hx hb dX14_readEntry_200 hl (by decide) rfl (fun ls hl => ?_)
  refine lv_iload_n hx hb dX14_readEntry_202 rfl (lv_at hl 3 rfl) ?_
  refine lv_iconst (v := 1) hx hb dX14_readEntry_203 (by decide) ?_
  refine lv_icmp_ne (tgt := 212) hx hb dX14_readEntry_204 (by decide) (fun c17 => ?_) (fun c17 => ?_)
  · have h := nd_neg h c17
    refine lv_iconst (v := 0) hx hb dX14_readEntry_212 (by decide) ?_
    exact (db_X14_readEntry_213 C K) (x2) (x3) (x4) (x6) (y0) (0) s0 _ _ _ h hP hD hS (lv_sub hl [1, 2, 3, 4, 5, 0] rfl)
  · have h := nd_pos h c17
    refine lv_iload hx hb dX14_readEntry_207 (lv_at hl 4 rfl) ?_
    refine lv_goto (tgt := 213) hx hb dX14_readEntry_209 (by decide) ?_
    exact (db_X14_readEntry_213 C K) (x2) (x3) (x4) (x6) (y0) (x4) s0 _ _ _ h hP hD hS (lv_sub hl [1, 2, 3, 4, 5, 0] rfl)
set_option maxHeartbeats 40000000 in
set_option maxRecDepth 100000 in
theorem db_X14_readEntry_147 {p : Program} {l : Launch} {e : Env} {s : State} {m : MethodId} {args : Array Value} {below : List Frame} {meth : Method} {c : Code} {Q : State → Prop} {A : Nat → Prop} {dC : Nat → ClassId} {dI : Nat → Nat → Nat} {a : Nat → Nat} {ac : Nat → ClassId} {n : Nat} {r : St} (C : nd_C p l s m args c A (dC, dI) cX14_readEntry 12 RX14 ow_dm_X14_readEntry (dk_X14 ac)) (K : nd_Kv p l e (headSpec ow_dm_X14_readEntry ({ frames := 4, cells := 0, slots := 0, locals := 89 })).room s m args below meth c Q A (dC, dI) cX14_readEntry (St) (dw_X14 a ac) r) : dj_X14_readEntry_147 p l e s m args below meth c Q A dC dI a ac (df_X14_readEntry_147 n) r := by
  obtain ⟨hlt, hx, hb, hml, hown, hts, hN, hA, hK⟩ := id C
  intro x2 x3 x4 x6 s0 H locs ls h hP hD hS hl
  unfold df_X14_readEntry_147 at h
  refine lv_iload hx hb dX14_readEntry_147 (lv_at hl 3 rfl) ?_
  refine lv_i2l hx hb dX14_readEntry_149 rfl ?_
  refine lv_goto (tgt := 200) hx hb dX14_readEntry_150 (by decide) ?_
  exact (db_X14_readEntry_200 C K) (x2) (x3) (x4) (x6) ((x4.toInt64)) s0 _ _ _ h hP hD hS (lv_sub hl [0, 1, 2, 3, 4] rfl)
set_option maxHeartbeats 40000000 in
set_option maxRecDepth 100000 in
theorem db_X14_readEntry_130 {p : Program} {l : Launch} {e : Env} {s : State} {m : MethodId} {args : Array Value} {below : List Frame} {meth : Method} {c : Code} {Q : State → Prop} {A : Nat → Prop} {dC : Nat → ClassId} {dI : Nat → Nat → Nat} {a : Nat → Nat} {ac : Nat → ClassId} {n : Nat} {r : St} (C : nd_C p l s m args c A (dC, dI) cX14_readEntry 12 RX14 ow_dm_X14_readEntry (dk_X14 ac)) (K : nd_Kv p l e (headSpec ow_dm_X14_readEntry ({ frames := 4, cells := 0, slots := 0, locals := 89 })).room s m args below meth c Q A (dC, dI) cX14_readEntry (St) (dw_X14 a ac) r) : dj_X14_readEntry_130 p l e s m args below meth c Q A dC dI a ac (df_X14_readEntry_130 n) r := by
  obtain ⟨hlt, hx, hb, hml, hown, hts, hN, hA, hK⟩ := id C
  intro x2 x3 x4 x5 x6 s0 H locs ls h hP hD hS hl
  unfold df_X14_readEntry_130 at h
  refine lv_aload_n hx hb dX14_readEntry_130 rfl (lv_at hl 0 rfl) ?_
  refine va_get (D := (dC, dI)) (ci := 15) (v := .int (sI s0 4)) (C := RX14) (T := TX14) (N := 11) hx hb hts hi_dm_X14_readEntry_X14 hown hK hP 0 rfl rfl 10 (by decide) (hts (.fieldLink RX14 65 "TimeMachineModel$Codec" "fault" "I") (List.mem_of_getElem? (i := 5) rfl)) (fun _ h9 => h9) rfl dX14_readEntry_131 ?_
  refine lv_if_le (tgt := 138) hx hb dX14_readEntry_134 (by decide) (fun c15 => ?_) (fun c15 => ?_)
  · have h := nd_pos h c15
    refine lv_iload_n hx hb dX14_readEntry_138 rfl (lv_at hl 2 rfl) ?_
    refine lv_if_eq (tgt := 147) hx hb dX14_readEntry_139 (by decide) (fun c16 => ?_) (fun c16 => ?_)
    · have h := nd_pos h c16
      exact (db_X14_readEntry_147 C K) (x2) (x3) (x4) (x6) s0 _ _ _ h hP hD hS (lv_sub hl [0, 1, 2, 3, 5] rfl)
    · have h := nd_neg h c16
      refine lv_iload_n hx hb dX14_readEntry_142 rfl (lv_at hl 2 rfl) ?_
      refine lv_iconst (v := 2) hx hb dX14_readEntry_143 (by decide) ?_
      refine lv_icmp_ne (tgt := 153) hx hb dX14_readEntry_144 (by decide) (fun c49 => ?_) (fun c49 => ?_)
      · have h := nd_neg h c49
        refine lv_iload_n hx hb dX14_readEntry_153 rfl (lv_at hl 2 rfl) ?_
        refine lv_iconst (v := 4) hx hb dX14_readEntry_154 (by decide) ?_
        refine lv_icmp_ne (tgt := 166) hx hb dX14_readEntry_155 (by decide) (fun c50 => ?_) (fun c50 => ?_)
        · have h := nd_neg h c50
          refine lv_iload_n hx hb dX14_readEntry_166 rfl (lv_at hl 2 rfl) ?_
          refine lv_iconst (v := 1) hx hb dX14_readEntry_167 (by decide) ?_
          refine lv_icmp_ne (tgt := 180) hx hb dX14_readEntry_168 (by decide) (fun c51 => ?_) (fun c51 => ?_)
          · have h := nd_neg h c51
            refine lv_iload hx hb dX14_readEntry_180 (lv_at hl 3 rfl) ?_
            refine lv_iconst (v := 1) hx hb dX14_readEntry_182 (by decide) ?_
            refine lv_icmp_ne (tgt := 196) hx hb dX14_readEntry_183 (by decide) (fun c52 => ?_) (fun c52 => ?_)
            · have h := nd_neg h c52
              refine lv_aload_n hx hb dX14_readEntry_196 rfl (lv_at hl 0 rfl) ?_
              obtain ⟨q53, s54, hq, h⟩ := nd_b2_e h
              have hPc := hP
              have hDc := hD
              have hKc := hK
              have hFc := nd_rs hD hS hA
              refine nd_cVl (As := []) (rest := []) (q := q53) (w' := dw_X14 a ac s54) ⟨hx, hb, hml, hown, hts⟩ (fun sz => dm_X14_readVarint l hlt dC dI a ac n  s0 hq sz) (cwV 0 hts gi_dm_X14_readEntry_5 rfl rfl rfl (by decide +kernel) ⟨Nat.le_of_ble_eq_true rfl, Nat.le_of_ble_eq_true rfl⟩) hPc hDc hKc hS hA hN (va_recv hKc hPc (ci := 15) (q0 := 0) rfl rfl) rfl hl.1 rfl (Nat.le_of_ble_eq_true rfl) dX14_readEntry_197 (fun H locs hP1 hD1 hk1 hS => ?_)
              have hP := hP1
              have hD := hD1.weaken (fun k q _ h => hFc q.1 h)
              exact (db_X14_readEntry_200 C K) (x2) (x3) (x4) (x6) (q53) s54 _ _ _ h hP hD hS (lv_sub hl [0, 1, 2, 3, 5] rfl)
            · have h := nd_pos h c52
              refine lv_aload_n hx hb dX14_readEntry_186 rfl (lv_at hl 0 rfl) ?_
              refine va_get (D := (dC, dI)) (ci := 15) (v := .ref (a 4)) (C := RX14) (T := TX14) (N := 11) hx hb hts hi_dm_X14_readEntry_X14 hown hK hP 0 rfl rfl 4 (by decide) (hts (.fieldLink RX14 20 "TimeMachineModel$Codec" "a" "[J") (List.mem_of_getElem? (i := 21) rfl)) (fun _ h9 => h9) rfl dX14_readEntry_187 ?_
              refine lv_iload hx hb dX14_readEntry_190 (lv_at hl 4 rfl) ?_
              obtain ⟨i56, h⟩ := nd_ck_e h
              refine va_lald (i := x5) hx hb hK hP 4 3 rfl rfl i56 dX14_readEntry_192 ?_
              refine lv_goto (tgt := 200) hx hb dX14_readEntry_193 (by decide) ?_
              exact (db_X14_readEntry_200 C K) (x2) (x3) (x4) (x6) ((sQ s0 1 (Int32.toNatClampNeg x5))) s0 _ _ _ h hP hD hS (lv_sub hl [0, 1, 2, 3, 5] rfl)
          · have h := nd_pos h c51
            refine lv_aload_n hx hb dX14_readEntry_171 rfl (lv_at hl 0 rfl) ?_
            refine lv_iload hx hb dX14_readEntry_172 (lv_at hl 3 rfl) ?_
            obtain ⟨q57, s58, hq, h⟩ := nd_b2_e h
            have hPc := hP
            have hDc := hD
            have hKc := hK
            have hFc := nd_rs hD hS hA
            refine nd_cVl (As := [.int x4]) (rest := []) (q := q57) (w' := dw_X14 a ac s58) ⟨hx, hb, hml, hown, hts⟩ (fun sz => dm_X14_readBytes l hlt dC dI a ac n (x4) s0 hq sz) (cwV 1 hts gi_dm_X14_readEntry_6 rfl rfl rfl (by decide +kernel) ⟨Nat.le_of_ble_eq_true rfl, Nat.le_of_ble_eq_true rfl⟩) hPc hDc hKc hS hA hN (va_recv hKc hPc (ci := 15) (q0 := 0) rfl rfl) rfl hl.1 rfl (Nat.le_of_ble_eq_true rfl) dX14_readEntry_174 (fun H locs hP1 hD1 hk1 hS => ?_)
            have hP := hP1
            have hD := hD1.weaken (fun k q _ h => hFc q.1 h)
            refine lv_goto (tgt := 200) hx hb dX14_readEntry_177 (by decide) ?_
            exact (db_X14_readEntry_200 C K) (x2) (x3) (x4) (x6) (q57) s58 _ _ _ h hP hD hS (lv_sub hl [0, 1, 2, 3, 5] rfl)
        · have h := nd_pos h c50
          refine lv_aload_n hx hb dX14_readEntry_158 rfl (lv_at hl 0 rfl) ?_
          refine lv_iconst (v := 4) hx hb dX14_readEntry_159 (by decide) ?_
          obtain ⟨q60, s61, hq, h⟩ := nd_b2_e h
          have hPc := hP
          have hDc := hD
          have hKc := hK
          have hFc := nd_rs hD hS hA
          refine nd_cVl (As := [.int 4]) (rest := []) (q := q60) (w' := dw_X14 a ac s61) ⟨hx, hb, hml, hown, hts⟩ (fun sz => dm_X14_readBytes l hlt dC dI a ac n (4) s0 hq sz) (cwV 1 hts gi_dm_X14_readEntry_6 rfl rfl rfl (by decide +kernel) ⟨Nat.le_of_ble_eq_true rfl, Nat.le_of_ble_eq_true rfl⟩) hPc hDc hKc hS hA hN (va_recv hKc hPc (ci := 15) (q0 := 0) rfl rfl) rfl hl.1 rfl (Nat.le_of_ble_eq_true rfl) dX14_readEntry_160 (fun H locs hP1 hD1 hk1 hS => ?_)
          have hP := hP1
          have hD := hD1.weaken (fun k q _ h => hFc q.1 h)
          refine lv_goto (tgt := 200) hx hb dX14_readEntry_163 (by decide) ?_
          exact (db_X14_readEntry_200 C K) (x2) (x3) (x4) (x6) (q60) s61 _ _ _ h hP hD hS (lv_sub hl [0, 1, 2, 3, 5] rfl)
      · have h := nd_pos h c49
        exact (db_X14_readEntry_147 C K) (x2) (x3) (x4) (x6) s0 _ _ _ h hP hD hS (lv_sub hl [0, 1, 2, 3, 5] rfl)
  · have h := nd_neg h c15
    exact K _ _ _ _ _ dX14_readEntry_137 (Option.some.inj h).symm hP hD hS
set_option maxHeartbeats 40000000 in
set_option maxRecDepth 100000 in
theorem db_X14_readEntry_106 {p : Program} {l : Launch} {e : Env} {s : State} {m : MethodId} {args : Array Value} {below : List Frame} {meth : Method} {c : Code} {Q : State → Prop} {A : Nat → Prop} {dC : Nat → ClassId} {dI : Nat → Nat → Nat} {a : Nat → Nat} {ac : Nat → ClassId} {n : Nat} {r : St} (C : nd_C p l s m args c A (dC, dI) cX14_readEntry 12 RX14 ow_dm_X14_readEntry (dk_X14 ac)) (K : nd_Kv p l e (headSpec ow_dm_X14_readEntry ({ frames := 4, cells := 0, slots := 0, locals := 89 })).room s m args below meth c Q A (dC, dI) cX14_readEntry (St) (dw_X14 a ac) r) : dj_X14_readEntry_106 p l e s m args below meth c Q A dC dI a ac (df_X14_readEntry_106 n) r := by
  obtain ⟨hlt, hx, hb, hml, hown, hts, hN, hA, hK⟩ := id C
  intro x2 x3 x4 x5 y0 s0 H locs ls h hP hD hS hl
  unfold df_X14_readEntry_106 at h
  refine lv_lstore (lv' := [(6, .long y0), (0, .ref (a 0)), (2, .int x2), (3, .int x3), (4, .int x4), (5, .int x5)]) hx hb dX14_readEntry_106 hl (by decide) rfl (fun ls hl => ?_)
  refine lv_iload_n hx hb dX14_readEntry_108 rfl (lv_at hl 3 rfl) ?_
  refine lv_iconst (v := 3) hx hb dX14_readEntry_109 (by decide) ?_
  refine lv_icmp_ne (tgt := 130) hx hb dX14_readEntry_110 (by decide) (fun c14 => ?_) (fun c14 => ?_)
  · have h := nd_neg h c14
    exact (db_X14_readEntry_130 C K) (x2) (x3) (x4) (x5) (y0) s0 _ _ _ h hP hD hS (lv_sub hl [1, 2, 3, 4, 5, 0] rfl)
  · have h := nd_pos h c14
    refine lv_iload hx hb dX14_readEntry_113 (lv_at hl 4 rfl) ?_
    refine lv_iconst (v := 1) hx hb dX14_readEntry_115 (by decide) ?_
    refine lv_icmp_ne (tgt := 130) hx hb dX14_readEntry_116 (by decide) (fun c63 => ?_) (fun c63 => ?_)
    · have h := nd_neg h c63
      exact (db_X14_readEntry_130 C K) (x2) (x3) (x4) (x5) (y0) s0 _ _ _ h hP hD hS (lv_sub hl [1, 2, 3, 4, 5, 0] rfl)
    · have h := nd_pos h c63
      refine lv_iload hx hb dX14_readEntry_119 (lv_at hl 5 rfl) ?_
      refine lv_if_ge (tgt := 130) hx hb dX14_readEntry_121 (by decide) (fun c64 => ?_) (fun c64 => ?_)
      · have h := nd_pos h c64
        exact (db_X14_readEntry_130 C K) (x2) (x3) (x4) (x5) (y0) s0 _ _ _ h hP hD hS (lv_sub hl [1, 2, 3, 4, 5, 0] rfl)
      · have h := nd_neg h c64
        refine lv_aload_n hx hb dX14_readEntry_124 rfl (lv_at hl 1 rfl) ?_
        refine lv_iconst (v := 4) hx hb dX14_readEntry_125 (by decide) ?_
        refine lv_iload_n hx hb dX14_readEntry_126 rfl (lv_at hl 2 rfl) ?_
        obtain ⟨s66, hq, h⟩ := nd_b1_e h
        have hPc := hP
        have hDc := hD
        have hKc := hK
        have hFc := nd_rs hD hS hA
        refine nd_cVv (As := [.int 4, .int x2]) (rest := []) (w' := dw_X14 a ac s66) ⟨hx, hb, hml, hown, hts⟩ (fun sz => dm_X14_meet l hlt dC dI a ac n (4) (x2) s0 hq sz) (cwV 2 hts gi_dm_X14_readEntry_0 rfl rfl rfl (by decide +kernel) ⟨Nat.le_of_ble_eq_true rfl, Nat.le_of_ble_eq_true rfl⟩) hPc hDc hKc hS hA hN (va_recv hKc hPc (ci := 15) (q0 := 0) rfl rfl) rfl hl.1 rfl (Nat.le_of_ble_eq_true rfl) dX14_readEntry_127 (fun H locs hP1 hD1 hk1 hS => ?_)
        have hP := hP1
        have hD := hD1.weaken (fun k q _ h => hFc q.1 h)
        exact (db_X14_readEntry_130 C K) (x2) (x3) (x4) (x5) (y0) s66 _ _ _ h hP hD hS (lv_sub hl [1, 2, 3, 4, 5, 0] rfl)
set_option maxHeartbeats 40000000 in
set_option maxRecDepth 100000 in
theorem db_X14_readEntry_54 {p : Program} {l : Launch} {e : Env} {s : State} {m : MethodId} {args : Array Value} {below : List Frame} {meth : Method} {c : Code} {Q : State → Prop} {A : Nat → Prop} {dC : Nat → ClassId} {dI : Nat → Nat → Nat} {a : Nat → Nat} {ac : Nat → ClassId} {n : Nat} {r : St} (C : nd_C p l s m args c A (dC, dI) cX14_readEntry 12 RX14 ow_dm_X14_readEntry (dk_X14 ac)) (K : nd_Kv p l e (headSpec ow_dm_X14_readEntry ({ frames := 4, cells := 0, slots := 0, locals := 89 })).room s m args below meth c Q A (dC, dI) cX14_readEntry (St) (dw_X14 a ac) r) : dj_X14_readEntry_54 p l e s m args below meth c Q A dC dI a ac (df_X14_readEntry_54 n) r := by
  obtain ⟨hlt, hx, hb, hml, hown, hts, hN, hA, hK⟩ := id C
  intro x1 x2 x3 x4 s0 H locs ls h hP hD hS hl
  unfold df_X14_readEntry_54 at h
  refine lv_aload_n hx hb dX14_readEntry_54 rfl (lv_at hl 0 rfl) ?_
  refine va_get (D := (dC, dI)) (ci := 15) (v := .int (sI s0 4)) (C := RX14) (T := TX14) (N := 11) hx hb hts hi_dm_X14_readEntry_X14 hown hK hP 0 rfl rfl 10 (by decide) (hts (.fieldLink RX14 65 "TimeMachineModel$Codec" "fault" "I") (List.mem_of_getElem? (i := 5) rfl)) (fun _ h9 => h9) rfl dX14_readEntry_55 ?_
  refine lv_if_le (tgt := 62) hx hb dX14_readEntry_58 (by decide) (fun c7 => ?_) (fun c7 => ?_)
  · have h := nd_pos h c7
    refine lv_aload_n hx hb dX14_readEntry_62 rfl (lv_at hl 0 rfl) ?_
    refine lv_iconst (v := 3) hx hb dX14_readEntry_63 (by decide) ?_
    refine lv_lconst (v := 1) hx hb dX14_readEntry_64 (by decide) ?_
    obtain ⟨q8, s9, hq, h⟩ := nd_b2_e h
    have hPc := hP
    have hDc := hD
    have hKc := hK
    have hFc := nd_rs hD hS hA
    refine nd_cVi (As := [.int 3, .long 1]) (rest := []) (q := q8) (w' := dw_X14 a ac s9) ⟨hx, hb, hml, hown, hts⟩ (fun sz => dm_X14_before l hlt dC dI a ac n (3) (1) s0 hq sz) (cwV 2 hts gi_dm_X14_readEntry_1 rfl rfl rfl (by decide +kernel) ⟨Nat.le_of_ble_eq_true rfl, Nat.le_of_ble_eq_true rfl⟩) hPc hDc hKc hS hA hN (va_recv hKc hPc (ci := 15) (q0 := 0) rfl rfl) rfl hl.1 rfl (Nat.le_of_ble_eq_true rfl) dX14_readEntry_65 (fun H locs hP1 hD1 hk1 hS => ?_)
    have hP := hP1
    have hD := hD1.weaken (fun k q _ h => hFc q.1 h)
    refine lv_istore (lv' := [(5, .int q8), (0, .ref (a 0)), (1, .int x1), (2, .int x2), (3, .int x3), (4, .int x4)]) hx hb dX14_readEntry_68 hl (by decide) rfl (fun ls hl => ?_)
    refine lv_iload_n hx hb dX14_readEntry_70 rfl (lv_at hl 2 rfl) ?_
    refine lv_bipush (v := 8) hx hb dX14_readEntry_71 (by decide) ?_
    refine lv_iand hx hb dX14_readEntry_73 ?_
    refine lv_if_ne (tgt := 84) hx hb dX14_readEntry_74 (by decide) (fun c11 => ?_) (fun c11 => ?_)
    · have h := nd_neg h c11
      refine lv_aload_n hx hb dX14_readEntry_84 rfl (lv_at hl 1 rfl) ?_
      refine va_get (D := (dC, dI)) (ci := 15) (v := .int (sI s9 0)) (C := RX14) (T := TX14) (N := 11) hx hb hts hi_dm_X14_readEntry_X14 hown hK hP 0 rfl rfl 0 (by decide) (hts (.fieldLink RX14 27 "TimeMachineModel$Codec" "events" "I") (List.mem_of_getElem? (i := 9) rfl)) (fun _ h9 => h9) rfl dX14_readEntry_85 ?_
      refine lv_if_ne (tgt := 95) hx hb dX14_readEntry_88 (by decide) (fun c12 => ?_) (fun c12 => ?_)
      · have h := nd_neg h c12
        refine lv_aload_n hx hb dX14_readEntry_95 rfl (lv_at hl 1 rfl) ?_
        refine va_get (D := (dC, dI)) (ci := 15) (v := .ref (a 3)) (C := RX14) (T := TX14) (N := 11) hx hb hts hi_dm_X14_readEntry_X14 hown hK hP 0 rfl rfl 3 (by decide) (hts (.fieldLink RX14 16 "TimeMachineModel$Codec" "difference" "[J") (List.mem_of_getElem? (i := 10) rfl)) (fun _ h9 => h9) rfl dX14_readEntry_96 ?_
        refine lv_aload_n hx hb dX14_readEntry_99 rfl (lv_at hl 1 rfl) ?_
        refine va_get (D := (dC, dI)) (ci := 15) (v := .int (sI s9 0)) (C := RX14) (T := TX14) (N := 11) hx hb hts hi_dm_X14_readEntry_X14 hown hK hP 0 rfl rfl 0 (by decide) (hts (.fieldLink RX14 27 "TimeMachineModel$Codec" "events" "I") (List.mem_of_getElem? (i := 9) rfl)) (fun _ h9 => h9) rfl dX14_readEntry_100 ?_
        refine lv_iconst (v := 1) hx hb dX14_readEntry_103 (by decide) ?_
        refine lv_isub hx hb dX14_readEntry_104 ?_
        obtain ⟨i13, h⟩ := nd_ck_e h
        refine va_lald (i := ((sI s9 0) - 1)) hx hb hK hP 3 2 rfl rfl i13 dX14_readEntry_105 ?_
        exact (db_X14_readEntry_106 C K) (x2) (x3) (x4) (q8) ((sQ s9 0 (Int32.toNatClampNeg ((sI s9 0) - 1)))) s9 _ _ _ h hP hD hS (lv_sub hl [1, 3, 4, 5, 0] rfl)
      · have h := nd_pos h c12
        refine lv_lconst (v := 0) hx hb dX14_readEntry_91 (by decide) ?_
        refine lv_goto (tgt := 106) hx hb dX14_readEntry_92 (by decide) ?_
        exact (db_X14_readEntry_106 C K) (x2) (x3) (x4) (q8) (0) s9 _ _ _ h hP hD hS (lv_sub hl [1, 3, 4, 5, 0] rfl)
    · have h := nd_pos h c11
      refine lv_aload_n hx hb dX14_readEntry_77 rfl (lv_at hl 1 rfl) ?_
      obtain ⟨q68, s69, hq, h⟩ := nd_b2_e h
      have hPc := hP
      have hDc := hD
      have hKc := hK
      have hFc := nd_rs hD hS hA
      refine nd_cVl (As := []) (rest := []) (q := q68) (w' := dw_X14 a ac s69) ⟨hx, hb, hml, hown, hts⟩ (fun sz => dm_X14_readVarint l hlt dC dI a ac n  s9 hq sz) (cwV 0 hts gi_dm_X14_readEntry_5 rfl rfl rfl (by decide +kernel) ⟨Nat.le_of_ble_eq_true rfl, Nat.le_of_ble_eq_true rfl⟩) hPc hDc hKc hS hA hN (va_recv hKc hPc (ci := 15) (q0 := 0) rfl rfl) rfl hl.1 rfl (Nat.le_of_ble_eq_true rfl) dX14_readEntry_78 (fun H locs hP1 hD1 hk1 hS => ?_)
      have hP := hP1
      have hD := hD1.weaken (fun k q _ h => hFc q.1 h)
      refine lv_goto (tgt := 106) hx hb dX14_readEntry_81 (by decide) ?_
      exact (db_X14_readEntry_106 C K) (x2) (x3) (x4) (q8) (q68) s69 _ _ _ h hP hD hS (lv_sub hl [1, 3, 4, 5, 0] rfl)
  · have h := nd_neg h c7
    exact K _ _ _ _ _ dX14_readEntry_61 (Option.some.inj h).symm hP hD hS
set_option maxHeartbeats 40000000 in
set_option maxRecDepth 100000 in
theorem db_X14_readEntry_48 {p : Program} {l : Launch} {e : Env} {s : State} {m : MethodId} {args : Array Value} {below : List Frame} {meth : Method} {c : Code} {Q : State → Prop} {A : Nat → Prop} {dC : Nat → ClassId} {dI : Nat → Nat → Nat} {a : Nat → Nat} {ac : Nat → ClassId} {n : Nat} {r : St} (C : nd_C p l s m args c A (dC, dI) cX14_readEntry 12 RX14 ow_dm_X14_readEntry (dk_X14 ac)) (K : nd_Kv p l e (headSpec ow_dm_X14_readEntry ({ frames := 4, cells := 0, slots := 0, locals := 89 })).room s m args below meth c Q A (dC, dI) cX14_readEntry (St) (dw_X14 a ac) r) : dj_X14_readEntry_48 p l e s m args below meth c Q A dC dI a ac (df_X14_readEntry_48 n) r := by
  obtain ⟨hlt, hx, hb, hml, hown, hts, hN, hA, hK⟩ := id C
  intro x1 x2 x3 x4 s0 H locs ls h hP hD hS hl
  unfold df_X14_readEntry_48 at h
  refine lv_aload_n hx hb dX14_readEntry_48 rfl (lv_at hl 0 rfl) ?_
  refine lv_iconst (v := 1) hx hb dX14_readEntry_49 (by decide) ?_
  refine lv_iload_n hx hb dX14_readEntry_50 rfl (lv_at hl 2 rfl) ?_
  obtain ⟨s5, hq, h⟩ := nd_b1_e h
  have hPc := hP
  have hDc := hD
  have hKc := hK
  have hFc := nd_rs hD hS hA
  refine nd_cVv (As := [.int 1, .int x2]) (rest := []) (w' := dw_X14 a ac s5) ⟨hx, hb, hml, hown, hts⟩ (fun sz => dm_X14_meet l hlt dC dI a ac n (1) (x2) s0 hq sz) (cwV 2 hts gi_dm_X14_readEntry_0 rfl rfl rfl (by decide +kernel) ⟨Nat.le_of_ble_eq_true rfl, Nat.le_of_ble_eq_true rfl⟩) hPc hDc hKc hS hA hN (va_recv hKc hPc (ci := 15) (q0 := 0) rfl rfl) rfl hl.1 rfl (Nat.le_of_ble_eq_true rfl) dX14_readEntry_51 (fun H locs hP1 hD1 hk1 hS => ?_)
  have hP := hP1
  have hD := hD1.weaken (fun k q _ h => hFc q.1 h)
  exact (db_X14_readEntry_54 C K) (x1) (x2) (x3) (x4) s5 _ _ _ h hP hD hS (lv_sub hl [0, 1, 2, 3, 4] rfl)
set_option maxHeartbeats 40000000 in
set_option maxRecDepth 100000 in
theorem db_X14_readEntry_38 {p : Program} {l : Launch} {e : Env} {s : State} {m : MethodId} {args : Array Value} {below : List Frame} {meth : Method} {c : Code} {Q : State → Prop} {A : Nat → Prop} {dC : Nat → ClassId} {dI : Nat → Nat → Nat} {a : Nat → Nat} {ac : Nat → ClassId} {n : Nat} {r : St} (C : nd_C p l s m args c A (dC, dI) cX14_readEntry 12 RX14 ow_dm_X14_readEntry (dk_X14 ac)) (K : nd_Kv p l e (headSpec ow_dm_X14_readEntry ({ frames := 4, cells := 0, slots := 0, locals := 89 })).room s m args below meth c Q A (dC, dI) cX14_readEntry (St) (dw_X14 a ac) r) : dj_X14_readEntry_38 p l e s m args below meth c Q A dC dI a ac (df_X14_readEntry_38 n) r := by
  obtain ⟨hlt, hx, hb, hml, hown, hts, hN, hA, hK⟩ := id C
  intro x1 x2 x3 x4 s0 H locs ls h hP hD hS hl
  unfold df_X14_readEntry_38 at h
  refine lv_iload_n hx hb dX14_readEntry_38 rfl (lv_at hl 3 rfl) ?_
  refine lv_iconst (v := 4) hx hb dX14_readEntry_39 (by decide) ?_
  refine lv_icmp_ne (tgt := 54) hx hb dX14_readEntry_40 (by decide) (fun c73 => ?_) (fun c73 => ?_)
  · have h := nd_neg h c73
    exact (db_X14_readEntry_54 C K) (x1) (x2) (x3) (x4) s0 _ _ _ h hP hD hS (lv_sub hl [0, 1, 2, 3, 4] rfl)
  · have h := nd_pos h c73
    refine lv_iload hx hb dX14_readEntry_43 (lv_at hl 4 rfl) ?_
    refine lv_if_le (tgt := 54) hx hb dX14_readEntry_45 (by decide) (fun c74 => ?_) (fun c74 => ?_)
    · have h := nd_pos h c74
      exact (db_X14_readEntry_54 C K) (x1) (x2) (x3) (x4) s0 _ _ _ h hP hD hS (lv_sub hl [0, 1, 2, 3, 4] rfl)
    · have h := nd_neg h c74
      exact (db_X14_readEntry_48 C K) (x1) (x2) (x3) (x4) s0 _ _ _ h hP hD hS (lv_sub hl [0, 1, 2, 3, 4] rfl)
set_option maxHeartbeats 40000000 in
set_option maxRecDepth 100000 in
theorem db_X14_readEntry_27 {p : Program} {l : Launch} {e : Env} {s : State} {m : MethodId} {args : Array Value} {below : List Frame} {meth : Method} {c : Code} {Q : State → Prop} {A : Nat → Prop} {dC : Nat → ClassId} {dI : Nat → Nat → Nat} {a : Nat → Nat} {ac : Nat → ClassId} {n : Nat} {r : St} (C : nd_C p l s m args c A (dC, dI) cX14_readEntry 12 RX14 ow_dm_X14_readEntry (dk_X14 ac)) (K : nd_Kv p l e (headSpec ow_dm_X14_readEntry ({ frames := 4, cells := 0, slots := 0, locals := 89 })).room s m args below meth c Q A (dC, dI) cX14_readEntry (St) (dw_X14 a ac) r) : dj_X14_readEntry_27 p l e s m args below meth c Q A dC dI a ac (df_X14_readEntry_27 n) r := by
  obtain ⟨hlt, hx, hb, hml, hown, hts, hN, hA, hK⟩ := id C
  intro x1 x2 x3 x4 s0 H locs ls h hP hD hS hl
  unfold df_X14_readEntry_27 at h
  refine lv_iload_n hx hb dX14_readEntry_27 rfl (lv_at hl 3 rfl) ?_
  refine lv_iconst (v := 3) hx hb dX14_readEntry_28 (by decide) ?_
  refine lv_icmp_ne (tgt := 38) hx hb dX14_readEntry_29 (by decide) (fun c72 => ?_) (fun c72 => ?_)
  · have h := nd_neg h c72
    exact (db_X14_readEntry_38 C K) (x1) (x2) (x3) (x4) s0 _ _ _ h hP hD hS (lv_sub hl [0, 1, 2, 3, 4] rfl)
  · have h := nd_pos h c72
    refine lv_iload hx hb dX14_readEntry_32 (lv_at hl 4 rfl) ?_
    refine lv_iconst (v := 1) hx hb dX14_readEntry_34 (by decide) ?_
    refine lv_icmp_gt (tgt := 48) hx hb dX14_readEntry_35 (by decide) (fun c75 => ?_) (fun c75 => ?_)
    · have h := nd_pos h c75
      exact (db_X14_readEntry_48 C K) (x1) (x2) (x3) (x4) s0 _ _ _ h hP hD hS (lv_sub hl [0, 1, 2, 3, 4] rfl)
    · have h := nd_neg h c75
      exact (db_X14_readEntry_38 C K) (x1) (x2) (x3) (x4) s0 _ _ _ h hP hD hS (lv_sub hl [0, 1, 2, 3, 4] rfl)
set_option maxHeartbeats 40000000 in
set_option maxRecDepth 100000 in
theorem db_X14_readEntry_0 {p : Program} {l : Launch} {e : Env} {s : State} {m : MethodId} {args : Array Value} {below : List Frame} {meth : Method} {c : Code} {Q : State → Prop} {A : Nat → Prop} {dC : Nat → ClassId} {dI : Nat → Nat → Nat} {a : Nat → Nat} {ac : Nat → ClassId} {n : Nat} {r : St} (C : nd_C p l s m args c A (dC, dI) cX14_readEntry 12 RX14 ow_dm_X14_readEntry (dk_X14 ac)) (K : nd_Kv p l e (headSpec ow_dm_X14_readEntry ({ frames := 4, cells := 0, slots := 0, locals := 89 })).room s m args below meth c Q A (dC, dI) cX14_readEntry (St) (dw_X14 a ac) r) : dj_X14_readEntry_0 p l e s m args below meth c Q A dC dI a ac (df_X14_readEntry_0 n) r := by
  obtain ⟨hlt, hx, hb, hml, hown, hts, hN, hA, hK⟩ := id C
  intro v0 v1 s0 H locs ls h hP hD hS hl
  unfold df_X14_readEntry_0 at h
  refine lv_iload_n hx hb dX14_readEntry_0 rfl (lv_at hl 1 rfl) ?_
  refine lv_bipush (v := 7) hx hb dX14_readEntry_1 (by decide) ?_
  refine lv_iand hx hb dX14_readEntry_3 ?_
  refine lv_topi (fun z1 ez1 => ?_)
  have h := nd_at h ez1
  refine lv_istore_n (lv' := [(3, .int z1), (0, .ref (a 0)), (1, .int v0), (2, .int v1)]) hx hb dX14_readEntry_4 rfl hl (by decide) rfl (fun ls hl => ?_)
  refine lv_iload_n hx hb dX14_readEntry_5 rfl (lv_at hl 2 rfl) ?_
  refine lv_iconst (v := 4) hx hb dX14_readEntry_6 (by decide) ?_
  refine lv_ishr hx hb dX14_readEntry_7 ?_
  refine lv_topi (fun z2 ez2 => ?_)
  have h := nd_at h ez2
  refine lv_istore (lv' := [(4, .int z2), (3, .int z1), (0, .ref (a 0)), (1, .int v0), (2, .int v1)]) hx hb dX14_readEntry_8 hl (by decide) rfl (fun ls hl => ?_)
  refine lv_iload_n hx hb dX14_readEntry_10 rfl (lv_at hl 1 rfl) ?_
  refine lv_iconst (v := 5) hx hb dX14_readEntry_11 (by decide) ?_
  refine lv_icmp_gt (tgt := 48) hx hb dX14_readEntry_12 (by decide) (fun c3 => ?_) (fun c3 => ?_)
  · have h := nd_pos h c3
    exact (db_X14_readEntry_48 C K) (v0) (v1) (z1) (z2) s0 _ _ _ h hP hD hS (lv_sub hl [2, 3, 4, 1, 0] rfl)
  · have h := nd_neg h c3
    refine lv_iload_n hx hb dX14_readEntry_15 rfl (lv_at hl 1 rfl) ?_
    refine lv_iconst (v := 1) hx hb dX14_readEntry_16 (by decide) ?_
    refine lv_icmp_ne (tgt := 27) hx hb dX14_readEntry_17 (by decide) (fun c71 => ?_) (fun c71 => ?_)
    · have h := nd_neg h c71
      exact (db_X14_readEntry_27 C K) (v0) (v1) (z1) (z2) s0 _ _ _ h hP hD hS (lv_sub hl [2, 3, 4, 1, 0] rfl)
    · have h := nd_pos h c71
      refine lv_iload hx hb dX14_readEntry_20 (lv_at hl 0 rfl) ?_
      refine lv_bipush (v := 8) hx hb dX14_readEntry_22 (by decide) ?_
      refine lv_icmp_gt (tgt := 48) hx hb dX14_readEntry_24 (by decide) (fun c76 => ?_) (fun c76 => ?_)
      · have h := nd_pos h c76
        exact (db_X14_readEntry_48 C K) (v0) (v1) (z1) (z2) s0 _ _ _ h hP hD hS (lv_sub hl [2, 3, 4, 1, 0] rfl)
      · have h := nd_neg h c76
        exact (db_X14_readEntry_27 C K) (v0) (v1) (z1) (z2) s0 _ _ _ h hP hD hS (lv_sub hl [2, 3, 4, 1, 0] rfl)
set_option maxHeartbeats 40000000 in
set_option maxRecDepth 100000 in
theorem dm_X14_readEntry (l : Launch) (hlt : l.stackTraces = false) (dC : Nat → ClassId) (dI : Nat → Nat → Nat) (a : Nat → Nat) (ac : Nat → ClassId) (n : Nat) (v0 : Int32) (v1 : Int32) (s0 : St) {r : St} (h : df_X14_readEntry n v0 v1 s0 = some r) (sz : Nat) : Met l yX14_readEntry ow_dm_X14_readEntry ({ frames := 4, cells := 0, slots := 0, locals := 89 }) (va_Pc [.ref (a 0), .int v0, .int v1] (fun U => U.heap.size = sz ∧ va_P (dC, dI) vwCl (dw_X14 a ac s0) U.heap ∧ va_K (dC, dI) vwCl (dk_X14 ac) U ∧ va_D (fun _ => True) (dw_X14 a ac s0) ∧ nv_E dI (va_A (dw_X14 a ac s0) sz) U)) (va_Qv (fun _ => True) (fun (_ : Unit) t => va_P (dC, dI) vwCl (dw_X14 a ac r) t.heap ∧ va_K (dC, dI) vwCl (dk_X14 ac) t ∧ va_D (va_A (dw_X14 a ac s0) sz) (dw_X14 a ac r)) (va_A (dw_X14 a ac s0) sz)) 0 0 (va_A (dw_X14 a ac s0) sz) := by
  refine Met.ofW (cc := cX14_readEntry) (maxL := 12) (ret := none) (by decide) rfl ?_
  intro p e s m args below meth c s₁ B hml hv
  obtain ⟨rfl, hsz, hP, hK, hD0, hN⟩ := hv
  have hx := B.exec
  have hb := B.bytes
  have hr := B.returns
  have hts := atoms_spec (ws := ow_dm_X14_readEntry) B.pre
  have hown : s.vm.findClass RX14 = some m.cls := findClass_of_methodNamed B.named
  have hlocks := B.notSynchronized
  subst hsz
  have hD := hD0.self (sz := s.heap.size)
  generalize hAe : va_A (dw_X14 a ac s0) s.heap.size = A at hD hN ⊢
  have hA : ∀ q : Nat, s.heap.size ≤ q → A q := fun q h => by rw [← hAe]; exact Or.inr h
  have hl := lv_entry ([.ref (a 0), .int v0, .int v1]) (n := 12) (Nat.le_of_ble_eq_true rfl)
  rw [lg_entry_eq]
  generalize (lg_sl ([.ref (a 0), .int v0, .int v1]) ++ List.replicate (12 - (lg_sl ([.ref (a 0), .int v0, .int v1])).length) Slot.unset).toArray = ls at hl ⊢
  have hl : lv_has ls 12 [(0, .ref (a 0)), (1, .int v0), (2, .int v1)] := hl
  exact db_X14_readEntry_0 (dC := dC) (dI := dI) (a := a) (ac := ac) (n := n) (r := r) ⟨hlt, hx, hb, hml, hown, hts, hN, hA, hK⟩ (fun pc τ H locs ls d er hP hD hS => by subst er; exact W.vret hx hb hr (fun t ht hW => ⟨⟨(), rfl, trivial, by rw [ht]; exact hP, va_K.moved hW.alike hK, hD⟩, hS.F ht⟩) hS.2.2 d) v0 v1 s0 _ _ _ h hP hD va_S.rf (lv_sub hl [0, 1, 2] rfl)
def ow_dm_X14_read : List Cond := Cond.code yX14_read cX14_read 7 (some .int) :: ([Cond.fieldLink RX14 78 "TimeMachineModel$Codec" "log" "[I", Cond.fieldLink RX14 71 "TimeMachineModel$Codec" "length" "I", Cond.fieldLink RX14 27 "TimeMachineModel$Codec" "events" "I", Cond.fieldLink RX14 65 "TimeMachineModel$Codec" "fault" "I", Cond.fieldLink RX14 68 "TimeMachineModel$Codec" "at" "I", Cond.methodLink RX14 87 yX14_readVarint, Cond.instanceMethod yX14_readVarint, Cond.selects RX14 yX14_readVarint yX14_readVarint, Cond.initialized RX14, Cond.constantLong RX14 106 (2048), Cond.methodLink RX14 74 yX14_meet, Cond.instanceMethod yX14_meet, Cond.selects RX14 yX14_meet yX14_meet, Cond.methodLink RX14 81 yX14_next, Cond.instanceMethod yX14_next, Cond.selects RX14 yX14_next yX14_next, Cond.methodLink RX14 112 yX14_readEntry, Cond.instanceMethod yX14_readEntry, Cond.selects RX14 yX14_readEntry yX14_readEntry, Cond.methodLink RX14 108 yX14_readRun, Cond.instanceMethod yX14_readRun, Cond.selects RX14 yX14_readRun yX14_readRun] ++ (u_ws RX14 TX14 11 ++ (ow_dm_X14_readVarint ++ (ow_dm_X14_meet ++ (ow_dm_X14_next ++ (ow_dm_X14_readEntry ++ (ow_dm_X14_readRun ++ [])))))))
theorem gd_dm_X14_read : ∀ w ∈ ow_dm_X14_read, (w.onTables && w.keeps) = true ∨ ∃ ty, w = Cond.arrayClass ty := List.forall_mem_cons.mpr ⟨good_of_word rfl, List.forall_mem_append.mpr ⟨fun w h => good_of_word (List.all_eq_true.mp (by decide +kernel) w h), List.forall_mem_append.mpr ⟨gu_X14, List.forall_mem_append.mpr ⟨gd_dm_X14_readVarint, List.forall_mem_append.mpr ⟨gd_dm_X14_meet, List.forall_mem_append.mpr ⟨gd_dm_X14_next, List.forall_mem_append.mpr ⟨gd_dm_X14_readEntry, List.forall_mem_append.mpr ⟨gd_dm_X14_readRun, fun _ h => nomatch h⟩⟩⟩⟩⟩⟩⟩⟩
theorem hi_dm_X14_read_X14 : ∀ w ∈ u_ws RX14 TX14 11, w ∈ ow_dm_X14_read := fun w h => List.mem_cons_of_mem _ (List.mem_append_right _ (List.mem_append_left _ h))
theorem gi_dm_X14_read_0 : GoodIn ow_dm_X14_read (wsV RX14 87 RX14 yX14_readVarint ow_dm_X14_readVarint) := goodIn_app (goodIn_of _ (by decide +kernel)) (fun w h => ⟨List.mem_cons_of_mem _ (List.mem_append_right _ (List.mem_append_right _ (List.mem_append_left _ h))), gd_dm_X14_readVarint w h⟩)
theorem gi_dm_X14_read_1 : GoodIn ow_dm_X14_read (wsV RX14 74 RX14 yX14_meet ow_dm_X14_meet) := goodIn_app (goodIn_of _ (by decide +kernel)) (fun w h => ⟨List.mem_cons_of_mem _ (List.mem_append_right _ (List.mem_append_right _ (List.mem_append_right _ (List.mem_append_left _ h)))), gd_dm_X14_meet w h⟩)
theorem gi_dm_X14_read_2 : GoodIn ow_dm_X14_read (wsV RX14 81 RX14 yX14_next ow_dm_X14_next) := goodIn_app (goodIn_of _ (by decide +kernel)) (fun w h => ⟨List.mem_cons_of_mem _ (List.mem_append_right _ (List.mem_append_right _ (List.mem_append_right _ (List.mem_append_right _ (List.mem_append_left _ h))))), gd_dm_X14_next w h⟩)
theorem gi_dm_X14_read_3 : GoodIn ow_dm_X14_read (wsV RX14 112 RX14 yX14_readEntry ow_dm_X14_readEntry) := goodIn_app (goodIn_of _ (by decide +kernel)) (fun w h => ⟨List.mem_cons_of_mem _ (List.mem_append_right _ (List.mem_append_right _ (List.mem_append_right _ (List.mem_append_right _ (List.mem_append_right _ (List.mem_append_left _ h)))))), gd_dm_X14_readEntry w h⟩)
theorem gi_dm_X14_read_4 : GoodIn ow_dm_X14_read (wsV RX14 108 RX14 yX14_readRun ow_dm_X14_readRun) := goodIn_app (goodIn_of _ (by decide +kernel)) (fun w h => ⟨List.mem_cons_of_mem _ (List.mem_append_right _ (List.mem_append_right _ (List.mem_append_right _ (List.mem_append_right _ (List.mem_append_right _ (List.mem_append_right _ (List.mem_append_left _ h))))))), gd_dm_X14_readRun w h⟩)
def dj_X14_read_145 (p : Program) (l : Launch) (e : Env) (s : State) (m : MethodId) (args : Array Value) (below : List Frame) (meth : Method) (c : Code) (Q : State → Prop) (A : Nat → Prop) (dC : Nat → ClassId) (dI : Nat → Nat → Nat) (a : Nat → Nat) (ac : Nat → ClassId) (g : (St) → Option (Int32 × (St))) (r : Int32 × (St)) : Prop := ∀ (s0 : St) (H : Heap) (locs : List Loc) (ls : Array Slot), g s0 = some r → va_P (dC, dI) vwCl (dw_X14 a ac s0) H → va_D A (dw_X14 a ac s0) → va_S A s.heap H locs → lv_has ls 7 [(0, .ref (a 0))] → W p l e (headSpec ow_dm_X14_read ({ frames := 5, cells := 0, slots := 0, locals := 120 })).room s m args below meth c H locs 0 0 Q (F0 m 145 ls [])
def dj_X14_read_117 (p : Program) (l : Launch) (e : Env) (s : State) (m : MethodId) (args : Array Value) (below : List Frame) (meth : Method) (c : Code) (Q : State → Prop) (A : Nat → Prop) (dC : Nat → ClassId) (dI : Nat → Nat → Nat) (a : Nat → Nat) (ac : Nat → ClassId) (g : (St) → Option (Int32 × (St))) (r : Int32 × (St)) : Prop := ∀ (s0 : St) (H : Heap) (locs : List Loc) (ls : Array Slot), g s0 = some r → va_P (dC, dI) vwCl (dw_X14 a ac s0) H → va_D A (dw_X14 a ac s0) → va_S A s.heap H locs → lv_has ls 7 [(0, .ref (a 0))] → W p l e (headSpec ow_dm_X14_read ({ frames := 5, cells := 0, slots := 0, locals := 120 })).room s m args below meth c H locs 0 0 Q (F0 m 117 ls [])
def dj_X14_read_114 (p : Program) (l : Launch) (e : Env) (s : State) (m : MethodId) (args : Array Value) (below : List Frame) (meth : Method) (c : Code) (Q : State → Prop) (A : Nat → Prop) (dC : Nat → ClassId) (dI : Nat → Nat → Nat) (a : Nat → Nat) (ac : Nat → ClassId) (g : Int64 → (St) → Option (Int32 × (St))) (r : Int32 × (St)) : Prop := ∀ (x3 : Int64) (s0 : St) (H : Heap) (locs : List Loc) (ls : Array Slot), g x3 s0 = some r → va_P (dC, dI) vwCl (dw_X14 a ac s0) H → va_D A (dw_X14 a ac s0) → va_S A s.heap H locs → lv_has ls 7 [(0, .ref (a 0)), (3, .long x3)] → W p l e (headSpec ow_dm_X14_read ({ frames := 5, cells := 0, slots := 0, locals := 120 })).room s m args below meth c H locs 0 0 Q (F0 m 114 ls [])
def dj_X14_read_45 (p : Program) (l : Launch) (e : Env) (s : State) (m : MethodId) (args : Array Value) (below : List Frame) (meth : Method) (c : Code) (Q : State → Prop) (A : Nat → Prop) (dC : Nat → ClassId) (dI : Nat → Nat → Nat) (a : Nat → Nat) (ac : Nat → ClassId) (g : Int64 → (St) → Option (Int32 × (St))) (r : Int32 × (St)) : Prop := ∀ (x3 : Int64) (s0 : St) (H : Heap) (locs : List Loc) (ls : Array Slot), g x3 s0 = some r → va_P (dC, dI) vwCl (dw_X14 a ac s0) H → va_D A (dw_X14 a ac s0) → va_S A s.heap H locs → lv_has ls 7 [(0, .ref (a 0)), (3, .long x3)] → W p l e (headSpec ow_dm_X14_read ({ frames := 5, cells := 0, slots := 0, locals := 120 })).room s m args below meth c H locs 0 0 Q (F0 m 45 ls [])
def dj_X14_read_0 (p : Program) (l : Launch) (e : Env) (s : State) (m : MethodId) (args : Array Value) (below : List Frame) (meth : Method) (c : Code) (Q : State → Prop) (A : Nat → Prop) (dC : Nat → ClassId) (dI : Nat → Nat → Nat) (a : Nat → Nat) (ac : Nat → ClassId) (g : Int32 → (St) → Option (Int32 × (St))) (r : Int32 × (St)) : Prop := ∀ (v1 : Int32) (s0 : St) (H : Heap) (locs : List Loc) (ls : Array Slot), g v1 s0 = some r → va_P (dC, dI) vwCl (dw_X14 a ac s0) H → va_D A (dw_X14 a ac s0) → va_S A s.heap H locs → lv_has ls 7 [(0, .ref (a 0)), (1, .ref (a 6)), (2, .int v1)] → W p l e (headSpec ow_dm_X14_read ({ frames := 5, cells := 0, slots := 0, locals := 120 })).room s m args below meth c H locs 0 0 Q (F0 m 0 ls [])
set_option maxHeartbeats 40000000 in
set_option maxRecDepth 100000 in
theorem db_X14_read_145 {p : Program} {l : Launch} {e : Env} {s : State} {m : MethodId} {args : Array Value} {below : List Frame} {meth : Method} {c : Code} {Q : State → Prop} {A : Nat → Prop} {dC : Nat → ClassId} {dI : Nat → Nat → Nat} {a : Nat → Nat} {ac : Nat → ClassId} {n : Nat} {r : Int32 × (St)} (C : nd_C p l s m args c A (dC, dI) cX14_read 7 RX14 ow_dm_X14_read (dk_X14 ac)) (K : nd_Ki p l e (headSpec ow_dm_X14_read ({ frames := 5, cells := 0, slots := 0, locals := 120 })).room s m args below meth c Q A (dC, dI) cX14_read .int (St) (dw_X14 a ac) r) : dj_X14_read_145 p l e s m args below meth c Q A dC dI a ac (df_X14_read_145 n) r := by
  obtain ⟨hlt, hx, hb, hml, hown, hts, hN, hA, hK⟩ := id C
  intro s0 H locs ls h hP hD hS hl
  unfold df_X14_read_145 at h
  refine lv_aload_n hx hb dX14_read_145 rfl (lv_at hl 0 rfl) ?_
  refine va_get (D := (dC, dI)) (ci := 15) (v := .int (sI s0 4)) (C := RX14) (T := TX14) (N := 11) hx hb hts hi_dm_X14_read_X14 hown hK hP 0 rfl rfl 10 (by decide) (hts (.fieldLink RX14 65 "TimeMachineModel$Codec" "fault" "I") (List.mem_of_getElem? (i := 4) rfl)) (fun _ h9 => h9) rfl dX14_read_146 ?_
  exact K _ _ _ _ _ _ dX14_read_149 rfl (Option.some.inj h).symm hP hD hS
set_option maxHeartbeats 40000000 in
set_option maxRecDepth 100000 in
theorem db_X14_read_117 {p : Program} {l : Launch} {e : Env} {s : State} {m : MethodId} {args : Array Value} {below : List Frame} {meth : Method} {c : Code} {Q : State → Prop} {A : Nat → Prop} {dC : Nat → ClassId} {dI : Nat → Nat → Nat} {a : Nat → Nat} {ac : Nat → ClassId} {n : Nat} {r : Int32 × (St)} (C : nd_C p l s m args c A (dC, dI) cX14_read 7 RX14 ow_dm_X14_read (dk_X14 ac)) (K : nd_Ki p l e (headSpec ow_dm_X14_read ({ frames := 5, cells := 0, slots := 0, locals := 120 })).room s m args below meth c Q A (dC, dI) cX14_read .int (St) (dw_X14 a ac) r) : dj_X14_read_117 p l e s m args below meth c Q A dC dI a ac (df_X14_read_117 n) r := by
  obtain ⟨hlt, hx, hb, hml, hown, hts, hN, hA, hK⟩ := id C
  intro s0 H locs ls h hP hD hS hl
  unfold df_X14_read_117 at h
  refine lv_aload_n hx hb dX14_read_117 rfl (lv_at hl 0 rfl) ?_
  refine va_get (D := (dC, dI)) (ci := 15) (v := .int (sI s0 4)) (C := RX14) (T := TX14) (N := 11) hx hb hts hi_dm_X14_read_X14 hown hK hP 0 rfl rfl 10 (by decide) (hts (.fieldLink RX14 65 "TimeMachineModel$Codec" "fault" "I") (List.mem_of_getElem? (i := 4) rfl)) (fun _ h9 => h9) rfl dX14_read_118 ?_
  refine lv_if_ne (tgt := 145) hx hb dX14_read_121 (by decide) (fun c11 => ?_) (fun c11 => ?_)
  · have h := nd_neg h c11
    exact (db_X14_read_145 C K)  s0 _ _ _ h hP hD hS (lv_sub hl [0] rfl)
  · have h := nd_pos h c11
    refine lv_aload_n hx hb dX14_read_124 rfl (lv_at hl 0 rfl) ?_
    refine va_get (D := (dC, dI)) (ci := 15) (v := .int (sI s0 3)) (C := RX14) (T := TX14) (N := 11) hx hb hts hi_dm_X14_read_X14 hown hK hP 0 rfl rfl 9 (by decide) (hts (.fieldLink RX14 68 "TimeMachineModel$Codec" "at" "I") (List.mem_of_getElem? (i := 5) rfl)) (fun _ h9 => h9) rfl dX14_read_125 ?_
    refine lv_aload_n hx hb dX14_read_128 rfl (lv_at hl 0 rfl) ?_
    refine va_get (D := (dC, dI)) (ci := 15) (v := .int (sI s0 2)) (C := RX14) (T := TX14) (N := 11) hx hb hts hi_dm_X14_read_X14 hown hK hP 0 rfl rfl 8 (by decide) (hts (.fieldLink RX14 71 "TimeMachineModel$Codec" "length" "I") (List.mem_of_getElem? (i := 2) rfl)) (fun _ h9 => h9) rfl dX14_read_129 ?_
    refine lv_icmp_ge (tgt := 145) hx hb dX14_read_132 (by decide) (fun c12 => ?_) (fun c12 => ?_)
    · have h := nd_pos h c12
      exact (db_X14_read_145 C K)  s0 _ _ _ h hP hD hS (lv_sub hl [0] rfl)
    · have h := nd_neg h c12
      refine lv_aload_n hx hb dX14_read_135 rfl (lv_at hl 0 rfl) ?_
      refine lv_bipush (v := 7) hx hb dX14_read_136 (by decide) ?_
      refine lv_aload_n hx hb dX14_read_138 rfl (lv_at hl 0 rfl) ?_
      refine va_get (D := (dC, dI)) (ci := 15) (v := .int (sI s0 3)) (C := RX14) (T := TX14) (N := 11) hx hb hts hi_dm_X14_read_X14 hown hK hP 0 rfl rfl 9 (by decide) (hts (.fieldLink RX14 68 "TimeMachineModel$Codec" "at" "I") (List.mem_of_getElem? (i := 5) rfl)) (fun _ h9 => h9) rfl dX14_read_139 ?_
      obtain ⟨s14, hq, h⟩ := nd_b1_e h
      have hPc := hP
      have hDc := hD
      have hKc := hK
      have hFc := nd_rs hD hS hA
      refine nd_cVv (As := [.int 7, .int (sI s0 3)]) (rest := []) (w' := dw_X14 a ac s14) ⟨hx, hb, hml, hown, hts⟩ (fun sz => dm_X14_meet l hlt dC dI a ac n (7) ((sI s0 3)) s0 hq sz) (cwV 2 hts gi_dm_X14_read_1 rfl rfl rfl (by decide +kernel) ⟨Nat.le_of_ble_eq_true rfl, Nat.le_of_ble_eq_true rfl⟩) hPc hDc hKc hS hA hN (va_recv hKc hPc (ci := 15) (q0 := 0) rfl rfl) rfl hl.1 rfl (Nat.le_of_ble_eq_true rfl) dX14_read_142 (fun H locs hP1 hD1 hk1 hS => ?_)
      have hP := hP1
      have hD := hD1.weaken (fun k q _ h => hFc q.1 h)
      exact (db_X14_read_145 C K)  s14 _ _ _ h hP hD hS (lv_sub hl [0] rfl)
set_option maxHeartbeats 40000000 in
set_option maxRecDepth 100000 in
theorem db_X14_read_114 {p : Program} {l : Launch} {e : Env} {s : State} {m : MethodId} {args : Array Value} {below : List Frame} {meth : Method} {c : Code} {Q : State → Prop} {A : Nat → Prop} {dC : Nat → ClassId} {dI : Nat → Nat → Nat} {a : Nat → Nat} {ac : Nat → ClassId} {n : Nat} {r : Int32 × (St)} (C : nd_C p l s m args c A (dC, dI) cX14_read 7 RX14 ow_dm_X14_read (dk_X14 ac)) (K : nd_Ki p l e (headSpec ow_dm_X14_read ({ frames := 5, cells := 0, slots := 0, locals := 120 })).room s m args below meth c Q A (dC, dI) cX14_read .int (St) (dw_X14 a ac) r) {g45 : Int64 → (St) → Option (Int32 × (St))} (J45 : dj_X14_read_45 p l e s m args below meth c Q A dC dI a ac g45 r) : dj_X14_read_114 p l e s m args below meth c Q A dC dI a ac (df_X14_read_114 n g45) r := by
  obtain ⟨hlt, hx, hb, hml, hown, hts, hN, hA, hK⟩ := id C
  intro x3 s0 H locs ls h hP hD hS hl
  unfold df_X14_read_114 at h
  refine lv_goto (tgt := 45) hx hb dX14_read_114 (by decide) ?_
  exact (J45) (x3) s0 _ _ _ h hP hD hS (lv_sub hl [0, 1] rfl)
set_option maxHeartbeats 40000000 in
set_option maxRecDepth 100000 in
theorem dB_X14_read_45 {p : Program} {l : Launch} {e : Env} {s : State} {m : MethodId} {args : Array Value} {below : List Frame} {meth : Method} {c : Code} {Q : State → Prop} {A : Nat → Prop} {dC : Nat → ClassId} {dI : Nat → Nat → Nat} {a : Nat → Nat} {ac : Nat → ClassId} {n : Nat} {r : Int32 × (St)} (C : nd_C p l s m args c A (dC, dI) cX14_read 7 RX14 ow_dm_X14_read (dk_X14 ac)) (K : nd_Ki p l e (headSpec ow_dm_X14_read ({ frames := 5, cells := 0, slots := 0, locals := 120 })).room s m args below meth c Q A (dC, dI) cX14_read .int (St) (dw_X14 a ac) r) {g45 : Int64 → (St) → Option (Int32 × (St))} (J45 : dj_X14_read_45 p l e s m args below meth c Q A dC dI a ac g45 r) : dj_X14_read_45 p l e s m args below meth c Q A dC dI a ac (dF_X14_read_45 n g45) r := by
  obtain ⟨hlt, hx, hb, hml, hown, hts, hN, hA, hK⟩ := id C
  intro x3 s0 H locs ls h hP hD hS hl
  unfold dF_X14_read_45 at h
  refine lv_aload_n hx hb dX14_read_45 rfl (lv_at hl 0 rfl) ?_
  refine va_get (D := (dC, dI)) (ci := 15) (v := .int (sI s0 4)) (C := RX14) (T := TX14) (N := 11) hx hb hts hi_dm_X14_read_X14 hown hK hP 0 rfl rfl 10 (by decide) (hts (.fieldLink RX14 65 "TimeMachineModel$Codec" "fault" "I") (List.mem_of_getElem? (i := 4) rfl)) (fun _ h9 => h9) rfl dX14_read_46 ?_
  refine lv_if_ne (tgt := 117) hx hb dX14_read_49 (by decide) (fun c10 => ?_) (fun c10 => ?_)
  · have h := nd_neg h c10
    exact (db_X14_read_117 C K)  s0 _ _ _ h hP hD hS (lv_sub hl [0] rfl)
  · have h := nd_pos h c10
    refine lv_aload_n hx hb dX14_read_52 rfl (lv_at hl 0 rfl) ?_
    refine va_get (D := (dC, dI)) (ci := 15) (v := .int (sI s0 0)) (C := RX14) (T := TX14) (N := 11) hx hb hts hi_dm_X14_read_X14 hown hK hP 0 rfl rfl 0 (by decide) (hts (.fieldLink RX14 27 "TimeMachineModel$Codec" "events" "I") (List.mem_of_getElem? (i := 3) rfl)) (fun _ h9 => h9) rfl dX14_read_53 ?_
    refine lv_i2l hx hb dX14_read_56 rfl ?_
    refine lv_lload_n hx hb dX14_read_57 rfl (lv_at hl 1 rfl) ?_
    refine W.lcmp hx hb dX14_read_58 ?_
    refine lv_if_ge (tgt := 117) hx hb dX14_read_59 (by decide) (fun c16 => ?_) (fun c16 => ?_)
    · have h := nd_pos h c16
      exact (db_X14_read_117 C K)  s0 _ _ _ h hP hD hS (lv_sub hl [0] rfl)
    · have h := nd_neg h c16
      refine lv_aload_n hx hb dX14_read_62 rfl (lv_at hl 0 rfl) ?_
      refine va_get (D := (dC, dI)) (ci := 15) (v := .int (sI s0 3)) (C := RX14) (T := TX14) (N := 11) hx hb hts hi_dm_X14_read_X14 hown hK hP 0 rfl rfl 9 (by decide) (hts (.fieldLink RX14 68 "TimeMachineModel$Codec" "at" "I") (List.mem_of_getElem? (i := 5) rfl)) (fun _ h9 => h9) rfl dX14_read_63 ?_
      refine lv_topi (fun z17 ez17 => ?_)
      have h := nd_at h ez17
      refine lv_istore (lv' := [(5, .int z17), (0, .ref (a 0)), (3, .long x3)]) hx hb dX14_read_66 hl (by decide) rfl (fun ls hl => ?_)
      refine lv_aload_n hx hb dX14_read_68 rfl (lv_at hl 1 rfl) ?_
      obtain ⟨q18, s19, hq, h⟩ := nd_b2_e h
      have hPc := hP
      have hDc := hD
      have hKc := hK
      have hFc := nd_rs hD hS hA
      refine nd_cVi (As := []) (rest := []) (q := q18) (w' := dw_X14 a ac s19) ⟨hx, hb, hml, hown, hts⟩ (fun sz => dm_X14_next l hlt dC dI a ac n  s0 hq sz) (cwV 0 hts gi_dm_X14_read_2 rfl rfl rfl (by decide +kernel) ⟨Nat.le_of_ble_eq_true rfl, Nat.le_of_ble_eq_true rfl⟩) hPc hDc hKc hS hA hN (va_recv hKc hPc (ci := 15) (q0 := 0) rfl rfl) rfl hl.1 rfl (Nat.le_of_ble_eq_true rfl) dX14_read_69 (fun H locs hP1 hD1 hk1 hS => ?_)
      have hP := hP1
      have hD := hD1.weaken (fun k q _ h => hFc q.1 h)
      refine lv_istore (lv' := [(6, .int q18), (5, .int z17), (0, .ref (a 0)), (3, .long x3)]) hx hb dX14_read_72 hl (by decide) rfl (fun ls hl => ?_)
      refine lv_aload_n hx hb dX14_read_74 rfl (lv_at hl 2 rfl) ?_
      refine va_get (D := (dC, dI)) (ci := 15) (v := .int (sI s19 4)) (C := RX14) (T := TX14) (N := 11) hx hb hts hi_dm_X14_read_X14 hown hK hP 0 rfl rfl 10 (by decide) (hts (.fieldLink RX14 65 "TimeMachineModel$Codec" "fault" "I") (List.mem_of_getElem? (i := 4) rfl)) (fun _ h9 => h9) rfl dX14_read_75 ?_
      refine lv_if_le (tgt := 84) hx hb dX14_read_78 (by decide) (fun c21 => ?_) (fun c21 => ?_)
      · have h := nd_pos h c21
        refine lv_iload hx hb dX14_read_84 (lv_at hl 0 rfl) ?_
        refine lv_bipush (v := 7) hx hb dX14_read_86 (by decide) ?_
        refine lv_iand hx hb dX14_read_88 ?_
        refine lv_iconst (v := 5) hx hb dX14_read_89 (by decide) ?_
        refine lv_icmp_ne (tgt := 106) hx hb dX14_read_90 (by decide) (fun c22 => ?_) (fun c22 => ?_)
        · have h := nd_neg h c22
          refine lv_aload_n hx hb dX14_read_106 rfl (lv_at hl 2 rfl) ?_
          refine lv_iload hx hb dX14_read_107 (lv_at hl 0 rfl) ?_
          refine lv_iload hx hb dX14_read_109 (lv_at hl 1 rfl) ?_
          obtain ⟨s24, hq, h⟩ := nd_b1_e h
          have hPc := hP
          have hDc := hD
          have hKc := hK
          have hFc := nd_rs hD hS hA
          refine nd_cVv (As := [.int q18, .int z17]) (rest := []) (w' := dw_X14 a ac s24) ⟨hx, hb, hml, hown, hts⟩ (fun sz => dm_X14_readEntry l hlt dC dI a ac n (q18) (z17) s19 hq sz) (cwV 2 hts gi_dm_X14_read_3 rfl rfl rfl (by decide +kernel) ⟨Nat.le_of_ble_eq_true rfl, Nat.le_of_ble_eq_true rfl⟩) hPc hDc hKc hS hA hN (va_recv hKc hPc (ci := 15) (q0 := 0) rfl rfl) rfl hl.1 rfl (Nat.le_of_ble_eq_true rfl) dX14_read_111 (fun H locs hP1 hD1 hk1 hS => ?_)
          have hP := hP1
          have hD := hD1.weaken (fun k q _ h => hFc q.1 h)
          exact (db_X14_read_114 C K J45) (x3) s24 _ _ _ h hP hD hS (lv_sub hl [2, 3] rfl)
        · have h := nd_pos h c22
          refine lv_aload_n hx hb dX14_read_93 rfl (lv_at hl 2 rfl) ?_
          refine lv_iload hx hb dX14_read_94 (lv_at hl 0 rfl) ?_
          refine lv_iload hx hb dX14_read_96 (lv_at hl 1 rfl) ?_
          refine lv_lload_n hx hb dX14_read_98 rfl (lv_at hl 3 rfl) ?_
          refine lv_l2i hx hb dX14_read_99 rfl ?_
          obtain ⟨s27, hq, h⟩ := nd_b1_e h
          have hPc := hP
          have hDc := hD
          have hKc := hK
          have hFc := nd_rs hD hS hA
          refine nd_cVv (As := [.int q18, .int z17, .int (x3.toInt32)]) (rest := []) (w' := dw_X14 a ac s27) ⟨hx, hb, hml, hown, hts⟩ (fun sz => dm_X14_readRun l hlt dC dI a ac n (q18) (z17) ((x3.toInt32)) s19 hq sz) (cwV 3 hts gi_dm_X14_read_4 rfl rfl rfl (by decide +kernel) ⟨Nat.le_of_ble_eq_true rfl, Nat.le_of_ble_eq_true rfl⟩) hPc hDc hKc hS hA hN (va_recv hKc hPc (ci := 15) (q0 := 0) rfl rfl) rfl hl.1 rfl (Nat.le_of_ble_eq_true rfl) dX14_read_100 (fun H locs hP1 hD1 hk1 hS => ?_)
          have hP := hP1
          have hD := hD1.weaken (fun k q _ h => hFc q.1 h)
          refine lv_goto (tgt := 114) hx hb dX14_read_103 (by decide) ?_
          exact (db_X14_read_114 C K J45) (x3) s27 _ _ _ h hP hD hS (lv_sub hl [2, 3] rfl)
      · have h := nd_neg h c21
        refine lv_goto (tgt := 45) hx hb dX14_read_81 (by decide) ?_
        exact (J45) (x3) s19 _ _ _ h hP hD hS (lv_sub hl [2, 3] rfl)
set_option maxHeartbeats 40000000 in
set_option maxRecDepth 100000 in
theorem db_X14_read_45 {p : Program} {l : Launch} {e : Env} {s : State} {m : MethodId} {args : Array Value} {below : List Frame} {meth : Method} {c : Code} {Q : State → Prop} {A : Nat → Prop} {dC : Nat → ClassId} {dI : Nat → Nat → Nat} {a : Nat → Nat} {ac : Nat → ClassId} {n : Nat} {r : Int32 × (St)} (C : nd_C p l s m args c A (dC, dI) cX14_read 7 RX14 ow_dm_X14_read (dk_X14 ac)) (K : nd_Ki p l e (headSpec ow_dm_X14_read ({ frames := 5, cells := 0, slots := 0, locals := 120 })).room s m args below meth c Q A (dC, dI) cX14_read .int (St) (dw_X14 a ac) r) (k : Nat) : dj_X14_read_45 p l e s m args below meth c Q A dC dI a ac (df_X14_read_45 n k) r := by
  induction k with
  | zero => intro x3 s0 H locs ls h; exact nomatch (show (none : Option (Int32 × (St))) = some r from h)
  | succ k ih => exact dB_X14_read_45 C K ih
set_option maxHeartbeats 40000000 in
set_option maxRecDepth 100000 in
theorem db_X14_read_0 {p : Program} {l : Launch} {e : Env} {s : State} {m : MethodId} {args : Array Value} {below : List Frame} {meth : Method} {c : Code} {Q : State → Prop} {A : Nat → Prop} {dC : Nat → ClassId} {dI : Nat → Nat → Nat} {a : Nat → Nat} {ac : Nat → ClassId} {n : Nat} {r : Int32 × (St)} (C : nd_C p l s m args c A (dC, dI) cX14_read 7 RX14 ow_dm_X14_read (dk_X14 ac)) (K : nd_Ki p l e (headSpec ow_dm_X14_read ({ frames := 5, cells := 0, slots := 0, locals := 120 })).room s m args below meth c Q A (dC, dI) cX14_read .int (St) (dw_X14 a ac) r) : dj_X14_read_0 p l e s m args below meth c Q A dC dI a ac (df_X14_read_0 n) r := by
  obtain ⟨hlt, hx, hb, hml, hown, hts, hN, hA, hK⟩ := id C
  intro v1 s0 H locs ls h hP hD hS hl
  unfold df_X14_read_0 at h
  refine lv_aload_n hx hb dX14_read_0 rfl (lv_at hl 0 rfl) ?_
  refine lv_aload_n hx hb dX14_read_1 rfl (lv_at hl 1 rfl) ?_
  refine va_put (D := (dC, dI)) (ci := 15) (v := .ref (a 6)) (ty := .array .int) (C := RX14) (T := TX14) (N := 11) hx hb hts hi_dm_X14_read_X14 tyX14 tyX14_ok nmX14 hown hK hP hD hS 0 rfl rfl 7 (by decide) (hts (.fieldLink RX14 78 "TimeMachineModel$Codec" "log" "[I") (List.mem_of_getElem? (i := 1) rfl)) (fun _ h9 => h9) rfl (by decide +kernel) rfl rfl (Nat.le_of_ble_eq_true rfl) dX14_read_2 (fun H locs hP hD hS => ?_)
  obtain ⟨s1, es1, h⟩ := nd_let_e h
  have hP : va_P (dC, dI) vwCl (dw_X14 a ac s1) H := by rw [es1]; exact hP
  have hD : va_D A (dw_X14 a ac s1) := by rw [es1]; exact hD
  refine lv_aload_n hx hb dX14_read_5 rfl (lv_at hl 0 rfl) ?_
  refine lv_iload_n hx hb dX14_read_6 rfl (lv_at hl 2 rfl) ?_
  refine va_put (D := (dC, dI)) (ci := 15) (v := .int v1) (ty := .int) (C := RX14) (T := TX14) (N := 11) hx hb hts hi_dm_X14_read_X14 tyX14 tyX14_ok nmX14 hown hK hP hD hS 0 rfl rfl 8 (by decide) (hts (.fieldLink RX14 71 "TimeMachineModel$Codec" "length" "I") (List.mem_of_getElem? (i := 2) rfl)) (fun _ h9 => h9) rfl (by decide +kernel) rfl rfl (Nat.le_of_ble_eq_true rfl) dX14_read_7 (fun H locs hP hD hS => ?_)
  obtain ⟨s2, es2, h⟩ := nd_let_e h
  have hP : va_P (dC, dI) vwCl (dw_X14 a ac s2) H := by rw [es2]; exact hP
  have hD : va_D A (dw_X14 a ac s2) := by rw [es2]; exact hD
  refine lv_aload_n hx hb dX14_read_10 rfl (lv_at hl 0 rfl) ?_
  refine lv_aload_n hx hb dX14_read_11 rfl (lv_at hl 0 rfl) ?_
  refine lv_aload_n hx hb dX14_read_12 rfl (lv_at hl 0 rfl) ?_
  refine lv_iconst (v := 0) hx hb dX14_read_13 (by decide) ?_
  refine lv_dup_x1 hx hb dX14_read_14 rfl rfl ?_
  refine va_put (D := (dC, dI)) (ci := 15) (v := .int 0) (ty := .int) (C := RX14) (T := TX14) (N := 11) hx hb hts hi_dm_X14_read_X14 tyX14 tyX14_ok nmX14 hown hK hP hD hS 0 rfl rfl 0 (by decide) (hts (.fieldLink RX14 27 "TimeMachineModel$Codec" "events" "I") (List.mem_of_getElem? (i := 3) rfl)) (fun _ h9 => h9) rfl (by decide +kernel) rfl rfl (Nat.le_of_ble_eq_true rfl) dX14_read_15 (fun H locs hP hD hS => ?_)
  obtain ⟨s3, es3, h⟩ := nd_let_e h
  have hP : va_P (dC, dI) vwCl (dw_X14 a ac s3) H := by rw [es3]; exact hP
  have hD : va_D A (dw_X14 a ac s3) := by rw [es3]; exact hD
  refine lv_dup_x1 hx hb dX14_read_18 rfl rfl ?_
  refine va_put (D := (dC, dI)) (ci := 15) (v := .int 0) (ty := .int) (C := RX14) (T := TX14) (N := 11) hx hb hts hi_dm_X14_read_X14 tyX14 tyX14_ok nmX14 hown hK hP hD hS 0 rfl rfl 10 (by decide) (hts (.fieldLink RX14 65 "TimeMachineModel$Codec" "fault" "I") (List.mem_of_getElem? (i := 4) rfl)) (fun _ h9 => h9) rfl (by decide +kernel) rfl rfl (Nat.le_of_ble_eq_true rfl) dX14_read_19 (fun H locs hP hD hS => ?_)
  obtain ⟨s4, es4, h⟩ := nd_let_e h
  have hP : va_P (dC, dI) vwCl (dw_X14 a ac s4) H := by rw [es4]; exact hP
  have hD : va_D A (dw_X14 a ac s4) := by rw [es4]; exact hD
  refine va_put (D := (dC, dI)) (ci := 15) (v := .int 0) (ty := .int) (C := RX14) (T := TX14) (N := 11) hx hb hts hi_dm_X14_read_X14 tyX14 tyX14_ok nmX14 hown hK hP hD hS 0 rfl rfl 9 (by decide) (hts (.fieldLink RX14 68 "TimeMachineModel$Codec" "at" "I") (List.mem_of_getElem? (i := 5) rfl)) (fun _ h9 => h9) rfl (by decide +kernel) rfl rfl (Nat.le_of_ble_eq_true rfl) dX14_read_22 (fun H locs hP hD hS => ?_)
  obtain ⟨s5, es5, h⟩ := nd_let_e h
  have hP : va_P (dC, dI) vwCl (dw_X14 a ac s5) H := by rw [es5]; exact hP
  have hD : va_D A (dw_X14 a ac s5) := by rw [es5]; exact hD
  refine lv_aload_n hx hb dX14_read_25 rfl (lv_at hl 0 rfl) ?_
  obtain ⟨q6, s7, hq, h⟩ := nd_b2_e h
  have hPc := hP
  have hDc := hD
  have hKc := hK
  have hFc := nd_rs hD hS hA
  refine nd_cVl (As := []) (rest := []) (q := q6) (w' := dw_X14 a ac s7) ⟨hx, hb, hml, hown, hts⟩ (fun sz => dm_X14_readVarint l hlt dC dI a ac n  s5 hq sz) (cwV 0 hts gi_dm_X14_read_0 rfl rfl rfl (by decide +kernel) ⟨Nat.le_of_ble_eq_true rfl, Nat.le_of_ble_eq_true rfl⟩) hPc hDc hKc hS hA hN (va_recv hKc hPc (ci := 15) (q0 := 0) rfl rfl) rfl hl.1 rfl (Nat.le_of_ble_eq_true rfl) dX14_read_26 (fun H locs hP1 hD1 hk1 hS => ?_)
  have hP := hP1
  have hD := hD1.weaken (fun k q _ h => hFc q.1 h)
  refine lv_lstore_n (lv' := [(3, .long q6), (0, .ref (a 0)), (1, .ref (a 6)), (2, .int v1)]) hx hb dX14_read_29 rfl hl (by decide) rfl (fun ls hl => ?_)
  refine lv_lload_n hx hb dX14_read_30 rfl (lv_at hl 0 rfl) ?_
  refine lv_ldc2 hx hb hown (hts (.constantLong RX14 106 (2048)) (List.mem_of_getElem? (i := 10) rfl)) dX14_read_31 ?_
  refine W.lcmp hx hb dX14_read_34 ?_
  refine lv_if_le (tgt := 45) hx hb dX14_read_35 (by decide) (fun c9 => ?_) (fun c9 => ?_)
  · have h := nd_pos h c9
    exact (db_X14_read_45 C K n) (q6) s7 _ _ _ h hP hD hS (lv_sub hl [1, 0] rfl)
  · have h := nd_neg h c9
    refine lv_aload_n hx hb dX14_read_38 rfl (lv_at hl 1 rfl) ?_
    refine lv_bipush (v := 6) hx hb dX14_read_39 (by decide) ?_
    refine lv_iconst (v := 0) hx hb dX14_read_41 (by decide) ?_
    obtain ⟨s30, hq, h⟩ := nd_b1_e h
    have hPc := hP
    have hDc := hD
    have hKc := hK
    have hFc := nd_rs hD hS hA
    refine nd_cVv (As := [.int 6, .int 0]) (rest := []) (w' := dw_X14 a ac s30) ⟨hx, hb, hml, hown, hts⟩ (fun sz => dm_X14_meet l hlt dC dI a ac n (6) (0) s7 hq sz) (cwV 2 hts gi_dm_X14_read_1 rfl rfl rfl (by decide +kernel) ⟨Nat.le_of_ble_eq_true rfl, Nat.le_of_ble_eq_true rfl⟩) hPc hDc hKc hS hA hN (va_recv hKc hPc (ci := 15) (q0 := 0) rfl rfl) rfl hl.1 rfl (Nat.le_of_ble_eq_true rfl) dX14_read_42 (fun H locs hP1 hD1 hk1 hS => ?_)
    have hP := hP1
    have hD := hD1.weaken (fun k q _ h => hFc q.1 h)
    exact (db_X14_read_45 C K n) (q6) s30 _ _ _ h hP hD hS (lv_sub hl [1, 0] rfl)
set_option maxHeartbeats 40000000 in
set_option maxRecDepth 100000 in
theorem dm_X14_read (l : Launch) (hlt : l.stackTraces = false) (dC : Nat → ClassId) (dI : Nat → Nat → Nat) (a : Nat → Nat) (ac : Nat → ClassId) (n : Nat) (v1 : Int32) (s0 : St) {r : Int32 × (St)} (h : df_X14_read n v1 s0 = some r) (sz : Nat) : Met l yX14_read ow_dm_X14_read ({ frames := 5, cells := 0, slots := 0, locals := 120 }) (va_Pc [.ref (a 0), .ref (a 6), .int v1] (fun U => U.heap.size = sz ∧ va_P (dC, dI) vwCl (dw_X14 a ac s0) U.heap ∧ va_K (dC, dI) vwCl (dk_X14 ac) U ∧ va_D (fun _ => True) (dw_X14 a ac s0) ∧ nv_E dI (va_A (dw_X14 a ac s0) sz) U)) (va_Qi (fun x _ => x = r.1) (fun (_ : Unit) t => va_P (dC, dI) vwCl (dw_X14 a ac r.2) t.heap ∧ va_K (dC, dI) vwCl (dk_X14 ac) t ∧ va_D (va_A (dw_X14 a ac s0) sz) (dw_X14 a ac r.2)) (va_A (dw_X14 a ac s0) sz)) 0 0 (va_A (dw_X14 a ac s0) sz) := by
  refine Met.ofW (cc := cX14_read) (maxL := 7) (ret := (some .int)) (by decide) rfl ?_
  intro p e s m args below meth c s₁ B hml hv
  obtain ⟨rfl, hsz, hP, hK, hD0, hN⟩ := hv
  have hx := B.exec
  have hb := B.bytes
  have hr := B.returns
  have hts := atoms_spec (ws := ow_dm_X14_read) B.pre
  have hown : s.vm.findClass RX14 = some m.cls := findClass_of_methodNamed B.named
  have hlocks := B.notSynchronized
  subst hsz
  have hD := hD0.self (sz := s.heap.size)
  generalize hAe : va_A (dw_X14 a ac s0) s.heap.size = A at hD hN ⊢
  have hA : ∀ q : Nat, s.heap.size ≤ q → A q := fun q h => by rw [← hAe]; exact Or.inr h
  have hl := lv_entry ([.ref (a 0), .ref (a 6), .int v1]) (n := 7) (Nat.le_of_ble_eq_true rfl)
  rw [lg_entry_eq]
  generalize (lg_sl ([.ref (a 0), .ref (a 6), .int v1]) ++ List.replicate (7 - (lg_sl ([.ref (a 0), .ref (a 6), .int v1])).length) Slot.unset).toArray = ls at hl ⊢
  have hl : lv_has ls 7 [(0, .ref (a 0)), (1, .ref (a 6)), (2, .int v1)] := hl
  exact db_X14_read_0 (dC := dC) (dI := dI) (a := a) (ac := ac) (n := n) (r := r) ⟨hlt, hx, hb, hml, hown, hts, hN, hA, hK⟩ (fun pc v τ H locs ls d z er hP hD hS => by subst er; exact W.zret (v := v) hx hb hr z (fun t ht hW => ⟨⟨v, (), rfl, rfl, by rw [ht]; exact hP, va_K.moved hW.alike hK, hD⟩, hS.F ht⟩) hS.2.2 d) v1 s0 _ _ _ h hP hD va_S.rf (lv_sub hl [0, 1, 2] rfl)
def ow_dm_X17_byteAt : List Cond := Cond.code yX17_byteAt cX17_byteAt 3 (some .int) :: ([Cond.fieldLink RX17 24 "TimeMachineModel$Programs" "image" "[I"] ++ (u_ws RX17 TX17 5 ++ []))
theorem gd_dm_X17_byteAt : ∀ w ∈ ow_dm_X17_byteAt, (w.onTables && w.keeps) = true ∨ ∃ ty, w = Cond.arrayClass ty := List.forall_mem_cons.mpr ⟨good_of_word rfl, List.forall_mem_append.mpr ⟨fun w h => good_of_word (List.all_eq_true.mp (by decide +kernel) w h), List.forall_mem_append.mpr ⟨gu_X17, fun _ h => nomatch h⟩⟩⟩
theorem hi_dm_X17_byteAt_X17 : ∀ w ∈ u_ws RX17 TX17 5, w ∈ ow_dm_X17_byteAt := fun w h => List.mem_cons_of_mem _ (List.mem_append_right _ (List.mem_append_left _ h))
def dj_X17_byteAt_0 (p : Program) (l : Launch) (e : Env) (s : State) (m : MethodId) (args : Array Value) (below : List Frame) (meth : Method) (c : Code) (Q : State → Prop) (A : Nat → Prop) (dC : Nat → ClassId) (dI : Nat → Nat → Nat) (a : Nat → Nat) (ac : Nat → ClassId) (g : Int32 → Int32 → (St) → Option (Int32 × (St))) (r : Int32 × (St)) : Prop := ∀ (v0 : Int32) (v1 : Int32) (s0 : St) (H : Heap) (locs : List Loc) (ls : Array Slot), g v0 v1 s0 = some r → va_P (dC, dI) vwCl (dw_X17 a ac s0) H → va_D A (dw_X17 a ac s0) → va_S A s.heap H locs → lv_has ls 3 [(0, .ref (a 0)), (1, .int v0), (2, .int v1)] → W p l e (headSpec ow_dm_X17_byteAt ({ frames := 0, cells := 0, slots := 0, locals := 0 })).room s m args below meth c H locs 0 0 Q (F0 m 0 ls [])
set_option maxHeartbeats 40000000 in
set_option maxRecDepth 100000 in
theorem db_X17_byteAt_0 {p : Program} {l : Launch} {e : Env} {s : State} {m : MethodId} {args : Array Value} {below : List Frame} {meth : Method} {c : Code} {Q : State → Prop} {A : Nat → Prop} {dC : Nat → ClassId} {dI : Nat → Nat → Nat} {a : Nat → Nat} {ac : Nat → ClassId} {n : Nat} {r : Int32 × (St)} (C : nd_C p l s m args c A (dC, dI) cX17_byteAt 3 RX17 ow_dm_X17_byteAt (dk_X17 ac)) (K : nd_Ki p l e (headSpec ow_dm_X17_byteAt ({ frames := 0, cells := 0, slots := 0, locals := 0 })).room s m args below meth c Q A (dC, dI) cX17_byteAt .int (St) (dw_X17 a ac) r) : dj_X17_byteAt_0 p l e s m args below meth c Q A dC dI a ac (df_X17_byteAt_0 n) r := by
  obtain ⟨hlt, hx, hb, hml, hown, hts, hN, hA, hK⟩ := id C
  intro v0 v1 s0 H locs ls h hP hD hS hl
  unfold df_X17_byteAt_0 at h
  refine lv_aload_n hx hb dX17_byteAt_0 rfl (lv_at hl 0 rfl) ?_
  refine va_get (D := (dC, dI)) (ci := 18) (v := .ref (a 5)) (C := RX17) (T := TX17) (N := 5) hx hb hts hi_dm_X17_byteAt_X17 hown hK hP 0 rfl rfl 4 (by decide) (hts (.fieldLink RX17 24 "TimeMachineModel$Programs" "image" "[I") (List.mem_of_getElem? (i := 1) rfl)) (fun _ h9 => h9) rfl dX17_byteAt_1 ?_
  refine lv_sipush (v := 8192) hx hb dX17_byteAt_4 (by decide) ?_
  refine lv_iload_n hx hb dX17_byteAt_7 rfl (lv_at hl 1 rfl) ?_
  refine lv_imul hx hb dX17_byteAt_8 ?_
  refine lv_iload_n hx hb dX17_byteAt_9 rfl (lv_at hl 2 rfl) ?_
  refine lv_iconst (v := 4) hx hb dX17_byteAt_10 (by decide) ?_
  refine lv_idiv hx hb dX17_byteAt_11 (by decide) ?_
  refine lv_iadd hx hb dX17_byteAt_12 ?_
  obtain ⟨i1, h⟩ := nd_ck_e h
  refine va_iald (i := ((8192 * v0) + ((v1 : Int32) / 4))) hx hb hK hP 5 4 rfl rfl i1 dX17_byteAt_13 ?_
  refine lv_bipush (v := 8) hx hb dX17_byteAt_14 (by decide) ?_
  refine lv_iload_n hx hb dX17_byteAt_16 rfl (lv_at hl 2 rfl) ?_
  refine lv_iconst (v := 4) hx hb dX17_byteAt_17 (by decide) ?_
  refine lv_irem hx hb dX17_byteAt_18 (by decide) ?_
  refine lv_imul hx hb dX17_byteAt_19 ?_
  refine lv_iushr hx hb dX17_byteAt_20 rfl ?_
  refine lv_sipush (v := 255) hx hb dX17_byteAt_21 (by decide) ?_
  refine lv_iand hx hb dX17_byteAt_24 ?_
  exact K _ _ _ _ _ _ dX17_byteAt_25 rfl (Option.some.inj h).symm hP hD hS

