def ow_dm_X14_clear : List Cond := .code yX14_clear cX14_clear 1 none :: ([.fieldLink RX14 27 "TimeMachineModel$Codec" "events" "I"] ++ (u_ws RX14 TX14 11 ++ []))
theorem gd_dm_X14_clear : ∀ w ∈ ow_dm_X14_clear, (w.onTables && w.keeps) = true ∨ ∃ ty, w = Cond.arrayClass ty := List.forall_mem_cons.mpr ⟨good_of_word rfl, List.forall_mem_append.mpr ⟨fun w h => good_of_word (List.all_eq_true.mp (by decide +kernel) w h), List.forall_mem_append.mpr ⟨gu_X14, fun _ h => nomatch h⟩⟩⟩
theorem hi_dm_X14_clear_X14 : ∀ w ∈ u_ws RX14 TX14 11, w ∈ ow_dm_X14_clear := fun w h => List.mem_cons_of_mem _ (List.mem_append_right _ (List.mem_append_left _ h))
def dj_X14_clear_0 (p : Program) (l : Launch) (e : Env) (s : State) (m : MethodId) (args : Array Value) (below : List Frame) (meth : Method) (c : Code) (Q : State → Prop) (A : Nat → Prop) (dC : Nat → ClassId) (dI : Nat → Nat → Nat) (a : Nat → Nat) (ac : Nat → ClassId) (g : (St) → Option (St)) (r : St) : Prop := ∀ (s0 : St) (H : Heap) (locs : List Loc) (ls : Array Slot), g s0 = some r → va_P (dC, dI) vwCl (dw_X14 a ac s0) H → va_D A (dw_X14 a ac s0) → va_S A s.heap H locs → lv_has ls 1 [(0, .ref (a 0))] → W p l e (headSpec ow_dm_X14_clear ({ frames := 0, cells := 0, slots := 0, locals := 0 })).room s m args below meth c H locs 0 0 Q (F0 m 0 ls [])
set_option maxHeartbeats 40000000 in
set_option maxRecDepth 100000 in
theorem db_X14_clear_0 {p : Program} {l : Launch} {e : Env} {s : State} {m : MethodId} {args : Array Value} {below : List Frame} {meth : Method} {c : Code} {Q : State → Prop} {A : Nat → Prop} {dC : Nat → ClassId} {dI : Nat → Nat → Nat} {a : Nat → Nat} {ac : Nat → ClassId} {n : Nat} {r : St} (C : nd_C p l s m args c A (dC, dI) cX14_clear 1 RX14 ow_dm_X14_clear (dk_X14 ac)) (K : nd_Kv p l e (headSpec ow_dm_X14_clear ({ frames := 0, cells := 0, slots := 0, locals := 0 })).room s m args below meth c Q A (dC, dI) cX14_clear (St) (dw_X14 a ac) r) : dj_X14_clear_0 p l e s m args below meth c Q A dC dI a ac (df_X14_clear_0 n) r := by
  obtain ⟨hlt, hx, hb, hml, hown, hts, hN, hA, hK⟩ := id C
  intro s0 H locs ls h hP hD hS hl
  unfold df_X14_clear_0 at h
  refine lv_aload_n hx hb dX14_clear_0 rfl (lv_at hl 0 rfl) ?_
  refine lv_iconst (v := 0) hx hb dX14_clear_1 (by decide) ?_
  refine va_put (D := (dC, dI)) (ci := 15) (v := .int 0) (ty := .int) (C := RX14) (T := TX14) (N := 11) hx hb hts hi_dm_X14_clear_X14 tyX14 tyX14_ok nmX14 hown hK hP hD hS 0 rfl rfl 0 (by decide) (hts (.fieldLink RX14 27 "TimeMachineModel$Codec" "events" "I") (List.mem_of_getElem? (i := 1) rfl)) (fun _ h9 => h9) rfl (by decide +kernel) rfl rfl (Nat.le_of_ble_eq_true rfl) dX14_clear_2 (fun H locs hP hD hS => ?_)
  obtain ⟨s1, es1, h⟩ := nd_let_e h
  have hP : va_P (dC, dI) vwCl (dw_X14 a ac s1) H := by rw [es1]; exact hP
  have hD : va_D A (dw_X14 a ac s1) := by rw [es1]; exact hD
  exact K _ _ _ _ _ dX14_clear_5 (Option.some.inj h).symm hP hD hS
set_option maxHeartbeats 40000000 in
set_option maxRecDepth 100000 in
theorem dm_X14_clear (l : Launch) (hlt : l.stackTraces = false) (dC : Nat → ClassId) (dI : Nat → Nat → Nat) (a : Nat → Nat) (ac : Nat → ClassId) (n : Nat) (s0 : St) {r : St} (h : df_X14_clear n s0 = some r) (sz : Nat) : Met l yX14_clear ow_dm_X14_clear ({ frames := 0, cells := 0, slots := 0, locals := 0 }) (va_Pc [.ref (a 0)] (fun U => U.heap.size = sz ∧ va_P (dC, dI) vwCl (dw_X14 a ac s0) U.heap ∧ va_K (dC, dI) vwCl (dk_X14 ac) U ∧ va_D (fun _ => True) (dw_X14 a ac s0) ∧ nv_E (va_A (dw_X14 a ac s0) sz) U)) (va_Qv (fun _ => True) (fun (_ : Unit) t => va_P (dC, dI) vwCl (dw_X14 a ac r) t.heap ∧ va_K (dC, dI) vwCl (dk_X14 ac) t ∧ va_D (va_A (dw_X14 a ac s0) sz) (dw_X14 a ac r)) (va_A (dw_X14 a ac s0) sz)) 0 0 (va_A (dw_X14 a ac s0) sz) := by
  refine Met.ofW (cc := cX14_clear) (maxL := 1) (ret := none) (by decide) rfl ?_
  intro p e s m args below meth c s₁ B hml hv
  obtain ⟨rfl, hsz, hP, hK, hD0, hN⟩ := hv
  have hx := B.exec
  have hb := B.bytes
  have hr := B.returns
  have hts := atoms_spec (ws := ow_dm_X14_clear) B.pre
  have hown : s.vm.findClass RX14 = some m.cls := findClass_of_methodNamed B.named
  have hlocks := B.notSynchronized
  subst hsz
  have hD := hD0.self (sz := s.heap.size)
  generalize hAe : va_A (dw_X14 a ac s0) s.heap.size = A at hD hN ⊢
  have hA : ∀ q : Nat, s.heap.size ≤ q → A q := fun q h => by rw [← hAe]; exact Or.inr h
  have hl := lv_entry ([.ref (a 0)]) (n := 1) (Nat.le_of_ble_eq_true rfl)
  rw [lg_entry_eq]
  generalize (lg_sl ([.ref (a 0)]) ++ List.replicate (1 - (lg_sl ([.ref (a 0)])).length) Slot.unset).toArray = ls at hl ⊢
  have hl : lv_has ls 1 [(0, .ref (a 0))] := hl
  exact db_X14_clear_0 (dC := dC) (dI := dI) (a := a) (ac := ac) (n := n) (r := r) ⟨hlt, hx, hb, hml, hown, hts, hN, hA, hK⟩ (fun pc τ H locs ls d er hP hD hS => by subst er; exact W.vret hx hb hr (fun t ht hW => ⟨⟨(), rfl, trivial, by rw [ht]; exact hP, va_K.moved hW.alike hK, hD⟩, hS.F ht⟩) hS.2.2 d) s0 _ _ _ h hP hD va_S.rf (lv_sub hl [0] rfl)
def ow_dm_X14_take : List Cond := .code yX14_take cX14_take 7 none :: ([.fieldLink RX14 9 "TimeMachineModel$Codec" "kind" "[I", .fieldLink RX14 27 "TimeMachineModel$Codec" "events" "I", .fieldLink RX14 16 "TimeMachineModel$Codec" "difference" "[J", .fieldLink RX14 20 "TimeMachineModel$Codec" "a" "[J", .fieldLink RX14 13 "TimeMachineModel$Codec" "b" "[I"] ++ (u_ws RX14 TX14 11 ++ []))
theorem gd_dm_X14_take : ∀ w ∈ ow_dm_X14_take, (w.onTables && w.keeps) = true ∨ ∃ ty, w = Cond.arrayClass ty := List.forall_mem_cons.mpr ⟨good_of_word rfl, List.forall_mem_append.mpr ⟨fun w h => good_of_word (List.all_eq_true.mp (by decide +kernel) w h), List.forall_mem_append.mpr ⟨gu_X14, fun _ h => nomatch h⟩⟩⟩
theorem hi_dm_X14_take_X14 : ∀ w ∈ u_ws RX14 TX14 11, w ∈ ow_dm_X14_take := fun w h => List.mem_cons_of_mem _ (List.mem_append_right _ (List.mem_append_left _ h))
def dj_X14_take_0 (p : Program) (l : Launch) (e : Env) (s : State) (m : MethodId) (args : Array Value) (below : List Frame) (meth : Method) (c : Code) (Q : State → Prop) (A : Nat → Prop) (dC : Nat → ClassId) (dI : Nat → Nat → Nat) (a : Nat → Nat) (ac : Nat → ClassId) (g : Int32 → Int64 → Int64 → Int32 → (St) → Option (St)) (r : St) : Prop := ∀ (v0 : Int32) (v1 : Int64) (v2 : Int64) (v3 : Int32) (s0 : St) (H : Heap) (locs : List Loc) (ls : Array Slot), g v0 v1 v2 v3 s0 = some r → va_P (dC, dI) vwCl (dw_X14 a ac s0) H → va_D A (dw_X14 a ac s0) → va_S A s.heap H locs → lv_has ls 7 [(0, .ref (a 0)), (1, .int v0), (2, .long v1), (4, .long v2), (6, .int v3)] → W p l e (headSpec ow_dm_X14_take ({ frames := 0, cells := 0, slots := 0, locals := 0 })).room s m args below meth c H locs 0 0 Q (F0 m 0 ls [])
set_option maxHeartbeats 40000000 in
set_option maxRecDepth 100000 in
theorem db_X14_take_0 {p : Program} {l : Launch} {e : Env} {s : State} {m : MethodId} {args : Array Value} {below : List Frame} {meth : Method} {c : Code} {Q : State → Prop} {A : Nat → Prop} {dC : Nat → ClassId} {dI : Nat → Nat → Nat} {a : Nat → Nat} {ac : Nat → ClassId} {n : Nat} {r : St} (C : nd_C p l s m args c A (dC, dI) cX14_take 7 RX14 ow_dm_X14_take (dk_X14 ac)) (K : nd_Kv p l e (headSpec ow_dm_X14_take ({ frames := 0, cells := 0, slots := 0, locals := 0 })).room s m args below meth c Q A (dC, dI) cX14_take (St) (dw_X14 a ac) r) : dj_X14_take_0 p l e s m args below meth c Q A dC dI a ac (df_X14_take_0 n) r := by
  obtain ⟨hlt, hx, hb, hml, hown, hts, hN, hA, hK⟩ := id C
  intro v0 v1 v2 v3 s0 H locs ls h hP hD hS hl
  unfold df_X14_take_0 at h
  refine lv_aload_n hx hb dX14_take_0 rfl (lv_at hl 0 rfl) ?_
  refine va_get (D := (dC, dI)) (ci := 15) (v := .ref (a 1)) (C := RX14) (T := TX14) (N := 11) hx hb hts hi_dm_X14_take_X14 hown hK hP 0 rfl rfl 1 (by decide) (hts (.fieldLink RX14 9 "TimeMachineModel$Codec" "kind" "[I") (List.mem_of_getElem? (i := 1) rfl)) (fun _ h9 => h9) rfl dX14_take_1 ?_
  refine lv_aload_n hx hb dX14_take_4 rfl (lv_at hl 0 rfl) ?_
  refine va_get (D := (dC, dI)) (ci := 15) (v := .int (sI s0 0)) (C := RX14) (T := TX14) (N := 11) hx hb hts hi_dm_X14_take_X14 hown hK hP 0 rfl rfl 0 (by decide) (hts (.fieldLink RX14 27 "TimeMachineModel$Codec" "events" "I") (List.mem_of_getElem? (i := 2) rfl)) (fun _ h9 => h9) rfl dX14_take_5 ?_
  refine lv_iload_n hx hb dX14_take_8 rfl (lv_at hl 1 rfl) ?_
  obtain ⟨i1, h⟩ := nd_ck_e h
  refine va_iast (i := (sI s0 0)) (x := v0) hx hb hK hP hD hS 1 0 rfl rfl i1 dX14_take_9 (fun H locs hP hD hS => ?_)
  obtain ⟨s2, es2, h⟩ := nd_let_e h
  have hP : va_P (dC, dI) vwCl (dw_X14 a ac s2) H := by rw [es2]; exact hP
  have hD : va_D A (dw_X14 a ac s2) := by rw [es2]; exact hD
  refine lv_aload_n hx hb dX14_take_10 rfl (lv_at hl 0 rfl) ?_
  refine va_get (D := (dC, dI)) (ci := 15) (v := .ref (a 3)) (C := RX14) (T := TX14) (N := 11) hx hb hts hi_dm_X14_take_X14 hown hK hP 0 rfl rfl 3 (by decide) (hts (.fieldLink RX14 16 "TimeMachineModel$Codec" "difference" "[J") (List.mem_of_getElem? (i := 3) rfl)) (fun _ h9 => h9) rfl dX14_take_11 ?_
  refine lv_aload_n hx hb dX14_take_14 rfl (lv_at hl 0 rfl) ?_
  refine va_get (D := (dC, dI)) (ci := 15) (v := .int (sI s2 0)) (C := RX14) (T := TX14) (N := 11) hx hb hts hi_dm_X14_take_X14 hown hK hP 0 rfl rfl 0 (by decide) (hts (.fieldLink RX14 27 "TimeMachineModel$Codec" "events" "I") (List.mem_of_getElem? (i := 2) rfl)) (fun _ h9 => h9) rfl dX14_take_15 ?_
  refine lv_lload_n hx hb dX14_take_18 rfl (lv_at hl 2 rfl) ?_
  obtain ⟨i3, h⟩ := nd_ck_e h
  refine va_last (i := (sI s2 0)) (x := v1) hx hb hK hP hD hS 3 2 rfl rfl i3 dX14_take_19 (fun H locs hP hD hS => ?_)
  obtain ⟨s4, es4, h⟩ := nd_let_e h
  have hP : va_P (dC, dI) vwCl (dw_X14 a ac s4) H := by rw [es4]; exact hP
  have hD : va_D A (dw_X14 a ac s4) := by rw [es4]; exact hD
  refine lv_aload_n hx hb dX14_take_20 rfl (lv_at hl 0 rfl) ?_
  refine va_get (D := (dC, dI)) (ci := 15) (v := .ref (a 4)) (C := RX14) (T := TX14) (N := 11) hx hb hts hi_dm_X14_take_X14 hown hK hP 0 rfl rfl 4 (by decide) (hts (.fieldLink RX14 20 "TimeMachineModel$Codec" "a" "[J") (List.mem_of_getElem? (i := 4) rfl)) (fun _ h9 => h9) rfl dX14_take_21 ?_
  refine lv_aload_n hx hb dX14_take_24 rfl (lv_at hl 0 rfl) ?_
  refine va_get (D := (dC, dI)) (ci := 15) (v := .int (sI s4 0)) (C := RX14) (T := TX14) (N := 11) hx hb hts hi_dm_X14_take_X14 hown hK hP 0 rfl rfl 0 (by decide) (hts (.fieldLink RX14 27 "TimeMachineModel$Codec" "events" "I") (List.mem_of_getElem? (i := 2) rfl)) (fun _ h9 => h9) rfl dX14_take_25 ?_
  refine lv_lload hx hb dX14_take_28 (lv_at hl 3 rfl) ?_
  obtain ⟨i5, h⟩ := nd_ck_e h
  refine va_last (i := (sI s4 0)) (x := v2) hx hb hK hP hD hS 4 3 rfl rfl i5 dX14_take_30 (fun H locs hP hD hS => ?_)
  obtain ⟨s6, es6, h⟩ := nd_let_e h
  have hP : va_P (dC, dI) vwCl (dw_X14 a ac s6) H := by rw [es6]; exact hP
  have hD : va_D A (dw_X14 a ac s6) := by rw [es6]; exact hD
  refine lv_aload_n hx hb dX14_take_31 rfl (lv_at hl 0 rfl) ?_
  refine va_get (D := (dC, dI)) (ci := 15) (v := .ref (a 2)) (C := RX14) (T := TX14) (N := 11) hx hb hts hi_dm_X14_take_X14 hown hK hP 0 rfl rfl 2 (by decide) (hts (.fieldLink RX14 13 "TimeMachineModel$Codec" "b" "[I") (List.mem_of_getElem? (i := 5) rfl)) (fun _ h9 => h9) rfl dX14_take_32 ?_
  refine lv_aload_n hx hb dX14_take_35 rfl (lv_at hl 0 rfl) ?_
  refine va_get (D := (dC, dI)) (ci := 15) (v := .int (sI s6 0)) (C := RX14) (T := TX14) (N := 11) hx hb hts hi_dm_X14_take_X14 hown hK hP 0 rfl rfl 0 (by decide) (hts (.fieldLink RX14 27 "TimeMachineModel$Codec" "events" "I") (List.mem_of_getElem? (i := 2) rfl)) (fun _ h9 => h9) rfl dX14_take_36 ?_
  refine lv_iload hx hb dX14_take_39 (lv_at hl 4 rfl) ?_
  obtain ⟨i7, h⟩ := nd_ck_e h
  refine va_iast (i := (sI s6 0)) (x := v3) hx hb hK hP hD hS 2 1 rfl rfl i7 dX14_take_41 (fun H locs hP hD hS => ?_)
  obtain ⟨s8, es8, h⟩ := nd_let_e h
  have hP : va_P (dC, dI) vwCl (dw_X14 a ac s8) H := by rw [es8]; exact hP
  have hD : va_D A (dw_X14 a ac s8) := by rw [es8]; exact hD
  refine lv_aload_n hx hb dX14_take_42 rfl (lv_at hl 0 rfl) ?_
  refine lv_dup hx hb dX14_take_43 rfl ?_
  refine va_get (D := (dC, dI)) (ci := 15) (v := .int (sI s8 0)) (C := RX14) (T := TX14) (N := 11) hx hb hts hi_dm_X14_take_X14 hown hK hP 0 rfl rfl 0 (by decide) (hts (.fieldLink RX14 27 "TimeMachineModel$Codec" "events" "I") (List.mem_of_getElem? (i := 2) rfl)) (fun _ h9 => h9) rfl dX14_take_44 ?_
  refine lv_iconst (v := 1) hx hb dX14_take_47 (by decide) ?_
  refine lv_iadd hx hb dX14_take_48 ?_
  refine va_put (D := (dC, dI)) (ci := 15) (v := .int ((sI s8 0) + 1)) (ty := .int) (C := RX14) (T := TX14) (N := 11) hx hb hts hi_dm_X14_take_X14 tyX14 tyX14_ok nmX14 hown hK hP hD hS 0 rfl rfl 0 (by decide) (hts (.fieldLink RX14 27 "TimeMachineModel$Codec" "events" "I") (List.mem_of_getElem? (i := 2) rfl)) (fun _ h9 => h9) rfl (by decide +kernel) rfl rfl (Nat.le_of_ble_eq_true rfl) dX14_take_49 (fun H locs hP hD hS => ?_)
  obtain ⟨s9, es9, h⟩ := nd_let_e h
  have hP : va_P (dC, dI) vwCl (dw_X14 a ac s9) H := by rw [es9]; exact hP
  have hD : va_D A (dw_X14 a ac s9) := by rw [es9]; exact hD
  exact K _ _ _ _ _ dX14_take_52 (Option.some.inj h).symm hP hD hS
set_option maxHeartbeats 40000000 in
set_option maxRecDepth 100000 in
theorem dm_X14_take (l : Launch) (hlt : l.stackTraces = false) (dC : Nat → ClassId) (dI : Nat → Nat → Nat) (a : Nat → Nat) (ac : Nat → ClassId) (n : Nat) (v0 : Int32) (v1 : Int64) (v2 : Int64) (v3 : Int32) (s0 : St) {r : St} (h : df_X14_take n v0 v1 v2 v3 s0 = some r) (sz : Nat) : Met l yX14_take ow_dm_X14_take ({ frames := 0, cells := 0, slots := 0, locals := 0 }) (va_Pc [.ref (a 0), .int v0, .long v1, .long v2, .int v3] (fun U => U.heap.size = sz ∧ va_P (dC, dI) vwCl (dw_X14 a ac s0) U.heap ∧ va_K (dC, dI) vwCl (dk_X14 ac) U ∧ va_D (fun _ => True) (dw_X14 a ac s0) ∧ nv_E (va_A (dw_X14 a ac s0) sz) U)) (va_Qv (fun _ => True) (fun (_ : Unit) t => va_P (dC, dI) vwCl (dw_X14 a ac r) t.heap ∧ va_K (dC, dI) vwCl (dk_X14 ac) t ∧ va_D (va_A (dw_X14 a ac s0) sz) (dw_X14 a ac r)) (va_A (dw_X14 a ac s0) sz)) 0 0 (va_A (dw_X14 a ac s0) sz) := by
  refine Met.ofW (cc := cX14_take) (maxL := 7) (ret := none) (by decide) rfl ?_
  intro p e s m args below meth c s₁ B hml hv
  obtain ⟨rfl, hsz, hP, hK, hD0, hN⟩ := hv
  have hx := B.exec
  have hb := B.bytes
  have hr := B.returns
  have hts := atoms_spec (ws := ow_dm_X14_take) B.pre
  have hown : s.vm.findClass RX14 = some m.cls := findClass_of_methodNamed B.named
  have hlocks := B.notSynchronized
  subst hsz
  have hD := hD0.self (sz := s.heap.size)
  generalize hAe : va_A (dw_X14 a ac s0) s.heap.size = A at hD hN ⊢
  have hA : ∀ q : Nat, s.heap.size ≤ q → A q := fun q h => by rw [← hAe]; exact Or.inr h
  have hl := lv_entry ([.ref (a 0), .int v0, .long v1, .long v2, .int v3]) (n := 7) (Nat.le_of_ble_eq_true rfl)
  rw [lg_entry_eq]
  generalize (lg_sl ([.ref (a 0), .int v0, .long v1, .long v2, .int v3]) ++ List.replicate (7 - (lg_sl ([.ref (a 0), .int v0, .long v1, .long v2, .int v3])).length) Slot.unset).toArray = ls at hl ⊢
  have hl : lv_has ls 7 [(0, .ref (a 0)), (1, .int v0), (2, .long v1), (4, .long v2), (6, .int v3)] := hl
  exact db_X14_take_0 (dC := dC) (dI := dI) (a := a) (ac := ac) (n := n) (r := r) ⟨hlt, hx, hb, hml, hown, hts, hN, hA, hK⟩ (fun pc τ H locs ls d er hP hD hS => by subst er; exact W.vret hx hb hr (fun t ht hW => ⟨⟨(), rfl, trivial, by rw [ht]; exact hP, va_K.moved hW.alike hK, hD⟩, hS.F ht⟩) hS.2.2 d) v0 v1 v2 v3 s0 _ _ _ h hP hD va_S.rf (lv_sub hl [0, 1, 2, 3, 4] rfl)
def ow_dm_X14_put : List Cond := .code yX14_put cX14_put 2 none :: ([.fieldLink RX14 24 "TimeMachineModel$Codec" "packed" "[I", .fieldLink RX14 31 "TimeMachineModel$Codec" "size" "I"] ++ (u_ws RX14 TX14 11 ++ []))
theorem gd_dm_X14_put : ∀ w ∈ ow_dm_X14_put, (w.onTables && w.keeps) = true ∨ ∃ ty, w = Cond.arrayClass ty := List.forall_mem_cons.mpr ⟨good_of_word rfl, List.forall_mem_append.mpr ⟨fun w h => good_of_word (List.all_eq_true.mp (by decide +kernel) w h), List.forall_mem_append.mpr ⟨gu_X14, fun _ h => nomatch h⟩⟩⟩
theorem hi_dm_X14_put_X14 : ∀ w ∈ u_ws RX14 TX14 11, w ∈ ow_dm_X14_put := fun w h => List.mem_cons_of_mem _ (List.mem_append_right _ (List.mem_append_left _ h))
def dj_X14_put_0 (p : Program) (l : Launch) (e : Env) (s : State) (m : MethodId) (args : Array Value) (below : List Frame) (meth : Method) (c : Code) (Q : State → Prop) (A : Nat → Prop) (dC : Nat → ClassId) (dI : Nat → Nat → Nat) (a : Nat → Nat) (ac : Nat → ClassId) (g : Int32 → (St) → Option (St)) (r : St) : Prop := ∀ (v0 : Int32) (s0 : St) (H : Heap) (locs : List Loc) (ls : Array Slot), g v0 s0 = some r → va_P (dC, dI) vwCl (dw_X14 a ac s0) H → va_D A (dw_X14 a ac s0) → va_S A s.heap H locs → lv_has ls 2 [(0, .ref (a 0)), (1, .int v0)] → W p l e (headSpec ow_dm_X14_put ({ frames := 0, cells := 0, slots := 0, locals := 0 })).room s m args below meth c H locs 0 0 Q (F0 m 0 ls [])
set_option maxHeartbeats 40000000 in
set_option maxRecDepth 100000 in
theorem db_X14_put_0 {p : Program} {l : Launch} {e : Env} {s : State} {m : MethodId} {args : Array Value} {below : List Frame} {meth : Method} {c : Code} {Q : State → Prop} {A : Nat → Prop} {dC : Nat → ClassId} {dI : Nat → Nat → Nat} {a : Nat → Nat} {ac : Nat → ClassId} {n : Nat} {r : St} (C : nd_C p l s m args c A (dC, dI) cX14_put 2 RX14 ow_dm_X14_put (dk_X14 ac)) (K : nd_Kv p l e (headSpec ow_dm_X14_put ({ frames := 0, cells := 0, slots := 0, locals := 0 })).room s m args below meth c Q A (dC, dI) cX14_put (St) (dw_X14 a ac) r) : dj_X14_put_0 p l e s m args below meth c Q A dC dI a ac (df_X14_put_0 n) r := by
  obtain ⟨hlt, hx, hb, hml, hown, hts, hN, hA, hK⟩ := id C
  intro v0 s0 H locs ls h hP hD hS hl
  unfold df_X14_put_0 at h
  refine lv_aload_n hx hb dX14_put_0 rfl (lv_at hl 0 rfl) ?_
  refine va_get (D := (dC, dI)) (ci := 15) (v := .ref (a 5)) (C := RX14) (T := TX14) (N := 11) hx hb hts hi_dm_X14_put_X14 hown hK hP 0 rfl rfl 5 (by decide) (hts (.fieldLink RX14 24 "TimeMachineModel$Codec" "packed" "[I") (List.mem_of_getElem? (i := 1) rfl)) (fun _ h9 => h9) rfl dX14_put_1 ?_
  refine lv_aload_n hx hb dX14_put_4 rfl (lv_at hl 0 rfl) ?_
  refine va_get (D := (dC, dI)) (ci := 15) (v := .int (sI s0 1)) (C := RX14) (T := TX14) (N := 11) hx hb hts hi_dm_X14_put_X14 hown hK hP 0 rfl rfl 6 (by decide) (hts (.fieldLink RX14 31 "TimeMachineModel$Codec" "size" "I") (List.mem_of_getElem? (i := 2) rfl)) (fun _ h9 => h9) rfl dX14_put_5 ?_
  refine lv_iload_n hx hb dX14_put_8 rfl (lv_at hl 1 rfl) ?_
  refine lv_sipush (v := 255) hx hb dX14_put_9 (by decide) ?_
  refine lv_iand hx hb dX14_put_12 ?_
  obtain ⟨i1, h⟩ := nd_ck_e h
  refine va_iast (i := (sI s0 1)) (x := (v0 &&& 255)) hx hb hK hP hD hS 5 4 rfl rfl i1 dX14_put_13 (fun H locs hP hD hS => ?_)
  obtain ⟨s2, es2, h⟩ := nd_let_e h
  have hP : va_P (dC, dI) vwCl (dw_X14 a ac s2) H := by rw [es2]; exact hP
  have hD : va_D A (dw_X14 a ac s2) := by rw [es2]; exact hD
  refine lv_aload_n hx hb dX14_put_14 rfl (lv_at hl 0 rfl) ?_
  refine lv_dup hx hb dX14_put_15 rfl ?_
  refine va_get (D := (dC, dI)) (ci := 15) (v := .int (sI s2 1)) (C := RX14) (T := TX14) (N := 11) hx hb hts hi_dm_X14_put_X14 hown hK hP 0 rfl rfl 6 (by decide) (hts (.fieldLink RX14 31 "TimeMachineModel$Codec" "size" "I") (List.mem_of_getElem? (i := 2) rfl)) (fun _ h9 => h9) rfl dX14_put_16 ?_
  refine lv_iconst (v := 1) hx hb dX14_put_19 (by decide) ?_
  refine lv_iadd hx hb dX14_put_20 ?_
  refine va_put (D := (dC, dI)) (ci := 15) (v := .int ((sI s2 1) + 1)) (ty := .int) (C := RX14) (T := TX14) (N := 11) hx hb hts hi_dm_X14_put_X14 tyX14 tyX14_ok nmX14 hown hK hP hD hS 0 rfl rfl 6 (by decide) (hts (.fieldLink RX14 31 "TimeMachineModel$Codec" "size" "I") (List.mem_of_getElem? (i := 2) rfl)) (fun _ h9 => h9) rfl (by decide +kernel) rfl rfl (Nat.le_of_ble_eq_true rfl) dX14_put_21 (fun H locs hP hD hS => ?_)
  obtain ⟨s3, es3, h⟩ := nd_let_e h
  have hP : va_P (dC, dI) vwCl (dw_X14 a ac s3) H := by rw [es3]; exact hP
  have hD : va_D A (dw_X14 a ac s3) := by rw [es3]; exact hD
  exact K _ _ _ _ _ dX14_put_24 (Option.some.inj h).symm hP hD hS
set_option maxHeartbeats 40000000 in
set_option maxRecDepth 100000 in
theorem dm_X14_put (l : Launch) (hlt : l.stackTraces = false) (dC : Nat → ClassId) (dI : Nat → Nat → Nat) (a : Nat → Nat) (ac : Nat → ClassId) (n : Nat) (v0 : Int32) (s0 : St) {r : St} (h : df_X14_put n v0 s0 = some r) (sz : Nat) : Met l yX14_put ow_dm_X14_put ({ frames := 0, cells := 0, slots := 0, locals := 0 }) (va_Pc [.ref (a 0), .int v0] (fun U => U.heap.size = sz ∧ va_P (dC, dI) vwCl (dw_X14 a ac s0) U.heap ∧ va_K (dC, dI) vwCl (dk_X14 ac) U ∧ va_D (fun _ => True) (dw_X14 a ac s0) ∧ nv_E (va_A (dw_X14 a ac s0) sz) U)) (va_Qv (fun _ => True) (fun (_ : Unit) t => va_P (dC, dI) vwCl (dw_X14 a ac r) t.heap ∧ va_K (dC, dI) vwCl (dk_X14 ac) t ∧ va_D (va_A (dw_X14 a ac s0) sz) (dw_X14 a ac r)) (va_A (dw_X14 a ac s0) sz)) 0 0 (va_A (dw_X14 a ac s0) sz) := by
  refine Met.ofW (cc := cX14_put) (maxL := 2) (ret := none) (by decide) rfl ?_
  intro p e s m args below meth c s₁ B hml hv
  obtain ⟨rfl, hsz, hP, hK, hD0, hN⟩ := hv
  have hx := B.exec
  have hb := B.bytes
  have hr := B.returns
  have hts := atoms_spec (ws := ow_dm_X14_put) B.pre
  have hown : s.vm.findClass RX14 = some m.cls := findClass_of_methodNamed B.named
  have hlocks := B.notSynchronized
  subst hsz
  have hD := hD0.self (sz := s.heap.size)
  generalize hAe : va_A (dw_X14 a ac s0) s.heap.size = A at hD hN ⊢
  have hA : ∀ q : Nat, s.heap.size ≤ q → A q := fun q h => by rw [← hAe]; exact Or.inr h
  have hl := lv_entry ([.ref (a 0), .int v0]) (n := 2) (Nat.le_of_ble_eq_true rfl)
  rw [lg_entry_eq]
  generalize (lg_sl ([.ref (a 0), .int v0]) ++ List.replicate (2 - (lg_sl ([.ref (a 0), .int v0])).length) Slot.unset).toArray = ls at hl ⊢
  have hl : lv_has ls 2 [(0, .ref (a 0)), (1, .int v0)] := hl
  exact db_X14_put_0 (dC := dC) (dI := dI) (a := a) (ac := ac) (n := n) (r := r) ⟨hlt, hx, hb, hml, hown, hts, hN, hA, hK⟩ (fun pc τ H locs ls d er hP hD hS => by subst er; exact W.vret hx hb hr (fun t ht hW => ⟨⟨(), rfl, trivial, by rw [ht]; exact hP, va_K.moved hW.alike hK, hD⟩, hS.F ht⟩) hS.2.2 d) v0 s0 _ _ _ h hP hD va_S.rf (lv_sub hl [0, 1] rfl)
def ow_dm_X14_varint : List Cond := .code yX14_varint cX14_varint 5 none :: ([.constantLong RX14 34 (127), .methodLink RX14 36 yX14_put, .instanceMethod yX14_put, .selects RX14 yX14_put yX14_put, .initialized RX14] ++ (ow_dm_X14_put ++ []))
theorem gd_dm_X14_varint : ∀ w ∈ ow_dm_X14_varint, (w.onTables && w.keeps) = true ∨ ∃ ty, w = Cond.arrayClass ty := List.forall_mem_cons.mpr ⟨good_of_word rfl, List.forall_mem_append.mpr ⟨fun w h => good_of_word (List.all_eq_true.mp (by decide +kernel) w h), List.forall_mem_append.mpr ⟨gd_dm_X14_put, fun _ h => nomatch h⟩⟩⟩
theorem gi_dm_X14_varint_0 : GoodIn ow_dm_X14_varint (wsV RX14 36 RX14 yX14_put ow_dm_X14_put) := goodIn_app (goodIn_of _ (by decide +kernel)) (fun w h => ⟨List.mem_cons_of_mem _ (List.mem_append_right _ (List.mem_append_left _ h)), gd_dm_X14_put w h⟩)
def dj_X14_varint_2 (p : Program) (l : Launch) (e : Env) (s : State) (m : MethodId) (args : Array Value) (below : List Frame) (meth : Method) (c : Code) (Q : State → Prop) (A : Nat → Prop) (dC : Nat → ClassId) (dI : Nat → Nat → Nat) (a : Nat → Nat) (ac : Nat → ClassId) (g : Int64 → (St) → Option (St)) (r : St) : Prop := ∀ (x3 : Int64) (s0 : St) (H : Heap) (locs : List Loc) (ls : Array Slot), g x3 s0 = some r → va_P (dC, dI) vwCl (dw_X14 a ac s0) H → va_D A (dw_X14 a ac s0) → va_S A s.heap H locs → lv_has ls 5 [(0, .ref (a 0)), (3, .long x3)] → W p l e (headSpec ow_dm_X14_varint ({ frames := 1, cells := 0, slots := 0, locals := 21 })).room s m args below meth c H locs 0 0 Q (F0 m 2 ls [])
def dj_X14_varint_0 (p : Program) (l : Launch) (e : Env) (s : State) (m : MethodId) (args : Array Value) (below : List Frame) (meth : Method) (c : Code) (Q : State → Prop) (A : Nat → Prop) (dC : Nat → ClassId) (dI : Nat → Nat → Nat) (a : Nat → Nat) (ac : Nat → ClassId) (g : Int64 → (St) → Option (St)) (r : St) : Prop := ∀ (v0 : Int64) (s0 : St) (H : Heap) (locs : List Loc) (ls : Array Slot), g v0 s0 = some r → va_P (dC, dI) vwCl (dw_X14 a ac s0) H → va_D A (dw_X14 a ac s0) → va_S A s.heap H locs → lv_has ls 5 [(0, .ref (a 0)), (1, .long v0)] → W p l e (headSpec ow_dm_X14_varint ({ frames := 1, cells := 0, slots := 0, locals := 21 })).room s m args below meth c H locs 0 0 Q (F0 m 0 ls [])
set_option maxHeartbeats 40000000 in
set_option maxRecDepth 100000 in
theorem dB_X14_varint_2 {p : Program} {l : Launch} {e : Env} {s : State} {m : MethodId} {args : Array Value} {below : List Frame} {meth : Method} {c : Code} {Q : State → Prop} {A : Nat → Prop} {dC : Nat → ClassId} {dI : Nat → Nat → Nat} {a : Nat → Nat} {ac : Nat → ClassId} {n : Nat} {r : St} (C : nd_C p l s m args c A (dC, dI) cX14_varint 5 RX14 ow_dm_X14_varint (dk_X14 ac)) (K : nd_Kv p l e (headSpec ow_dm_X14_varint ({ frames := 1, cells := 0, slots := 0, locals := 21 })).room s m args below meth c Q A (dC, dI) cX14_varint (St) (dw_X14 a ac) r) {g2 : Int64 → (St) → Option (St)} (J2 : dj_X14_varint_2 p l e s m args below meth c Q A dC dI a ac g2 r) : dj_X14_varint_2 p l e s m args below meth c Q A dC dI a ac (dF_X14_varint_2 n g2) r := by
  obtain ⟨hlt, hx, hb, hml, hown, hts, hN, hA, hK⟩ := id C
  intro x3 s0 H locs ls h hP hD hS hl
  unfold dF_X14_varint_2 at h
  refine lv_lload_n hx hb dX14_varint_2 rfl (lv_at hl 1 rfl) ?_
  refine lv_ldc2 hx hb hown (hts (.constantLong RX14 34 (127)) (List.mem_of_getElem? (i := 1) rfl)) dX14_varint_3 ?_
  refine W.lcmp hx hb dX14_varint_6 ?_
  refine lv_if_le (tgt := 32) hx hb dX14_varint_7 (by decide) (fun c1 => ?_) (fun c1 => ?_)
  · have h := nd_pos h c1
    refine lv_aload_n hx hb dX14_varint_32 rfl (lv_at hl 0 rfl) ?_
    refine lv_lload_n hx hb dX14_varint_33 rfl (lv_at hl 1 rfl) ?_
    refine lv_l2i hx hb dX14_varint_34 rfl ?_
    obtain ⟨s3, hq, h⟩ := nd_b1_e h
    have hPc := hP
    have hDc := hD
    have hKc := hK
    have hFc := nd_rs hD hS hA
    refine va_callv (va_runV (As := [.int (x3.toInt32)]) (rest := []) ⟨hx, hb, hml, hown, hts⟩ (dm_X14_put l hlt dC dI a ac n ((x3.toInt32)) s0 hq _) (cwV 1 hts gi_dm_X14_varint_0 rfl rfl rfl (by decide +kernel) ⟨Nat.le_of_ble_eq_true rfl, Nat.le_of_ble_eq_true rfl⟩) ⟨fun a U g mk q => by obtain ⟨q0, q1, qP, qK, qD, qN⟩ := q; exact ⟨q0, q1, qP, va_K.moved (u := U) (U := U.calling g mk a) (Vm.Alike.refl U.vm) qK, qD, nv_same rfl rfl qN⟩, va_recv hKc hPc (ci := 15) (q0 := 0) rfl rfl, fun U hU hW => ⟨rfl, by rw [hU], by rw [hU]; exact hPc, va_K.moved hW.alike hKc, hDc.weaken (fun _ _ _ _ => trivial), nv_call hS hFc hU hW hN⟩⟩ rfl rfl hl.1 rfl (lv_room (Nat.le_of_ble_eq_true rfl)) dX14_varint_35 ⟨by decide +kernel, by decide +kernel⟩) hS (fun q _ h => hFc q h) hFc (fun u t H locs ht hvm hw hB hz1 hk1 hS => ?_)
    obtain ⟨hP1, -, hD1⟩ := hB
    rw [ht] at hP1
    have hP := hP1
    have hD := hD1.weaken (fun k q _ h => hFc q.1 h)
    refine W.widen (k := 0) (n := 0) (Nat.le_refl _) (Nat.le_refl _) ?_
    exact K _ _ _ _ _ dX14_varint_38 (Option.some.inj h).symm hP hD hS
  · have h := nd_neg h c1
    refine lv_aload_n hx hb dX14_varint_10 rfl (lv_at hl 0 rfl) ?_
    refine lv_lload_n hx hb dX14_varint_11 rfl (lv_at hl 1 rfl) ?_
    refine lv_ldc2 hx hb hown (hts (.constantLong RX14 34 (127)) (List.mem_of_getElem? (i := 1) rfl)) dX14_varint_12 ?_
    refine lv_land hx hb dX14_varint_15 ?_
    refine lv_l2i hx hb dX14_varint_16 rfl ?_
    refine lv_sipush (v := 128) hx hb dX14_varint_17 (by decide) ?_
    refine lv_ior hx hb dX14_varint_20 ?_
    obtain ⟨s6, hq, h⟩ := nd_b1_e h
    have hPc := hP
    have hDc := hD
    have hKc := hK
    have hFc := nd_rs hD hS hA
    refine va_callv (va_runV (As := [.int ((((x3 : Int64) &&& 127).toInt32) ||| 128)]) (rest := []) ⟨hx, hb, hml, hown, hts⟩ (dm_X14_put l hlt dC dI a ac n (((((x3 : Int64) &&& 127).toInt32) ||| 128)) s0 hq _) (cwV 1 hts gi_dm_X14_varint_0 rfl rfl rfl (by decide +kernel) ⟨Nat.le_of_ble_eq_true rfl, Nat.le_of_ble_eq_true rfl⟩) ⟨fun a U g mk q => by obtain ⟨q0, q1, qP, qK, qD, qN⟩ := q; exact ⟨q0, q1, qP, va_K.moved (u := U) (U := U.calling g mk a) (Vm.Alike.refl U.vm) qK, qD, nv_same rfl rfl qN⟩, va_recv hKc hPc (ci := 15) (q0 := 0) rfl rfl, fun U hU hW => ⟨rfl, by rw [hU], by rw [hU]; exact hPc, va_K.moved hW.alike hKc, hDc.weaken (fun _ _ _ _ => trivial), nv_call hS hFc hU hW hN⟩⟩ rfl rfl hl.1 rfl (lv_room (Nat.le_of_ble_eq_true rfl)) dX14_varint_21 ⟨by decide +kernel, by decide +kernel⟩) hS (fun q _ h => hFc q h) hFc (fun u t H locs ht hvm hw hB hz1 hk1 hS => ?_)
    obtain ⟨hP1, -, hD1⟩ := hB
    rw [ht] at hP1
    have hP := hP1
    have hD := hD1.weaken (fun k q _ h => hFc q.1 h)
    refine W.widen (k := 0) (n := 0) (Nat.le_refl _) (Nat.le_refl _) ?_
    refine lv_lload_n hx hb dX14_varint_24 rfl (lv_at hl 1 rfl) ?_
    refine lv_bipush (v := 7) hx hb dX14_varint_25 (by decide) ?_
    refine lv_lshr hx hb dX14_varint_27 rfl ?_
    refine lv_topl (fun z8 ez8 => ?_)
    have h := nd_at h ez8
    refine lv_lstore_n (lv' := [(3, .long z8), (0, .ref (a 0))]) hx hb dX14_varint_28 rfl hl (by decide) rfl (fun ls hl => ?_)
    refine lv_goto (tgt := 2) hx hb dX14_varint_29 (by decide) ?_
    exact (J2) (z8) s6 _ _ _ h hP hD hS (lv_sub hl [1, 0] rfl)
set_option maxHeartbeats 40000000 in
set_option maxRecDepth 100000 in
theorem db_X14_varint_2 {p : Program} {l : Launch} {e : Env} {s : State} {m : MethodId} {args : Array Value} {below : List Frame} {meth : Method} {c : Code} {Q : State → Prop} {A : Nat → Prop} {dC : Nat → ClassId} {dI : Nat → Nat → Nat} {a : Nat → Nat} {ac : Nat → ClassId} {n : Nat} {r : St} (C : nd_C p l s m args c A (dC, dI) cX14_varint 5 RX14 ow_dm_X14_varint (dk_X14 ac)) (K : nd_Kv p l e (headSpec ow_dm_X14_varint ({ frames := 1, cells := 0, slots := 0, locals := 21 })).room s m args below meth c Q A (dC, dI) cX14_varint (St) (dw_X14 a ac) r) (k : Nat) : dj_X14_varint_2 p l e s m args below meth c Q A dC dI a ac (df_X14_varint_2 n k) r := by
  induction k with
  | zero => intro x3 s0 H locs ls h; exact nomatch (show (none : Option (St)) = some r from h)
  | succ k ih => exact dB_X14_varint_2 C K ih
set_option maxHeartbeats 40000000 in
set_option maxRecDepth 100000 in
theorem db_X14_varint_0 {p : Program} {l : Launch} {e : Env} {s : State} {m : MethodId} {args : Array Value} {below : List Frame} {meth : Method} {c : Code} {Q : State → Prop} {A : Nat → Prop} {dC : Nat → ClassId} {dI : Nat → Nat → Nat} {a : Nat → Nat} {ac : Nat → ClassId} {n : Nat} {r : St} (C : nd_C p l s m args c A (dC, dI) cX14_varint 5 RX14 ow_dm_X14_varint (dk_X14 ac)) (K : nd_Kv p l e (headSpec ow_dm_X14_varint ({ frames := 1, cells := 0, slots := 0, locals := 21 })).room s m args below meth c Q A (dC, dI) cX14_varint (St) (dw_X14 a ac) r) : dj_X14_varint_0 p l e s m args below meth c Q A dC dI a ac (df_X14_varint_0 n) r := by
  obtain ⟨hlt, hx, hb, hml, hown, hts, hN, hA, hK⟩ := id C
  intro v0 s0 H locs ls h hP hD hS hl
  unfold df_X14_varint_0 at h
  refine lv_lload_n hx hb dX14_varint_0 rfl (lv_at hl 1 rfl) ?_
  refine lv_lstore_n (lv' := [(3, .long v0), (0, .ref (a 0)), (1, .long v0)]) hx hb dX14_varint_1 rfl hl (by decide) rfl (fun ls hl => ?_)
  exact (db_X14_varint_2 C K n) (v0) s0 _ _ _ h hP hD hS (lv_sub hl [1, 0] rfl)
set_option maxHeartbeats 40000000 in
set_option maxRecDepth 100000 in
theorem dm_X14_varint (l : Launch) (hlt : l.stackTraces = false) (dC : Nat → ClassId) (dI : Nat → Nat → Nat) (a : Nat → Nat) (ac : Nat → ClassId) (n : Nat) (v0 : Int64) (s0 : St) {r : St} (h : df_X14_varint n v0 s0 = some r) (sz : Nat) : Met l yX14_varint ow_dm_X14_varint ({ frames := 1, cells := 0, slots := 0, locals := 21 }) (va_Pc [.ref (a 0), .long v0] (fun U => U.heap.size = sz ∧ va_P (dC, dI) vwCl (dw_X14 a ac s0) U.heap ∧ va_K (dC, dI) vwCl (dk_X14 ac) U ∧ va_D (fun _ => True) (dw_X14 a ac s0) ∧ nv_E (va_A (dw_X14 a ac s0) sz) U)) (va_Qv (fun _ => True) (fun (_ : Unit) t => va_P (dC, dI) vwCl (dw_X14 a ac r) t.heap ∧ va_K (dC, dI) vwCl (dk_X14 ac) t ∧ va_D (va_A (dw_X14 a ac s0) sz) (dw_X14 a ac r)) (va_A (dw_X14 a ac s0) sz)) 0 0 (va_A (dw_X14 a ac s0) sz) := by
  refine Met.ofW (cc := cX14_varint) (maxL := 5) (ret := none) (by decide) rfl ?_
  intro p e s m args below meth c s₁ B hml hv
  obtain ⟨rfl, hsz, hP, hK, hD0, hN⟩ := hv
  have hx := B.exec
  have hb := B.bytes
  have hr := B.returns
  have hts := atoms_spec (ws := ow_dm_X14_varint) B.pre
  have hown : s.vm.findClass RX14 = some m.cls := findClass_of_methodNamed B.named
  have hlocks := B.notSynchronized
  subst hsz
  have hD := hD0.self (sz := s.heap.size)
  generalize hAe : va_A (dw_X14 a ac s0) s.heap.size = A at hD hN ⊢
  have hA : ∀ q : Nat, s.heap.size ≤ q → A q := fun q h => by rw [← hAe]; exact Or.inr h
  have hl := lv_entry ([.ref (a 0), .long v0]) (n := 5) (Nat.le_of_ble_eq_true rfl)
  rw [lg_entry_eq]
  generalize (lg_sl ([.ref (a 0), .long v0]) ++ List.replicate (5 - (lg_sl ([.ref (a 0), .long v0])).length) Slot.unset).toArray = ls at hl ⊢
  have hl : lv_has ls 5 [(0, .ref (a 0)), (1, .long v0)] := hl
  exact db_X14_varint_0 (dC := dC) (dI := dI) (a := a) (ac := ac) (n := n) (r := r) ⟨hlt, hx, hb, hml, hown, hts, hN, hA, hK⟩ (fun pc τ H locs ls d er hP hD hS => by subst er; exact W.vret hx hb hr (fun t ht hW => ⟨⟨(), rfl, trivial, by rw [ht]; exact hP, va_K.moved hW.alike hK, hD⟩, hS.F ht⟩) hS.2.2 d) v0 s0 _ _ _ h hP hD va_S.rf (lv_sub hl [0, 1] rfl)
def ow_dm_X14_bringsSame : List Cond := .code yX14_bringsSame cX14_bringsSame 3 (some .boolean) :: ([.fieldLink RX14 9 "TimeMachineModel$Codec" "kind" "[I", .fieldLink RX14 20 "TimeMachineModel$Codec" "a" "[J", .fieldLink RX14 13 "TimeMachineModel$Codec" "b" "[I"] ++ (u_ws RX14 TX14 11 ++ []))
theorem gd_dm_X14_bringsSame : ∀ w ∈ ow_dm_X14_bringsSame, (w.onTables && w.keeps) = true ∨ ∃ ty, w = Cond.arrayClass ty := List.forall_mem_cons.mpr ⟨good_of_word rfl, List.forall_mem_append.mpr ⟨fun w h => good_of_word (List.all_eq_true.mp (by decide +kernel) w h), List.forall_mem_append.mpr ⟨gu_X14, fun _ h => nomatch h⟩⟩⟩
theorem hi_dm_X14_bringsSame_X14 : ∀ w ∈ u_ws RX14 TX14 11, w ∈ ow_dm_X14_bringsSame := fun w h => List.mem_cons_of_mem _ (List.mem_append_right _ (List.mem_append_left _ h))
def dj_X14_bringsSame_51 (p : Program) (l : Launch) (e : Env) (s : State) (m : MethodId) (args : Array Value) (below : List Frame) (meth : Method) (c : Code) (Q : State → Prop) (A : Nat → Prop) (dC : Nat → ClassId) (dI : Nat → Nat → Nat) (a : Nat → Nat) (ac : Nat → ClassId) (g : Int32 → (St) → Option (Int32 × (St))) (r : Int32 × (St)) : Prop := ∀ (y0 : Int32) (s0 : St) (H : Heap) (locs : List Loc) (ls : Array Slot), g y0 s0 = some r → va_P (dC, dI) vwCl (dw_X14 a ac s0) H → va_D A (dw_X14 a ac s0) → va_S A s.heap H locs → lv_has ls 3 [] → W p l e (headSpec ow_dm_X14_bringsSame ({ frames := 0, cells := 0, slots := 0, locals := 0 })).room s m args below meth c H locs 0 0 Q (F0 m 51 ls [.int y0])
def dj_X14_bringsSame_50 (p : Program) (l : Launch) (e : Env) (s : State) (m : MethodId) (args : Array Value) (below : List Frame) (meth : Method) (c : Code) (Q : State → Prop) (A : Nat → Prop) (dC : Nat → ClassId) (dI : Nat → Nat → Nat) (a : Nat → Nat) (ac : Nat → ClassId) (g : (St) → Option (Int32 × (St))) (r : Int32 × (St)) : Prop := ∀ (s0 : St) (H : Heap) (locs : List Loc) (ls : Array Slot), g s0 = some r → va_P (dC, dI) vwCl (dw_X14 a ac s0) H → va_D A (dw_X14 a ac s0) → va_S A s.heap H locs → lv_has ls 3 [] → W p l e (headSpec ow_dm_X14_bringsSame ({ frames := 0, cells := 0, slots := 0, locals := 0 })).room s m args below meth c H locs 0 0 Q (F0 m 50 ls [])
def dj_X14_bringsSame_0 (p : Program) (l : Launch) (e : Env) (s : State) (m : MethodId) (args : Array Value) (below : List Frame) (meth : Method) (c : Code) (Q : State → Prop) (A : Nat → Prop) (dC : Nat → ClassId) (dI : Nat → Nat → Nat) (a : Nat → Nat) (ac : Nat → ClassId) (g : Int32 → Int32 → (St) → Option (Int32 × (St))) (r : Int32 × (St)) : Prop := ∀ (v0 : Int32) (v1 : Int32) (s0 : St) (H : Heap) (locs : List Loc) (ls : Array Slot), g v0 v1 s0 = some r → va_P (dC, dI) vwCl (dw_X14 a ac s0) H → va_D A (dw_X14 a ac s0) → va_S A s.heap H locs → lv_has ls 3 [(0, .ref (a 0)), (1, .int v0), (2, .int v1)] → W p l e (headSpec ow_dm_X14_bringsSame ({ frames := 0, cells := 0, slots := 0, locals := 0 })).room s m args below meth c H locs 0 0 Q (F0 m 0 ls [])
set_option maxHeartbeats 40000000 in
set_option maxRecDepth 100000 in
theorem db_X14_bringsSame_51 {p : Program} {l : Launch} {e : Env} {s : State} {m : MethodId} {args : Array Value} {below : List Frame} {meth : Method} {c : Code} {Q : State → Prop} {A : Nat → Prop} {dC : Nat → ClassId} {dI : Nat → Nat → Nat} {a : Nat → Nat} {ac : Nat → ClassId} {n : Nat} {r : Int32 × (St)} (C : nd_C p l s m args c A (dC, dI) cX14_bringsSame 3 RX14 ow_dm_X14_bringsSame (dk_X14 ac)) (K : nd_Ki p l e (headSpec ow_dm_X14_bringsSame ({ frames := 0, cells := 0, slots := 0, locals := 0 })).room s m args below meth c Q A (dC, dI) cX14_bringsSame .boolean (St) (dw_X14 a ac) r) : dj_X14_bringsSame_51 p l e s m args below meth c Q A dC dI a ac (df_X14_bringsSame_51 n) r := by
  obtain ⟨hlt, hx, hb, hml, hown, hts, hN, hA, hK⟩ := id C
  intro y0 s0 H locs ls h hP hD hS hl
  unfold df_X14_bringsSame_51 at h
  obtain ⟨n4, h⟩ := nd_z_e ⟨_, rfl⟩ h
  exact K _ _ _ _ _ _ dX14_bringsSame_51 n4 (Option.some.inj h).symm hP hD hS
set_option maxHeartbeats 40000000 in
set_option maxRecDepth 100000 in
theorem db_X14_bringsSame_50 {p : Program} {l : Launch} {e : Env} {s : State} {m : MethodId} {args : Array Value} {below : List Frame} {meth : Method} {c : Code} {Q : State → Prop} {A : Nat → Prop} {dC : Nat → ClassId} {dI : Nat → Nat → Nat} {a : Nat → Nat} {ac : Nat → ClassId} {n : Nat} {r : Int32 × (St)} (C : nd_C p l s m args c A (dC, dI) cX14_bringsSame 3 RX14 ow_dm_X14_bringsSame (dk_X14 ac)) (K : nd_Ki p l e (headSpec ow_dm_X14_bringsSame ({ frames := 0, cells := 0, slots := 0, locals := 0 })).room s m args below meth c Q A (dC, dI) cX14_bringsSame .boolean (St) (dw_X14 a ac) r) : dj_X14_bringsSame_50 p l e s m args below meth c Q A dC dI a ac (df_X14_bringsSame_50 n) r := by
  obtain ⟨hlt, hx, hb, hml, hown, hts, hN, hA, hK⟩ := id C
  intro s0 H locs ls h hP hD hS hl
  unfold df_X14_bringsSame_50 at h
  refine lv_iconst (v := 0) hx hb dX14_bringsSame_50 (by decide) ?_
  exact (db_X14_bringsSame_51 C K) (0) s0 _ _ _ h hP hD hS (lv_sub hl [] rfl)
set_option maxHeartbeats 40000000 in
set_option maxRecDepth 100000 in
theorem db_X14_bringsSame_0 {p : Program} {l : Launch} {e : Env} {s : State} {m : MethodId} {args : Array Value} {below : List Frame} {meth : Method} {c : Code} {Q : State → Prop} {A : Nat → Prop} {dC : Nat → ClassId} {dI : Nat → Nat → Nat} {a : Nat → Nat} {ac : Nat → ClassId} {n : Nat} {r : Int32 × (St)} (C : nd_C p l s m args c A (dC, dI) cX14_bringsSame 3 RX14 ow_dm_X14_bringsSame (dk_X14 ac)) (K : nd_Ki p l e (headSpec ow_dm_X14_bringsSame ({ frames := 0, cells := 0, slots := 0, locals := 0 })).room s m args below meth c Q A (dC, dI) cX14_bringsSame .boolean (St) (dw_X14 a ac) r) : dj_X14_bringsSame_0 p l e s m args below meth c Q A dC dI a ac (df_X14_bringsSame_0 n) r := by
  obtain ⟨hlt, hx, hb, hml, hown, hts, hN, hA, hK⟩ := id C
  intro v0 v1 s0 H locs ls h hP hD hS hl
  unfold df_X14_bringsSame_0 at h
  refine lv_aload_n hx hb dX14_bringsSame_0 rfl (lv_at hl 0 rfl) ?_
  refine va_get (D := (dC, dI)) (ci := 15) (v := .ref (a 1)) (C := RX14) (T := TX14) (N := 11) hx hb hts hi_dm_X14_bringsSame_X14 hown hK hP 0 rfl rfl 1 (by decide) (hts (.fieldLink RX14 9 "TimeMachineModel$Codec" "kind" "[I") (List.mem_of_getElem? (i := 1) rfl)) (fun _ h9 => h9) rfl dX14_bringsSame_1 ?_
  refine lv_iload_n hx hb dX14_bringsSame_4 rfl (lv_at hl 1 rfl) ?_
  obtain ⟨i1, h⟩ := nd_ck_e h
  refine va_iald (i := v0) hx hb hK hP 1 0 rfl rfl i1 dX14_bringsSame_5 ?_
  refine lv_aload_n hx hb dX14_bringsSame_6 rfl (lv_at hl 0 rfl) ?_
  refine va_get (D := (dC, dI)) (ci := 15) (v := .ref (a 1)) (C := RX14) (T := TX14) (N := 11) hx hb hts hi_dm_X14_bringsSame_X14 hown hK hP 0 rfl rfl 1 (by decide) (hts (.fieldLink RX14 9 "TimeMachineModel$Codec" "kind" "[I") (List.mem_of_getElem? (i := 1) rfl)) (fun _ h9 => h9) rfl dX14_bringsSame_7 ?_
  refine lv_iload_n hx hb dX14_bringsSame_10 rfl (lv_at hl 2 rfl) ?_
  obtain ⟨i2, h⟩ := nd_ck_e h
  refine va_iald (i := v1) hx hb hK hP 1 0 rfl rfl i2 dX14_bringsSame_11 ?_
  refine lv_icmp_ne (tgt := 50) hx hb dX14_bringsSame_12 (by decide) (fun c3 => ?_) (fun c3 => ?_)
  · have h := nd_neg h c3
    exact (db_X14_bringsSame_50 C K)  s0 _ _ _ h hP hD hS (lv_sub hl [] rfl)
  · have h := nd_pos h c3
    refine lv_aload_n hx hb dX14_bringsSame_15 rfl (lv_at hl 0 rfl) ?_
    refine va_get (D := (dC, dI)) (ci := 15) (v := .ref (a 4)) (C := RX14) (T := TX14) (N := 11) hx hb hts hi_dm_X14_bringsSame_X14 hown hK hP 0 rfl rfl 4 (by decide) (hts (.fieldLink RX14 20 "TimeMachineModel$Codec" "a" "[J") (List.mem_of_getElem? (i := 2) rfl)) (fun _ h9 => h9) rfl dX14_bringsSame_16 ?_
    refine lv_iload_n hx hb dX14_bringsSame_19 rfl (lv_at hl 1 rfl) ?_
    obtain ⟨i5, h⟩ := nd_ck_e h
    refine va_lald (i := v0) hx hb hK hP 4 3 rfl rfl i5 dX14_bringsSame_20 ?_
    refine lv_aload_n hx hb dX14_bringsSame_21 rfl (lv_at hl 0 rfl) ?_
    refine va_get (D := (dC, dI)) (ci := 15) (v := .ref (a 4)) (C := RX14) (T := TX14) (N := 11) hx hb hts hi_dm_X14_bringsSame_X14 hown hK hP 0 rfl rfl 4 (by decide) (hts (.fieldLink RX14 20 "TimeMachineModel$Codec" "a" "[J") (List.mem_of_getElem? (i := 2) rfl)) (fun _ h9 => h9) rfl dX14_bringsSame_22 ?_
    refine lv_iload_n hx hb dX14_bringsSame_25 rfl (lv_at hl 2 rfl) ?_
    obtain ⟨i6, h⟩ := nd_ck_e h
    refine va_lald (i := v1) hx hb hK hP 4 3 rfl rfl i6 dX14_bringsSame_26 ?_
    refine W.lcmp hx hb dX14_bringsSame_27 ?_
    refine lv_if_ne (tgt := 50) hx hb dX14_bringsSame_28 (by decide) (fun c7 => ?_) (fun c7 => ?_)
    · have h := nd_neg h c7
      exact (db_X14_bringsSame_50 C K)  s0 _ _ _ h hP hD hS (lv_sub hl [] rfl)
    · have h := nd_pos h c7
      refine lv_aload_n hx hb dX14_bringsSame_31 rfl (lv_at hl 0 rfl) ?_
      refine va_get (D := (dC, dI)) (ci := 15) (v := .ref (a 2)) (C := RX14) (T := TX14) (N := 11) hx hb hts hi_dm_X14_bringsSame_X14 hown hK hP 0 rfl rfl 2 (by decide) (hts (.fieldLink RX14 13 "TimeMachineModel$Codec" "b" "[I") (List.mem_of_getElem? (i := 3) rfl)) (fun _ h9 => h9) rfl dX14_bringsSame_32 ?_
      refine lv_iload_n hx hb dX14_bringsSame_35 rfl (lv_at hl 1 rfl) ?_
      obtain ⟨i8, h⟩ := nd_ck_e h
      refine va_iald (i := v0) hx hb hK hP 2 1 rfl rfl i8 dX14_bringsSame_36 ?_
      refine lv_aload_n hx hb dX14_bringsSame_37 rfl (lv_at hl 0 rfl) ?_
      refine va_get (D := (dC, dI)) (ci := 15) (v := .ref (a 2)) (C := RX14) (T := TX14) (N := 11) hx hb hts hi_dm_X14_bringsSame_X14 hown hK hP 0 rfl rfl 2 (by decide) (hts (.fieldLink RX14 13 "TimeMachineModel$Codec" "b" "[I") (List.mem_of_getElem? (i := 3) rfl)) (fun _ h9 => h9) rfl dX14_bringsSame_38 ?_
      refine lv_iload_n hx hb dX14_bringsSame_41 rfl (lv_at hl 2 rfl) ?_
      obtain ⟨i9, h⟩ := nd_ck_e h
      refine va_iald (i := v1) hx hb hK hP 2 1 rfl rfl i9 dX14_bringsSame_42 ?_
      refine lv_icmp_ne (tgt := 50) hx hb dX14_bringsSame_43 (by decide) (fun c10 => ?_) (fun c10 => ?_)
      · have h := nd_neg h c10
        exact (db_X14_bringsSame_50 C K)  s0 _ _ _ h hP hD hS (lv_sub hl [] rfl)
      · have h := nd_pos h c10
        refine lv_iconst (v := 1) hx hb dX14_bringsSame_46 (by decide) ?_
        refine lv_goto (tgt := 51) hx hb dX14_bringsSame_47 (by decide) ?_
        exact (db_X14_bringsSame_51 C K) (1) s0 _ _ _ h hP hD hS (lv_sub hl [] rfl)
set_option maxHeartbeats 40000000 in
set_option maxRecDepth 100000 in
theorem dm_X14_bringsSame (l : Launch) (hlt : l.stackTraces = false) (dC : Nat → ClassId) (dI : Nat → Nat → Nat) (a : Nat → Nat) (ac : Nat → ClassId) (n : Nat) (v0 : Int32) (v1 : Int32) (s0 : St) {r : Int32 × (St)} (h : df_X14_bringsSame n v0 v1 s0 = some r) (sz : Nat) : Met l yX14_bringsSame ow_dm_X14_bringsSame ({ frames := 0, cells := 0, slots := 0, locals := 0 }) (va_Pc [.ref (a 0), .int v0, .int v1] (fun U => U.heap.size = sz ∧ va_P (dC, dI) vwCl (dw_X14 a ac s0) U.heap ∧ va_K (dC, dI) vwCl (dk_X14 ac) U ∧ va_D (fun _ => True) (dw_X14 a ac s0) ∧ nv_E (va_A (dw_X14 a ac s0) sz) U)) (va_Qi (fun x _ => x = r.1) (fun (_ : Unit) t => va_P (dC, dI) vwCl (dw_X14 a ac r.2) t.heap ∧ va_K (dC, dI) vwCl (dk_X14 ac) t ∧ va_D (va_A (dw_X14 a ac s0) sz) (dw_X14 a ac r.2)) (va_A (dw_X14 a ac s0) sz)) 0 0 (va_A (dw_X14 a ac s0) sz) := by
  refine Met.ofW (cc := cX14_bringsSame) (maxL := 3) (ret := (some .boolean)) (by decide) rfl ?_
  intro p e s m args below meth c s₁ B hml hv
  obtain ⟨rfl, hsz, hP, hK, hD0, hN⟩ := hv
  have hx := B.exec
  have hb := B.bytes
  have hr := B.returns
  have hts := atoms_spec (ws := ow_dm_X14_bringsSame) B.pre
  have hown : s.vm.findClass RX14 = some m.cls := findClass_of_methodNamed B.named
  have hlocks := B.notSynchronized
  subst hsz
  have hD := hD0.self (sz := s.heap.size)
  generalize hAe : va_A (dw_X14 a ac s0) s.heap.size = A at hD hN ⊢
  have hA : ∀ q : Nat, s.heap.size ≤ q → A q := fun q h => by rw [← hAe]; exact Or.inr h
  have hl := lv_entry ([.ref (a 0), .int v0, .int v1]) (n := 3) (Nat.le_of_ble_eq_true rfl)
  rw [lg_entry_eq]
  generalize (lg_sl ([.ref (a 0), .int v0, .int v1]) ++ List.replicate (3 - (lg_sl ([.ref (a 0), .int v0, .int v1])).length) Slot.unset).toArray = ls at hl ⊢
  have hl : lv_has ls 3 [(0, .ref (a 0)), (1, .int v0), (2, .int v1)] := hl
  exact db_X14_bringsSame_0 (dC := dC) (dI := dI) (a := a) (ac := ac) (n := n) (r := r) ⟨hlt, hx, hb, hml, hown, hts, hN, hA, hK⟩ (fun pc v τ H locs ls d z er hP hD hS => by subst er; exact W.zret (v := v) hx hb hr z (fun t ht hW => ⟨⟨v, (), rfl, rfl, by rw [ht]; exact hP, va_K.moved hW.alike hK, hD⟩, hS.F ht⟩) hS.2.2 d) v0 v1 s0 _ _ _ h hP hD va_S.rf (lv_sub hl [0, 1, 2] rfl)
def ow_dm_X14_isAlike : List Cond := .code yX14_isAlike cX14_isAlike 2 (some .boolean) :: ([.fieldLink RX14 16 "TimeMachineModel$Codec" "difference" "[J", .methodLink RX14 40 yX14_bringsSame, .instanceMethod yX14_bringsSame, .selects RX14 yX14_bringsSame yX14_bringsSame, .initialized RX14] ++ (u_ws RX14 TX14 11 ++ (ow_dm_X14_bringsSame ++ [])))
theorem gd_dm_X14_isAlike : ∀ w ∈ ow_dm_X14_isAlike, (w.onTables && w.keeps) = true ∨ ∃ ty, w = Cond.arrayClass ty := List.forall_mem_cons.mpr ⟨good_of_word rfl, List.forall_mem_append.mpr ⟨fun w h => good_of_word (List.all_eq_true.mp (by decide +kernel) w h), List.forall_mem_append.mpr ⟨gu_X14, List.forall_mem_append.mpr ⟨gd_dm_X14_bringsSame, fun _ h => nomatch h⟩⟩⟩⟩
theorem hi_dm_X14_isAlike_X14 : ∀ w ∈ u_ws RX14 TX14 11, w ∈ ow_dm_X14_isAlike := fun w h => List.mem_cons_of_mem _ (List.mem_append_right _ (List.mem_append_left _ h))
theorem gi_dm_X14_isAlike_0 : GoodIn ow_dm_X14_isAlike (wsV RX14 40 RX14 yX14_bringsSame ow_dm_X14_bringsSame) := goodIn_app (goodIn_of _ (by decide +kernel)) (fun w h => ⟨List.mem_cons_of_mem _ (List.mem_append_right _ (List.mem_append_right _ (List.mem_append_left _ h))), gd_dm_X14_bringsSame w h⟩)
def dj_X14_isAlike_38 (p : Program) (l : Launch) (e : Env) (s : State) (m : MethodId) (args : Array Value) (below : List Frame) (meth : Method) (c : Code) (Q : State → Prop) (A : Nat → Prop) (dC : Nat → ClassId) (dI : Nat → Nat → Nat) (a : Nat → Nat) (ac : Nat → ClassId) (g : Int32 → (St) → Option (Int32 × (St))) (r : Int32 × (St)) : Prop := ∀ (y0 : Int32) (s0 : St) (H : Heap) (locs : List Loc) (ls : Array Slot), g y0 s0 = some r → va_P (dC, dI) vwCl (dw_X14 a ac s0) H → va_D A (dw_X14 a ac s0) → va_S A s.heap H locs → lv_has ls 2 [] → W p l e (headSpec ow_dm_X14_isAlike ({ frames := 1, cells := 0, slots := 0, locals := 22 })).room s m args below meth c H locs 0 0 Q (F0 m 38 ls [.int y0])
def dj_X14_isAlike_37 (p : Program) (l : Launch) (e : Env) (s : State) (m : MethodId) (args : Array Value) (below : List Frame) (meth : Method) (c : Code) (Q : State → Prop) (A : Nat → Prop) (dC : Nat → ClassId) (dI : Nat → Nat → Nat) (a : Nat → Nat) (ac : Nat → ClassId) (g : (St) → Option (Int32 × (St))) (r : Int32 × (St)) : Prop := ∀ (s0 : St) (H : Heap) (locs : List Loc) (ls : Array Slot), g s0 = some r → va_P (dC, dI) vwCl (dw_X14 a ac s0) H → va_D A (dw_X14 a ac s0) → va_S A s.heap H locs → lv_has ls 2 [] → W p l e (headSpec ow_dm_X14_isAlike ({ frames := 1, cells := 0, slots := 0, locals := 22 })).room s m args below meth c H locs 0 0 Q (F0 m 37 ls [])
def dj_X14_isAlike_0 (p : Program) (l : Launch) (e : Env) (s : State) (m : MethodId) (args : Array Value) (below : List Frame) (meth : Method) (c : Code) (Q : State → Prop) (A : Nat → Prop) (dC : Nat → ClassId) (dI : Nat → Nat → Nat) (a : Nat → Nat) (ac : Nat → ClassId) (g : Int32 → (St) → Option (Int32 × (St))) (r : Int32 × (St)) : Prop := ∀ (v0 : Int32) (s0 : St) (H : Heap) (locs : List Loc) (ls : Array Slot), g v0 s0 = some r → va_P (dC, dI) vwCl (dw_X14 a ac s0) H → va_D A (dw_X14 a ac s0) → va_S A s.heap H locs → lv_has ls 2 [(0, .ref (a 0)), (1, .int v0)] → W p l e (headSpec ow_dm_X14_isAlike ({ frames := 1, cells := 0, slots := 0, locals := 22 })).room s m args below meth c H locs 0 0 Q (F0 m 0 ls [])
set_option maxHeartbeats 40000000 in
set_option maxRecDepth 100000 in
theorem db_X14_isAlike_38 {p : Program} {l : Launch} {e : Env} {s : State} {m : MethodId} {args : Array Value} {below : List Frame} {meth : Method} {c : Code} {Q : State → Prop} {A : Nat → Prop} {dC : Nat → ClassId} {dI : Nat → Nat → Nat} {a : Nat → Nat} {ac : Nat → ClassId} {n : Nat} {r : Int32 × (St)} (C : nd_C p l s m args c A (dC, dI) cX14_isAlike 2 RX14 ow_dm_X14_isAlike (dk_X14 ac)) (K : nd_Ki p l e (headSpec ow_dm_X14_isAlike ({ frames := 1, cells := 0, slots := 0, locals := 22 })).room s m args below meth c Q A (dC, dI) cX14_isAlike .boolean (St) (dw_X14 a ac) r) : dj_X14_isAlike_38 p l e s m args below meth c Q A dC dI a ac (df_X14_isAlike_38 n) r := by
  obtain ⟨hlt, hx, hb, hml, hown, hts, hN, hA, hK⟩ := id C
  intro y0 s0 H locs ls h hP hD hS hl
  unfold df_X14_isAlike_38 at h
  obtain ⟨n2, h⟩ := nd_z_e ⟨_, rfl⟩ h
  exact K _ _ _ _ _ _ dX14_isAlike_38 n2 (Option.some.inj h).symm hP hD hS
set_option maxHeartbeats 40000000 in
set_option maxRecDepth 100000 in
theorem db_X14_isAlike_37 {p : Program} {l : Launch} {e : Env} {s : State} {m : MethodId} {args : Array Value} {below : List Frame} {meth : Method} {c : Code} {Q : State → Prop} {A : Nat → Prop} {dC : Nat → ClassId} {dI : Nat → Nat → Nat} {a : Nat → Nat} {ac : Nat → ClassId} {n : Nat} {r : Int32 × (St)} (C : nd_C p l s m args c A (dC, dI) cX14_isAlike 2 RX14 ow_dm_X14_isAlike (dk_X14 ac)) (K : nd_Ki p l e (headSpec ow_dm_X14_isAlike ({ frames := 1, cells := 0, slots := 0, locals := 22 })).room s m args below meth c Q A (dC, dI) cX14_isAlike .boolean (St) (dw_X14 a ac) r) : dj_X14_isAlike_37 p l e s m args below meth c Q A dC dI a ac (df_X14_isAlike_37 n) r := by
  obtain ⟨hlt, hx, hb, hml, hown, hts, hN, hA, hK⟩ := id C
  intro s0 H locs ls h hP hD hS hl
  unfold df_X14_isAlike_37 at h
  refine lv_iconst (v := 0) hx hb dX14_isAlike_37 (by decide) ?_
  exact (db_X14_isAlike_38 C K) (0) s0 _ _ _ h hP hD hS (lv_sub hl [] rfl)
set_option maxHeartbeats 40000000 in
set_option maxRecDepth 100000 in
theorem db_X14_isAlike_0 {p : Program} {l : Launch} {e : Env} {s : State} {m : MethodId} {args : Array Value} {below : List Frame} {meth : Method} {c : Code} {Q : State → Prop} {A : Nat → Prop} {dC : Nat → ClassId} {dI : Nat → Nat → Nat} {a : Nat → Nat} {ac : Nat → ClassId} {n : Nat} {r : Int32 × (St)} (C : nd_C p l s m args c A (dC, dI) cX14_isAlike 2 RX14 ow_dm_X14_isAlike (dk_X14 ac)) (K : nd_Ki p l e (headSpec ow_dm_X14_isAlike ({ frames := 1, cells := 0, slots := 0, locals := 22 })).room s m args below meth c Q A (dC, dI) cX14_isAlike .boolean (St) (dw_X14 a ac) r) : dj_X14_isAlike_0 p l e s m args below meth c Q A dC dI a ac (df_X14_isAlike_0 n) r := by
  obtain ⟨hlt, hx, hb, hml, hown, hts, hN, hA, hK⟩ := id C
  intro v0 s0 H locs ls h hP hD hS hl
  unfold df_X14_isAlike_0 at h
  refine lv_iload_n hx hb dX14_isAlike_0 rfl (lv_at hl 1 rfl) ?_
  refine lv_if_le (tgt := 37) hx hb dX14_isAlike_1 (by decide) (fun c1 => ?_) (fun c1 => ?_)
  · have h := nd_pos h c1
    exact (db_X14_isAlike_37 C K)  s0 _ _ _ h hP hD hS (lv_sub hl [] rfl)
  · have h := nd_neg h c1
    refine lv_aload_n hx hb dX14_isAlike_4 rfl (lv_at hl 0 rfl) ?_
    refine va_get (D := (dC, dI)) (ci := 15) (v := .ref (a 3)) (C := RX14) (T := TX14) (N := 11) hx hb hts hi_dm_X14_isAlike_X14 hown hK hP 0 rfl rfl 3 (by decide) (hts (.fieldLink RX14 16 "TimeMachineModel$Codec" "difference" "[J") (List.mem_of_getElem? (i := 1) rfl)) (fun _ h9 => h9) rfl dX14_isAlike_5 ?_
    refine lv_iload_n hx hb dX14_isAlike_8 rfl (lv_at hl 1 rfl) ?_
    obtain ⟨i3, h⟩ := nd_ck_e h
    refine va_lald (i := v0) hx hb hK hP 3 2 rfl rfl i3 dX14_isAlike_9 ?_
    refine lv_aload_n hx hb dX14_isAlike_10 rfl (lv_at hl 0 rfl) ?_
    refine va_get (D := (dC, dI)) (ci := 15) (v := .ref (a 3)) (C := RX14) (T := TX14) (N := 11) hx hb hts hi_dm_X14_isAlike_X14 hown hK hP 0 rfl rfl 3 (by decide) (hts (.fieldLink RX14 16 "TimeMachineModel$Codec" "difference" "[J") (List.mem_of_getElem? (i := 1) rfl)) (fun _ h9 => h9) rfl dX14_isAlike_11 ?_
    refine lv_iload_n hx hb dX14_isAlike_14 rfl (lv_at hl 1 rfl) ?_
    refine lv_iconst (v := 1) hx hb dX14_isAlike_15 (by decide) ?_
    refine lv_isub hx hb dX14_isAlike_16 ?_
    obtain ⟨i4, h⟩ := nd_ck_e h
    refine va_lald (i := (v0 - 1)) hx hb hK hP 3 2 rfl rfl i4 dX14_isAlike_17 ?_
    refine W.lcmp hx hb dX14_isAlike_18 ?_
    refine lv_if_ne (tgt := 37) hx hb dX14_isAlike_19 (by decide) (fun c5 => ?_) (fun c5 => ?_)
    · have h := nd_neg h c5
      exact (db_X14_isAlike_37 C K)  s0 _ _ _ h hP hD hS (lv_sub hl [] rfl)
    · have h := nd_pos h c5
      refine lv_aload_n hx hb dX14_isAlike_22 rfl (lv_at hl 0 rfl) ?_
      refine lv_iload_n hx hb dX14_isAlike_23 rfl (lv_at hl 1 rfl) ?_
      refine lv_iload_n hx hb dX14_isAlike_24 rfl (lv_at hl 1 rfl) ?_
      refine lv_iconst (v := 1) hx hb dX14_isAlike_25 (by decide) ?_
      refine lv_isub hx hb dX14_isAlike_26 ?_
      obtain ⟨q6, s7, hq, h⟩ := nd_b2_e h
      have hPc := hP
      have hDc := hD
      have hKc := hK
      have hFc := nd_rs hD hS hA
      refine va_calli (va_runV (As := [.int v0, .int (v0 - 1)]) (rest := []) ⟨hx, hb, hml, hown, hts⟩ (dm_X14_bringsSame l hlt dC dI a ac n (v0) ((v0 - 1)) s0 hq _) (cwV 2 hts gi_dm_X14_isAlike_0 rfl rfl rfl (by decide +kernel) ⟨Nat.le_of_ble_eq_true rfl, Nat.le_of_ble_eq_true rfl⟩) ⟨fun a U g mk q => by obtain ⟨q0, q1, qP, qK, qD, qN⟩ := q; exact ⟨q0, q1, qP, va_K.moved (u := U) (U := U.calling g mk a) (Vm.Alike.refl U.vm) qK, qD, nv_same rfl rfl qN⟩, va_recv hKc hPc (ci := 15) (q0 := 0) rfl rfl, fun U hU hW => ⟨rfl, by rw [hU], by rw [hU]; exact hPc, va_K.moved hW.alike hKc, hDc.weaken (fun _ _ _ _ => trivial), nv_call hS hFc hU hW hN⟩⟩ rfl rfl hl.1 rfl (lv_room (Nat.le_of_ble_eq_true rfl)) dX14_isAlike_27 ⟨by decide +kernel, by decide +kernel⟩) hS (fun q _ h => hFc q h) hFc (fun r8 u t H locs ht hvm hw hB hz1 hk1 hS => ?_)
      obtain rfl : q6 = r8 := Eq.symm hw
      obtain ⟨hP1, -, hD1⟩ := hB
      rw [ht] at hP1
      have hP := hP1
      have hD := hD1.weaken (fun k q _ h => hFc q.1 h)
      refine W.widen (k := 0) (n := 0) (Nat.le_refl _) (Nat.le_refl _) ?_
      refine lv_if_eq (tgt := 37) hx hb dX14_isAlike_30 (by decide) (fun c9 => ?_) (fun c9 => ?_)
      · have h := nd_pos h c9
        exact (db_X14_isAlike_37 C K)  s7 _ _ _ h hP hD hS (lv_sub hl [] rfl)
      · have h := nd_neg h c9
        refine lv_iconst (v := 1) hx hb dX14_isAlike_33 (by decide) ?_
        refine lv_goto (tgt := 38) hx hb dX14_isAlike_34 (by decide) ?_
        exact (db_X14_isAlike_38 C K) (1) s7 _ _ _ h hP hD hS (lv_sub hl [] rfl)
set_option maxHeartbeats 40000000 in
set_option maxRecDepth 100000 in
theorem dm_X14_isAlike (l : Launch) (hlt : l.stackTraces = false) (dC : Nat → ClassId) (dI : Nat → Nat → Nat) (a : Nat → Nat) (ac : Nat → ClassId) (n : Nat) (v0 : Int32) (s0 : St) {r : Int32 × (St)} (h : df_X14_isAlike n v0 s0 = some r) (sz : Nat) : Met l yX14_isAlike ow_dm_X14_isAlike ({ frames := 1, cells := 0, slots := 0, locals := 22 }) (va_Pc [.ref (a 0), .int v0] (fun U => U.heap.size = sz ∧ va_P (dC, dI) vwCl (dw_X14 a ac s0) U.heap ∧ va_K (dC, dI) vwCl (dk_X14 ac) U ∧ va_D (fun _ => True) (dw_X14 a ac s0) ∧ nv_E (va_A (dw_X14 a ac s0) sz) U)) (va_Qi (fun x _ => x = r.1) (fun (_ : Unit) t => va_P (dC, dI) vwCl (dw_X14 a ac r.2) t.heap ∧ va_K (dC, dI) vwCl (dk_X14 ac) t ∧ va_D (va_A (dw_X14 a ac s0) sz) (dw_X14 a ac r.2)) (va_A (dw_X14 a ac s0) sz)) 0 0 (va_A (dw_X14 a ac s0) sz) := by
  refine Met.ofW (cc := cX14_isAlike) (maxL := 2) (ret := (some .boolean)) (by decide) rfl ?_
  intro p e s m args below meth c s₁ B hml hv
  obtain ⟨rfl, hsz, hP, hK, hD0, hN⟩ := hv
  have hx := B.exec
  have hb := B.bytes
  have hr := B.returns
  have hts := atoms_spec (ws := ow_dm_X14_isAlike) B.pre
  have hown : s.vm.findClass RX14 = some m.cls := findClass_of_methodNamed B.named
  have hlocks := B.notSynchronized
  subst hsz
  have hD := hD0.self (sz := s.heap.size)
  generalize hAe : va_A (dw_X14 a ac s0) s.heap.size = A at hD hN ⊢
  have hA : ∀ q : Nat, s.heap.size ≤ q → A q := fun q h => by rw [← hAe]; exact Or.inr h
  have hl := lv_entry ([.ref (a 0), .int v0]) (n := 2) (Nat.le_of_ble_eq_true rfl)
  rw [lg_entry_eq]
  generalize (lg_sl ([.ref (a 0), .int v0]) ++ List.replicate (2 - (lg_sl ([.ref (a 0), .int v0])).length) Slot.unset).toArray = ls at hl ⊢
  have hl : lv_has ls 2 [(0, .ref (a 0)), (1, .int v0)] := hl
  exact db_X14_isAlike_0 (dC := dC) (dI := dI) (a := a) (ac := ac) (n := n) (r := r) ⟨hlt, hx, hb, hml, hown, hts, hN, hA, hK⟩ (fun pc v τ H locs ls d z er hP hD hS => by subst er; exact W.zret (v := v) hx hb hr z (fun t ht hW => ⟨⟨v, (), rfl, rfl, by rw [ht]; exact hP, va_K.moved hW.alike hK, hD⟩, hS.F ht⟩) hS.2.2 d) v0 s0 _ _ _ h hP hD va_S.rf (lv_sub hl [0, 1] rfl)
def ow_dm_X14_copyOf : List Cond := .code yX14_copyOf cX14_copyOf 4 (some .int) :: ([.fieldLink RX14 13 "TimeMachineModel$Codec" "b" "[I", .fieldLink RX14 9 "TimeMachineModel$Codec" "kind" "[I", .methodLink RX14 40 yX14_bringsSame, .instanceMethod yX14_bringsSame, .selects RX14 yX14_bringsSame yX14_bringsSame, .initialized RX14] ++ (u_ws RX14 TX14 11 ++ (ow_dm_X14_bringsSame ++ [])))
theorem gd_dm_X14_copyOf : ∀ w ∈ ow_dm_X14_copyOf, (w.onTables && w.keeps) = true ∨ ∃ ty, w = Cond.arrayClass ty := List.forall_mem_cons.mpr ⟨good_of_word rfl, List.forall_mem_append.mpr ⟨fun w h => good_of_word (List.all_eq_true.mp (by decide +kernel) w h), List.forall_mem_append.mpr ⟨gu_X14, List.forall_mem_append.mpr ⟨gd_dm_X14_bringsSame, fun _ h => nomatch h⟩⟩⟩⟩
theorem hi_dm_X14_copyOf_X14 : ∀ w ∈ u_ws RX14 TX14 11, w ∈ ow_dm_X14_copyOf := fun w h => List.mem_cons_of_mem _ (List.mem_append_right _ (List.mem_append_left _ h))
theorem gi_dm_X14_copyOf_0 : GoodIn ow_dm_X14_copyOf (wsV RX14 40 RX14 yX14_bringsSame ow_dm_X14_bringsSame) := goodIn_app (goodIn_of _ (by decide +kernel)) (fun w h => ⟨List.mem_cons_of_mem _ (List.mem_append_right _ (List.mem_append_right _ (List.mem_append_left _ h))), gd_dm_X14_bringsSame w h⟩)
def dj_X14_copyOf_59 (p : Program) (l : Launch) (e : Env) (s : State) (m : MethodId) (args : Array Value) (below : List Frame) (meth : Method) (c : Code) (Q : State → Prop) (A : Nat → Prop) (dC : Nat → ClassId) (dI : Nat → Nat → Nat) (a : Nat → Nat) (ac : Nat → ClassId) (g : (St) → Option (Int32 × (St))) (r : Int32 × (St)) : Prop := ∀ (s0 : St) (H : Heap) (locs : List Loc) (ls : Array Slot), g s0 = some r → va_P (dC, dI) vwCl (dw_X14 a ac s0) H → va_D A (dw_X14 a ac s0) → va_S A s.heap H locs → lv_has ls 4 [] → W p l e (headSpec ow_dm_X14_copyOf ({ frames := 1, cells := 0, slots := 0, locals := 22 })).room s m args below meth c H locs 0 0 Q (F0 m 59 ls [])
def dj_X14_copyOf_53 (p : Program) (l : Launch) (e : Env) (s : State) (m : MethodId) (args : Array Value) (below : List Frame) (meth : Method) (c : Code) (Q : State → Prop) (A : Nat → Prop) (dC : Nat → ClassId) (dI : Nat → Nat → Nat) (a : Nat → Nat) (ac : Nat → ClassId) (g : Int32 → Int32 → Int32 → (St) → Option (Int32 × (St))) (r : Int32 × (St)) : Prop := ∀ (x1 : Int32) (x2 : Int32) (x3 : Int32) (s0 : St) (H : Heap) (locs : List Loc) (ls : Array Slot), g x1 x2 x3 s0 = some r → va_P (dC, dI) vwCl (dw_X14 a ac s0) H → va_D A (dw_X14 a ac s0) → va_S A s.heap H locs → lv_has ls 4 [(0, .ref (a 0)), (1, .int x1), (2, .int x2), (3, .int x3)] → W p l e (headSpec ow_dm_X14_copyOf ({ frames := 1, cells := 0, slots := 0, locals := 22 })).room s m args below meth c H locs 0 0 Q (F0 m 53 ls [])
def dj_X14_copyOf_6 (p : Program) (l : Launch) (e : Env) (s : State) (m : MethodId) (args : Array Value) (below : List Frame) (meth : Method) (c : Code) (Q : State → Prop) (A : Nat → Prop) (dC : Nat → ClassId) (dI : Nat → Nat → Nat) (a : Nat → Nat) (ac : Nat → ClassId) (g : Int32 → Int32 → Int32 → (St) → Option (Int32 × (St))) (r : Int32 × (St)) : Prop := ∀ (x1 : Int32) (x2 : Int32) (x3 : Int32) (s0 : St) (H : Heap) (locs : List Loc) (ls : Array Slot), g x1 x2 x3 s0 = some r → va_P (dC, dI) vwCl (dw_X14 a ac s0) H → va_D A (dw_X14 a ac s0) → va_S A s.heap H locs → lv_has ls 4 [(0, .ref (a 0)), (1, .int x1), (2, .int x2), (3, .int x3)] → W p l e (headSpec ow_dm_X14_copyOf ({ frames := 1, cells := 0, slots := 0, locals := 22 })).room s m args below meth c H locs 0 0 Q (F0 m 6 ls [])
def dj_X14_copyOf_0 (p : Program) (l : Launch) (e : Env) (s : State) (m : MethodId) (args : Array Value) (below : List Frame) (meth : Method) (c : Code) (Q : State → Prop) (A : Nat → Prop) (dC : Nat → ClassId) (dI : Nat → Nat → Nat) (a : Nat → Nat) (ac : Nat → ClassId) (g : Int32 → (St) → Option (Int32 × (St))) (r : Int32 × (St)) : Prop := ∀ (v0 : Int32) (s0 : St) (H : Heap) (locs : List Loc) (ls : Array Slot), g v0 s0 = some r → va_P (dC, dI) vwCl (dw_X14 a ac s0) H → va_D A (dw_X14 a ac s0) → va_S A s.heap H locs → lv_has ls 4 [(0, .ref (a 0)), (1, .int v0)] → W p l e (headSpec ow_dm_X14_copyOf ({ frames := 1, cells := 0, slots := 0, locals := 22 })).room s m args below meth c H locs 0 0 Q (F0 m 0 ls [])
set_option maxHeartbeats 40000000 in
set_option maxRecDepth 100000 in
theorem db_X14_copyOf_59 {p : Program} {l : Launch} {e : Env} {s : State} {m : MethodId} {args : Array Value} {below : List Frame} {meth : Method} {c : Code} {Q : State → Prop} {A : Nat → Prop} {dC : Nat → ClassId} {dI : Nat → Nat → Nat} {a : Nat → Nat} {ac : Nat → ClassId} {n : Nat} {r : Int32 × (St)} (C : nd_C p l s m args c A (dC, dI) cX14_copyOf 4 RX14 ow_dm_X14_copyOf (dk_X14 ac)) (K : nd_Ki p l e (headSpec ow_dm_X14_copyOf ({ frames := 1, cells := 0, slots := 0, locals := 22 })).room s m args below meth c Q A (dC, dI) cX14_copyOf .int (St) (dw_X14 a ac) r) : dj_X14_copyOf_59 p l e s m args below meth c Q A dC dI a ac (df_X14_copyOf_59 n) r := by
  obtain ⟨hlt, hx, hb, hml, hown, hts, hN, hA, hK⟩ := id C
  intro s0 H locs ls h hP hD hS hl
  unfold df_X14_copyOf_59 at h
  refine lv_iconst (v := 0) hx hb dX14_copyOf_59 (by decide) ?_
  exact K _ _ _ _ _ _ dX14_copyOf_60 rfl (Option.some.inj h).symm hP hD hS
set_option maxHeartbeats 40000000 in
set_option maxRecDepth 100000 in
theorem db_X14_copyOf_53 {p : Program} {l : Launch} {e : Env} {s : State} {m : MethodId} {args : Array Value} {below : List Frame} {meth : Method} {c : Code} {Q : State → Prop} {A : Nat → Prop} {dC : Nat → ClassId} {dI : Nat → Nat → Nat} {a : Nat → Nat} {ac : Nat → ClassId} {n : Nat} {r : Int32 × (St)} (C : nd_C p l s m args c A (dC, dI) cX14_copyOf 4 RX14 ow_dm_X14_copyOf (dk_X14 ac)) (K : nd_Ki p l e (headSpec ow_dm_X14_copyOf ({ frames := 1, cells := 0, slots := 0, locals := 22 })).room s m args below meth c Q A (dC, dI) cX14_copyOf .int (St) (dw_X14 a ac) r) {g6 : Int32 → Int32 → Int32 → (St) → Option (Int32 × (St))} (J6 : dj_X14_copyOf_6 p l e s m args below meth c Q A dC dI a ac g6 r) : dj_X14_copyOf_53 p l e s m args below meth c Q A dC dI a ac (df_X14_copyOf_53 n g6) r := by
  obtain ⟨hlt, hx, hb, hml, hown, hts, hN, hA, hK⟩ := id C
  intro x1 x2 x3 s0 H locs ls h hP hD hS hl
  unfold df_X14_copyOf_53 at h
  obtain ⟨z13, ez13, h⟩ := nd_let_e h
  refine lv_iinc (v := z13) (lv' := [(3, .int z13), (0, .ref (a 0)), (1, .int x1), (2, .int x2)]) hx hb dX14_copyOf_53 hl (k := 3) rfl (by rw [ez13]) (by decide) rfl (fun ls hl => ?_)
  refine lv_goto (tgt := 6) hx hb dX14_copyOf_56 (by decide) ?_
  exact (J6) (x1) (x2) (z13) s0 _ _ _ h hP hD hS (lv_sub hl [1, 2, 3, 0] rfl)
set_option maxHeartbeats 40000000 in
set_option maxRecDepth 100000 in
theorem dB_X14_copyOf_6 {p : Program} {l : Launch} {e : Env} {s : State} {m : MethodId} {args : Array Value} {below : List Frame} {meth : Method} {c : Code} {Q : State → Prop} {A : Nat → Prop} {dC : Nat → ClassId} {dI : Nat → Nat → Nat} {a : Nat → Nat} {ac : Nat → ClassId} {n : Nat} {r : Int32 × (St)} (C : nd_C p l s m args c A (dC, dI) cX14_copyOf 4 RX14 ow_dm_X14_copyOf (dk_X14 ac)) (K : nd_Ki p l e (headSpec ow_dm_X14_copyOf ({ frames := 1, cells := 0, slots := 0, locals := 22 })).room s m args below meth c Q A (dC, dI) cX14_copyOf .int (St) (dw_X14 a ac) r) {g6 : Int32 → Int32 → Int32 → (St) → Option (Int32 × (St))} (J6 : dj_X14_copyOf_6 p l e s m args below meth c Q A dC dI a ac g6 r) : dj_X14_copyOf_6 p l e s m args below meth c Q A dC dI a ac (dF_X14_copyOf_6 n g6) r := by
  obtain ⟨hlt, hx, hb, hml, hown, hts, hN, hA, hK⟩ := id C
  intro x1 x2 x3 s0 H locs ls h hP hD hS hl
  unfold dF_X14_copyOf_6 at h
  refine lv_iload_n hx hb dX14_copyOf_6 rfl (lv_at hl 3 rfl) ?_
  refine lv_if_lt (tgt := 59) hx hb dX14_copyOf_7 (by decide) (fun c2 => ?_) (fun c2 => ?_)
  · have h := nd_pos h c2
    exact (db_X14_copyOf_59 C K)  s0 _ _ _ h hP hD hS (lv_sub hl [] rfl)
  · have h := nd_neg h c2
    refine lv_iload_n hx hb dX14_copyOf_10 rfl (lv_at hl 2 rfl) ?_
    refine lv_bipush (v := 20) hx hb dX14_copyOf_11 (by decide) ?_
    refine lv_icmp_ge (tgt := 59) hx hb dX14_copyOf_13 (by decide) (fun c3 => ?_) (fun c3 => ?_)
    · have h := nd_pos h c3
      exact (db_X14_copyOf_59 C K)  s0 _ _ _ h hP hD hS (lv_sub hl [] rfl)
    · have h := nd_neg h c3
      refine lv_aload_n hx hb dX14_copyOf_16 rfl (lv_at hl 0 rfl) ?_
      refine va_get (D := (dC, dI)) (ci := 15) (v := .ref (a 2)) (C := RX14) (T := TX14) (N := 11) hx hb hts hi_dm_X14_copyOf_X14 hown hK hP 0 rfl rfl 2 (by decide) (hts (.fieldLink RX14 13 "TimeMachineModel$Codec" "b" "[I") (List.mem_of_getElem? (i := 1) rfl)) (fun _ h9 => h9) rfl dX14_copyOf_17 ?_
      refine lv_iload_n hx hb dX14_copyOf_20 rfl (lv_at hl 1 rfl) ?_
      obtain ⟨i4, h⟩ := nd_ck_e h
      refine va_iald (i := x1) hx hb hK hP 2 1 rfl rfl i4 dX14_copyOf_21 ?_
      refine lv_iconst (v := 1) hx hb dX14_copyOf_22 (by decide) ?_
      refine lv_icmp_le (tgt := 59) hx hb dX14_copyOf_23 (by decide) (fun c5 => ?_) (fun c5 => ?_)
      · have h := nd_pos h c5
        exact (db_X14_copyOf_59 C K)  s0 _ _ _ h hP hD hS (lv_sub hl [] rfl)
      · have h := nd_neg h c5
        refine lv_aload_n hx hb dX14_copyOf_26 rfl (lv_at hl 0 rfl) ?_
        refine va_get (D := (dC, dI)) (ci := 15) (v := .ref (a 1)) (C := RX14) (T := TX14) (N := 11) hx hb hts hi_dm_X14_copyOf_X14 hown hK hP 0 rfl rfl 1 (by decide) (hts (.fieldLink RX14 9 "TimeMachineModel$Codec" "kind" "[I") (List.mem_of_getElem? (i := 2) rfl)) (fun _ h9 => h9) rfl dX14_copyOf_27 ?_
        refine lv_iload_n hx hb dX14_copyOf_30 rfl (lv_at hl 3 rfl) ?_
        obtain ⟨i6, h⟩ := nd_ck_e h
        refine va_iald (i := x3) hx hb hK hP 1 0 rfl rfl i6 dX14_copyOf_31 ?_
        refine lv_iconst (v := 1) hx hb dX14_copyOf_32 (by decide) ?_
        refine lv_icmp_eq (tgt := 39) hx hb dX14_copyOf_33 (by decide) (fun c7 => ?_) (fun c7 => ?_)
        · have h := nd_pos h c7
          obtain ⟨z8, ez8, h⟩ := nd_let_e h
          refine lv_iinc (v := z8) (lv' := [(2, .int z8), (0, .ref (a 0)), (1, .int x1), (3, .int x3)]) hx hb dX14_copyOf_39 hl (k := 2) rfl (by rw [ez8]) (by decide) rfl (fun ls hl => ?_)
          refine lv_aload_n hx hb dX14_copyOf_42 rfl (lv_at hl 1 rfl) ?_
          refine lv_iload_n hx hb dX14_copyOf_43 rfl (lv_at hl 2 rfl) ?_
          refine lv_iload_n hx hb dX14_copyOf_44 rfl (lv_at hl 3 rfl) ?_
          obtain ⟨q9, s10, hq, h⟩ := nd_b2_e h
          have hPc := hP
          have hDc := hD
          have hKc := hK
          have hFc := nd_rs hD hS hA
          refine va_calli (va_runV (As := [.int x1, .int x3]) (rest := []) ⟨hx, hb, hml, hown, hts⟩ (dm_X14_bringsSame l hlt dC dI a ac n (x1) (x3) s0 hq _) (cwV 2 hts gi_dm_X14_copyOf_0 rfl rfl rfl (by decide +kernel) ⟨Nat.le_of_ble_eq_true rfl, Nat.le_of_ble_eq_true rfl⟩) ⟨fun a U g mk q => by obtain ⟨q0, q1, qP, qK, qD, qN⟩ := q; exact ⟨q0, q1, qP, va_K.moved (u := U) (U := U.calling g mk a) (Vm.Alike.refl U.vm) qK, qD, nv_same rfl rfl qN⟩, va_recv hKc hPc (ci := 15) (q0 := 0) rfl rfl, fun U hU hW => ⟨rfl, by rw [hU], by rw [hU]; exact hPc, va_K.moved hW.alike hKc, hDc.weaken (fun _ _ _ _ => trivial), nv_call hS hFc hU hW hN⟩⟩ rfl rfl hl.1 rfl (lv_room (Nat.le_of_ble_eq_true rfl)) dX14_copyOf_45 ⟨by decide +kernel, by decide +kernel⟩) hS (fun q _ h => hFc q h) hFc (fun r11 u t H locs ht hvm hw hB hz1 hk1 hS => ?_)
          obtain rfl : q9 = r11 := Eq.symm hw
          obtain ⟨hP1, -, hD1⟩ := hB
          rw [ht] at hP1
          have hP := hP1
          have hD := hD1.weaken (fun k q _ h => hFc q.1 h)
          refine W.widen (k := 0) (n := 0) (Nat.le_refl _) (Nat.le_refl _) ?_
          refine lv_if_eq (tgt := 53) hx hb dX14_copyOf_48 (by decide) (fun c12 => ?_) (fun c12 => ?_)
          · have h := nd_pos h c12
            exact (db_X14_copyOf_53 C K J6) (x1) (z8) (x3) s10 _ _ _ h hP hD hS (lv_sub hl [1, 2, 0, 3] rfl)
          · have h := nd_neg h c12
            refine lv_iload_n hx hb dX14_copyOf_51 rfl (lv_at hl 0 rfl) ?_
            exact K _ _ _ _ _ _ dX14_copyOf_52 rfl (Option.some.inj h).symm hP hD hS
        · have h := nd_neg h c7
          refine lv_goto (tgt := 53) hx hb dX14_copyOf_36 (by decide) ?_
          exact (db_X14_copyOf_53 C K J6) (x1) (x2) (x3) s0 _ _ _ h hP hD hS (lv_sub hl [0, 1, 2, 3] rfl)
set_option maxHeartbeats 40000000 in
set_option maxRecDepth 100000 in
theorem db_X14_copyOf_6 {p : Program} {l : Launch} {e : Env} {s : State} {m : MethodId} {args : Array Value} {below : List Frame} {meth : Method} {c : Code} {Q : State → Prop} {A : Nat → Prop} {dC : Nat → ClassId} {dI : Nat → Nat → Nat} {a : Nat → Nat} {ac : Nat → ClassId} {n : Nat} {r : Int32 × (St)} (C : nd_C p l s m args c A (dC, dI) cX14_copyOf 4 RX14 ow_dm_X14_copyOf (dk_X14 ac)) (K : nd_Ki p l e (headSpec ow_dm_X14_copyOf ({ frames := 1, cells := 0, slots := 0, locals := 22 })).room s m args below meth c Q A (dC, dI) cX14_copyOf .int (St) (dw_X14 a ac) r) (k : Nat) : dj_X14_copyOf_6 p l e s m args below meth c Q A dC dI a ac (df_X14_copyOf_6 n k) r := by
  induction k with
  | zero => intro x1 x2 x3 s0 H locs ls h; exact nomatch (show (none : Option (Int32 × (St))) = some r from h)
  | succ k ih => exact dB_X14_copyOf_6 C K ih
set_option maxHeartbeats 40000000 in
set_option maxRecDepth 100000 in
theorem db_X14_copyOf_0 {p : Program} {l : Launch} {e : Env} {s : State} {m : MethodId} {args : Array Value} {below : List Frame} {meth : Method} {c : Code} {Q : State → Prop} {A : Nat → Prop} {dC : Nat → ClassId} {dI : Nat → Nat → Nat} {a : Nat → Nat} {ac : Nat → ClassId} {n : Nat} {r : Int32 × (St)} (C : nd_C p l s m args c A (dC, dI) cX14_copyOf 4 RX14 ow_dm_X14_copyOf (dk_X14 ac)) (K : nd_Ki p l e (headSpec ow_dm_X14_copyOf ({ frames := 1, cells := 0, slots := 0, locals := 22 })).room s m args below meth c Q A (dC, dI) cX14_copyOf .int (St) (dw_X14 a ac) r) : dj_X14_copyOf_0 p l e s m args below meth c Q A dC dI a ac (df_X14_copyOf_0 n) r := by
  obtain ⟨hlt, hx, hb, hml, hown, hts, hN, hA, hK⟩ := id C
  intro v0 s0 H locs ls h hP hD hS hl
  unfold df_X14_copyOf_0 at h
  refine lv_iconst (v := 0) hx hb dX14_copyOf_0 (by decide) ?_
  refine lv_istore_n (lv' := [(2, .int 0), (0, .ref (a 0)), (1, .int v0)]) hx hb dX14_copyOf_1 rfl hl (by decide) rfl (fun ls hl => ?_)
  refine lv_iload_n hx hb dX14_copyOf_2 rfl (lv_at hl 2 rfl) ?_
  refine lv_iconst (v := 1) hx hb dX14_copyOf_3 (by decide) ?_
  refine lv_isub hx hb dX14_copyOf_4 ?_
  refine lv_topi (fun z1 ez1 => ?_)
  have h := nd_at h ez1
  refine lv_istore_n (lv' := [(3, .int z1), (2, .int 0), (0, .ref (a 0)), (1, .int v0)]) hx hb dX14_copyOf_5 rfl hl (by decide) rfl (fun ls hl => ?_)
  exact (db_X14_copyOf_6 C K n) (v0) (0) (z1) s0 _ _ _ h hP hD hS (lv_sub hl [2, 3, 1, 0] rfl)
set_option maxHeartbeats 40000000 in
set_option maxRecDepth 100000 in
theorem dm_X14_copyOf (l : Launch) (hlt : l.stackTraces = false) (dC : Nat → ClassId) (dI : Nat → Nat → Nat) (a : Nat → Nat) (ac : Nat → ClassId) (n : Nat) (v0 : Int32) (s0 : St) {r : Int32 × (St)} (h : df_X14_copyOf n v0 s0 = some r) (sz : Nat) : Met l yX14_copyOf ow_dm_X14_copyOf ({ frames := 1, cells := 0, slots := 0, locals := 22 }) (va_Pc [.ref (a 0), .int v0] (fun U => U.heap.size = sz ∧ va_P (dC, dI) vwCl (dw_X14 a ac s0) U.heap ∧ va_K (dC, dI) vwCl (dk_X14 ac) U ∧ va_D (fun _ => True) (dw_X14 a ac s0) ∧ nv_E (va_A (dw_X14 a ac s0) sz) U)) (va_Qi (fun x _ => x = r.1) (fun (_ : Unit) t => va_P (dC, dI) vwCl (dw_X14 a ac r.2) t.heap ∧ va_K (dC, dI) vwCl (dk_X14 ac) t ∧ va_D (va_A (dw_X14 a ac s0) sz) (dw_X14 a ac r.2)) (va_A (dw_X14 a ac s0) sz)) 0 0 (va_A (dw_X14 a ac s0) sz) := by
  refine Met.ofW (cc := cX14_copyOf) (maxL := 4) (ret := (some .int)) (by decide) rfl ?_
  intro p e s m args below meth c s₁ B hml hv
  obtain ⟨rfl, hsz, hP, hK, hD0, hN⟩ := hv
  have hx := B.exec
  have hb := B.bytes
  have hr := B.returns
  have hts := atoms_spec (ws := ow_dm_X14_copyOf) B.pre
  have hown : s.vm.findClass RX14 = some m.cls := findClass_of_methodNamed B.named
  have hlocks := B.notSynchronized
  subst hsz
  have hD := hD0.self (sz := s.heap.size)
  generalize hAe : va_A (dw_X14 a ac s0) s.heap.size = A at hD hN ⊢
  have hA : ∀ q : Nat, s.heap.size ≤ q → A q := fun q h => by rw [← hAe]; exact Or.inr h
  have hl := lv_entry ([.ref (a 0), .int v0]) (n := 4) (Nat.le_of_ble_eq_true rfl)
  rw [lg_entry_eq]
  generalize (lg_sl ([.ref (a 0), .int v0]) ++ List.replicate (4 - (lg_sl ([.ref (a 0), .int v0])).length) Slot.unset).toArray = ls at hl ⊢
  have hl : lv_has ls 4 [(0, .ref (a 0)), (1, .int v0)] := hl
  exact db_X14_copyOf_0 (dC := dC) (dI := dI) (a := a) (ac := ac) (n := n) (r := r) ⟨hlt, hx, hb, hml, hown, hts, hN, hA, hK⟩ (fun pc v τ H locs ls d z er hP hD hS => by subst er; exact W.zret (v := v) hx hb hr z (fun t ht hW => ⟨⟨v, (), rfl, rfl, by rw [ht]; exact hP, va_K.moved hW.alike hK, hD⟩, hS.F ht⟩) hS.2.2 d) v0 s0 _ _ _ h hP hD va_S.rf (lv_sub hl [0, 1] rfl)
def ow_dm_X14_isAsFar : List Cond := .code yX14_isAsFar cX14_isAsFar 3 (some .boolean) :: ([.fieldLink RX14 20 "TimeMachineModel$Codec" "a" "[J", .fieldLink RX14 9 "TimeMachineModel$Codec" "kind" "[I"] ++ (u_ws RX14 TX14 11 ++ []))
theorem gd_dm_X14_isAsFar : ∀ w ∈ ow_dm_X14_isAsFar, (w.onTables && w.keeps) = true ∨ ∃ ty, w = Cond.arrayClass ty := List.forall_mem_cons.mpr ⟨good_of_word rfl, List.forall_mem_append.mpr ⟨fun w h => good_of_word (List.all_eq_true.mp (by decide +kernel) w h), List.forall_mem_append.mpr ⟨gu_X14, fun _ h => nomatch h⟩⟩⟩
theorem hi_dm_X14_isAsFar_X14 : ∀ w ∈ u_ws RX14 TX14 11, w ∈ ow_dm_X14_isAsFar := fun w h => List.mem_cons_of_mem _ (List.mem_append_right _ (List.mem_append_left _ h))
def dj_X14_isAsFar_49 (p : Program) (l : Launch) (e : Env) (s : State) (m : MethodId) (args : Array Value) (below : List Frame) (meth : Method) (c : Code) (Q : State → Prop) (A : Nat → Prop) (dC : Nat → ClassId) (dI : Nat → Nat → Nat) (a : Nat → Nat) (ac : Nat → ClassId) (g : Int32 → (St) → Option (Int32 × (St))) (r : Int32 × (St)) : Prop := ∀ (y0 : Int32) (s0 : St) (H : Heap) (locs : List Loc) (ls : Array Slot), g y0 s0 = some r → va_P (dC, dI) vwCl (dw_X14 a ac s0) H → va_D A (dw_X14 a ac s0) → va_S A s.heap H locs → lv_has ls 3 [] → W p l e (headSpec ow_dm_X14_isAsFar ({ frames := 0, cells := 0, slots := 0, locals := 0 })).room s m args below meth c H locs 0 0 Q (F0 m 49 ls [.int y0])
def dj_X14_isAsFar_48 (p : Program) (l : Launch) (e : Env) (s : State) (m : MethodId) (args : Array Value) (below : List Frame) (meth : Method) (c : Code) (Q : State → Prop) (A : Nat → Prop) (dC : Nat → ClassId) (dI : Nat → Nat → Nat) (a : Nat → Nat) (ac : Nat → ClassId) (g : (St) → Option (Int32 × (St))) (r : Int32 × (St)) : Prop := ∀ (s0 : St) (H : Heap) (locs : List Loc) (ls : Array Slot), g s0 = some r → va_P (dC, dI) vwCl (dw_X14 a ac s0) H → va_D A (dw_X14 a ac s0) → va_S A s.heap H locs → lv_has ls 3 [] → W p l e (headSpec ow_dm_X14_isAsFar ({ frames := 0, cells := 0, slots := 0, locals := 0 })).room s m args below meth c H locs 0 0 Q (F0 m 48 ls [])
def dj_X14_isAsFar_24 (p : Program) (l : Launch) (e : Env) (s : State) (m : MethodId) (args : Array Value) (below : List Frame) (meth : Method) (c : Code) (Q : State → Prop) (A : Nat → Prop) (dC : Nat → ClassId) (dI : Nat → Nat → Nat) (a : Nat → Nat) (ac : Nat → ClassId) (g : Int32 → Int32 → (St) → Option (Int32 × (St))) (r : Int32 × (St)) : Prop := ∀ (x1 : Int32) (x2 : Int32) (s0 : St) (H : Heap) (locs : List Loc) (ls : Array Slot), g x1 x2 s0 = some r → va_P (dC, dI) vwCl (dw_X14 a ac s0) H → va_D A (dw_X14 a ac s0) → va_S A s.heap H locs → lv_has ls 3 [(0, .ref (a 0)), (1, .int x1), (2, .int x2)] → W p l e (headSpec ow_dm_X14_isAsFar ({ frames := 0, cells := 0, slots := 0, locals := 0 })).room s m args below meth c H locs 0 0 Q (F0 m 24 ls [])
def dj_X14_isAsFar_4 (p : Program) (l : Launch) (e : Env) (s : State) (m : MethodId) (args : Array Value) (below : List Frame) (meth : Method) (c : Code) (Q : State → Prop) (A : Nat → Prop) (dC : Nat → ClassId) (dI : Nat → Nat → Nat) (a : Nat → Nat) (ac : Nat → ClassId) (g : Int32 → Int32 → (St) → Option (Int32 × (St))) (r : Int32 × (St)) : Prop := ∀ (x1 : Int32) (x2 : Int32) (s0 : St) (H : Heap) (locs : List Loc) (ls : Array Slot), g x1 x2 s0 = some r → va_P (dC, dI) vwCl (dw_X14 a ac s0) H → va_D A (dw_X14 a ac s0) → va_S A s.heap H locs → lv_has ls 3 [(0, .ref (a 0)), (1, .int x1), (2, .int x2)] → W p l e (headSpec ow_dm_X14_isAsFar ({ frames := 0, cells := 0, slots := 0, locals := 0 })).room s m args below meth c H locs 0 0 Q (F0 m 4 ls [])
def dj_X14_isAsFar_0 (p : Program) (l : Launch) (e : Env) (s : State) (m : MethodId) (args : Array Value) (below : List Frame) (meth : Method) (c : Code) (Q : State → Prop) (A : Nat → Prop) (dC : Nat → ClassId) (dI : Nat → Nat → Nat) (a : Nat → Nat) (ac : Nat → ClassId) (g : Int32 → (St) → Option (Int32 × (St))) (r : Int32 × (St)) : Prop := ∀ (v0 : Int32) (s0 : St) (H : Heap) (locs : List Loc) (ls : Array Slot), g v0 s0 = some r → va_P (dC, dI) vwCl (dw_X14 a ac s0) H → va_D A (dw_X14 a ac s0) → va_S A s.heap H locs → lv_has ls 3 [(0, .ref (a 0)), (1, .int v0)] → W p l e (headSpec ow_dm_X14_isAsFar ({ frames := 0, cells := 0, slots := 0, locals := 0 })).room s m args below meth c H locs 0 0 Q (F0 m 0 ls [])
set_option maxHeartbeats 40000000 in
set_option maxRecDepth 100000 in
theorem db_X14_isAsFar_49 {p : Program} {l : Launch} {e : Env} {s : State} {m : MethodId} {args : Array Value} {below : List Frame} {meth : Method} {c : Code} {Q : State → Prop} {A : Nat → Prop} {dC : Nat → ClassId} {dI : Nat → Nat → Nat} {a : Nat → Nat} {ac : Nat → ClassId} {n : Nat} {r : Int32 × (St)} (C : nd_C p l s m args c A (dC, dI) cX14_isAsFar 3 RX14 ow_dm_X14_isAsFar (dk_X14 ac)) (K : nd_Ki p l e (headSpec ow_dm_X14_isAsFar ({ frames := 0, cells := 0, slots := 0, locals := 0 })).room s m args below meth c Q A (dC, dI) cX14_isAsFar .boolean (St) (dw_X14 a ac) r) : dj_X14_isAsFar_49 p l e s m args below meth c Q A dC dI a ac (df_X14_isAsFar_49 n) r := by
  obtain ⟨hlt, hx, hb, hml, hown, hts, hN, hA, hK⟩ := id C
  intro y0 s0 H locs ls h hP hD hS hl
  unfold df_X14_isAsFar_49 at h
  obtain ⟨n4, h⟩ := nd_z_e ⟨_, rfl⟩ h
  exact K _ _ _ _ _ _ dX14_isAsFar_49 n4 (Option.some.inj h).symm hP hD hS
set_option maxHeartbeats 40000000 in
set_option maxRecDepth 100000 in
theorem db_X14_isAsFar_48 {p : Program} {l : Launch} {e : Env} {s : State} {m : MethodId} {args : Array Value} {below : List Frame} {meth : Method} {c : Code} {Q : State → Prop} {A : Nat → Prop} {dC : Nat → ClassId} {dI : Nat → Nat → Nat} {a : Nat → Nat} {ac : Nat → ClassId} {n : Nat} {r : Int32 × (St)} (C : nd_C p l s m args c A (dC, dI) cX14_isAsFar 3 RX14 ow_dm_X14_isAsFar (dk_X14 ac)) (K : nd_Ki p l e (headSpec ow_dm_X14_isAsFar ({ frames := 0, cells := 0, slots := 0, locals := 0 })).room s m args below meth c Q A (dC, dI) cX14_isAsFar .boolean (St) (dw_X14 a ac) r) : dj_X14_isAsFar_48 p l e s m args below meth c Q A dC dI a ac (df_X14_isAsFar_48 n) r := by
  obtain ⟨hlt, hx, hb, hml, hown, hts, hN, hA, hK⟩ := id C
  intro s0 H locs ls h hP hD hS hl
  unfold df_X14_isAsFar_48 at h
  refine lv_iconst (v := 0) hx hb dX14_isAsFar_48 (by decide) ?_
  exact (db_X14_isAsFar_49 C K) (0) s0 _ _ _ h hP hD hS (lv_sub hl [] rfl)
set_option maxHeartbeats 40000000 in
set_option maxRecDepth 100000 in
theorem db_X14_isAsFar_24 {p : Program} {l : Launch} {e : Env} {s : State} {m : MethodId} {args : Array Value} {below : List Frame} {meth : Method} {c : Code} {Q : State → Prop} {A : Nat → Prop} {dC : Nat → ClassId} {dI : Nat → Nat → Nat} {a : Nat → Nat} {ac : Nat → ClassId} {n : Nat} {r : Int32 × (St)} (C : nd_C p l s m args c A (dC, dI) cX14_isAsFar 3 RX14 ow_dm_X14_isAsFar (dk_X14 ac)) (K : nd_Ki p l e (headSpec ow_dm_X14_isAsFar ({ frames := 0, cells := 0, slots := 0, locals := 0 })).room s m args below meth c Q A (dC, dI) cX14_isAsFar .boolean (St) (dw_X14 a ac) r) : dj_X14_isAsFar_24 p l e s m args below meth c Q A dC dI a ac (df_X14_isAsFar_24 n) r := by
  obtain ⟨hlt, hx, hb, hml, hown, hts, hN, hA, hK⟩ := id C
  intro x1 x2 s0 H locs ls h hP hD hS hl
  unfold df_X14_isAsFar_24 at h
  refine lv_iload_n hx hb dX14_isAsFar_24 rfl (lv_at hl 2 rfl) ?_
  refine lv_if_lt (tgt := 48) hx hb dX14_isAsFar_25 (by decide) (fun c3 => ?_) (fun c3 => ?_)
  · have h := nd_pos h c3
    exact (db_X14_isAsFar_48 C K)  s0 _ _ _ h hP hD hS (lv_sub hl [] rfl)
  · have h := nd_neg h c3
    refine lv_aload_n hx hb dX14_isAsFar_28 rfl (lv_at hl 0 rfl) ?_
    refine va_get (D := (dC, dI)) (ci := 15) (v := .ref (a 4)) (C := RX14) (T := TX14) (N := 11) hx hb hts hi_dm_X14_isAsFar_X14 hown hK hP 0 rfl rfl 4 (by decide) (hts (.fieldLink RX14 20 "TimeMachineModel$Codec" "a" "[J") (List.mem_of_getElem? (i := 1) rfl)) (fun _ h9 => h9) rfl dX14_isAsFar_29 ?_
    refine lv_iload_n hx hb dX14_isAsFar_32 rfl (lv_at hl 2 rfl) ?_
    obtain ⟨i5, h⟩ := nd_ck_e h
    refine va_lald (i := x2) hx hb hK hP 4 3 rfl rfl i5 dX14_isAsFar_33 ?_
    refine lv_aload_n hx hb dX14_isAsFar_34 rfl (lv_at hl 0 rfl) ?_
    refine va_get (D := (dC, dI)) (ci := 15) (v := .ref (a 4)) (C := RX14) (T := TX14) (N := 11) hx hb hts hi_dm_X14_isAsFar_X14 hown hK hP 0 rfl rfl 4 (by decide) (hts (.fieldLink RX14 20 "TimeMachineModel$Codec" "a" "[J") (List.mem_of_getElem? (i := 1) rfl)) (fun _ h9 => h9) rfl dX14_isAsFar_35 ?_
    refine lv_iload_n hx hb dX14_isAsFar_38 rfl (lv_at hl 1 rfl) ?_
    obtain ⟨i6, h⟩ := nd_ck_e h
    refine va_lald (i := x1) hx hb hK hP 4 3 rfl rfl i6 dX14_isAsFar_39 ?_
    refine W.lcmp hx hb dX14_isAsFar_40 ?_
    refine lv_if_ne (tgt := 48) hx hb dX14_isAsFar_41 (by decide) (fun c7 => ?_) (fun c7 => ?_)
    · have h := nd_neg h c7
      exact (db_X14_isAsFar_48 C K)  s0 _ _ _ h hP hD hS (lv_sub hl [] rfl)
    · have h := nd_pos h c7
      refine lv_iconst (v := 1) hx hb dX14_isAsFar_44 (by decide) ?_
      refine lv_goto (tgt := 49) hx hb dX14_isAsFar_45 (by decide) ?_
      exact (db_X14_isAsFar_49 C K) (1) s0 _ _ _ h hP hD hS (lv_sub hl [] rfl)
set_option maxHeartbeats 40000000 in
set_option maxRecDepth 100000 in
theorem dB_X14_isAsFar_4 {p : Program} {l : Launch} {e : Env} {s : State} {m : MethodId} {args : Array Value} {below : List Frame} {meth : Method} {c : Code} {Q : State → Prop} {A : Nat → Prop} {dC : Nat → ClassId} {dI : Nat → Nat → Nat} {a : Nat → Nat} {ac : Nat → ClassId} {n : Nat} {r : Int32 × (St)} (C : nd_C p l s m args c A (dC, dI) cX14_isAsFar 3 RX14 ow_dm_X14_isAsFar (dk_X14 ac)) (K : nd_Ki p l e (headSpec ow_dm_X14_isAsFar ({ frames := 0, cells := 0, slots := 0, locals := 0 })).room s m args below meth c Q A (dC, dI) cX14_isAsFar .boolean (St) (dw_X14 a ac) r) {g4 : Int32 → Int32 → (St) → Option (Int32 × (St))} (J4 : dj_X14_isAsFar_4 p l e s m args below meth c Q A dC dI a ac g4 r) : dj_X14_isAsFar_4 p l e s m args below meth c Q A dC dI a ac (dF_X14_isAsFar_4 n g4) r := by
  obtain ⟨hlt, hx, hb, hml, hown, hts, hN, hA, hK⟩ := id C
  intro x1 x2 s0 H locs ls h hP hD hS hl
  unfold dF_X14_isAsFar_4 at h
  refine lv_iload_n hx hb dX14_isAsFar_4 rfl (lv_at hl 2 rfl) ?_
  refine lv_if_lt (tgt := 24) hx hb dX14_isAsFar_5 (by decide) (fun c2 => ?_) (fun c2 => ?_)
  · have h := nd_pos h c2
    exact (db_X14_isAsFar_24 C K) (x1) (x2) s0 _ _ _ h hP hD hS (lv_sub hl [0, 1, 2] rfl)
  · have h := nd_neg h c2
    refine lv_aload_n hx hb dX14_isAsFar_8 rfl (lv_at hl 0 rfl) ?_
    refine va_get (D := (dC, dI)) (ci := 15) (v := .ref (a 1)) (C := RX14) (T := TX14) (N := 11) hx hb hts hi_dm_X14_isAsFar_X14 hown hK hP 0 rfl rfl 1 (by decide) (hts (.fieldLink RX14 9 "TimeMachineModel$Codec" "kind" "[I") (List.mem_of_getElem? (i := 2) rfl)) (fun _ h9 => h9) rfl dX14_isAsFar_9 ?_
    refine lv_iload_n hx hb dX14_isAsFar_12 rfl (lv_at hl 2 rfl) ?_
    obtain ⟨i8, h⟩ := nd_ck_e h
    refine va_iald (i := x2) hx hb hK hP 1 0 rfl rfl i8 dX14_isAsFar_13 ?_
    refine lv_iconst (v := 3) hx hb dX14_isAsFar_14 (by decide) ?_
    refine lv_icmp_eq (tgt := 24) hx hb dX14_isAsFar_15 (by decide) (fun c9 => ?_) (fun c9 => ?_)
    · have h := nd_pos h c9
      exact (db_X14_isAsFar_24 C K) (x1) (x2) s0 _ _ _ h hP hD hS (lv_sub hl [0, 1, 2] rfl)
    · have h := nd_neg h c9
      obtain ⟨z10, ez10, h⟩ := nd_let_e h
      refine lv_iinc (v := z10) (lv' := [(2, .int z10), (0, .ref (a 0)), (1, .int x1)]) hx hb dX14_isAsFar_18 hl (k := 2) rfl (by rw [ez10]) (by decide) rfl (fun ls hl => ?_)
      refine lv_goto (tgt := 4) hx hb dX14_isAsFar_21 (by decide) ?_
      exact (J4) (x1) (z10) s0 _ _ _ h hP hD hS (lv_sub hl [1, 2, 0] rfl)
set_option maxHeartbeats 40000000 in
set_option maxRecDepth 100000 in
theorem db_X14_isAsFar_4 {p : Program} {l : Launch} {e : Env} {s : State} {m : MethodId} {args : Array Value} {below : List Frame} {meth : Method} {c : Code} {Q : State → Prop} {A : Nat → Prop} {dC : Nat → ClassId} {dI : Nat → Nat → Nat} {a : Nat → Nat} {ac : Nat → ClassId} {n : Nat} {r : Int32 × (St)} (C : nd_C p l s m args c A (dC, dI) cX14_isAsFar 3 RX14 ow_dm_X14_isAsFar (dk_X14 ac)) (K : nd_Ki p l e (headSpec ow_dm_X14_isAsFar ({ frames := 0, cells := 0, slots := 0, locals := 0 })).room s m args below meth c Q A (dC, dI) cX14_isAsFar .boolean (St) (dw_X14 a ac) r) (k : Nat) : dj_X14_isAsFar_4 p l e s m args below meth c Q A dC dI a ac (df_X14_isAsFar_4 n k) r := by
  induction k with
  | zero => intro x1 x2 s0 H locs ls h; exact nomatch (show (none : Option (Int32 × (St))) = some r from h)
  | succ k ih => exact dB_X14_isAsFar_4 C K ih
set_option maxHeartbeats 40000000 in
set_option maxRecDepth 100000 in
theorem db_X14_isAsFar_0 {p : Program} {l : Launch} {e : Env} {s : State} {m : MethodId} {args : Array Value} {below : List Frame} {meth : Method} {c : Code} {Q : State → Prop} {A : Nat → Prop} {dC : Nat → ClassId} {dI : Nat → Nat → Nat} {a : Nat → Nat} {ac : Nat → ClassId} {n : Nat} {r : Int32 × (St)} (C : nd_C p l s m args c A (dC, dI) cX14_isAsFar 3 RX14 ow_dm_X14_isAsFar (dk_X14 ac)) (K : nd_Ki p l e (headSpec ow_dm_X14_isAsFar ({ frames := 0, cells := 0, slots := 0, locals := 0 })).room s m args below meth c Q A (dC, dI) cX14_isAsFar .boolean (St) (dw_X14 a ac) r) : dj_X14_isAsFar_0 p l e s m args below meth c Q A dC dI a ac (df_X14_isAsFar_0 n) r := by
  obtain ⟨hlt, hx, hb, hml, hown, hts, hN, hA, hK⟩ := id C
  intro v0 s0 H locs ls h hP hD hS hl
  unfold df_X14_isAsFar_0 at h
  refine lv_iload_n hx hb dX14_isAsFar_0 rfl (lv_at hl 1 rfl) ?_
  refine lv_iconst (v := 1) hx hb dX14_isAsFar_1 (by decide) ?_
  refine lv_isub hx hb dX14_isAsFar_2 ?_
  refine lv_topi (fun z1 ez1 => ?_)
  have h := nd_at h ez1
  refine lv_istore_n (lv' := [(2, .int z1), (0, .ref (a 0)), (1, .int v0)]) hx hb dX14_isAsFar_3 rfl hl (by decide) rfl (fun ls hl => ?_)
  exact (db_X14_isAsFar_4 C K n) (v0) (z1) s0 _ _ _ h hP hD hS (lv_sub hl [1, 2, 0] rfl)
set_option maxHeartbeats 40000000 in
set_option maxRecDepth 100000 in
theorem dm_X14_isAsFar (l : Launch) (hlt : l.stackTraces = false) (dC : Nat → ClassId) (dI : Nat → Nat → Nat) (a : Nat → Nat) (ac : Nat → ClassId) (n : Nat) (v0 : Int32) (s0 : St) {r : Int32 × (St)} (h : df_X14_isAsFar n v0 s0 = some r) (sz : Nat) : Met l yX14_isAsFar ow_dm_X14_isAsFar ({ frames := 0, cells := 0, slots := 0, locals := 0 }) (va_Pc [.ref (a 0), .int v0] (fun U => U.heap.size = sz ∧ va_P (dC, dI) vwCl (dw_X14 a ac s0) U.heap ∧ va_K (dC, dI) vwCl (dk_X14 ac) U ∧ va_D (fun _ => True) (dw_X14 a ac s0) ∧ nv_E (va_A (dw_X14 a ac s0) sz) U)) (va_Qi (fun x _ => x = r.1) (fun (_ : Unit) t => va_P (dC, dI) vwCl (dw_X14 a ac r.2) t.heap ∧ va_K (dC, dI) vwCl (dk_X14 ac) t ∧ va_D (va_A (dw_X14 a ac s0) sz) (dw_X14 a ac r.2)) (va_A (dw_X14 a ac s0) sz)) 0 0 (va_A (dw_X14 a ac s0) sz) := by
  refine Met.ofW (cc := cX14_isAsFar) (maxL := 3) (ret := (some .boolean)) (by decide) rfl ?_
  intro p e s m args below meth c s₁ B hml hv
  obtain ⟨rfl, hsz, hP, hK, hD0, hN⟩ := hv
  have hx := B.exec
  have hb := B.bytes
  have hr := B.returns
  have hts := atoms_spec (ws := ow_dm_X14_isAsFar) B.pre
  have hown : s.vm.findClass RX14 = some m.cls := findClass_of_methodNamed B.named
  have hlocks := B.notSynchronized
  subst hsz
  have hD := hD0.self (sz := s.heap.size)
  generalize hAe : va_A (dw_X14 a ac s0) s.heap.size = A at hD hN ⊢
  have hA : ∀ q : Nat, s.heap.size ≤ q → A q := fun q h => by rw [← hAe]; exact Or.inr h
  have hl := lv_entry ([.ref (a 0), .int v0]) (n := 3) (Nat.le_of_ble_eq_true rfl)
  rw [lg_entry_eq]
  generalize (lg_sl ([.ref (a 0), .int v0]) ++ List.replicate (3 - (lg_sl ([.ref (a 0), .int v0])).length) Slot.unset).toArray = ls at hl ⊢
  have hl : lv_has ls 3 [(0, .ref (a 0)), (1, .int v0)] := hl
  exact db_X14_isAsFar_0 (dC := dC) (dI := dI) (a := a) (ac := ac) (n := n) (r := r) ⟨hlt, hx, hb, hml, hown, hts, hN, hA, hK⟩ (fun pc v τ H locs ls d z er hP hD hS => by subst er; exact W.zret (v := v) hx hb hr z (fun t ht hW => ⟨⟨v, (), rfl, rfl, by rw [ht]; exact hP, va_K.moved hW.alike hK, hD⟩, hS.F ht⟩) hS.2.2 d) v0 s0 _ _ _ h hP hD va_S.rf (lv_sub hl [0, 1] rfl)
def ow_dm_X14_run : List Cond := .code yX14_run cX14_run 2 none :: ([.methodLink RX14 36 yX14_put, .instanceMethod yX14_put, .selects RX14 yX14_put yX14_put, .initialized RX14, .methodLink RX14 44 yX14_varint, .instanceMethod yX14_varint, .selects RX14 yX14_varint yX14_varint] ++ (ow_dm_X14_put ++ (ow_dm_X14_varint ++ [])))
theorem gd_dm_X14_run : ∀ w ∈ ow_dm_X14_run, (w.onTables && w.keeps) = true ∨ ∃ ty, w = Cond.arrayClass ty := List.forall_mem_cons.mpr ⟨good_of_word rfl, List.forall_mem_append.mpr ⟨fun w h => good_of_word (List.all_eq_true.mp (by decide +kernel) w h), List.forall_mem_append.mpr ⟨gd_dm_X14_put, List.forall_mem_append.mpr ⟨gd_dm_X14_varint, fun _ h => nomatch h⟩⟩⟩⟩
theorem gi_dm_X14_run_0 : GoodIn ow_dm_X14_run (wsV RX14 36 RX14 yX14_put ow_dm_X14_put) := goodIn_app (goodIn_of _ (by decide +kernel)) (fun w h => ⟨List.mem_cons_of_mem _ (List.mem_append_right _ (List.mem_append_left _ h)), gd_dm_X14_put w h⟩)
theorem gi_dm_X14_run_1 : GoodIn ow_dm_X14_run (wsV RX14 44 RX14 yX14_varint ow_dm_X14_varint) := goodIn_app (goodIn_of _ (by decide +kernel)) (fun w h => ⟨List.mem_cons_of_mem _ (List.mem_append_right _ (List.mem_append_right _ (List.mem_append_left _ h))), gd_dm_X14_varint w h⟩)
def dj_X14_run_31 (p : Program) (l : Launch) (e : Env) (s : State) (m : MethodId) (args : Array Value) (below : List Frame) (meth : Method) (c : Code) (Q : State → Prop) (A : Nat → Prop) (dC : Nat → ClassId) (dI : Nat → Nat → Nat) (a : Nat → Nat) (ac : Nat → ClassId) (g : (St) → Option (St)) (r : St) : Prop := ∀ (s0 : St) (H : Heap) (locs : List Loc) (ls : Array Slot), g s0 = some r → va_P (dC, dI) vwCl (dw_X14 a ac s0) H → va_D A (dw_X14 a ac s0) → va_S A s.heap H locs → lv_has ls 2 [] → W p l e (headSpec ow_dm_X14_run ({ frames := 2, cells := 0, slots := 0, locals := 45 })).room s m args below meth c H locs 0 0 Q (F0 m 31 ls [])
def dj_X14_run_13 (p : Program) (l : Launch) (e : Env) (s : State) (m : MethodId) (args : Array Value) (below : List Frame) (meth : Method) (c : Code) (Q : State → Prop) (A : Nat → Prop) (dC : Nat → ClassId) (dI : Nat → Nat → Nat) (a : Nat → Nat) (ac : Nat → ClassId) (g : Int32 → Int32 → Int32 → (St) → Option (St)) (r : St) : Prop := ∀ (x1 : Int32) (y1 : Int32) (y2 : Int32) (s0 : St) (H : Heap) (locs : List Loc) (ls : Array Slot), g x1 y1 y2 s0 = some r → va_P (dC, dI) vwCl (dw_X14 a ac s0) H → va_D A (dw_X14 a ac s0) → va_S A s.heap H locs → lv_has ls 2 [(0, .ref (a 0)), (1, .int x1)] → W p l e (headSpec ow_dm_X14_run ({ frames := 2, cells := 0, slots := 0, locals := 45 })).room s m args below meth c H locs 0 0 Q (F0 m 13 ls [.int y2, .int y1, .ref (a 0)])
def dj_X14_run_0 (p : Program) (l : Launch) (e : Env) (s : State) (m : MethodId) (args : Array Value) (below : List Frame) (meth : Method) (c : Code) (Q : State → Prop) (A : Nat → Prop) (dC : Nat → ClassId) (dI : Nat → Nat → Nat) (a : Nat → Nat) (ac : Nat → ClassId) (g : Int32 → (St) → Option (St)) (r : St) : Prop := ∀ (v0 : Int32) (s0 : St) (H : Heap) (locs : List Loc) (ls : Array Slot), g v0 s0 = some r → va_P (dC, dI) vwCl (dw_X14 a ac s0) H → va_D A (dw_X14 a ac s0) → va_S A s.heap H locs → lv_has ls 2 [(0, .ref (a 0)), (1, .int v0)] → W p l e (headSpec ow_dm_X14_run ({ frames := 2, cells := 0, slots := 0, locals := 45 })).room s m args below meth c H locs 0 0 Q (F0 m 0 ls [])
set_option maxHeartbeats 40000000 in
set_option maxRecDepth 100000 in
theorem db_X14_run_31 {p : Program} {l : Launch} {e : Env} {s : State} {m : MethodId} {args : Array Value} {below : List Frame} {meth : Method} {c : Code} {Q : State → Prop} {A : Nat → Prop} {dC : Nat → ClassId} {dI : Nat → Nat → Nat} {a : Nat → Nat} {ac : Nat → ClassId} {n : Nat} {r : St} (C : nd_C p l s m args c A (dC, dI) cX14_run 2 RX14 ow_dm_X14_run (dk_X14 ac)) (K : nd_Kv p l e (headSpec ow_dm_X14_run ({ frames := 2, cells := 0, slots := 0, locals := 45 })).room s m args below meth c Q A (dC, dI) cX14_run (St) (dw_X14 a ac) r) : dj_X14_run_31 p l e s m args below meth c Q A dC dI a ac (df_X14_run_31 n) r := by
  obtain ⟨hlt, hx, hb, hml, hown, hts, hN, hA, hK⟩ := id C
  intro s0 H locs ls h hP hD hS hl
  unfold df_X14_run_31 at h
  exact K _ _ _ _ _ dX14_run_31 (Option.some.inj h).symm hP hD hS
set_option maxHeartbeats 40000000 in
set_option maxRecDepth 100000 in
theorem db_X14_run_13 {p : Program} {l : Launch} {e : Env} {s : State} {m : MethodId} {args : Array Value} {below : List Frame} {meth : Method} {c : Code} {Q : State → Prop} {A : Nat → Prop} {dC : Nat → ClassId} {dI : Nat → Nat → Nat} {a : Nat → Nat} {ac : Nat → ClassId} {n : Nat} {r : St} (C : nd_C p l s m args c A (dC, dI) cX14_run 2 RX14 ow_dm_X14_run (dk_X14 ac)) (K : nd_Kv p l e (headSpec ow_dm_X14_run ({ frames := 2, cells := 0, slots := 0, locals := 45 })).room s m args below meth c Q A (dC, dI) cX14_run (St) (dw_X14 a ac) r) : dj_X14_run_13 p l e s m args below meth c Q A dC dI a ac (df_X14_run_13 n) r := by
  obtain ⟨hlt, hx, hb, hml, hown, hts, hN, hA, hK⟩ := id C
  intro x1 y1 y2 s0 H locs ls h hP hD hS hl
  unfold df_X14_run_13 at h
  refine lv_iconst (v := 4) hx hb dX14_run_13 (by decide) ?_
  refine lv_ishl hx hb dX14_run_14 ?_
  refine lv_ior hx hb dX14_run_15 ?_
  obtain ⟨s3, hq, h⟩ := nd_b1_e h
  have hPc := hP
  have hDc := hD
  have hKc := hK
  have hFc := nd_rs hD hS hA
  refine va_callv (va_runV (As := [.int (y1 ||| ((y2 : Int32) <<< ((4 : Int32) &&& 31)))]) (rest := []) ⟨hx, hb, hml, hown, hts⟩ (dm_X14_put l hlt dC dI a ac n ((y1 ||| ((y2 : Int32) <<< ((4 : Int32) &&& 31)))) s0 hq _) (cwV 1 hts gi_dm_X14_run_0 rfl rfl rfl (by decide +kernel) ⟨Nat.le_of_ble_eq_true rfl, Nat.le_of_ble_eq_true rfl⟩) ⟨fun a U g mk q => by obtain ⟨q0, q1, qP, qK, qD, qN⟩ := q; exact ⟨q0, q1, qP, va_K.moved (u := U) (U := U.calling g mk a) (Vm.Alike.refl U.vm) qK, qD, nv_same rfl rfl qN⟩, va_recv hKc hPc (ci := 15) (q0 := 0) rfl rfl, fun U hU hW => ⟨rfl, by rw [hU], by rw [hU]; exact hPc, va_K.moved hW.alike hKc, hDc.weaken (fun _ _ _ _ => trivial), nv_call hS hFc hU hW hN⟩⟩ rfl rfl hl.1 rfl (lv_room (Nat.le_of_ble_eq_true rfl)) dX14_run_16 ⟨by decide +kernel, by decide +kernel⟩) hS (fun q _ h => hFc q h) hFc (fun u t H locs ht hvm hw hB hz1 hk1 hS => ?_)
  obtain ⟨hP1, -, hD1⟩ := hB
  rw [ht] at hP1
  have hP := hP1
  have hD := hD1.weaken (fun k q _ h => hFc q.1 h)
  refine W.widen (k := 0) (n := 0) (Nat.le_refl _) (Nat.le_refl _) ?_
  refine lv_iload_n hx hb dX14_run_19 rfl (lv_at hl 1 rfl) ?_
  refine lv_bipush (v := 15) hx hb dX14_run_20 (by decide) ?_
  refine lv_icmp_le (tgt := 31) hx hb dX14_run_22 (by decide) (fun c5 => ?_) (fun c5 => ?_)
  · have h := nd_pos h c5
    exact (db_X14_run_31 C K)  s3 _ _ _ h hP hD hS (lv_sub hl [] rfl)
  · have h := nd_neg h c5
    refine lv_aload_n hx hb dX14_run_25 rfl (lv_at hl 0 rfl) ?_
    refine lv_iload_n hx hb dX14_run_26 rfl (lv_at hl 1 rfl) ?_
    refine lv_i2l hx hb dX14_run_27 rfl ?_
    obtain ⟨s7, hq, h⟩ := nd_b1_e h
    have hPc := hP
    have hDc := hD
    have hKc := hK
    have hFc := nd_rs hD hS hA
    refine va_callv (va_runV (As := [.long (x1.toInt64)]) (rest := []) ⟨hx, hb, hml, hown, hts⟩ (dm_X14_varint l hlt dC dI a ac n ((x1.toInt64)) s3 hq _) (cwV 1 hts gi_dm_X14_run_1 rfl rfl rfl (by decide +kernel) ⟨Nat.le_of_ble_eq_true rfl, Nat.le_of_ble_eq_true rfl⟩) ⟨fun a U g mk q => by obtain ⟨q0, q1, qP, qK, qD, qN⟩ := q; exact ⟨q0, q1, qP, va_K.moved (u := U) (U := U.calling g mk a) (Vm.Alike.refl U.vm) qK, qD, nv_same rfl rfl qN⟩, va_recv hKc hPc (ci := 15) (q0 := 0) rfl rfl, fun U hU hW => ⟨rfl, by rw [hU], by rw [hU]; exact hPc, va_K.moved hW.alike hKc, hDc.weaken (fun _ _ _ _ => trivial), nv_call hS hFc hU hW hN⟩⟩ rfl rfl hl.1 rfl (lv_room (Nat.le_of_ble_eq_true rfl)) dX14_run_28 ⟨by decide +kernel, by decide +kernel⟩) hS (fun q _ h => hFc q h) hFc (fun u t H locs ht hvm hw hB hz1 hk1 hS => ?_)
    obtain ⟨hP1, -, hD1⟩ := hB
    rw [ht] at hP1
    have hP := hP1
    have hD := hD1.weaken (fun k q _ h => hFc q.1 h)
    refine W.widen (k := 0) (n := 0) (Nat.le_refl _) (Nat.le_refl _) ?_
    exact (db_X14_run_31 C K)  s7 _ _ _ h hP hD hS (lv_sub hl [] rfl)
set_option maxHeartbeats 40000000 in
set_option maxRecDepth 100000 in
theorem db_X14_run_0 {p : Program} {l : Launch} {e : Env} {s : State} {m : MethodId} {args : Array Value} {below : List Frame} {meth : Method} {c : Code} {Q : State → Prop} {A : Nat → Prop} {dC : Nat → ClassId} {dI : Nat → Nat → Nat} {a : Nat → Nat} {ac : Nat → ClassId} {n : Nat} {r : St} (C : nd_C p l s m args c A (dC, dI) cX14_run 2 RX14 ow_dm_X14_run (dk_X14 ac)) (K : nd_Kv p l e (headSpec ow_dm_X14_run ({ frames := 2, cells := 0, slots := 0, locals := 45 })).room s m args below meth c Q A (dC, dI) cX14_run (St) (dw_X14 a ac) r) : dj_X14_run_0 p l e s m args below meth c Q A dC dI a ac (df_X14_run_0 n) r := by
  obtain ⟨hlt, hx, hb, hml, hown, hts, hN, hA, hK⟩ := id C
  intro v0 s0 H locs ls h hP hD hS hl
  unfold df_X14_run_0 at h
  refine lv_aload_n hx hb dX14_run_0 rfl (lv_at hl 0 rfl) ?_
  refine lv_iconst (v := 5) hx hb dX14_run_1 (by decide) ?_
  refine lv_iload_n hx hb dX14_run_2 rfl (lv_at hl 1 rfl) ?_
  refine lv_bipush (v := 16) hx hb dX14_run_3 (by decide) ?_
  refine lv_icmp_ge (tgt := 12) hx hb dX14_run_5 (by decide) (fun c1 => ?_) (fun c1 => ?_)
  · have h := nd_pos h c1
    refine lv_iconst (v := 0) hx hb dX14_run_12 (by decide) ?_
    exact (db_X14_run_13 C K) (v0) (5) (0) s0 _ _ _ h hP hD hS (lv_sub hl [0, 1] rfl)
  · have h := nd_neg h c1
    refine lv_iload_n hx hb dX14_run_8 rfl (lv_at hl 1 rfl) ?_
    refine lv_goto (tgt := 13) hx hb dX14_run_9 (by decide) ?_
    exact (db_X14_run_13 C K) (v0) (5) (v0) s0 _ _ _ h hP hD hS (lv_sub hl [0, 1] rfl)
set_option maxHeartbeats 40000000 in
set_option maxRecDepth 100000 in
theorem dm_X14_run (l : Launch) (hlt : l.stackTraces = false) (dC : Nat → ClassId) (dI : Nat → Nat → Nat) (a : Nat → Nat) (ac : Nat → ClassId) (n : Nat) (v0 : Int32) (s0 : St) {r : St} (h : df_X14_run n v0 s0 = some r) (sz : Nat) : Met l yX14_run ow_dm_X14_run ({ frames := 2, cells := 0, slots := 0, locals := 45 }) (va_Pc [.ref (a 0), .int v0] (fun U => U.heap.size = sz ∧ va_P (dC, dI) vwCl (dw_X14 a ac s0) U.heap ∧ va_K (dC, dI) vwCl (dk_X14 ac) U ∧ va_D (fun _ => True) (dw_X14 a ac s0) ∧ nv_E (va_A (dw_X14 a ac s0) sz) U)) (va_Qv (fun _ => True) (fun (_ : Unit) t => va_P (dC, dI) vwCl (dw_X14 a ac r) t.heap ∧ va_K (dC, dI) vwCl (dk_X14 ac) t ∧ va_D (va_A (dw_X14 a ac s0) sz) (dw_X14 a ac r)) (va_A (dw_X14 a ac s0) sz)) 0 0 (va_A (dw_X14 a ac s0) sz) := by
  refine Met.ofW (cc := cX14_run) (maxL := 2) (ret := none) (by decide) rfl ?_
  intro p e s m args below meth c s₁ B hml hv
  obtain ⟨rfl, hsz, hP, hK, hD0, hN⟩ := hv
  have hx := B.exec
  have hb := B.bytes
  have hr := B.returns
  have hts := atoms_spec (ws := ow_dm_X14_run) B.pre
  have hown : s.vm.findClass RX14 = some m.cls := findClass_of_methodNamed B.named
  have hlocks := B.notSynchronized
  subst hsz
  have hD := hD0.self (sz := s.heap.size)
  generalize hAe : va_A (dw_X14 a ac s0) s.heap.size = A at hD hN ⊢
  have hA : ∀ q : Nat, s.heap.size ≤ q → A q := fun q h => by rw [← hAe]; exact Or.inr h
  have hl := lv_entry ([.ref (a 0), .int v0]) (n := 2) (Nat.le_of_ble_eq_true rfl)
  rw [lg_entry_eq]
  generalize (lg_sl ([.ref (a 0), .int v0]) ++ List.replicate (2 - (lg_sl ([.ref (a 0), .int v0])).length) Slot.unset).toArray = ls at hl ⊢
  have hl : lv_has ls 2 [(0, .ref (a 0)), (1, .int v0)] := hl
  exact db_X14_run_0 (dC := dC) (dI := dI) (a := a) (ac := ac) (n := n) (r := r) ⟨hlt, hx, hb, hml, hown, hts, hN, hA, hK⟩ (fun pc τ H locs ls d er hP hD hS => by subst er; exact W.vret hx hb hr (fun t ht hW => ⟨⟨(), rfl, trivial, by rw [ht]; exact hP, va_K.moved hW.alike hK, hD⟩, hS.F ht⟩) hS.2.2 d) v0 s0 _ _ _ h hP hD va_S.rf (lv_sub hl [0, 1] rfl)
def ow_dm_X14_entry : List Cond := .code yX14_entry cX14_entry 8 none :: ([.fieldLink RX14 16 "TimeMachineModel$Codec" "difference" "[J", .fieldLink RX14 9 "TimeMachineModel$Codec" "kind" "[I", .fieldLink RX14 20 "TimeMachineModel$Codec" "a" "[J", .methodLink RX14 36 yX14_put, .instanceMethod yX14_put, .selects RX14 yX14_put yX14_put, .initialized RX14, .fieldLink RX14 13 "TimeMachineModel$Codec" "b" "[I", .methodLink RX14 44 yX14_varint, .instanceMethod yX14_varint, .selects RX14 yX14_varint yX14_varint, .methodLink RX14 52 yX14_isAsFar, .instanceMethod yX14_isAsFar, .selects RX14 yX14_isAsFar yX14_isAsFar, .methodLink RX14 48 yX14_copyOf, .instanceMethod yX14_copyOf, .selects RX14 yX14_copyOf yX14_copyOf] ++ (u_ws RX14 TX14 11 ++ (ow_dm_X14_put ++ (ow_dm_X14_varint ++ (ow_dm_X14_isAsFar ++ (ow_dm_X14_copyOf ++ []))))))
theorem gd_dm_X14_entry : ∀ w ∈ ow_dm_X14_entry, (w.onTables && w.keeps) = true ∨ ∃ ty, w = Cond.arrayClass ty := List.forall_mem_cons.mpr ⟨good_of_word rfl, List.forall_mem_append.mpr ⟨fun w h => good_of_word (List.all_eq_true.mp (by decide +kernel) w h), List.forall_mem_append.mpr ⟨gu_X14, List.forall_mem_append.mpr ⟨gd_dm_X14_put, List.forall_mem_append.mpr ⟨gd_dm_X14_varint, List.forall_mem_append.mpr ⟨gd_dm_X14_isAsFar, List.forall_mem_append.mpr ⟨gd_dm_X14_copyOf, fun _ h => nomatch h⟩⟩⟩⟩⟩⟩⟩
theorem hi_dm_X14_entry_X14 : ∀ w ∈ u_ws RX14 TX14 11, w ∈ ow_dm_X14_entry := fun w h => List.mem_cons_of_mem _ (List.mem_append_right _ (List.mem_append_left _ h))
theorem gi_dm_X14_entry_0 : GoodIn ow_dm_X14_entry (wsV RX14 36 RX14 yX14_put ow_dm_X14_put) := goodIn_app (goodIn_of _ (by decide +kernel)) (fun w h => ⟨List.mem_cons_of_mem _ (List.mem_append_right _ (List.mem_append_right _ (List.mem_append_left _ h))), gd_dm_X14_put w h⟩)
theorem gi_dm_X14_entry_1 : GoodIn ow_dm_X14_entry (wsV RX14 44 RX14 yX14_varint ow_dm_X14_varint) := goodIn_app (goodIn_of _ (by decide +kernel)) (fun w h => ⟨List.mem_cons_of_mem _ (List.mem_append_right _ (List.mem_append_right _ (List.mem_append_right _ (List.mem_append_left _ h)))), gd_dm_X14_varint w h⟩)
theorem gi_dm_X14_entry_2 : GoodIn ow_dm_X14_entry (wsV RX14 52 RX14 yX14_isAsFar ow_dm_X14_isAsFar) := goodIn_app (goodIn_of _ (by decide +kernel)) (fun w h => ⟨List.mem_cons_of_mem _ (List.mem_append_right _ (List.mem_append_right _ (List.mem_append_right _ (List.mem_append_right _ (List.mem_append_left _ h))))), gd_dm_X14_isAsFar w h⟩)
theorem gi_dm_X14_entry_3 : GoodIn ow_dm_X14_entry (wsV RX14 48 RX14 yX14_copyOf ow_dm_X14_copyOf) := goodIn_app (goodIn_of _ (by decide +kernel)) (fun w h => ⟨List.mem_cons_of_mem _ (List.mem_append_right _ (List.mem_append_right _ (List.mem_append_right _ (List.mem_append_right _ (List.mem_append_right _ (List.mem_append_left _ h)))))), gd_dm_X14_copyOf w h⟩)
def dj_X14_entry_291 (p : Program) (l : Launch) (e : Env) (s : State) (m : MethodId) (args : Array Value) (below : List Frame) (meth : Method) (c : Code) (Q : State → Prop) (A : Nat → Prop) (dC : Nat → ClassId) (dI : Nat → Nat → Nat) (a : Nat → Nat) (ac : Nat → ClassId) (g : Int32 → Int32 → (St) → Option (St)) (r : St) : Prop := ∀ (x1 : Int32) (x7 : Int32) (s0 : St) (H : Heap) (locs : List Loc) (ls : Array Slot), g x1 x7 s0 = some r → va_P (dC, dI) vwCl (dw_X14 a ac s0) H → va_D A (dw_X14 a ac s0) → va_S A s.heap H locs → lv_has ls 8 [(0, .ref (a 0)), (1, .int x1), (7, .int x7)] → W p l e (headSpec ow_dm_X14_entry ({ frames := 2, cells := 0, slots := 0, locals := 45 })).room s m args below meth c H locs 0 0 Q (F0 m 291 ls [])
def dj_X14_entry_283 (p : Program) (l : Launch) (e : Env) (s : State) (m : MethodId) (args : Array Value) (below : List Frame) (meth : Method) (c : Code) (Q : State → Prop) (A : Nat → Prop) (dC : Nat → ClassId) (dI : Nat → Nat → Nat) (a : Nat → Nat) (ac : Nat → ClassId) (g : Int32 → Int32 → (St) → Option (St)) (r : St) : Prop := ∀ (x1 : Int32) (y0 : Int32) (s0 : St) (H : Heap) (locs : List Loc) (ls : Array Slot), g x1 y0 s0 = some r → va_P (dC, dI) vwCl (dw_X14 a ac s0) H → va_D A (dw_X14 a ac s0) → va_S A s.heap H locs → lv_has ls 8 [(0, .ref (a 0)), (1, .int x1)] → W p l e (headSpec ow_dm_X14_entry ({ frames := 2, cells := 0, slots := 0, locals := 45 })).room s m args below meth c H locs 0 0 Q (F0 m 283 ls [.int y0])
def dj_X14_entry_282 (p : Program) (l : Launch) (e : Env) (s : State) (m : MethodId) (args : Array Value) (below : List Frame) (meth : Method) (c : Code) (Q : State → Prop) (A : Nat → Prop) (dC : Nat → ClassId) (dI : Nat → Nat → Nat) (a : Nat → Nat) (ac : Nat → ClassId) (g : Int32 → (St) → Option (St)) (r : St) : Prop := ∀ (x1 : Int32) (s0 : St) (H : Heap) (locs : List Loc) (ls : Array Slot), g x1 s0 = some r → va_P (dC, dI) vwCl (dw_X14 a ac s0) H → va_D A (dw_X14 a ac s0) → va_S A s.heap H locs → lv_has ls 8 [(0, .ref (a 0)), (1, .int x1)] → W p l e (headSpec ow_dm_X14_entry ({ frames := 2, cells := 0, slots := 0, locals := 45 })).room s m args below meth c H locs 0 0 Q (F0 m 282 ls [])
def dj_X14_entry_245 (p : Program) (l : Launch) (e : Env) (s : State) (m : MethodId) (args : Array Value) (below : List Frame) (meth : Method) (c : Code) (Q : State → Prop) (A : Nat → Prop) (dC : Nat → ClassId) (dI : Nat → Nat → Nat) (a : Nat → Nat) (ac : Nat → ClassId) (g : Int32 → Int32 → (St) → Option (St)) (r : St) : Prop := ∀ (x1 : Int32) (x3 : Int32) (s0 : St) (H : Heap) (locs : List Loc) (ls : Array Slot), g x1 x3 s0 = some r → va_P (dC, dI) vwCl (dw_X14 a ac s0) H → va_D A (dw_X14 a ac s0) → va_S A s.heap H locs → lv_has ls 8 [(0, .ref (a 0)), (1, .int x1), (3, .int x3)] → W p l e (headSpec ow_dm_X14_entry ({ frames := 2, cells := 0, slots := 0, locals := 45 })).room s m args below meth c H locs 0 0 Q (F0 m 245 ls [])
def dj_X14_entry_220 (p : Program) (l : Launch) (e : Env) (s : State) (m : MethodId) (args : Array Value) (below : List Frame) (meth : Method) (c : Code) (Q : State → Prop) (A : Nat → Prop) (dC : Nat → ClassId) (dI : Nat → Nat → Nat) (a : Nat → Nat) (ac : Nat → ClassId) (g : Int32 → Int32 → Int32 → (St) → Option (St)) (r : St) : Prop := ∀ (x1 : Int32) (x3 : Int32) (x4 : Int32) (s0 : St) (H : Heap) (locs : List Loc) (ls : Array Slot), g x1 x3 x4 s0 = some r → va_P (dC, dI) vwCl (dw_X14 a ac s0) H → va_D A (dw_X14 a ac s0) → va_S A s.heap H locs → lv_has ls 8 [(0, .ref (a 0)), (1, .int x1), (3, .int x3), (4, .int x4)] → W p l e (headSpec ow_dm_X14_entry ({ frames := 2, cells := 0, slots := 0, locals := 45 })).room s m args below meth c H locs 0 0 Q (F0 m 220 ls [])
def dj_X14_entry_200 (p : Program) (l : Launch) (e : Env) (s : State) (m : MethodId) (args : Array Value) (below : List Frame) (meth : Method) (c : Code) (Q : State → Prop) (A : Nat → Prop) (dC : Nat → ClassId) (dI : Nat → Nat → Nat) (a : Nat → Nat) (ac : Nat → ClassId) (g : Int32 → Int32 → Int32 → (St) → Option (St)) (r : St) : Prop := ∀ (x1 : Int32) (x3 : Int32) (x4 : Int32) (s0 : St) (H : Heap) (locs : List Loc) (ls : Array Slot), g x1 x3 x4 s0 = some r → va_P (dC, dI) vwCl (dw_X14 a ac s0) H → va_D A (dw_X14 a ac s0) → va_S A s.heap H locs → lv_has ls 8 [(0, .ref (a 0)), (1, .int x1), (3, .int x3), (4, .int x4)] → W p l e (headSpec ow_dm_X14_entry ({ frames := 2, cells := 0, slots := 0, locals := 45 })).room s m args below meth c H locs 0 0 Q (F0 m 200 ls [])
def dj_X14_entry_190 (p : Program) (l : Launch) (e : Env) (s : State) (m : MethodId) (args : Array Value) (below : List Frame) (meth : Method) (c : Code) (Q : State → Prop) (A : Nat → Prop) (dC : Nat → ClassId) (dI : Nat → Nat → Nat) (a : Nat → Nat) (ac : Nat → ClassId) (g : Int32 → Int32 → Int32 → (St) → Option (St)) (r : St) : Prop := ∀ (x1 : Int32) (x3 : Int32) (x4 : Int32) (s0 : St) (H : Heap) (locs : List Loc) (ls : Array Slot), g x1 x3 x4 s0 = some r → va_P (dC, dI) vwCl (dw_X14 a ac s0) H → va_D A (dw_X14 a ac s0) → va_S A s.heap H locs → lv_has ls 8 [(0, .ref (a 0)), (1, .int x1), (3, .int x3), (4, .int x4)] → W p l e (headSpec ow_dm_X14_entry ({ frames := 2, cells := 0, slots := 0, locals := 45 })).room s m args below meth c H locs 0 0 Q (F0 m 190 ls [])
def dj_X14_entry_167 (p : Program) (l : Launch) (e : Env) (s : State) (m : MethodId) (args : Array Value) (below : List Frame) (meth : Method) (c : Code) (Q : State → Prop) (A : Nat → Prop) (dC : Nat → ClassId) (dI : Nat → Nat → Nat) (a : Nat → Nat) (ac : Nat → ClassId) (g : Int32 → Int32 → Int32 → Int32 → Int32 → Int32 → Int32 → (St) → Option (St)) (r : St) : Prop := ∀ (x1 : Int32) (x2 : Int32) (x3 : Int32) (x4 : Int32) (x5 : Int32) (y1 : Int32) (y2 : Int32) (s0 : St) (H : Heap) (locs : List Loc) (ls : Array Slot), g x1 x2 x3 x4 x5 y1 y2 s0 = some r → va_P (dC, dI) vwCl (dw_X14 a ac s0) H → va_D A (dw_X14 a ac s0) → va_S A s.heap H locs → lv_has ls 8 [(0, .ref (a 0)), (1, .int x1), (2, .int x2), (3, .int x3), (4, .int x4), (5, .int x5)] → W p l e (headSpec ow_dm_X14_entry ({ frames := 2, cells := 0, slots := 0, locals := 45 })).room s m args below meth c H locs 0 0 Q (F0 m 167 ls [.int y2, .int y1, .ref (a 0)])
def dj_X14_entry_148 (p : Program) (l : Launch) (e : Env) (s : State) (m : MethodId) (args : Array Value) (below : List Frame) (meth : Method) (c : Code) (Q : State → Prop) (A : Nat → Prop) (dC : Nat → ClassId) (dI : Nat → Nat → Nat) (a : Nat → Nat) (ac : Nat → ClassId) (g : Int32 → Int32 → Int32 → Int32 → Int32 → (St) → Option (St)) (r : St) : Prop := ∀ (x1 : Int32) (x2 : Int32) (x3 : Int32) (x4 : Int32) (y0 : Int32) (s0 : St) (H : Heap) (locs : List Loc) (ls : Array Slot), g x1 x2 x3 x4 y0 s0 = some r → va_P (dC, dI) vwCl (dw_X14 a ac s0) H → va_D A (dw_X14 a ac s0) → va_S A s.heap H locs → lv_has ls 8 [(0, .ref (a 0)), (1, .int x1), (2, .int x2), (3, .int x3), (4, .int x4)] → W p l e (headSpec ow_dm_X14_entry ({ frames := 2, cells := 0, slots := 0, locals := 45 })).room s m args below meth c H locs 0 0 Q (F0 m 148 ls [.int y0])
def dj_X14_entry_75 (p : Program) (l : Launch) (e : Env) (s : State) (m : MethodId) (args : Array Value) (below : List Frame) (meth : Method) (c : Code) (Q : State → Prop) (A : Nat → Prop) (dC : Nat → ClassId) (dI : Nat → Nat → Nat) (a : Nat → Nat) (ac : Nat → ClassId) (g : Int32 → Int32 → Int32 → Int32 → (St) → Option (St)) (r : St) : Prop := ∀ (x1 : Int32) (x2 : Int32) (x3 : Int32) (y0 : Int32) (s0 : St) (H : Heap) (locs : List Loc) (ls : Array Slot), g x1 x2 x3 y0 s0 = some r → va_P (dC, dI) vwCl (dw_X14 a ac s0) H → va_D A (dw_X14 a ac s0) → va_S A s.heap H locs → lv_has ls 8 [(0, .ref (a 0)), (1, .int x1), (2, .int x2), (3, .int x3)] → W p l e (headSpec ow_dm_X14_entry ({ frames := 2, cells := 0, slots := 0, locals := 45 })).room s m args below meth c H locs 0 0 Q (F0 m 75 ls [.int y0])
def dj_X14_entry_74 (p : Program) (l : Launch) (e : Env) (s : State) (m : MethodId) (args : Array Value) (below : List Frame) (meth : Method) (c : Code) (Q : State → Prop) (A : Nat → Prop) (dC : Nat → ClassId) (dI : Nat → Nat → Nat) (a : Nat → Nat) (ac : Nat → ClassId) (g : Int32 → Int32 → Int32 → (St) → Option (St)) (r : St) : Prop := ∀ (x1 : Int32) (x2 : Int32) (x3 : Int32) (s0 : St) (H : Heap) (locs : List Loc) (ls : Array Slot), g x1 x2 x3 s0 = some r → va_P (dC, dI) vwCl (dw_X14 a ac s0) H → va_D A (dw_X14 a ac s0) → va_S A s.heap H locs → lv_has ls 8 [(0, .ref (a 0)), (1, .int x1), (2, .int x2), (3, .int x3)] → W p l e (headSpec ow_dm_X14_entry ({ frames := 2, cells := 0, slots := 0, locals := 45 })).room s m args below meth c H locs 0 0 Q (F0 m 74 ls [])
def dj_X14_entry_51 (p : Program) (l : Launch) (e : Env) (s : State) (m : MethodId) (args : Array Value) (below : List Frame) (meth : Method) (c : Code) (Q : State → Prop) (A : Nat → Prop) (dC : Nat → ClassId) (dI : Nat → Nat → Nat) (a : Nat → Nat) (ac : Nat → ClassId) (g : Int32 → Int32 → Int32 → (St) → Option (St)) (r : St) : Prop := ∀ (x1 : Int32) (x2 : Int32) (y0 : Int32) (s0 : St) (H : Heap) (locs : List Loc) (ls : Array Slot), g x1 x2 y0 s0 = some r → va_P (dC, dI) vwCl (dw_X14 a ac s0) H → va_D A (dw_X14 a ac s0) → va_S A s.heap H locs → lv_has ls 8 [(0, .ref (a 0)), (1, .int x1), (2, .int x2)] → W p l e (headSpec ow_dm_X14_entry ({ frames := 2, cells := 0, slots := 0, locals := 45 })).room s m args below meth c H locs 0 0 Q (F0 m 51 ls [.int y0])
def dj_X14_entry_31 (p : Program) (l : Launch) (e : Env) (s : State) (m : MethodId) (args : Array Value) (below : List Frame) (meth : Method) (c : Code) (Q : State → Prop) (A : Nat → Prop) (dC : Nat → ClassId) (dI : Nat → Nat → Nat) (a : Nat → Nat) (ac : Nat → ClassId) (g : Int32 → Int32 → (St) → Option (St)) (r : St) : Prop := ∀ (x1 : Int32) (y0 : Int32) (s0 : St) (H : Heap) (locs : List Loc) (ls : Array Slot), g x1 y0 s0 = some r → va_P (dC, dI) vwCl (dw_X14 a ac s0) H → va_D A (dw_X14 a ac s0) → va_S A s.heap H locs → lv_has ls 8 [(0, .ref (a 0)), (1, .int x1)] → W p l e (headSpec ow_dm_X14_entry ({ frames := 2, cells := 0, slots := 0, locals := 45 })).room s m args below meth c H locs 0 0 Q (F0 m 31 ls [.int y0])
def dj_X14_entry_22 (p : Program) (l : Launch) (e : Env) (s : State) (m : MethodId) (args : Array Value) (below : List Frame) (meth : Method) (c : Code) (Q : State → Prop) (A : Nat → Prop) (dC : Nat → ClassId) (dI : Nat → Nat → Nat) (a : Nat → Nat) (ac : Nat → ClassId) (g : Int32 → Int64 → Int64 → (St) → Option (St)) (r : St) : Prop := ∀ (x1 : Int32) (y0 : Int64) (y1 : Int64) (s0 : St) (H : Heap) (locs : List Loc) (ls : Array Slot), g x1 y0 y1 s0 = some r → va_P (dC, dI) vwCl (dw_X14 a ac s0) H → va_D A (dw_X14 a ac s0) → va_S A s.heap H locs → lv_has ls 8 [(0, .ref (a 0)), (1, .int x1)] → W p l e (headSpec ow_dm_X14_entry ({ frames := 2, cells := 0, slots := 0, locals := 45 })).room s m args below meth c H locs 0 0 Q (F0 m 22 ls [.long y1, .long y0])
def dj_X14_entry_0 (p : Program) (l : Launch) (e : Env) (s : State) (m : MethodId) (args : Array Value) (below : List Frame) (meth : Method) (c : Code) (Q : State → Prop) (A : Nat → Prop) (dC : Nat → ClassId) (dI : Nat → Nat → Nat) (a : Nat → Nat) (ac : Nat → ClassId) (g : Int32 → (St) → Option (St)) (r : St) : Prop := ∀ (v0 : Int32) (s0 : St) (H : Heap) (locs : List Loc) (ls : Array Slot), g v0 s0 = some r → va_P (dC, dI) vwCl (dw_X14 a ac s0) H → va_D A (dw_X14 a ac s0) → va_S A s.heap H locs → lv_has ls 8 [(0, .ref (a 0)), (1, .int v0)] → W p l e (headSpec ow_dm_X14_entry ({ frames := 2, cells := 0, slots := 0, locals := 45 })).room s m args below meth c H locs 0 0 Q (F0 m 0 ls [])
set_option maxHeartbeats 40000000 in
set_option maxRecDepth 100000 in
theorem dB_X14_entry_291 {p : Program} {l : Launch} {e : Env} {s : State} {m : MethodId} {args : Array Value} {below : List Frame} {meth : Method} {c : Code} {Q : State → Prop} {A : Nat → Prop} {dC : Nat → ClassId} {dI : Nat → Nat → Nat} {a : Nat → Nat} {ac : Nat → ClassId} {n : Nat} {r : St} (C : nd_C p l s m args c A (dC, dI) cX14_entry 8 RX14 ow_dm_X14_entry (dk_X14 ac)) (K : nd_Kv p l e (headSpec ow_dm_X14_entry ({ frames := 2, cells := 0, slots := 0, locals := 45 })).room s m args below meth c Q A (dC, dI) cX14_entry (St) (dw_X14 a ac) r) {g291 : Int32 → Int32 → (St) → Option (St)} (J291 : dj_X14_entry_291 p l e s m args below meth c Q A dC dI a ac g291 r) : dj_X14_entry_291 p l e s m args below meth c Q A dC dI a ac (dF_X14_entry_291 n g291) r := by
  obtain ⟨hlt, hx, hb, hml, hown, hts, hN, hA, hK⟩ := id C
  intro x1 x7 s0 H locs ls h hP hD hS hl
  unfold dF_X14_entry_291 at h
  refine lv_iload hx hb dX14_entry_291 (lv_at hl 2 rfl) ?_
  refine lv_if_lt (tgt := 319) hx hb dX14_entry_293 (by decide) (fun c32 => ?_) (fun c32 => ?_)
  · have h := nd_pos h c32
    exact K _ _ _ _ _ dX14_entry_319 (Option.some.inj h).symm hP hD hS
  · have h := nd_neg h c32
    refine lv_aload_n hx hb dX14_entry_296 rfl (lv_at hl 0 rfl) ?_
    refine lv_aload_n hx hb dX14_entry_297 rfl (lv_at hl 0 rfl) ?_
    refine va_get (D := (dC, dI)) (ci := 15) (v := .ref (a 4)) (C := RX14) (T := TX14) (N := 11) hx hb hts hi_dm_X14_entry_X14 hown hK hP 0 rfl rfl 4 (by decide) (hts (.fieldLink RX14 20 "TimeMachineModel$Codec" "a" "[J") (List.mem_of_getElem? (i := 3) rfl)) (fun _ h9 => h9) rfl dX14_entry_298 ?_
    refine lv_iload_n hx hb dX14_entry_301 rfl (lv_at hl 1 rfl) ?_
    obtain ⟨i33, h⟩ := nd_ck_e h
    refine va_lald (i := x1) hx hb hK hP 4 3 rfl rfl i33 dX14_entry_302 ?_
    refine lv_bipush (v := 8) hx hb dX14_entry_303 (by decide) ?_
    refine lv_iload hx hb dX14_entry_305 (lv_at hl 2 rfl) ?_
    refine lv_imul hx hb dX14_entry_307 ?_
    refine lv_lshr hx hb dX14_entry_308 rfl ?_
    refine lv_l2i hx hb dX14_entry_309 rfl ?_
    obtain ⟨s35, hq, h⟩ := nd_b1_e h
    have hPc := hP
    have hDc := hD
    have hKc := hK
    have hFc := nd_rs hD hS hA
    refine va_callv (va_runV (As := [.int ((((sQ s0 1 (Int32.toNatClampNeg x1)) : Int64) >>> (((8 * x7) : Int32).toInt64 &&& 63)).toInt32)]) (rest := []) ⟨hx, hb, hml, hown, hts⟩ (dm_X14_put l hlt dC dI a ac n (((((sQ s0 1 (Int32.toNatClampNeg x1)) : Int64) >>> (((8 * x7) : Int32).toInt64 &&& 63)).toInt32)) s0 hq _) (cwV 1 hts gi_dm_X14_entry_0 rfl rfl rfl (by decide +kernel) ⟨Nat.le_of_ble_eq_true rfl, Nat.le_of_ble_eq_true rfl⟩) ⟨fun a U g mk q => by obtain ⟨q0, q1, qP, qK, qD, qN⟩ := q; exact ⟨q0, q1, qP, va_K.moved (u := U) (U := U.calling g mk a) (Vm.Alike.refl U.vm) qK, qD, nv_same rfl rfl qN⟩, va_recv hKc hPc (ci := 15) (q0 := 0) rfl rfl, fun U hU hW => ⟨rfl, by rw [hU], by rw [hU]; exact hPc, va_K.moved hW.alike hKc, hDc.weaken (fun _ _ _ _ => trivial), nv_call hS hFc hU hW hN⟩⟩ rfl rfl hl.1 rfl (lv_room (Nat.le_of_ble_eq_true rfl)) dX14_entry_310 ⟨by decide +kernel, by decide +kernel⟩) hS (fun q _ h => hFc q h) hFc (fun u t H locs ht hvm hw hB hz1 hk1 hS => ?_)
    obtain ⟨hP1, -, hD1⟩ := hB
    rw [ht] at hP1
    have hP := hP1
    have hD := hD1.weaken (fun k q _ h => hFc q.1 h)
    refine W.widen (k := 0) (n := 0) (Nat.le_refl _) (Nat.le_refl _) ?_
    obtain ⟨z37, ez37, h⟩ := nd_let_e h
    refine lv_iinc (v := z37) (lv' := [(7, .int z37), (0, .ref (a 0)), (1, .int x1)]) hx hb dX14_entry_313 hl (k := 2) rfl (by rw [ez37]) (by decide) rfl (fun ls hl => ?_)
    refine lv_goto (tgt := 291) hx hb dX14_entry_316 (by decide) ?_
    exact (J291) (x1) (z37) s35 _ _ _ h hP hD hS (lv_sub hl [1, 2, 0] rfl)
set_option maxHeartbeats 40000000 in
set_option maxRecDepth 100000 in
theorem db_X14_entry_291 {p : Program} {l : Launch} {e : Env} {s : State} {m : MethodId} {args : Array Value} {below : List Frame} {meth : Method} {c : Code} {Q : State → Prop} {A : Nat → Prop} {dC : Nat → ClassId} {dI : Nat → Nat → Nat} {a : Nat → Nat} {ac : Nat → ClassId} {n : Nat} {r : St} (C : nd_C p l s m args c A (dC, dI) cX14_entry 8 RX14 ow_dm_X14_entry (dk_X14 ac)) (K : nd_Kv p l e (headSpec ow_dm_X14_entry ({ frames := 2, cells := 0, slots := 0, locals := 45 })).room s m args below meth c Q A (dC, dI) cX14_entry (St) (dw_X14 a ac) r) (k : Nat) : dj_X14_entry_291 p l e s m args below meth c Q A dC dI a ac (df_X14_entry_291 n k) r := by
  induction k with
  | zero => intro x1 x7 s0 H locs ls h; exact nomatch (show (none : Option (St)) = some r from h)
  | succ k ih => exact dB_X14_entry_291 C K ih
set_option maxHeartbeats 40000000 in
set_option maxRecDepth 100000 in
theorem db_X14_entry_283 {p : Program} {l : Launch} {e : Env} {s : State} {m : MethodId} {args : Array Value} {below : List Frame} {meth : Method} {c : Code} {Q : State → Prop} {A : Nat → Prop} {dC : Nat → ClassId} {dI : Nat → Nat → Nat} {a : Nat → Nat} {ac : Nat → ClassId} {n : Nat} {r : St} (C : nd_C p l s m args c A (dC, dI) cX14_entry 8 RX14 ow_dm_X14_entry (dk_X14 ac)) (K : nd_Kv p l e (headSpec ow_dm_X14_entry ({ frames := 2, cells := 0, slots := 0, locals := 45 })).room s m args below meth c Q A (dC, dI) cX14_entry (St) (dw_X14 a ac) r) : dj_X14_entry_283 p l e s m args below meth c Q A dC dI a ac (df_X14_entry_283 n) r := by
  obtain ⟨hlt, hx, hb, hml, hown, hts, hN, hA, hK⟩ := id C
  intro x1 y0 s0 H locs ls h hP hD hS hl
  unfold df_X14_entry_283 at h
  refine lv_istore (lv' := [(6, .int y0), (0, .ref (a 0)), (1, .int x1)]) hx hb dX14_entry_283 hl (by decide) rfl (fun ls hl => ?_)
  refine lv_iload hx hb dX14_entry_285 (lv_at hl 0 rfl) ?_
  refine lv_iconst (v := 1) hx hb dX14_entry_287 (by decide) ?_
  refine lv_isub hx hb dX14_entry_288 ?_
  refine lv_topi (fun z31 ez31 => ?_)
  have h := nd_at h ez31
  refine lv_istore (lv' := [(7, .int z31), (6, .int y0), (0, .ref (a 0)), (1, .int x1)]) hx hb dX14_entry_289 hl (by decide) rfl (fun ls hl => ?_)
  exact (db_X14_entry_291 C K n) (x1) (z31) s0 _ _ _ h hP hD hS (lv_sub hl [2, 3, 0] rfl)
set_option maxHeartbeats 40000000 in
set_option maxRecDepth 100000 in
theorem db_X14_entry_282 {p : Program} {l : Launch} {e : Env} {s : State} {m : MethodId} {args : Array Value} {below : List Frame} {meth : Method} {c : Code} {Q : State → Prop} {A : Nat → Prop} {dC : Nat → ClassId} {dI : Nat → Nat → Nat} {a : Nat → Nat} {ac : Nat → ClassId} {n : Nat} {r : St} (C : nd_C p l s m args c A (dC, dI) cX14_entry 8 RX14 ow_dm_X14_entry (dk_X14 ac)) (K : nd_Kv p l e (headSpec ow_dm_X14_entry ({ frames := 2, cells := 0, slots := 0, locals := 45 })).room s m args below meth c Q A (dC, dI) cX14_entry (St) (dw_X14 a ac) r) : dj_X14_entry_282 p l e s m args below meth c Q A dC dI a ac (df_X14_entry_282 n) r := by
  obtain ⟨hlt, hx, hb, hml, hown, hts, hN, hA, hK⟩ := id C
  intro x1 s0 H locs ls h hP hD hS hl
  unfold df_X14_entry_282 at h
  refine lv_iconst (v := 0) hx hb dX14_entry_282 (by decide) ?_
  exact (db_X14_entry_283 C K) (x1) (0) s0 _ _ _ h hP hD hS (lv_sub hl [0, 1] rfl)
set_option maxHeartbeats 40000000 in
set_option maxRecDepth 100000 in
theorem db_X14_entry_245 {p : Program} {l : Launch} {e : Env} {s : State} {m : MethodId} {args : Array Value} {below : List Frame} {meth : Method} {c : Code} {Q : State → Prop} {A : Nat → Prop} {dC : Nat → ClassId} {dI : Nat → Nat → Nat} {a : Nat → Nat} {ac : Nat → ClassId} {n : Nat} {r : St} (C : nd_C p l s m args c A (dC, dI) cX14_entry 8 RX14 ow_dm_X14_entry (dk_X14 ac)) (K : nd_Kv p l e (headSpec ow_dm_X14_entry ({ frames := 2, cells := 0, slots := 0, locals := 45 })).room s m args below meth c Q A (dC, dI) cX14_entry (St) (dw_X14 a ac) r) : dj_X14_entry_245 p l e s m args below meth c Q A dC dI a ac (df_X14_entry_245 n) r := by
  obtain ⟨hlt, hx, hb, hml, hown, hts, hN, hA, hK⟩ := id C
  intro x1 x3 s0 H locs ls h hP hD hS hl
  unfold df_X14_entry_245 at h
  refine lv_aload_n hx hb dX14_entry_245 rfl (lv_at hl 0 rfl) ?_
  refine va_get (D := (dC, dI)) (ci := 15) (v := .ref (a 1)) (C := RX14) (T := TX14) (N := 11) hx hb hts hi_dm_X14_entry_X14 hown hK hP 0 rfl rfl 1 (by decide) (hts (.fieldLink RX14 9 "TimeMachineModel$Codec" "kind" "[I") (List.mem_of_getElem? (i := 2) rfl)) (fun _ h9 => h9) rfl dX14_entry_246 ?_
  refine lv_iload_n hx hb dX14_entry_249 rfl (lv_at hl 1 rfl) ?_
  obtain ⟨i27, h⟩ := nd_ck_e h
  refine va_iald (i := x1) hx hb hK hP 1 0 rfl rfl i27 dX14_entry_250 ?_
  refine lv_iconst (v := 4) hx hb dX14_entry_251 (by decide) ?_
  refine lv_icmp_ne (tgt := 259) hx hb dX14_entry_252 (by decide) (fun c28 => ?_) (fun c28 => ?_)
  · have h := nd_neg h c28
    refine lv_aload_n hx hb dX14_entry_259 rfl (lv_at hl 0 rfl) ?_
    refine va_get (D := (dC, dI)) (ci := 15) (v := .ref (a 1)) (C := RX14) (T := TX14) (N := 11) hx hb hts hi_dm_X14_entry_X14 hown hK hP 0 rfl rfl 1 (by decide) (hts (.fieldLink RX14 9 "TimeMachineModel$Codec" "kind" "[I") (List.mem_of_getElem? (i := 2) rfl)) (fun _ h9 => h9) rfl dX14_entry_260 ?_
    refine lv_iload_n hx hb dX14_entry_263 rfl (lv_at hl 1 rfl) ?_
    obtain ⟨i29, h⟩ := nd_ck_e h
    refine va_iald (i := x1) hx hb hK hP 1 0 rfl rfl i29 dX14_entry_264 ?_
    refine lv_iconst (v := 1) hx hb dX14_entry_265 (by decide) ?_
    refine lv_icmp_ne (tgt := 282) hx hb dX14_entry_266 (by decide) (fun c30 => ?_) (fun c30 => ?_)
    · have h := nd_neg h c30
      exact (db_X14_entry_282 C K) (x1) s0 _ _ _ h hP hD hS (lv_sub hl [0, 1] rfl)
    · have h := nd_pos h c30
      refine lv_iload_n hx hb dX14_entry_269 rfl (lv_at hl 2 rfl) ?_
      refine lv_if_ne (tgt := 282) hx hb dX14_entry_270 (by decide) (fun c38 => ?_) (fun c38 => ?_)
      · have h := nd_neg h c38
        exact (db_X14_entry_282 C K) (x1) s0 _ _ _ h hP hD hS (lv_sub hl [0, 1] rfl)
      · have h := nd_pos h c38
        refine lv_aload_n hx hb dX14_entry_273 rfl (lv_at hl 0 rfl) ?_
        refine va_get (D := (dC, dI)) (ci := 15) (v := .ref (a 2)) (C := RX14) (T := TX14) (N := 11) hx hb hts hi_dm_X14_entry_X14 hown hK hP 0 rfl rfl 2 (by decide) (hts (.fieldLink RX14 13 "TimeMachineModel$Codec" "b" "[I") (List.mem_of_getElem? (i := 8) rfl)) (fun _ h9 => h9) rfl dX14_entry_274 ?_
        refine lv_iload_n hx hb dX14_entry_277 rfl (lv_at hl 1 rfl) ?_
        obtain ⟨i39, h⟩ := nd_ck_e h
        refine va_iald (i := x1) hx hb hK hP 2 1 rfl rfl i39 dX14_entry_278 ?_
        refine lv_goto (tgt := 283) hx hb dX14_entry_279 (by decide) ?_
        exact (db_X14_entry_283 C K) (x1) ((sR s0 1 (Int32.toNatClampNeg x1))) s0 _ _ _ h hP hD hS (lv_sub hl [0, 1] rfl)
  · have h := nd_pos h c28
    refine lv_iconst (v := 4) hx hb dX14_entry_255 (by decide) ?_
    refine lv_goto (tgt := 283) hx hb dX14_entry_256 (by decide) ?_
    exact (db_X14_entry_283 C K) (x1) (4) s0 _ _ _ h hP hD hS (lv_sub hl [0, 1] rfl)
set_option maxHeartbeats 40000000 in
set_option maxRecDepth 100000 in
theorem db_X14_entry_220 {p : Program} {l : Launch} {e : Env} {s : State} {m : MethodId} {args : Array Value} {below : List Frame} {meth : Method} {c : Code} {Q : State → Prop} {A : Nat → Prop} {dC : Nat → ClassId} {dI : Nat → Nat → Nat} {a : Nat → Nat} {ac : Nat → ClassId} {n : Nat} {r : St} (C : nd_C p l s m args c A (dC, dI) cX14_entry 8 RX14 ow_dm_X14_entry (dk_X14 ac)) (K : nd_Kv p l e (headSpec ow_dm_X14_entry ({ frames := 2, cells := 0, slots := 0, locals := 45 })).room s m args below meth c Q A (dC, dI) cX14_entry (St) (dw_X14 a ac) r) : dj_X14_entry_220 p l e s m args below meth c Q A dC dI a ac (df_X14_entry_220 n) r := by
  obtain ⟨hlt, hx, hb, hml, hown, hts, hN, hA, hK⟩ := id C
  intro x1 x3 x4 s0 H locs ls h hP hD hS hl
  unfold df_X14_entry_220 at h
  refine lv_aload_n hx hb dX14_entry_220 rfl (lv_at hl 0 rfl) ?_
  refine va_get (D := (dC, dI)) (ci := 15) (v := .ref (a 1)) (C := RX14) (T := TX14) (N := 11) hx hb hts hi_dm_X14_entry_X14 hown hK hP 0 rfl rfl 1 (by decide) (hts (.fieldLink RX14 9 "TimeMachineModel$Codec" "kind" "[I") (List.mem_of_getElem? (i := 2) rfl)) (fun _ h9 => h9) rfl dX14_entry_221 ?_
  refine lv_iload_n hx hb dX14_entry_224 rfl (lv_at hl 1 rfl) ?_
  obtain ⟨i25, h⟩ := nd_ck_e h
  refine va_iald (i := x1) hx hb hK hP 1 0 rfl rfl i25 dX14_entry_225 ?_
  refine lv_iconst (v := 3) hx hb dX14_entry_226 (by decide) ?_
  refine lv_icmp_ne (tgt := 245) hx hb dX14_entry_227 (by decide) (fun c26 => ?_) (fun c26 => ?_)
  · have h := nd_neg h c26
    exact (db_X14_entry_245 C K) (x1) (x3) s0 _ _ _ h hP hD hS (lv_sub hl [0, 1, 2] rfl)
  · have h := nd_pos h c26
    refine lv_iload hx hb dX14_entry_230 (lv_at hl 3 rfl) ?_
    refine lv_if_ne (tgt := 245) hx hb dX14_entry_232 (by decide) (fun c40 => ?_) (fun c40 => ?_)
    · have h := nd_neg h c40
      exact (db_X14_entry_245 C K) (x1) (x3) s0 _ _ _ h hP hD hS (lv_sub hl [0, 1, 2] rfl)
    · have h := nd_pos h c40
      refine lv_aload_n hx hb dX14_entry_235 rfl (lv_at hl 0 rfl) ?_
      refine lv_aload_n hx hb dX14_entry_236 rfl (lv_at hl 0 rfl) ?_
      refine va_get (D := (dC, dI)) (ci := 15) (v := .ref (a 4)) (C := RX14) (T := TX14) (N := 11) hx hb hts hi_dm_X14_entry_X14 hown hK hP 0 rfl rfl 4 (by decide) (hts (.fieldLink RX14 20 "TimeMachineModel$Codec" "a" "[J") (List.mem_of_getElem? (i := 3) rfl)) (fun _ h9 => h9) rfl dX14_entry_237 ?_
      refine lv_iload_n hx hb dX14_entry_240 rfl (lv_at hl 1 rfl) ?_
      obtain ⟨i41, h⟩ := nd_ck_e h
      refine va_lald (i := x1) hx hb hK hP 4 3 rfl rfl i41 dX14_entry_241 ?_
      obtain ⟨s43, hq, h⟩ := nd_b1_e h
      have hPc := hP
      have hDc := hD
      have hKc := hK
      have hFc := nd_rs hD hS hA
      refine va_callv (va_runV (As := [.long (sQ s0 1 (Int32.toNatClampNeg x1))]) (rest := []) ⟨hx, hb, hml, hown, hts⟩ (dm_X14_varint l hlt dC dI a ac n ((sQ s0 1 (Int32.toNatClampNeg x1))) s0 hq _) (cwV 1 hts gi_dm_X14_entry_1 rfl rfl rfl (by decide +kernel) ⟨Nat.le_of_ble_eq_true rfl, Nat.le_of_ble_eq_true rfl⟩) ⟨fun a U g mk q => by obtain ⟨q0, q1, qP, qK, qD, qN⟩ := q; exact ⟨q0, q1, qP, va_K.moved (u := U) (U := U.calling g mk a) (Vm.Alike.refl U.vm) qK, qD, nv_same rfl rfl qN⟩, va_recv hKc hPc (ci := 15) (q0 := 0) rfl rfl, fun U hU hW => ⟨rfl, by rw [hU], by rw [hU]; exact hPc, va_K.moved hW.alike hKc, hDc.weaken (fun _ _ _ _ => trivial), nv_call hS hFc hU hW hN⟩⟩ rfl rfl hl.1 rfl (lv_room (Nat.le_of_ble_eq_true rfl)) dX14_entry_242 ⟨by decide +kernel, by decide +kernel⟩) hS (fun q _ h => hFc q h) hFc (fun u t H locs ht hvm hw hB hz1 hk1 hS => ?_)
      obtain ⟨hP1, -, hD1⟩ := hB
      rw [ht] at hP1
      have hP := hP1
      have hD := hD1.weaken (fun k q _ h => hFc q.1 h)
      refine W.widen (k := 0) (n := 0) (Nat.le_refl _) (Nat.le_refl _) ?_
      exact (db_X14_entry_245 C K) (x1) (x3) s43 _ _ _ h hP hD hS (lv_sub hl [0, 1, 2] rfl)
set_option maxHeartbeats 40000000 in
set_option maxRecDepth 100000 in
theorem db_X14_entry_200 {p : Program} {l : Launch} {e : Env} {s : State} {m : MethodId} {args : Array Value} {below : List Frame} {meth : Method} {c : Code} {Q : State → Prop} {A : Nat → Prop} {dC : Nat → ClassId} {dI : Nat → Nat → Nat} {a : Nat → Nat} {ac : Nat → ClassId} {n : Nat} {r : St} (C : nd_C p l s m args c A (dC, dI) cX14_entry 8 RX14 ow_dm_X14_entry (dk_X14 ac)) (K : nd_Kv p l e (headSpec ow_dm_X14_entry ({ frames := 2, cells := 0, slots := 0, locals := 45 })).room s m args below meth c Q A (dC, dI) cX14_entry (St) (dw_X14 a ac) r) : dj_X14_entry_200 p l e s m args below meth c Q A dC dI a ac (df_X14_entry_200 n) r := by
  obtain ⟨hlt, hx, hb, hml, hown, hts, hN, hA, hK⟩ := id C
  intro x1 x3 x4 s0 H locs ls h hP hD hS hl
  unfold df_X14_entry_200 at h
  refine lv_aload_n hx hb dX14_entry_200 rfl (lv_at hl 0 rfl) ?_
  refine va_get (D := (dC, dI)) (ci := 15) (v := .ref (a 1)) (C := RX14) (T := TX14) (N := 11) hx hb hts hi_dm_X14_entry_X14 hown hK hP 0 rfl rfl 1 (by decide) (hts (.fieldLink RX14 9 "TimeMachineModel$Codec" "kind" "[I") (List.mem_of_getElem? (i := 2) rfl)) (fun _ h9 => h9) rfl dX14_entry_201 ?_
  refine lv_iload_n hx hb dX14_entry_204 rfl (lv_at hl 1 rfl) ?_
  obtain ⟨i23, h⟩ := nd_ck_e h
  refine va_iald (i := x1) hx hb hK hP 1 0 rfl rfl i23 dX14_entry_205 ?_
  refine lv_iconst (v := 2) hx hb dX14_entry_206 (by decide) ?_
  refine lv_icmp_ne (tgt := 220) hx hb dX14_entry_207 (by decide) (fun c24 => ?_) (fun c24 => ?_)
  · have h := nd_neg h c24
    exact (db_X14_entry_220 C K) (x1) (x3) (x4) s0 _ _ _ h hP hD hS (lv_sub hl [0, 1, 2, 3] rfl)
  · have h := nd_pos h c24
    refine lv_aload_n hx hb dX14_entry_210 rfl (lv_at hl 0 rfl) ?_
    refine lv_aload_n hx hb dX14_entry_211 rfl (lv_at hl 0 rfl) ?_
    refine va_get (D := (dC, dI)) (ci := 15) (v := .ref (a 2)) (C := RX14) (T := TX14) (N := 11) hx hb hts hi_dm_X14_entry_X14 hown hK hP 0 rfl rfl 2 (by decide) (hts (.fieldLink RX14 13 "TimeMachineModel$Codec" "b" "[I") (List.mem_of_getElem? (i := 8) rfl)) (fun _ h9 => h9) rfl dX14_entry_212 ?_
    refine lv_iload_n hx hb dX14_entry_215 rfl (lv_at hl 1 rfl) ?_
    obtain ⟨i45, h⟩ := nd_ck_e h
    refine va_iald (i := x1) hx hb hK hP 2 1 rfl rfl i45 dX14_entry_216 ?_
    obtain ⟨s47, hq, h⟩ := nd_b1_e h
    have hPc := hP
    have hDc := hD
    have hKc := hK
    have hFc := nd_rs hD hS hA
    refine va_callv (va_runV (As := [.int (sR s0 1 (Int32.toNatClampNeg x1))]) (rest := []) ⟨hx, hb, hml, hown, hts⟩ (dm_X14_put l hlt dC dI a ac n ((sR s0 1 (Int32.toNatClampNeg x1))) s0 hq _) (cwV 1 hts gi_dm_X14_entry_0 rfl rfl rfl (by decide +kernel) ⟨Nat.le_of_ble_eq_true rfl, Nat.le_of_ble_eq_true rfl⟩) ⟨fun a U g mk q => by obtain ⟨q0, q1, qP, qK, qD, qN⟩ := q; exact ⟨q0, q1, qP, va_K.moved (u := U) (U := U.calling g mk a) (Vm.Alike.refl U.vm) qK, qD, nv_same rfl rfl qN⟩, va_recv hKc hPc (ci := 15) (q0 := 0) rfl rfl, fun U hU hW => ⟨rfl, by rw [hU], by rw [hU]; exact hPc, va_K.moved hW.alike hKc, hDc.weaken (fun _ _ _ _ => trivial), nv_call hS hFc hU hW hN⟩⟩ rfl rfl hl.1 rfl (lv_room (Nat.le_of_ble_eq_true rfl)) dX14_entry_217 ⟨by decide +kernel, by decide +kernel⟩) hS (fun q _ h => hFc q h) hFc (fun u t H locs ht hvm hw hB hz1 hk1 hS => ?_)
    obtain ⟨hP1, -, hD1⟩ := hB
    rw [ht] at hP1
    have hP := hP1
    have hD := hD1.weaken (fun k q _ h => hFc q.1 h)
    refine W.widen (k := 0) (n := 0) (Nat.le_refl _) (Nat.le_refl _) ?_
    exact (db_X14_entry_220 C K) (x1) (x3) (x4) s47 _ _ _ h hP hD hS (lv_sub hl [0, 1, 2, 3] rfl)
set_option maxHeartbeats 40000000 in
set_option maxRecDepth 100000 in
theorem db_X14_entry_190 {p : Program} {l : Launch} {e : Env} {s : State} {m : MethodId} {args : Array Value} {below : List Frame} {meth : Method} {c : Code} {Q : State → Prop} {A : Nat → Prop} {dC : Nat → ClassId} {dI : Nat → Nat → Nat} {a : Nat → Nat} {ac : Nat → ClassId} {n : Nat} {r : St} (C : nd_C p l s m args c A (dC, dI) cX14_entry 8 RX14 ow_dm_X14_entry (dk_X14 ac)) (K : nd_Kv p l e (headSpec ow_dm_X14_entry ({ frames := 2, cells := 0, slots := 0, locals := 45 })).room s m args below meth c Q A (dC, dI) cX14_entry (St) (dw_X14 a ac) r) : dj_X14_entry_190 p l e s m args below meth c Q A dC dI a ac (df_X14_entry_190 n) r := by
  obtain ⟨hlt, hx, hb, hml, hown, hts, hN, hA, hK⟩ := id C
  intro x1 x3 x4 s0 H locs ls h hP hD hS hl
  unfold df_X14_entry_190 at h
  refine lv_iload_n hx hb dX14_entry_190 rfl (lv_at hl 2 rfl) ?_
  refine lv_if_le (tgt := 200) hx hb dX14_entry_191 (by decide) (fun c22 => ?_) (fun c22 => ?_)
  · have h := nd_pos h c22
    exact (db_X14_entry_200 C K) (x1) (x3) (x4) s0 _ _ _ h hP hD hS (lv_sub hl [0, 1, 2, 3] rfl)
  · have h := nd_neg h c22
    refine lv_aload_n hx hb dX14_entry_194 rfl (lv_at hl 0 rfl) ?_
    refine lv_iload_n hx hb dX14_entry_195 rfl (lv_at hl 2 rfl) ?_
    refine lv_i2l hx hb dX14_entry_196 rfl ?_
    obtain ⟨s50, hq, h⟩ := nd_b1_e h
    have hPc := hP
    have hDc := hD
    have hKc := hK
    have hFc := nd_rs hD hS hA
    refine va_callv (va_runV (As := [.long (x3.toInt64)]) (rest := []) ⟨hx, hb, hml, hown, hts⟩ (dm_X14_varint l hlt dC dI a ac n ((x3.toInt64)) s0 hq _) (cwV 1 hts gi_dm_X14_entry_1 rfl rfl rfl (by decide +kernel) ⟨Nat.le_of_ble_eq_true rfl, Nat.le_of_ble_eq_true rfl⟩) ⟨fun a U g mk q => by obtain ⟨q0, q1, qP, qK, qD, qN⟩ := q; exact ⟨q0, q1, qP, va_K.moved (u := U) (U := U.calling g mk a) (Vm.Alike.refl U.vm) qK, qD, nv_same rfl rfl qN⟩, va_recv hKc hPc (ci := 15) (q0 := 0) rfl rfl, fun U hU hW => ⟨rfl, by rw [hU], by rw [hU]; exact hPc, va_K.moved hW.alike hKc, hDc.weaken (fun _ _ _ _ => trivial), nv_call hS hFc hU hW hN⟩⟩ rfl rfl hl.1 rfl (lv_room (Nat.le_of_ble_eq_true rfl)) dX14_entry_197 ⟨by decide +kernel, by decide +kernel⟩) hS (fun q _ h => hFc q h) hFc (fun u t H locs ht hvm hw hB hz1 hk1 hS => ?_)
    obtain ⟨hP1, -, hD1⟩ := hB
    rw [ht] at hP1
    have hP := hP1
    have hD := hD1.weaken (fun k q _ h => hFc q.1 h)
    refine W.widen (k := 0) (n := 0) (Nat.le_refl _) (Nat.le_refl _) ?_
    exact (db_X14_entry_200 C K) (x1) (x3) (x4) s50 _ _ _ h hP hD hS (lv_sub hl [0, 1, 2, 3] rfl)
set_option maxHeartbeats 40000000 in
set_option maxRecDepth 100000 in
theorem db_X14_entry_167 {p : Program} {l : Launch} {e : Env} {s : State} {m : MethodId} {args : Array Value} {below : List Frame} {meth : Method} {c : Code} {Q : State → Prop} {A : Nat → Prop} {dC : Nat → ClassId} {dI : Nat → Nat → Nat} {a : Nat → Nat} {ac : Nat → ClassId} {n : Nat} {r : St} (C : nd_C p l s m args c A (dC, dI) cX14_entry 8 RX14 ow_dm_X14_entry (dk_X14 ac)) (K : nd_Kv p l e (headSpec ow_dm_X14_entry ({ frames := 2, cells := 0, slots := 0, locals := 45 })).room s m args below meth c Q A (dC, dI) cX14_entry (St) (dw_X14 a ac) r) : dj_X14_entry_167 p l e s m args below meth c Q A dC dI a ac (df_X14_entry_167 n) r := by
  obtain ⟨hlt, hx, hb, hml, hown, hts, hN, hA, hK⟩ := id C
  intro x1 x2 x3 x4 x5 y1 y2 s0 H locs ls h hP hD hS hl
  unfold df_X14_entry_167 at h
  refine lv_ior hx hb dX14_entry_167 ?_
  refine lv_iload hx hb dX14_entry_168 (lv_at hl 5 rfl) ?_
  refine lv_iconst (v := 4) hx hb dX14_entry_170 (by decide) ?_
  refine lv_ishl hx hb dX14_entry_171 ?_
  refine lv_ior hx hb dX14_entry_172 ?_
  obtain ⟨s19, hq, h⟩ := nd_b1_e h
  have hPc := hP
  have hDc := hD
  have hKc := hK
  have hFc := nd_rs hD hS hA
  refine va_callv (va_runV (As := [.int ((y1 ||| y2) ||| ((x5 : Int32) <<< ((4 : Int32) &&& 31)))]) (rest := []) ⟨hx, hb, hml, hown, hts⟩ (dm_X14_put l hlt dC dI a ac n (((y1 ||| y2) ||| ((x5 : Int32) <<< ((4 : Int32) &&& 31)))) s0 hq _) (cwV 1 hts gi_dm_X14_entry_0 rfl rfl rfl (by decide +kernel) ⟨Nat.le_of_ble_eq_true rfl, Nat.le_of_ble_eq_true rfl⟩) ⟨fun a U g mk q => by obtain ⟨q0, q1, qP, qK, qD, qN⟩ := q; exact ⟨q0, q1, qP, va_K.moved (u := U) (U := U.calling g mk a) (Vm.Alike.refl U.vm) qK, qD, nv_same rfl rfl qN⟩, va_recv hKc hPc (ci := 15) (q0 := 0) rfl rfl, fun U hU hW => ⟨rfl, by rw [hU], by rw [hU]; exact hPc, va_K.moved hW.alike hKc, hDc.weaken (fun _ _ _ _ => trivial), nv_call hS hFc hU hW hN⟩⟩ rfl rfl hl.1 rfl (lv_room (Nat.le_of_ble_eq_true rfl)) dX14_entry_173 ⟨by decide +kernel, by decide +kernel⟩) hS (fun q _ h => hFc q h) hFc (fun u t H locs ht hvm hw hB hz1 hk1 hS => ?_)
  obtain ⟨hP1, -, hD1⟩ := hB
  rw [ht] at hP1
  have hP := hP1
  have hD := hD1.weaken (fun k q _ h => hFc q.1 h)
  refine W.widen (k := 0) (n := 0) (Nat.le_refl _) (Nat.le_refl _) ?_
  refine lv_iload_n hx hb dX14_entry_176 rfl (lv_at hl 2 rfl) ?_
  refine lv_if_ne (tgt := 190) hx hb dX14_entry_177 (by decide) (fun c21 => ?_) (fun c21 => ?_)
  · have h := nd_neg h c21
    exact (db_X14_entry_190 C K) (x1) (x3) (x4) s19 _ _ _ h hP hD hS (lv_sub hl [0, 1, 3, 4] rfl)
  · have h := nd_pos h c21
    refine lv_aload_n hx hb dX14_entry_180 rfl (lv_at hl 0 rfl) ?_
    refine lv_aload_n hx hb dX14_entry_181 rfl (lv_at hl 0 rfl) ?_
    refine va_get (D := (dC, dI)) (ci := 15) (v := .ref (a 3)) (C := RX14) (T := TX14) (N := 11) hx hb hts hi_dm_X14_entry_X14 hown hK hP 0 rfl rfl 3 (by decide) (hts (.fieldLink RX14 16 "TimeMachineModel$Codec" "difference" "[J") (List.mem_of_getElem? (i := 1) rfl)) (fun _ h9 => h9) rfl dX14_entry_182 ?_
    refine lv_iload_n hx hb dX14_entry_185 rfl (lv_at hl 1 rfl) ?_
    obtain ⟨i52, h⟩ := nd_ck_e h
    refine va_lald (i := x1) hx hb hK hP 3 2 rfl rfl i52 dX14_entry_186 ?_
    obtain ⟨s54, hq, h⟩ := nd_b1_e h
    have hPc := hP
    have hDc := hD
    have hKc := hK
    have hFc := nd_rs hD hS hA
    refine va_callv (va_runV (As := [.long (sQ s19 0 (Int32.toNatClampNeg x1))]) (rest := []) ⟨hx, hb, hml, hown, hts⟩ (dm_X14_varint l hlt dC dI a ac n ((sQ s19 0 (Int32.toNatClampNeg x1))) s19 hq _) (cwV 1 hts gi_dm_X14_entry_1 rfl rfl rfl (by decide +kernel) ⟨Nat.le_of_ble_eq_true rfl, Nat.le_of_ble_eq_true rfl⟩) ⟨fun a U g mk q => by obtain ⟨q0, q1, qP, qK, qD, qN⟩ := q; exact ⟨q0, q1, qP, va_K.moved (u := U) (U := U.calling g mk a) (Vm.Alike.refl U.vm) qK, qD, nv_same rfl rfl qN⟩, va_recv hKc hPc (ci := 15) (q0 := 0) rfl rfl, fun U hU hW => ⟨rfl, by rw [hU], by rw [hU]; exact hPc, va_K.moved hW.alike hKc, hDc.weaken (fun _ _ _ _ => trivial), nv_call hS hFc hU hW hN⟩⟩ rfl rfl hl.1 rfl (lv_room (Nat.le_of_ble_eq_true rfl)) dX14_entry_187 ⟨by decide +kernel, by decide +kernel⟩) hS (fun q _ h => hFc q h) hFc (fun u t H locs ht hvm hw hB hz1 hk1 hS => ?_)
    obtain ⟨hP1, -, hD1⟩ := hB
    rw [ht] at hP1
    have hP := hP1
    have hD := hD1.weaken (fun k q _ h => hFc q.1 h)
    refine W.widen (k := 0) (n := 0) (Nat.le_refl _) (Nat.le_refl _) ?_
    exact (db_X14_entry_190 C K) (x1) (x3) (x4) s54 _ _ _ h hP hD hS (lv_sub hl [0, 1, 3, 4] rfl)
set_option maxHeartbeats 40000000 in
set_option maxRecDepth 100000 in
theorem db_X14_entry_148 {p : Program} {l : Launch} {e : Env} {s : State} {m : MethodId} {args : Array Value} {below : List Frame} {meth : Method} {c : Code} {Q : State → Prop} {A : Nat → Prop} {dC : Nat → ClassId} {dI : Nat → Nat → Nat} {a : Nat → Nat} {ac : Nat → ClassId} {n : Nat} {r : St} (C : nd_C p l s m args c A (dC, dI) cX14_entry 8 RX14 ow_dm_X14_entry (dk_X14 ac)) (K : nd_Kv p l e (headSpec ow_dm_X14_entry ({ frames := 2, cells := 0, slots := 0, locals := 45 })).room s m args below meth c Q A (dC, dI) cX14_entry (St) (dw_X14 a ac) r) : dj_X14_entry_148 p l e s m args below meth c Q A dC dI a ac (df_X14_entry_148 n) r := by
  obtain ⟨hlt, hx, hb, hml, hown, hts, hN, hA, hK⟩ := id C
  intro x1 x2 x3 x4 y0 s0 H locs ls h hP hD hS hl
  unfold df_X14_entry_148 at h
  refine lv_istore (lv' := [(5, .int y0), (0, .ref (a 0)), (1, .int x1), (2, .int x2), (3, .int x3), (4, .int x4)]) hx hb dX14_entry_148 hl (by decide) rfl (fun ls hl => ?_)
  refine lv_aload_n hx hb dX14_entry_150 rfl (lv_at hl 1 rfl) ?_
  refine lv_aload_n hx hb dX14_entry_151 rfl (lv_at hl 1 rfl) ?_
  refine va_get (D := (dC, dI)) (ci := 15) (v := .ref (a 1)) (C := RX14) (T := TX14) (N := 11) hx hb hts hi_dm_X14_entry_X14 hown hK hP 0 rfl rfl 1 (by decide) (hts (.fieldLink RX14 9 "TimeMachineModel$Codec" "kind" "[I") (List.mem_of_getElem? (i := 2) rfl)) (fun _ h9 => h9) rfl dX14_entry_152 ?_
  refine lv_iload_n hx hb dX14_entry_155 rfl (lv_at hl 2 rfl) ?_
  obtain ⟨i16, h⟩ := nd_ck_e h
  refine va_iald (i := x1) hx hb hK hP 1 0 rfl rfl i16 dX14_entry_156 ?_
  refine lv_iload_n hx hb dX14_entry_157 rfl (lv_at hl 3 rfl) ?_
  refine lv_if_eq (tgt := 166) hx hb dX14_entry_158 (by decide) (fun c17 => ?_) (fun c17 => ?_)
  · have h := nd_pos h c17
    refine lv_iconst (v := 0) hx hb dX14_entry_166 (by decide) ?_
    exact (db_X14_entry_167 C K) (x1) (x2) (x3) (x4) (y0) ((sR s0 0 (Int32.toNatClampNeg x1))) (0) s0 _ _ _ h hP hD hS (lv_sub hl [1, 2, 3, 4, 5, 0] rfl)
  · have h := nd_neg h c17
    refine lv_bipush (v := 8) hx hb dX14_entry_161 (by decide) ?_
    refine lv_goto (tgt := 167) hx hb dX14_entry_163 (by decide) ?_
    exact (db_X14_entry_167 C K) (x1) (x2) (x3) (x4) (y0) ((sR s0 0 (Int32.toNatClampNeg x1))) (8) s0 _ _ _ h hP hD hS (lv_sub hl [1, 2, 3, 4, 5, 0] rfl)
set_option maxHeartbeats 40000000 in
set_option maxRecDepth 100000 in
theorem db_X14_entry_75 {p : Program} {l : Launch} {e : Env} {s : State} {m : MethodId} {args : Array Value} {below : List Frame} {meth : Method} {c : Code} {Q : State → Prop} {A : Nat → Prop} {dC : Nat → ClassId} {dI : Nat → Nat → Nat} {a : Nat → Nat} {ac : Nat → ClassId} {n : Nat} {r : St} (C : nd_C p l s m args c A (dC, dI) cX14_entry 8 RX14 ow_dm_X14_entry (dk_X14 ac)) (K : nd_Kv p l e (headSpec ow_dm_X14_entry ({ frames := 2, cells := 0, slots := 0, locals := 45 })).room s m args below meth c Q A (dC, dI) cX14_entry (St) (dw_X14 a ac) r) : dj_X14_entry_75 p l e s m args below meth c Q A dC dI a ac (df_X14_entry_75 n) r := by
  obtain ⟨hlt, hx, hb, hml, hown, hts, hN, hA, hK⟩ := id C
  intro x1 x2 x3 y0 s0 H locs ls h hP hD hS hl
  unfold df_X14_entry_75 at h
  refine lv_istore (lv' := [(4, .int y0), (0, .ref (a 0)), (1, .int x1), (2, .int x2), (3, .int x3)]) hx hb dX14_entry_75 hl (by decide) rfl (fun ls hl => ?_)
  refine lv_aload_n hx hb dX14_entry_77 rfl (lv_at hl 1 rfl) ?_
  refine va_get (D := (dC, dI)) (ci := 15) (v := .ref (a 1)) (C := RX14) (T := TX14) (N := 11) hx hb hts hi_dm_X14_entry_X14 hown hK hP 0 rfl rfl 1 (by decide) (hts (.fieldLink RX14 9 "TimeMachineModel$Codec" "kind" "[I") (List.mem_of_getElem? (i := 2) rfl)) (fun _ h9 => h9) rfl dX14_entry_78 ?_
  refine lv_iload_n hx hb dX14_entry_81 rfl (lv_at hl 2 rfl) ?_
  obtain ⟨i9, h⟩ := nd_ck_e h
  refine va_iald (i := x1) hx hb hK hP 1 0 rfl rfl i9 dX14_entry_82 ?_
  refine lv_iconst (v := 1) hx hb dX14_entry_83 (by decide) ?_
  refine lv_icmp_ne (tgt := 104) hx hb dX14_entry_84 (by decide) (fun c10 => ?_) (fun c10 => ?_)
  · have h := nd_neg h c10
    refine lv_aload_n hx hb dX14_entry_104 rfl (lv_at hl 1 rfl) ?_
    refine va_get (D := (dC, dI)) (ci := 15) (v := .ref (a 1)) (C := RX14) (T := TX14) (N := 11) hx hb hts hi_dm_X14_entry_X14 hown hK hP 0 rfl rfl 1 (by decide) (hts (.fieldLink RX14 9 "TimeMachineModel$Codec" "kind" "[I") (List.mem_of_getElem? (i := 2) rfl)) (fun _ h9 => h9) rfl dX14_entry_105 ?_
    refine lv_iload_n hx hb dX14_entry_108 rfl (lv_at hl 2 rfl) ?_
    obtain ⟨i11, h⟩ := nd_ck_e h
    refine va_iald (i := x1) hx hb hK hP 1 0 rfl rfl i11 dX14_entry_109 ?_
    refine lv_iconst (v := 3) hx hb dX14_entry_110 (by decide) ?_
    refine lv_icmp_ne (tgt := 127) hx hb dX14_entry_111 (by decide) (fun c12 => ?_) (fun c12 => ?_)
    · have h := nd_neg h c12
      refine lv_aload_n hx hb dX14_entry_127 rfl (lv_at hl 1 rfl) ?_
      refine va_get (D := (dC, dI)) (ci := 15) (v := .ref (a 1)) (C := RX14) (T := TX14) (N := 11) hx hb hts hi_dm_X14_entry_X14 hown hK hP 0 rfl rfl 1 (by decide) (hts (.fieldLink RX14 9 "TimeMachineModel$Codec" "kind" "[I") (List.mem_of_getElem? (i := 2) rfl)) (fun _ h9 => h9) rfl dX14_entry_128 ?_
      refine lv_iload_n hx hb dX14_entry_131 rfl (lv_at hl 2 rfl) ?_
      obtain ⟨i13, h⟩ := nd_ck_e h
      refine va_iald (i := x1) hx hb hK hP 1 0 rfl rfl i13 dX14_entry_132 ?_
      refine lv_iconst (v := 4) hx hb dX14_entry_133 (by decide) ?_
      refine lv_icmp_ne (tgt := 141) hx hb dX14_entry_134 (by decide) (fun c14 => ?_) (fun c14 => ?_)
      · have h := nd_neg h c14
        refine lv_aload_n hx hb dX14_entry_141 rfl (lv_at hl 1 rfl) ?_
        refine va_get (D := (dC, dI)) (ci := 15) (v := .ref (a 4)) (C := RX14) (T := TX14) (N := 11) hx hb hts hi_dm_X14_entry_X14 hown hK hP 0 rfl rfl 4 (by decide) (hts (.fieldLink RX14 20 "TimeMachineModel$Codec" "a" "[J") (List.mem_of_getElem? (i := 3) rfl)) (fun _ h9 => h9) rfl dX14_entry_142 ?_
        refine lv_iload_n hx hb dX14_entry_145 rfl (lv_at hl 2 rfl) ?_
        obtain ⟨i15, h⟩ := nd_ck_e h
        refine va_lald (i := x1) hx hb hK hP 4 3 rfl rfl i15 dX14_entry_146 ?_
        refine lv_l2i hx hb dX14_entry_147 rfl ?_
        exact (db_X14_entry_148 C K) (x1) (x2) (x3) (y0) (((sQ s0 1 (Int32.toNatClampNeg x1)).toInt32)) s0 _ _ _ h hP hD hS (lv_sub hl [1, 2, 3, 4, 0] rfl)
      · have h := nd_pos h c14
        refine lv_iconst (v := 0) hx hb dX14_entry_137 (by decide) ?_
        refine lv_goto (tgt := 148) hx hb dX14_entry_138 (by decide) ?_
        exact (db_X14_entry_148 C K) (x1) (x2) (x3) (y0) (0) s0 _ _ _ h hP hD hS (lv_sub hl [1, 2, 3, 4, 0] rfl)
    · have h := nd_pos h c12
      refine lv_iload hx hb dX14_entry_114 (lv_at hl 0 rfl) ?_
      refine lv_if_eq (tgt := 123) hx hb dX14_entry_116 (by decide) (fun c56 => ?_) (fun c56 => ?_)
      · have h := nd_pos h c56
        refine lv_iconst (v := 0) hx hb dX14_entry_123 (by decide) ?_
        refine lv_goto (tgt := 148) hx hb dX14_entry_124 (by decide) ?_
        exact (db_X14_entry_148 C K) (x1) (x2) (x3) (y0) (0) s0 _ _ _ h hP hD hS (lv_sub hl [1, 2, 3, 4, 0] rfl)
      · have h := nd_neg h c56
        refine lv_iconst (v := 1) hx hb dX14_entry_119 (by decide) ?_
        refine lv_goto (tgt := 148) hx hb dX14_entry_120 (by decide) ?_
        exact (db_X14_entry_148 C K) (x1) (x2) (x3) (y0) (1) s0 _ _ _ h hP hD hS (lv_sub hl [1, 2, 3, 4, 0] rfl)
  · have h := nd_pos h c10
    refine lv_iload_n hx hb dX14_entry_87 rfl (lv_at hl 4 rfl) ?_
    refine lv_if_le (tgt := 95) hx hb dX14_entry_88 (by decide) (fun c57 => ?_) (fun c57 => ?_)
    · have h := nd_pos h c57
      refine lv_aload_n hx hb dX14_entry_95 rfl (lv_at hl 1 rfl) ?_
      refine va_get (D := (dC, dI)) (ci := 15) (v := .ref (a 2)) (C := RX14) (T := TX14) (N := 11) hx hb hts hi_dm_X14_entry_X14 hown hK hP 0 rfl rfl 2 (by decide) (hts (.fieldLink RX14 13 "TimeMachineModel$Codec" "b" "[I") (List.mem_of_getElem? (i := 8) rfl)) (fun _ h9 => h9) rfl dX14_entry_96 ?_
      refine lv_iload_n hx hb dX14_entry_99 rfl (lv_at hl 2 rfl) ?_
      obtain ⟨i58, h⟩ := nd_ck_e h
      refine va_iald (i := x1) hx hb hK hP 2 1 rfl rfl i58 dX14_entry_100 ?_
      refine lv_goto (tgt := 148) hx hb dX14_entry_101 (by decide) ?_
      exact (db_X14_entry_148 C K) (x1) (x2) (x3) (y0) ((sR s0 1 (Int32.toNatClampNeg x1))) s0 _ _ _ h hP hD hS (lv_sub hl [1, 2, 3, 4, 0] rfl)
    · have h := nd_neg h c57
      refine lv_iconst (v := 0) hx hb dX14_entry_91 (by decide) ?_
      refine lv_goto (tgt := 148) hx hb dX14_entry_92 (by decide) ?_
      exact (db_X14_entry_148 C K) (x1) (x2) (x3) (y0) (0) s0 _ _ _ h hP hD hS (lv_sub hl [1, 2, 3, 4, 0] rfl)
set_option maxHeartbeats 40000000 in
set_option maxRecDepth 100000 in
theorem db_X14_entry_74 {p : Program} {l : Launch} {e : Env} {s : State} {m : MethodId} {args : Array Value} {below : List Frame} {meth : Method} {c : Code} {Q : State → Prop} {A : Nat → Prop} {dC : Nat → ClassId} {dI : Nat → Nat → Nat} {a : Nat → Nat} {ac : Nat → ClassId} {n : Nat} {r : St} (C : nd_C p l s m args c A (dC, dI) cX14_entry 8 RX14 ow_dm_X14_entry (dk_X14 ac)) (K : nd_Kv p l e (headSpec ow_dm_X14_entry ({ frames := 2, cells := 0, slots := 0, locals := 45 })).room s m args below meth c Q A (dC, dI) cX14_entry (St) (dw_X14 a ac) r) : dj_X14_entry_74 p l e s m args below meth c Q A dC dI a ac (df_X14_entry_74 n) r := by
  obtain ⟨hlt, hx, hb, hml, hown, hts, hN, hA, hK⟩ := id C
  intro x1 x2 x3 s0 H locs ls h hP hD hS hl
  unfold df_X14_entry_74 at h
  refine lv_iconst (v := 0) hx hb dX14_entry_74 (by decide) ?_
  exact (db_X14_entry_75 C K) (x1) (x2) (x3) (0) s0 _ _ _ h hP hD hS (lv_sub hl [0, 1, 2, 3] rfl)
set_option maxHeartbeats 40000000 in
set_option maxRecDepth 100000 in
theorem db_X14_entry_51 {p : Program} {l : Launch} {e : Env} {s : State} {m : MethodId} {args : Array Value} {below : List Frame} {meth : Method} {c : Code} {Q : State → Prop} {A : Nat → Prop} {dC : Nat → ClassId} {dI : Nat → Nat → Nat} {a : Nat → Nat} {ac : Nat → ClassId} {n : Nat} {r : St} (C : nd_C p l s m args c A (dC, dI) cX14_entry 8 RX14 ow_dm_X14_entry (dk_X14 ac)) (K : nd_Kv p l e (headSpec ow_dm_X14_entry ({ frames := 2, cells := 0, slots := 0, locals := 45 })).room s m args below meth c Q A (dC, dI) cX14_entry (St) (dw_X14 a ac) r) : dj_X14_entry_51 p l e s m args below meth c Q A dC dI a ac (df_X14_entry_51 n) r := by
  obtain ⟨hlt, hx, hb, hml, hown, hts, hN, hA, hK⟩ := id C
  intro x1 x2 y0 s0 H locs ls h hP hD hS hl
  unfold df_X14_entry_51 at h
  refine lv_istore_n (lv' := [(3, .int y0), (0, .ref (a 0)), (1, .int x1), (2, .int x2)]) hx hb dX14_entry_51 rfl hl (by decide) rfl (fun ls hl => ?_)
  refine lv_aload_n hx hb dX14_entry_52 rfl (lv_at hl 1 rfl) ?_
  refine va_get (D := (dC, dI)) (ci := 15) (v := .ref (a 1)) (C := RX14) (T := TX14) (N := 11) hx hb hts hi_dm_X14_entry_X14 hown hK hP 0 rfl rfl 1 (by decide) (hts (.fieldLink RX14 9 "TimeMachineModel$Codec" "kind" "[I") (List.mem_of_getElem? (i := 2) rfl)) (fun _ h9 => h9) rfl dX14_entry_53 ?_
  refine lv_iload_n hx hb dX14_entry_56 rfl (lv_at hl 2 rfl) ?_
  obtain ⟨i7, h⟩ := nd_ck_e h
  refine va_iald (i := x1) hx hb hK hP 1 0 rfl rfl i7 dX14_entry_57 ?_
  refine lv_iconst (v := 3) hx hb dX14_entry_58 (by decide) ?_
  refine lv_icmp_ne (tgt := 74) hx hb dX14_entry_59 (by decide) (fun c8 => ?_) (fun c8 => ?_)
  · have h := nd_neg h c8
    exact (db_X14_entry_74 C K) (x1) (x2) (y0) s0 _ _ _ h hP hD hS (lv_sub hl [1, 2, 3, 0] rfl)
  · have h := nd_pos h c8
    refine lv_aload_n hx hb dX14_entry_62 rfl (lv_at hl 1 rfl) ?_
    refine lv_iload_n hx hb dX14_entry_63 rfl (lv_at hl 2 rfl) ?_
    obtain ⟨q59, s60, hq, h⟩ := nd_b2_e h
    have hPc := hP
    have hDc := hD
    have hKc := hK
    have hFc := nd_rs hD hS hA
    refine va_calli (va_runV (As := [.int x1]) (rest := []) ⟨hx, hb, hml, hown, hts⟩ (dm_X14_isAsFar l hlt dC dI a ac n (x1) s0 hq _) (cwV 1 hts gi_dm_X14_entry_2 rfl rfl rfl (by decide +kernel) ⟨Nat.le_of_ble_eq_true rfl, Nat.le_of_ble_eq_true rfl⟩) ⟨fun a U g mk q => by obtain ⟨q0, q1, qP, qK, qD, qN⟩ := q; exact ⟨q0, q1, qP, va_K.moved (u := U) (U := U.calling g mk a) (Vm.Alike.refl U.vm) qK, qD, nv_same rfl rfl qN⟩, va_recv hKc hPc (ci := 15) (q0 := 0) rfl rfl, fun U hU hW => ⟨rfl, by rw [hU], by rw [hU]; exact hPc, va_K.moved hW.alike hKc, hDc.weaken (fun _ _ _ _ => trivial), nv_call hS hFc hU hW hN⟩⟩ rfl rfl hl.1 rfl (lv_room (Nat.le_of_ble_eq_true rfl)) dX14_entry_64 ⟨by decide +kernel, by decide +kernel⟩) hS (fun q _ h => hFc q h) hFc (fun r61 u t H locs ht hvm hw hB hz1 hk1 hS => ?_)
    obtain rfl : q59 = r61 := Eq.symm hw
    obtain ⟨hP1, -, hD1⟩ := hB
    rw [ht] at hP1
    have hP := hP1
    have hD := hD1.weaken (fun k q _ h => hFc q.1 h)
    refine W.widen (k := 0) (n := 0) (Nat.le_refl _) (Nat.le_refl _) ?_
    refine lv_if_eq (tgt := 74) hx hb dX14_entry_67 (by decide) (fun c62 => ?_) (fun c62 => ?_)
    · have h := nd_pos h c62
      exact (db_X14_entry_74 C K) (x1) (x2) (y0) s60 _ _ _ h hP hD hS (lv_sub hl [1, 2, 3, 0] rfl)
    · have h := nd_neg h c62
      refine lv_iconst (v := 1) hx hb dX14_entry_70 (by decide) ?_
      refine lv_goto (tgt := 75) hx hb dX14_entry_71 (by decide) ?_
      exact (db_X14_entry_75 C K) (x1) (x2) (y0) (1) s60 _ _ _ h hP hD hS (lv_sub hl [1, 2, 3, 0] rfl)
set_option maxHeartbeats 40000000 in
set_option maxRecDepth 100000 in
theorem db_X14_entry_31 {p : Program} {l : Launch} {e : Env} {s : State} {m : MethodId} {args : Array Value} {below : List Frame} {meth : Method} {c : Code} {Q : State → Prop} {A : Nat → Prop} {dC : Nat → ClassId} {dI : Nat → Nat → Nat} {a : Nat → Nat} {ac : Nat → ClassId} {n : Nat} {r : St} (C : nd_C p l s m args c A (dC, dI) cX14_entry 8 RX14 ow_dm_X14_entry (dk_X14 ac)) (K : nd_Kv p l e (headSpec ow_dm_X14_entry ({ frames := 2, cells := 0, slots := 0, locals := 45 })).room s m args below meth c Q A (dC, dI) cX14_entry (St) (dw_X14 a ac) r) : dj_X14_entry_31 p l e s m args below meth c Q A dC dI a ac (df_X14_entry_31 n) r := by
  obtain ⟨hlt, hx, hb, hml, hown, hts, hN, hA, hK⟩ := id C
  intro x1 y0 s0 H locs ls h hP hD hS hl
  unfold df_X14_entry_31 at h
  refine lv_istore_n (lv' := [(2, .int y0), (0, .ref (a 0)), (1, .int x1)]) hx hb dX14_entry_31 rfl hl (by decide) rfl (fun ls hl => ?_)
  refine lv_aload_n hx hb dX14_entry_32 rfl (lv_at hl 1 rfl) ?_
  refine va_get (D := (dC, dI)) (ci := 15) (v := .ref (a 1)) (C := RX14) (T := TX14) (N := 11) hx hb hts hi_dm_X14_entry_X14 hown hK hP 0 rfl rfl 1 (by decide) (hts (.fieldLink RX14 9 "TimeMachineModel$Codec" "kind" "[I") (List.mem_of_getElem? (i := 2) rfl)) (fun _ h9 => h9) rfl dX14_entry_33 ?_
  refine lv_iload_n hx hb dX14_entry_36 rfl (lv_at hl 2 rfl) ?_
  obtain ⟨i5, h⟩ := nd_ck_e h
  refine va_iald (i := x1) hx hb hK hP 1 0 rfl rfl i5 dX14_entry_37 ?_
  refine lv_iconst (v := 1) hx hb dX14_entry_38 (by decide) ?_
  refine lv_icmp_ne (tgt := 50) hx hb dX14_entry_39 (by decide) (fun c6 => ?_) (fun c6 => ?_)
  · have h := nd_neg h c6
    refine lv_iconst (v := 0) hx hb dX14_entry_50 (by decide) ?_
    exact (db_X14_entry_51 C K) (x1) (y0) (0) s0 _ _ _ h hP hD hS (lv_sub hl [1, 2, 0] rfl)
  · have h := nd_pos h c6
    refine lv_aload_n hx hb dX14_entry_42 rfl (lv_at hl 1 rfl) ?_
    refine lv_iload_n hx hb dX14_entry_43 rfl (lv_at hl 2 rfl) ?_
    obtain ⟨q63, s64, hq, h⟩ := nd_b2_e h
    have hPc := hP
    have hDc := hD
    have hKc := hK
    have hFc := nd_rs hD hS hA
    refine va_calli (va_runV (As := [.int x1]) (rest := []) ⟨hx, hb, hml, hown, hts⟩ (dm_X14_copyOf l hlt dC dI a ac n (x1) s0 hq _) (cwV 1 hts gi_dm_X14_entry_3 rfl rfl rfl (by decide +kernel) ⟨Nat.le_of_ble_eq_true rfl, Nat.le_of_ble_eq_true rfl⟩) ⟨fun a U g mk q => by obtain ⟨q0, q1, qP, qK, qD, qN⟩ := q; exact ⟨q0, q1, qP, va_K.moved (u := U) (U := U.calling g mk a) (Vm.Alike.refl U.vm) qK, qD, nv_same rfl rfl qN⟩, va_recv hKc hPc (ci := 15) (q0 := 0) rfl rfl, fun U hU hW => ⟨rfl, by rw [hU], by rw [hU]; exact hPc, va_K.moved hW.alike hKc, hDc.weaken (fun _ _ _ _ => trivial), nv_call hS hFc hU hW hN⟩⟩ rfl rfl hl.1 rfl (lv_room (Nat.le_of_ble_eq_true rfl)) dX14_entry_44 ⟨by decide +kernel, by decide +kernel⟩) hS (fun q _ h => hFc q h) hFc (fun r65 u t H locs ht hvm hw hB hz1 hk1 hS => ?_)
    obtain rfl : q63 = r65 := Eq.symm hw
    obtain ⟨hP1, -, hD1⟩ := hB
    rw [ht] at hP1
    have hP := hP1
    have hD := hD1.weaken (fun k q _ h => hFc q.1 h)
    refine W.widen (k := 0) (n := 0) (Nat.le_refl _) (Nat.le_refl _) ?_
    refine lv_goto (tgt := 51) hx hb dX14_entry_47 (by decide) ?_
    exact (db_X14_entry_51 C K) (x1) (y0) (q63) s64 _ _ _ h hP hD hS (lv_sub hl [1, 2, 0] rfl)
set_option maxHeartbeats 40000000 in
set_option maxRecDepth 100000 in
theorem db_X14_entry_22 {p : Program} {l : Launch} {e : Env} {s : State} {m : MethodId} {args : Array Value} {below : List Frame} {meth : Method} {c : Code} {Q : State → Prop} {A : Nat → Prop} {dC : Nat → ClassId} {dI : Nat → Nat → Nat} {a : Nat → Nat} {ac : Nat → ClassId} {n : Nat} {r : St} (C : nd_C p l s m args c A (dC, dI) cX14_entry 8 RX14 ow_dm_X14_entry (dk_X14 ac)) (K : nd_Kv p l e (headSpec ow_dm_X14_entry ({ frames := 2, cells := 0, slots := 0, locals := 45 })).room s m args below meth c Q A (dC, dI) cX14_entry (St) (dw_X14 a ac) r) : dj_X14_entry_22 p l e s m args below meth c Q A dC dI a ac (df_X14_entry_22 n) r := by
  obtain ⟨hlt, hx, hb, hml, hown, hts, hN, hA, hK⟩ := id C
  intro x1 y0 y1 s0 H locs ls h hP hD hS hl
  unfold df_X14_entry_22 at h
  refine W.lcmp hx hb dX14_entry_22 ?_
  refine lv_if_ne (tgt := 30) hx hb dX14_entry_23 (by decide) (fun c4 => ?_) (fun c4 => ?_)
  · have h := nd_neg h c4
    refine lv_iconst (v := 0) hx hb dX14_entry_30 (by decide) ?_
    exact (db_X14_entry_31 C K) (x1) (0) s0 _ _ _ h hP hD hS (lv_sub hl [0, 1] rfl)
  · have h := nd_pos h c4
    refine lv_iconst (v := 1) hx hb dX14_entry_26 (by decide) ?_
    refine lv_goto (tgt := 31) hx hb dX14_entry_27 (by decide) ?_
    exact (db_X14_entry_31 C K) (x1) (1) s0 _ _ _ h hP hD hS (lv_sub hl [0, 1] rfl)
set_option maxHeartbeats 40000000 in
set_option maxRecDepth 100000 in
theorem db_X14_entry_0 {p : Program} {l : Launch} {e : Env} {s : State} {m : MethodId} {args : Array Value} {below : List Frame} {meth : Method} {c : Code} {Q : State → Prop} {A : Nat → Prop} {dC : Nat → ClassId} {dI : Nat → Nat → Nat} {a : Nat → Nat} {ac : Nat → ClassId} {n : Nat} {r : St} (C : nd_C p l s m args c A (dC, dI) cX14_entry 8 RX14 ow_dm_X14_entry (dk_X14 ac)) (K : nd_Kv p l e (headSpec ow_dm_X14_entry ({ frames := 2, cells := 0, slots := 0, locals := 45 })).room s m args below meth c Q A (dC, dI) cX14_entry (St) (dw_X14 a ac) r) : dj_X14_entry_0 p l e s m args below meth c Q A dC dI a ac (df_X14_entry_0 n) r := by
  obtain ⟨hlt, hx, hb, hml, hown, hts, hN, hA, hK⟩ := id C
  intro v0 s0 H locs ls h hP hD hS hl
  unfold df_X14_entry_0 at h
  refine lv_aload_n hx hb dX14_entry_0 rfl (lv_at hl 0 rfl) ?_
  refine va_get (D := (dC, dI)) (ci := 15) (v := .ref (a 3)) (C := RX14) (T := TX14) (N := 11) hx hb hts hi_dm_X14_entry_X14 hown hK hP 0 rfl rfl 3 (by decide) (hts (.fieldLink RX14 16 "TimeMachineModel$Codec" "difference" "[J") (List.mem_of_getElem? (i := 1) rfl)) (fun _ h9 => h9) rfl dX14_entry_1 ?_
  refine lv_iload_n hx hb dX14_entry_4 rfl (lv_at hl 1 rfl) ?_
  obtain ⟨i1, h⟩ := nd_ck_e h
  refine va_lald (i := v0) hx hb hK hP 3 2 rfl rfl i1 dX14_entry_5 ?_
  refine lv_iload_n hx hb dX14_entry_6 rfl (lv_at hl 1 rfl) ?_
  refine lv_if_ne (tgt := 14) hx hb dX14_entry_7 (by decide) (fun c2 => ?_) (fun c2 => ?_)
  · have h := nd_neg h c2
    refine lv_aload_n hx hb dX14_entry_14 rfl (lv_at hl 0 rfl) ?_
    refine va_get (D := (dC, dI)) (ci := 15) (v := .ref (a 3)) (C := RX14) (T := TX14) (N := 11) hx hb hts hi_dm_X14_entry_X14 hown hK hP 0 rfl rfl 3 (by decide) (hts (.fieldLink RX14 16 "TimeMachineModel$Codec" "difference" "[J") (List.mem_of_getElem? (i := 1) rfl)) (fun _ h9 => h9) rfl dX14_entry_15 ?_
    refine lv_iload_n hx hb dX14_entry_18 rfl (lv_at hl 1 rfl) ?_
    refine lv_iconst (v := 1) hx hb dX14_entry_19 (by decide) ?_
    refine lv_isub hx hb dX14_entry_20 ?_
    obtain ⟨i3, h⟩ := nd_ck_e h
    refine va_lald (i := (v0 - 1)) hx hb hK hP 3 2 rfl rfl i3 dX14_entry_21 ?_
    exact (db_X14_entry_22 C K) (v0) ((sQ s0 0 (Int32.toNatClampNeg v0))) ((sQ s0 0 (Int32.toNatClampNeg (v0 - 1)))) s0 _ _ _ h hP hD hS (lv_sub hl [0, 1] rfl)
  · have h := nd_pos h c2
    refine lv_lconst (v := 0) hx hb dX14_entry_10 (by decide) ?_
    refine lv_goto (tgt := 22) hx hb dX14_entry_11 (by decide) ?_
    exact (db_X14_entry_22 C K) (v0) ((sQ s0 0 (Int32.toNatClampNeg v0))) (0) s0 _ _ _ h hP hD hS (lv_sub hl [0, 1] rfl)
set_option maxHeartbeats 40000000 in
set_option maxRecDepth 100000 in
theorem dm_X14_entry (l : Launch) (hlt : l.stackTraces = false) (dC : Nat → ClassId) (dI : Nat → Nat → Nat) (a : Nat → Nat) (ac : Nat → ClassId) (n : Nat) (v0 : Int32) (s0 : St) {r : St} (h : df_X14_entry n v0 s0 = some r) (sz : Nat) : Met l yX14_entry ow_dm_X14_entry ({ frames := 2, cells := 0, slots := 0, locals := 45 }) (va_Pc [.ref (a 0), .int v0] (fun U => U.heap.size = sz ∧ va_P (dC, dI) vwCl (dw_X14 a ac s0) U.heap ∧ va_K (dC, dI) vwCl (dk_X14 ac) U ∧ va_D (fun _ => True) (dw_X14 a ac s0) ∧ nv_E (va_A (dw_X14 a ac s0) sz) U)) (va_Qv (fun _ => True) (fun (_ : Unit) t => va_P (dC, dI) vwCl (dw_X14 a ac r) t.heap ∧ va_K (dC, dI) vwCl (dk_X14 ac) t ∧ va_D (va_A (dw_X14 a ac s0) sz) (dw_X14 a ac r)) (va_A (dw_X14 a ac s0) sz)) 0 0 (va_A (dw_X14 a ac s0) sz) := by
  refine Met.ofW (cc := cX14_entry) (maxL := 8) (ret := none) (by decide) rfl ?_
  intro p e s m args below meth c s₁ B hml hv
  obtain ⟨rfl, hsz, hP, hK, hD0, hN⟩ := hv
  have hx := B.exec
  have hb := B.bytes
  have hr := B.returns
  have hts := atoms_spec (ws := ow_dm_X14_entry) B.pre
  have hown : s.vm.findClass RX14 = some m.cls := findClass_of_methodNamed B.named
  have hlocks := B.notSynchronized
  subst hsz
  have hD := hD0.self (sz := s.heap.size)
  generalize hAe : va_A (dw_X14 a ac s0) s.heap.size = A at hD hN ⊢
  have hA : ∀ q : Nat, s.heap.size ≤ q → A q := fun q h => by rw [← hAe]; exact Or.inr h
  have hl := lv_entry ([.ref (a 0), .int v0]) (n := 8) (Nat.le_of_ble_eq_true rfl)
  rw [lg_entry_eq]
  generalize (lg_sl ([.ref (a 0), .int v0]) ++ List.replicate (8 - (lg_sl ([.ref (a 0), .int v0])).length) Slot.unset).toArray = ls at hl ⊢
  have hl : lv_has ls 8 [(0, .ref (a 0)), (1, .int v0)] := hl
  exact db_X14_entry_0 (dC := dC) (dI := dI) (a := a) (ac := ac) (n := n) (r := r) ⟨hlt, hx, hb, hml, hown, hts, hN, hA, hK⟩ (fun pc τ H locs ls d er hP hD hS => by subst er; exact W.vret hx hb hr (fun t ht hW => ⟨⟨(), rfl, trivial, by rw [ht]; exact hP, va_K.moved hW.alike hK, hD⟩, hS.F ht⟩) hS.2.2 d) v0 s0 _ _ _ h hP hD va_S.rf (lv_sub hl [0, 1] rfl)
