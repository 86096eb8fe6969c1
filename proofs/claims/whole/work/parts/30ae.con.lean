set_option maxHeartbeats 40000000 in
set_option maxRecDepth 100000 in
theorem dm_X6_makeCurrent (l : Launch) (hlt : l.stackTraces = false) (dC : Nat → ClassId) (dI : Nat → Nat → Nat) (a : Nat → Nat) (ac : Nat → ClassId) (n : Nat) (v0 : Int32) (s0 : St × (St)) {r : St × (St)} (h : df_X6_makeCurrent n v0 s0 = some r) (sz : Nat) : Met l yX6_makeCurrent ow_dm_X6_makeCurrent ({ frames := 0, cells := 0, slots := 0, locals := 0 }) (va_Pc [.ref (a 0), .int v0] (fun U => U.heap.size = sz ∧ va_P (dC, dI) vwCl (dw_X6 a ac s0) U.heap ∧ va_K (dC, dI) vwCl (dk_X6 ac) U ∧ va_D (fun _ => True) (dw_X6 a ac s0) ∧ nv_E (va_A (dw_X6 a ac s0) sz) U)) (va_Qv (fun _ => True) (fun (_ : Unit) t => va_P (dC, dI) vwCl (dw_X6 a ac r) t.heap ∧ va_K (dC, dI) vwCl (dk_X6 ac) t ∧ va_D (va_A (dw_X6 a ac s0) sz) (dw_X6 a ac r)) (va_A (dw_X6 a ac s0) sz)) 0 0 (va_A (dw_X6 a ac s0) sz) := by
  refine Met.ofW (cc := cX6_makeCurrent) (maxL := 2) (ret := none) (by decide) rfl ?_
  intro p e s m args below meth c s₁ B hml hv
  obtain ⟨rfl, hsz, hP, hK, hD0, hN⟩ := hv
  have hx := B.exec
  have hb := B.bytes
  have hr := B.returns
  have hts := atoms_spec (ws := ow_dm_X6_makeCurrent) B.pre
  have hown : s.vm.findClass RX6 = some m.cls := findClass_of_methodNamed B.named
  have hlocks := B.notSynchronized
  subst hsz
  have hD := hD0.self (sz := s.heap.size)
  generalize hAe : va_A (dw_X6 a ac s0) s.heap.size = A at hD hN ⊢
  have hA : ∀ q : Nat, s.heap.size ≤ q → A q := fun q h => by rw [← hAe]; exact Or.inr h
  have hl := lv_entry ([.ref (a 0), .int v0]) (n := 2) (Nat.le_of_ble_eq_true rfl)
  rw [lg_entry_eq]
  generalize (lg_sl ([.ref (a 0), .int v0]) ++ List.replicate (2 - (lg_sl ([.ref (a 0), .int v0])).length) Slot.unset).toArray = ls at hl ⊢
  have hl : lv_has ls 2 [(0, .ref (a 0)), (1, .int v0)] := hl
  exact db_X6_makeCurrent_0 (dC := dC) (dI := dI) (a := a) (ac := ac) (n := n) (r := r) ⟨hlt, hx, hb, hml, hown, hts, hN, hA, hK⟩ (fun pc τ H locs ls d er hP hD hS => by subst er; exact W.vret hx hb hr (fun t ht hW => ⟨⟨(), rfl, trivial, by rw [ht]; exact hP, va_K.moved hW.alike hK, hD⟩, hS.F ht⟩) hS.2.2 d) v0 s0 _ _ _ h hP hD va_S.rf (lv_sub hl [0, 1] rfl)
def ow_dm_X6_status : List Cond := .code yX6_status cX6_status 2 (some .int) :: ([.fieldLink RX6 29 "TimeMachine$Machine" "self" "[I"] ++ (u_ws RX6 TX6 20 ++ []))
theorem gd_dm_X6_status : ∀ w ∈ ow_dm_X6_status, (w.onTables && w.keeps) = true ∨ ∃ ty, w = Cond.arrayClass ty := List.forall_mem_cons.mpr ⟨good_of_word rfl, List.forall_mem_append.mpr ⟨fun w h => good_of_word (List.all_eq_true.mp (by decide +kernel) w h), List.forall_mem_append.mpr ⟨gu_X6, fun _ h => nomatch h⟩⟩⟩
theorem hi_dm_X6_status_X6 : ∀ w ∈ u_ws RX6 TX6 20, w ∈ ow_dm_X6_status := fun w h => List.mem_cons_of_mem _ (List.mem_append_right _ (List.mem_append_left _ h))
def dj_X6_status_0 (p : Program) (l : Launch) (e : Env) (s : State) (m : MethodId) (args : Array Value) (below : List Frame) (meth : Method) (c : Code) (Q : State → Prop) (A : Nat → Prop) (dC : Nat → ClassId) (dI : Nat → Nat → Nat) (a : Nat → Nat) (ac : Nat → ClassId) (g : Int32 → (St × (St)) → Option (Int32 × (St × (St)))) (r : Int32 × (St × (St))) : Prop := ∀ (v0 : Int32) (s0 : St × (St)) (H : Heap) (locs : List Loc) (ls : Array Slot), g v0 s0 = some r → va_P (dC, dI) vwCl (dw_X6 a ac s0) H → va_D A (dw_X6 a ac s0) → va_S A s.heap H locs → lv_has ls 2 [(0, .ref (a 0)), (1, .int v0)] → W p l e (headSpec ow_dm_X6_status ({ frames := 0, cells := 0, slots := 0, locals := 0 })).room s m args below meth c H locs 0 0 Q (F0 m 0 ls [])
set_option maxHeartbeats 40000000 in
set_option maxRecDepth 100000 in
theorem db_X6_status_0 {p : Program} {l : Launch} {e : Env} {s : State} {m : MethodId} {args : Array Value} {below : List Frame} {meth : Method} {c : Code} {Q : State → Prop} {A : Nat → Prop} {dC : Nat → ClassId} {dI : Nat → Nat → Nat} {a : Nat → Nat} {ac : Nat → ClassId} {n : Nat} {r : Int32 × (St × (St))} (C : nd_C p l s m args c A (dC, dI) cX6_status 2 RX6 ow_dm_X6_status (dk_X6 ac)) (K : nd_Ki p l e (headSpec ow_dm_X6_status ({ frames := 0, cells := 0, slots := 0, locals := 0 })).room s m args below meth c Q A (dC, dI) cX6_status .int (St × (St)) (dw_X6 a ac) r) : dj_X6_status_0 p l e s m args below meth c Q A dC dI a ac (df_X6_status_0 n) r := by
  obtain ⟨hlt, hx, hb, hml, hown, hts, hN, hA, hK⟩ := id C
  intro v0 s0 H locs ls h hP hD hS hl
  unfold df_X6_status_0 at h
  refine lv_aload_n hx hb dX6_status_0 rfl (lv_at hl 0 rfl) ?_
  refine va_get (D := (dC, dI)) (ci := 7) (v := .ref (a 7)) (C := RX6) (T := TX6) (N := 20) hx hb hts hi_dm_X6_status_X6 hown hK hP 0 rfl rfl 7 (by decide) (hts (.fieldLink RX6 29 "TimeMachine$Machine" "self" "[I") (List.mem_of_getElem? (i := 1) rfl)) (fun _ h9 => h9) rfl dX6_status_1 ?_
  refine lv_iload_n hx hb dX6_status_4 rfl (lv_at hl 1 rfl) ?_
  refine lv_bipush (v := 7) hx hb dX6_status_5 (by decide) ?_
  refine lv_imul hx hb dX6_status_7 ?_
  refine lv_iconst (v := 0) hx hb dX6_status_8 (by decide) ?_
  refine lv_iadd hx hb dX6_status_9 ?_
  obtain ⟨i1, h⟩ := nd_ck_e h
  refine va_iald (i := ((v0 * 7) + 0)) hx hb hK hP 7 6 rfl rfl i1 dX6_status_10 ?_
  exact K _ _ _ _ _ _ dX6_status_11 rfl (Option.some.inj h).symm hP hD hS
set_option maxHeartbeats 40000000 in
set_option maxRecDepth 100000 in
theorem dm_X6_status (l : Launch) (hlt : l.stackTraces = false) (dC : Nat → ClassId) (dI : Nat → Nat → Nat) (a : Nat → Nat) (ac : Nat → ClassId) (n : Nat) (v0 : Int32) (s0 : St × (St)) {r : Int32 × (St × (St))} (h : df_X6_status n v0 s0 = some r) (sz : Nat) : Met l yX6_status ow_dm_X6_status ({ frames := 0, cells := 0, slots := 0, locals := 0 }) (va_Pc [.ref (a 0), .int v0] (fun U => U.heap.size = sz ∧ va_P (dC, dI) vwCl (dw_X6 a ac s0) U.heap ∧ va_K (dC, dI) vwCl (dk_X6 ac) U ∧ va_D (fun _ => True) (dw_X6 a ac s0) ∧ nv_E (va_A (dw_X6 a ac s0) sz) U)) (va_Qi (fun x _ => x = r.1) (fun (_ : Unit) t => va_P (dC, dI) vwCl (dw_X6 a ac r.2) t.heap ∧ va_K (dC, dI) vwCl (dk_X6 ac) t ∧ va_D (va_A (dw_X6 a ac s0) sz) (dw_X6 a ac r.2)) (va_A (dw_X6 a ac s0) sz)) 0 0 (va_A (dw_X6 a ac s0) sz) := by
  refine Met.ofW (cc := cX6_status) (maxL := 2) (ret := (some .int)) (by decide) rfl ?_
  intro p e s m args below meth c s₁ B hml hv
  obtain ⟨rfl, hsz, hP, hK, hD0, hN⟩ := hv
  have hx := B.exec
  have hb := B.bytes
  have hr := B.returns
  have hts := atoms_spec (ws := ow_dm_X6_status) B.pre
  have hown : s.vm.findClass RX6 = some m.cls := findClass_of_methodNamed B.named
  have hlocks := B.notSynchronized
  subst hsz
  have hD := hD0.self (sz := s.heap.size)
  generalize hAe : va_A (dw_X6 a ac s0) s.heap.size = A at hD hN ⊢
  have hA : ∀ q : Nat, s.heap.size ≤ q → A q := fun q h => by rw [← hAe]; exact Or.inr h
  have hl := lv_entry ([.ref (a 0), .int v0]) (n := 2) (Nat.le_of_ble_eq_true rfl)
  rw [lg_entry_eq]
  generalize (lg_sl ([.ref (a 0), .int v0]) ++ List.replicate (2 - (lg_sl ([.ref (a 0), .int v0])).length) Slot.unset).toArray = ls at hl ⊢
  have hl : lv_has ls 2 [(0, .ref (a 0)), (1, .int v0)] := hl
  exact db_X6_status_0 (dC := dC) (dI := dI) (a := a) (ac := ac) (n := n) (r := r) ⟨hlt, hx, hb, hml, hown, hts, hN, hA, hK⟩ (fun pc v τ H locs ls d z er hP hD hS => by subst er; exact W.zret (v := v) hx hb hr z (fun t ht hW => ⟨⟨v, (), rfl, rfl, by rw [ht]; exact hP, va_K.moved hW.alike hK, hD⟩, hS.F ht⟩) hS.2.2 d) v0 s0 _ _ _ h hP hD va_S.rf (lv_sub hl [0, 1] rfl)
def ow_dm_X6_chooseCurrent : List Cond := .code yX6_chooseCurrent cX6_chooseCurrent 1 none :: ([.fieldLink RX6 66 "TimeMachine$Machine" "current" "I", .fieldLink RX6 69 "TimeMachine$Machine" "last" "I", .methodLink RX6 159 yX6_nextReady, .instanceMethod yX6_nextReady, .selects RX6 yX6_nextReady yX6_nextReady, .initialized RX6, .methodLink RX6 162 yX6_makeCurrent, .instanceMethod yX6_makeCurrent, .selects RX6 yX6_makeCurrent yX6_makeCurrent, .methodLink RX6 156 yX6_status, .instanceMethod yX6_status, .selects RX6 yX6_status yX6_status] ++ (u_ws RX6 TX6 20 ++ (ow_dm_X6_nextReady ++ (ow_dm_X6_makeCurrent ++ (ow_dm_X6_status ++ [])))))
theorem gd_dm_X6_chooseCurrent : ∀ w ∈ ow_dm_X6_chooseCurrent, (w.onTables && w.keeps) = true ∨ ∃ ty, w = Cond.arrayClass ty := List.forall_mem_cons.mpr ⟨good_of_word rfl, List.forall_mem_append.mpr ⟨fun w h => good_of_word (List.all_eq_true.mp (by decide +kernel) w h), List.forall_mem_append.mpr ⟨gu_X6, List.forall_mem_append.mpr ⟨gd_dm_X6_nextReady, List.forall_mem_append.mpr ⟨gd_dm_X6_makeCurrent, List.forall_mem_append.mpr ⟨gd_dm_X6_status, fun _ h => nomatch h⟩⟩⟩⟩⟩⟩
theorem hi_dm_X6_chooseCurrent_X6 : ∀ w ∈ u_ws RX6 TX6 20, w ∈ ow_dm_X6_chooseCurrent := fun w h => List.mem_cons_of_mem _ (List.mem_append_right _ (List.mem_append_left _ h))
theorem gi_dm_X6_chooseCurrent_0 : GoodIn ow_dm_X6_chooseCurrent (wsV RX6 159 RX6 yX6_nextReady ow_dm_X6_nextReady) := goodIn_app (goodIn_of _ (by decide +kernel)) (fun w h => ⟨List.mem_cons_of_mem _ (List.mem_append_right _ (List.mem_append_right _ (List.mem_append_left _ h))), gd_dm_X6_nextReady w h⟩)
theorem gi_dm_X6_chooseCurrent_1 : GoodIn ow_dm_X6_chooseCurrent (wsV RX6 162 RX6 yX6_makeCurrent ow_dm_X6_makeCurrent) := goodIn_app (goodIn_of _ (by decide +kernel)) (fun w h => ⟨List.mem_cons_of_mem _ (List.mem_append_right _ (List.mem_append_right _ (List.mem_append_right _ (List.mem_append_left _ h)))), gd_dm_X6_makeCurrent w h⟩)
theorem gi_dm_X6_chooseCurrent_2 : GoodIn ow_dm_X6_chooseCurrent (wsV RX6 156 RX6 yX6_status ow_dm_X6_status) := goodIn_app (goodIn_of _ (by decide +kernel)) (fun w h => ⟨List.mem_cons_of_mem _ (List.mem_append_right _ (List.mem_append_right _ (List.mem_append_right _ (List.mem_append_right _ (List.mem_append_left _ h))))), gd_dm_X6_status w h⟩)
def dj_X6_chooseCurrent_34 (p : Program) (l : Launch) (e : Env) (s : State) (m : MethodId) (args : Array Value) (below : List Frame) (meth : Method) (c : Code) (Q : State → Prop) (A : Nat → Prop) (dC : Nat → ClassId) (dI : Nat → Nat → Nat) (a : Nat → Nat) (ac : Nat → ClassId) (g : (St × (St)) → Option (St × (St))) (r : St × (St)) : Prop := ∀ (s0 : St × (St)) (H : Heap) (locs : List Loc) (ls : Array Slot), g s0 = some r → va_P (dC, dI) vwCl (dw_X6 a ac s0) H → va_D A (dw_X6 a ac s0) → va_S A s.heap H locs → lv_has ls 1 [] → W p l e (headSpec ow_dm_X6_chooseCurrent ({ frames := 1, cells := 0, slots := 0, locals := 23 })).room s m args below meth c H locs 0 0 Q (F0 m 34 ls [])
def dj_X6_chooseCurrent_22 (p : Program) (l : Launch) (e : Env) (s : State) (m : MethodId) (args : Array Value) (below : List Frame) (meth : Method) (c : Code) (Q : State → Prop) (A : Nat → Prop) (dC : Nat → ClassId) (dI : Nat → Nat → Nat) (a : Nat → Nat) (ac : Nat → ClassId) (g : (St × (St)) → Option (St × (St))) (r : St × (St)) : Prop := ∀ (s0 : St × (St)) (H : Heap) (locs : List Loc) (ls : Array Slot), g s0 = some r → va_P (dC, dI) vwCl (dw_X6 a ac s0) H → va_D A (dw_X6 a ac s0) → va_S A s.heap H locs → lv_has ls 1 [(0, .ref (a 0))] → W p l e (headSpec ow_dm_X6_chooseCurrent ({ frames := 1, cells := 0, slots := 0, locals := 23 })).room s m args below meth c H locs 0 0 Q (F0 m 22 ls [])
def dj_X6_chooseCurrent_0 (p : Program) (l : Launch) (e : Env) (s : State) (m : MethodId) (args : Array Value) (below : List Frame) (meth : Method) (c : Code) (Q : State → Prop) (A : Nat → Prop) (dC : Nat → ClassId) (dI : Nat → Nat → Nat) (a : Nat → Nat) (ac : Nat → ClassId) (g : (St × (St)) → Option (St × (St))) (r : St × (St)) : Prop := ∀ (s0 : St × (St)) (H : Heap) (locs : List Loc) (ls : Array Slot), g s0 = some r → va_P (dC, dI) vwCl (dw_X6 a ac s0) H → va_D A (dw_X6 a ac s0) → va_S A s.heap H locs → lv_has ls 1 [(0, .ref (a 0))] → W p l e (headSpec ow_dm_X6_chooseCurrent ({ frames := 1, cells := 0, slots := 0, locals := 23 })).room s m args below meth c H locs 0 0 Q (F0 m 0 ls [])
set_option maxHeartbeats 40000000 in
set_option maxRecDepth 100000 in
theorem db_X6_chooseCurrent_34 {p : Program} {l : Launch} {e : Env} {s : State} {m : MethodId} {args : Array Value} {below : List Frame} {meth : Method} {c : Code} {Q : State → Prop} {A : Nat → Prop} {dC : Nat → ClassId} {dI : Nat → Nat → Nat} {a : Nat → Nat} {ac : Nat → ClassId} {n : Nat} {r : St × (St)} (C : nd_C p l s m args c A (dC, dI) cX6_chooseCurrent 1 RX6 ow_dm_X6_chooseCurrent (dk_X6 ac)) (K : nd_Kv p l e (headSpec ow_dm_X6_chooseCurrent ({ frames := 1, cells := 0, slots := 0, locals := 23 })).room s m args below meth c Q A (dC, dI) cX6_chooseCurrent (St × (St)) (dw_X6 a ac) r) : dj_X6_chooseCurrent_34 p l e s m args below meth c Q A dC dI a ac (df_X6_chooseCurrent_34 n) r := by
  obtain ⟨hlt, hx, hb, hml, hown, hts, hN, hA, hK⟩ := id C
  intro s0 H locs ls h hP hD hS hl
  unfold df_X6_chooseCurrent_34 at h
  exact K _ _ _ _ _ dX6_chooseCurrent_34 (Option.some.inj h).symm hP hD hS
set_option maxHeartbeats 40000000 in
set_option maxRecDepth 100000 in
theorem db_X6_chooseCurrent_22 {p : Program} {l : Launch} {e : Env} {s : State} {m : MethodId} {args : Array Value} {below : List Frame} {meth : Method} {c : Code} {Q : State → Prop} {A : Nat → Prop} {dC : Nat → ClassId} {dI : Nat → Nat → Nat} {a : Nat → Nat} {ac : Nat → ClassId} {n : Nat} {r : St × (St)} (C : nd_C p l s m args c A (dC, dI) cX6_chooseCurrent 1 RX6 ow_dm_X6_chooseCurrent (dk_X6 ac)) (K : nd_Kv p l e (headSpec ow_dm_X6_chooseCurrent ({ frames := 1, cells := 0, slots := 0, locals := 23 })).room s m args below meth c Q A (dC, dI) cX6_chooseCurrent (St × (St)) (dw_X6 a ac) r) : dj_X6_chooseCurrent_22 p l e s m args below meth c Q A dC dI a ac (df_X6_chooseCurrent_22 n) r := by
  obtain ⟨hlt, hx, hb, hml, hown, hts, hN, hA, hK⟩ := id C
  intro s0 H locs ls h hP hD hS hl
  unfold df_X6_chooseCurrent_22 at h
  refine lv_aload_n hx hb dX6_chooseCurrent_22 rfl (lv_at hl 0 rfl) ?_
  refine lv_aload_n hx hb dX6_chooseCurrent_23 rfl (lv_at hl 0 rfl) ?_
  refine lv_aload_n hx hb dX6_chooseCurrent_24 rfl (lv_at hl 0 rfl) ?_
  refine va_get (D := (dC, dI)) (ci := 7) (v := .int (sI s0.1 4)) (C := RX6) (T := TX6) (N := 20) hx hb hts hi_dm_X6_chooseCurrent_X6 hown hK hP 0 rfl rfl 14 (by decide) (hts (.fieldLink RX6 69 "TimeMachine$Machine" "last" "I") (List.mem_of_getElem? (i := 2) rfl)) (fun _ h9 => h9) rfl dX6_chooseCurrent_25 ?_
  obtain ⟨q2, s3, hq, h⟩ := nd_b2_e h
  have hPc := hP
  have hDc := hD
  have hKc := hK
  have hFc := nd_rs hD hS hA
  refine nd_cVi (As := [.int (sI s0.1 4)]) (rest := [.ref (a 0)]) (q := q2) (w' := dw_X6 a ac s3) ⟨hx, hb, hml, hown, hts⟩ (fun sz => dm_X6_nextReady l hlt dC dI a ac n ((sI s0.1 4)) s0 hq sz) (cwV 1 hts gi_dm_X6_chooseCurrent_0 rfl rfl rfl (by decide +kernel) ⟨Nat.le_of_ble_eq_true rfl, Nat.le_of_ble_eq_true rfl⟩) hPc hDc hKc hS hA hN (va_recv hKc hPc (ci := 7) (q0 := 0) rfl rfl) rfl hl.1 rfl (Nat.le_of_ble_eq_true rfl) dX6_chooseCurrent_28 (fun H locs hP1 hD1 hk1 hS => ?_)
  have hP := hP1
  have hD := hD1.weaken (fun k q _ h => hFc q.1 h)
  obtain ⟨s6, hq, h⟩ := nd_b1_e h
  have hPc := hP
  have hDc := hD
  have hKc := hK
  have hFc := nd_rs hD hS hA
  refine nd_cVv (As := [.int q2]) (rest := []) (w' := dw_X6 a ac s6) ⟨hx, hb, hml, hown, hts⟩ (fun sz => dm_X6_makeCurrent l hlt dC dI a ac n (q2) s3 hq sz) (cwV 1 hts gi_dm_X6_chooseCurrent_1 rfl rfl rfl (by decide +kernel) ⟨Nat.le_of_ble_eq_true rfl, Nat.le_of_ble_eq_true rfl⟩) hPc hDc hKc hS hA hN (va_recv hKc hPc (ci := 7) (q0 := 0) rfl rfl) rfl hl.1 rfl (Nat.le_of_ble_eq_true rfl) dX6_chooseCurrent_31 (fun H locs hP1 hD1 hk1 hS => ?_)
  have hP := hP1
  have hD := hD1.weaken (fun k q _ h => hFc q.1 h)
  exact (db_X6_chooseCurrent_34 C K)  s6 _ _ _ h hP hD hS (lv_sub hl [] rfl)
set_option maxHeartbeats 40000000 in
set_option maxRecDepth 100000 in
theorem db_X6_chooseCurrent_0 {p : Program} {l : Launch} {e : Env} {s : State} {m : MethodId} {args : Array Value} {below : List Frame} {meth : Method} {c : Code} {Q : State → Prop} {A : Nat → Prop} {dC : Nat → ClassId} {dI : Nat → Nat → Nat} {a : Nat → Nat} {ac : Nat → ClassId} {n : Nat} {r : St × (St)} (C : nd_C p l s m args c A (dC, dI) cX6_chooseCurrent 1 RX6 ow_dm_X6_chooseCurrent (dk_X6 ac)) (K : nd_Kv p l e (headSpec ow_dm_X6_chooseCurrent ({ frames := 1, cells := 0, slots := 0, locals := 23 })).room s m args below meth c Q A (dC, dI) cX6_chooseCurrent (St × (St)) (dw_X6 a ac) r) : dj_X6_chooseCurrent_0 p l e s m args below meth c Q A dC dI a ac (df_X6_chooseCurrent_0 n) r := by
  obtain ⟨hlt, hx, hb, hml, hown, hts, hN, hA, hK⟩ := id C
  intro s0 H locs ls h hP hD hS hl
  unfold df_X6_chooseCurrent_0 at h
  refine lv_aload_n hx hb dX6_chooseCurrent_0 rfl (lv_at hl 0 rfl) ?_
  refine va_get (D := (dC, dI)) (ci := 7) (v := .int (sI s0.1 3)) (C := RX6) (T := TX6) (N := 20) hx hb hts hi_dm_X6_chooseCurrent_X6 hown hK hP 0 rfl rfl 13 (by decide) (hts (.fieldLink RX6 66 "TimeMachine$Machine" "current" "I") (List.mem_of_getElem? (i := 1) rfl)) (fun _ h9 => h9) rfl dX6_chooseCurrent_1 ?_
  refine lv_if_lt (tgt := 22) hx hb dX6_chooseCurrent_4 (by decide) (fun c1 => ?_) (fun c1 => ?_)
  · have h := nd_pos h c1
    exact (db_X6_chooseCurrent_22 C K)  s0 _ _ _ h hP hD hS (lv_sub hl [0] rfl)
  · have h := nd_neg h c1
    refine lv_aload_n hx hb dX6_chooseCurrent_7 rfl (lv_at hl 0 rfl) ?_
    refine lv_aload_n hx hb dX6_chooseCurrent_8 rfl (lv_at hl 0 rfl) ?_
    refine va_get (D := (dC, dI)) (ci := 7) (v := .int (sI s0.1 3)) (C := RX6) (T := TX6) (N := 20) hx hb hts hi_dm_X6_chooseCurrent_X6 hown hK hP 0 rfl rfl 13 (by decide) (hts (.fieldLink RX6 66 "TimeMachine$Machine" "current" "I") (List.mem_of_getElem? (i := 1) rfl)) (fun _ h9 => h9) rfl dX6_chooseCurrent_9 ?_
    refine lv_bipush (v := 15) hx hb dX6_chooseCurrent_12 (by decide) ?_
    refine lv_iand hx hb dX6_chooseCurrent_14 ?_
    obtain ⟨q8, s9, hq, h⟩ := nd_b2_e h
    have hPc := hP
    have hDc := hD
    have hKc := hK
    have hFc := nd_rs hD hS hA
    refine nd_cVi (As := [.int ((sI s0.1 3) &&& 15)]) (rest := []) (q := q8) (w' := dw_X6 a ac s9) ⟨hx, hb, hml, hown, hts⟩ (fun sz => dm_X6_status l hlt dC dI a ac n (((sI s0.1 3) &&& 15)) s0 hq sz) (cwV 1 hts gi_dm_X6_chooseCurrent_2 rfl rfl rfl (by decide +kernel) ⟨Nat.le_of_ble_eq_true rfl, Nat.le_of_ble_eq_true rfl⟩) hPc hDc hKc hS hA hN (va_recv hKc hPc (ci := 7) (q0 := 0) rfl rfl) rfl hl.1 rfl (Nat.le_of_ble_eq_true rfl) dX6_chooseCurrent_15 (fun H locs hP1 hD1 hk1 hS => ?_)
    have hP := hP1
    have hD := hD1.weaken (fun k q _ h => hFc q.1 h)
    refine lv_iconst (v := 1) hx hb dX6_chooseCurrent_18 (by decide) ?_
    refine lv_icmp_eq (tgt := 34) hx hb dX6_chooseCurrent_19 (by decide) (fun c11 => ?_) (fun c11 => ?_)
    · have h := nd_pos h c11
      exact (db_X6_chooseCurrent_34 C K)  s9 _ _ _ h hP hD hS (lv_sub hl [] rfl)
    · have h := nd_neg h c11
      exact (db_X6_chooseCurrent_22 C K)  s9 _ _ _ h hP hD hS (lv_sub hl [0] rfl)
set_option maxHeartbeats 40000000 in
set_option maxRecDepth 100000 in
theorem dm_X6_chooseCurrent (l : Launch) (hlt : l.stackTraces = false) (dC : Nat → ClassId) (dI : Nat → Nat → Nat) (a : Nat → Nat) (ac : Nat → ClassId) (n : Nat) (s0 : St × (St)) {r : St × (St)} (h : df_X6_chooseCurrent n s0 = some r) (sz : Nat) : Met l yX6_chooseCurrent ow_dm_X6_chooseCurrent ({ frames := 1, cells := 0, slots := 0, locals := 23 }) (va_Pc [.ref (a 0)] (fun U => U.heap.size = sz ∧ va_P (dC, dI) vwCl (dw_X6 a ac s0) U.heap ∧ va_K (dC, dI) vwCl (dk_X6 ac) U ∧ va_D (fun _ => True) (dw_X6 a ac s0) ∧ nv_E (va_A (dw_X6 a ac s0) sz) U)) (va_Qv (fun _ => True) (fun (_ : Unit) t => va_P (dC, dI) vwCl (dw_X6 a ac r) t.heap ∧ va_K (dC, dI) vwCl (dk_X6 ac) t ∧ va_D (va_A (dw_X6 a ac s0) sz) (dw_X6 a ac r)) (va_A (dw_X6 a ac s0) sz)) 0 0 (va_A (dw_X6 a ac s0) sz) := by
  refine Met.ofW (cc := cX6_chooseCurrent) (maxL := 1) (ret := none) (by decide) rfl ?_
  intro p e s m args below meth c s₁ B hml hv
  obtain ⟨rfl, hsz, hP, hK, hD0, hN⟩ := hv
  have hx := B.exec
  have hb := B.bytes
  have hr := B.returns
  have hts := atoms_spec (ws := ow_dm_X6_chooseCurrent) B.pre
  have hown : s.vm.findClass RX6 = some m.cls := findClass_of_methodNamed B.named
  have hlocks := B.notSynchronized
  subst hsz
  have hD := hD0.self (sz := s.heap.size)
  generalize hAe : va_A (dw_X6 a ac s0) s.heap.size = A at hD hN ⊢
  have hA : ∀ q : Nat, s.heap.size ≤ q → A q := fun q h => by rw [← hAe]; exact Or.inr h
  have hl := lv_entry ([.ref (a 0)]) (n := 1) (Nat.le_of_ble_eq_true rfl)
  rw [lg_entry_eq]
  generalize (lg_sl ([.ref (a 0)]) ++ List.replicate (1 - (lg_sl ([.ref (a 0)])).length) Slot.unset).toArray = ls at hl ⊢
  have hl : lv_has ls 1 [(0, .ref (a 0))] := hl
  exact db_X6_chooseCurrent_0 (dC := dC) (dI := dI) (a := a) (ac := ac) (n := n) (r := r) ⟨hlt, hx, hb, hml, hown, hts, hN, hA, hK⟩ (fun pc τ H locs ls d er hP hD hS => by subst er; exact W.vret hx hb hr (fun t ht hW => ⟨⟨(), rfl, trivial, by rw [ht]; exact hP, va_K.moved hW.alike hK, hD⟩, hS.F ht⟩) hS.2.2 d) s0 _ _ _ h hP hD va_S.rf (lv_sub hl [0] rfl)
def ow_dm_X6_makeAbsent : List Cond := .code yX6_makeAbsent cX6_makeAbsent 3 none :: ([.fieldLink RX6 29 "TimeMachine$Machine" "self" "[I"] ++ (u_ws RX6 TX6 20 ++ []))
theorem gd_dm_X6_makeAbsent : ∀ w ∈ ow_dm_X6_makeAbsent, (w.onTables && w.keeps) = true ∨ ∃ ty, w = Cond.arrayClass ty := List.forall_mem_cons.mpr ⟨good_of_word rfl, List.forall_mem_append.mpr ⟨fun w h => good_of_word (List.all_eq_true.mp (by decide +kernel) w h), List.forall_mem_append.mpr ⟨gu_X6, fun _ h => nomatch h⟩⟩⟩
theorem hi_dm_X6_makeAbsent_X6 : ∀ w ∈ u_ws RX6 TX6 20, w ∈ ow_dm_X6_makeAbsent := fun w h => List.mem_cons_of_mem _ (List.mem_append_right _ (List.mem_append_left _ h))
def dj_X6_makeAbsent_28 (p : Program) (l : Launch) (e : Env) (s : State) (m : MethodId) (args : Array Value) (below : List Frame) (meth : Method) (c : Code) (Q : State → Prop) (A : Nat → Prop) (dC : Nat → ClassId) (dI : Nat → Nat → Nat) (a : Nat → Nat) (ac : Nat → ClassId) (g : Int32 → Int32 → Int32 → Int32 → (St × (St)) → Option (St × (St))) (r : St × (St)) : Prop := ∀ (x1 : Int32) (x2 : Int32) (y1 : Int32) (y2 : Int32) (s0 : St × (St)) (H : Heap) (locs : List Loc) (ls : Array Slot), g x1 x2 y1 y2 s0 = some r → va_P (dC, dI) vwCl (dw_X6 a ac s0) H → va_D A (dw_X6 a ac s0) → va_S A s.heap H locs → lv_has ls 3 [(0, .ref (a 0)), (1, .int x1), (2, .int x2)] → W p l e (headSpec ow_dm_X6_makeAbsent ({ frames := 0, cells := 0, slots := 0, locals := 0 })).room s m args below meth c H locs 0 0 Q (F0 m 28 ls [.int y2, .int y1, .ref (a 7)])
def dj_X6_makeAbsent_2 (p : Program) (l : Launch) (e : Env) (s : State) (m : MethodId) (args : Array Value) (below : List Frame) (meth : Method) (c : Code) (Q : State → Prop) (A : Nat → Prop) (dC : Nat → ClassId) (dI : Nat → Nat → Nat) (a : Nat → Nat) (ac : Nat → ClassId) (g : Int32 → Int32 → (St × (St)) → Option (St × (St))) (r : St × (St)) : Prop := ∀ (x1 : Int32) (x2 : Int32) (s0 : St × (St)) (H : Heap) (locs : List Loc) (ls : Array Slot), g x1 x2 s0 = some r → va_P (dC, dI) vwCl (dw_X6 a ac s0) H → va_D A (dw_X6 a ac s0) → va_S A s.heap H locs → lv_has ls 3 [(0, .ref (a 0)), (1, .int x1), (2, .int x2)] → W p l e (headSpec ow_dm_X6_makeAbsent ({ frames := 0, cells := 0, slots := 0, locals := 0 })).room s m args below meth c H locs 0 0 Q (F0 m 2 ls [])
def dj_X6_makeAbsent_0 (p : Program) (l : Launch) (e : Env) (s : State) (m : MethodId) (args : Array Value) (below : List Frame) (meth : Method) (c : Code) (Q : State → Prop) (A : Nat → Prop) (dC : Nat → ClassId) (dI : Nat → Nat → Nat) (a : Nat → Nat) (ac : Nat → ClassId) (g : Int32 → (St × (St)) → Option (St × (St))) (r : St × (St)) : Prop := ∀ (v0 : Int32) (s0 : St × (St)) (H : Heap) (locs : List Loc) (ls : Array Slot), g v0 s0 = some r → va_P (dC, dI) vwCl (dw_X6 a ac s0) H → va_D A (dw_X6 a ac s0) → va_S A s.heap H locs → lv_has ls 3 [(0, .ref (a 0)), (1, .int v0)] → W p l e (headSpec ow_dm_X6_makeAbsent ({ frames := 0, cells := 0, slots := 0, locals := 0 })).room s m args below meth c H locs 0 0 Q (F0 m 0 ls [])
set_option maxHeartbeats 40000000 in
set_option maxRecDepth 100000 in
theorem db_X6_makeAbsent_28 {p : Program} {l : Launch} {e : Env} {s : State} {m : MethodId} {args : Array Value} {below : List Frame} {meth : Method} {c : Code} {Q : State → Prop} {A : Nat → Prop} {dC : Nat → ClassId} {dI : Nat → Nat → Nat} {a : Nat → Nat} {ac : Nat → ClassId} {n : Nat} {r : St × (St)} (C : nd_C p l s m args c A (dC, dI) cX6_makeAbsent 3 RX6 ow_dm_X6_makeAbsent (dk_X6 ac)) (K : nd_Kv p l e (headSpec ow_dm_X6_makeAbsent ({ frames := 0, cells := 0, slots := 0, locals := 0 })).room s m args below meth c Q A (dC, dI) cX6_makeAbsent (St × (St)) (dw_X6 a ac) r) {g2 : Int32 → Int32 → (St × (St)) → Option (St × (St))} (J2 : dj_X6_makeAbsent_2 p l e s m args below meth c Q A dC dI a ac g2 r) : dj_X6_makeAbsent_28 p l e s m args below meth c Q A dC dI a ac (df_X6_makeAbsent_28 n g2) r := by
  obtain ⟨hlt, hx, hb, hml, hown, hts, hN, hA, hK⟩ := id C
  intro x1 x2 y1 y2 s0 H locs ls h hP hD hS hl
  unfold df_X6_makeAbsent_28 at h
  obtain ⟨i3, h⟩ := nd_ck_e h
  refine va_iast (i := y1) (x := y2) hx hb hK hP hD hS 7 6 rfl rfl i3 dX6_makeAbsent_28 (fun H locs hP hD hS => ?_)
  obtain ⟨s4, es4, h⟩ := nd_let_e h
  have hP : va_P (dC, dI) vwCl (dw_X6 a ac s4) H := by rw [es4]; exact hP
  have hD : va_D A (dw_X6 a ac s4) := by rw [es4]; exact hD
  obtain ⟨z5, ez5, h⟩ := nd_let_e h
  refine lv_iinc (v := z5) (lv' := [(2, .int z5), (0, .ref (a 0)), (1, .int x1)]) hx hb dX6_makeAbsent_29 hl (k := 2) rfl (by rw [ez5]) (by decide) rfl (fun ls hl => ?_)
  refine lv_goto (tgt := 2) hx hb dX6_makeAbsent_32 (by decide) ?_
  exact (J2) (x1) (z5) s4 _ _ _ h hP hD hS (lv_sub hl [1, 2, 0] rfl)
set_option maxHeartbeats 40000000 in
set_option maxRecDepth 100000 in
theorem dB_X6_makeAbsent_2 {p : Program} {l : Launch} {e : Env} {s : State} {m : MethodId} {args : Array Value} {below : List Frame} {meth : Method} {c : Code} {Q : State → Prop} {A : Nat → Prop} {dC : Nat → ClassId} {dI : Nat → Nat → Nat} {a : Nat → Nat} {ac : Nat → ClassId} {n : Nat} {r : St × (St)} (C : nd_C p l s m args c A (dC, dI) cX6_makeAbsent 3 RX6 ow_dm_X6_makeAbsent (dk_X6 ac)) (K : nd_Kv p l e (headSpec ow_dm_X6_makeAbsent ({ frames := 0, cells := 0, slots := 0, locals := 0 })).room s m args below meth c Q A (dC, dI) cX6_makeAbsent (St × (St)) (dw_X6 a ac) r) {g2 : Int32 → Int32 → (St × (St)) → Option (St × (St))} (J2 : dj_X6_makeAbsent_2 p l e s m args below meth c Q A dC dI a ac g2 r) : dj_X6_makeAbsent_2 p l e s m args below meth c Q A dC dI a ac (dF_X6_makeAbsent_2 n g2) r := by
  obtain ⟨hlt, hx, hb, hml, hown, hts, hN, hA, hK⟩ := id C
  intro x1 x2 s0 H locs ls h hP hD hS hl
  unfold dF_X6_makeAbsent_2 at h
  refine lv_iload_n hx hb dX6_makeAbsent_2 rfl (lv_at hl 2 rfl) ?_
  refine lv_bipush (v := 7) hx hb dX6_makeAbsent_3 (by decide) ?_
  refine lv_icmp_ge (tgt := 35) hx hb dX6_makeAbsent_5 (by decide) (fun c1 => ?_) (fun c1 => ?_)
  · have h := nd_pos h c1
    exact K _ _ _ _ _ dX6_makeAbsent_35 (Option.some.inj h).symm hP hD hS
  · have h := nd_neg h c1
    refine lv_aload_n hx hb dX6_makeAbsent_8 rfl (lv_at hl 0 rfl) ?_
    refine va_get (D := (dC, dI)) (ci := 7) (v := .ref (a 7)) (C := RX6) (T := TX6) (N := 20) hx hb hts hi_dm_X6_makeAbsent_X6 hown hK hP 0 rfl rfl 7 (by decide) (hts (.fieldLink RX6 29 "TimeMachine$Machine" "self" "[I") (List.mem_of_getElem? (i := 1) rfl)) (fun _ h9 => h9) rfl dX6_makeAbsent_9 ?_
    refine lv_iload_n hx hb dX6_makeAbsent_12 rfl (lv_at hl 1 rfl) ?_
    refine lv_bipush (v := 7) hx hb dX6_makeAbsent_13 (by decide) ?_
    refine lv_imul hx hb dX6_makeAbsent_15 ?_
    refine lv_iload_n hx hb dX6_makeAbsent_16 rfl (lv_at hl 2 rfl) ?_
    refine lv_iadd hx hb dX6_makeAbsent_17 ?_
    refine lv_iload_n hx hb dX6_makeAbsent_18 rfl (lv_at hl 2 rfl) ?_
    refine lv_iconst (v := 1) hx hb dX6_makeAbsent_19 (by decide) ?_
    refine lv_icmp_ne (tgt := 27) hx hb dX6_makeAbsent_20 (by decide) (fun c2 => ?_) (fun c2 => ?_)
    · have h := nd_neg h c2
      refine lv_iconst (v := 0) hx hb dX6_makeAbsent_27 (by decide) ?_
      exact (db_X6_makeAbsent_28 C K J2) (x1) (x2) (((x1 * 7) + x2)) (0) s0 _ _ _ h hP hD hS (lv_sub hl [0, 1, 2] rfl)
    · have h := nd_pos h c2
      refine lv_iconst (v := (-1)) hx hb dX6_makeAbsent_23 (by decide) ?_
      refine lv_goto (tgt := 28) hx hb dX6_makeAbsent_24 (by decide) ?_
      exact (db_X6_makeAbsent_28 C K J2) (x1) (x2) (((x1 * 7) + x2)) ((-1)) s0 _ _ _ h hP hD hS (lv_sub hl [0, 1, 2] rfl)
set_option maxHeartbeats 40000000 in
set_option maxRecDepth 100000 in
theorem db_X6_makeAbsent_2 {p : Program} {l : Launch} {e : Env} {s : State} {m : MethodId} {args : Array Value} {below : List Frame} {meth : Method} {c : Code} {Q : State → Prop} {A : Nat → Prop} {dC : Nat → ClassId} {dI : Nat → Nat → Nat} {a : Nat → Nat} {ac : Nat → ClassId} {n : Nat} {r : St × (St)} (C : nd_C p l s m args c A (dC, dI) cX6_makeAbsent 3 RX6 ow_dm_X6_makeAbsent (dk_X6 ac)) (K : nd_Kv p l e (headSpec ow_dm_X6_makeAbsent ({ frames := 0, cells := 0, slots := 0, locals := 0 })).room s m args below meth c Q A (dC, dI) cX6_makeAbsent (St × (St)) (dw_X6 a ac) r) (k : Nat) : dj_X6_makeAbsent_2 p l e s m args below meth c Q A dC dI a ac (df_X6_makeAbsent_2 n k) r := by
  induction k with
  | zero => intro x1 x2 s0 H locs ls h; exact nomatch (show (none : Option (St × (St))) = some r from h)
  | succ k ih => exact dB_X6_makeAbsent_2 C K ih
set_option maxHeartbeats 40000000 in
set_option maxRecDepth 100000 in
theorem db_X6_makeAbsent_0 {p : Program} {l : Launch} {e : Env} {s : State} {m : MethodId} {args : Array Value} {below : List Frame} {meth : Method} {c : Code} {Q : State → Prop} {A : Nat → Prop} {dC : Nat → ClassId} {dI : Nat → Nat → Nat} {a : Nat → Nat} {ac : Nat → ClassId} {n : Nat} {r : St × (St)} (C : nd_C p l s m args c A (dC, dI) cX6_makeAbsent 3 RX6 ow_dm_X6_makeAbsent (dk_X6 ac)) (K : nd_Kv p l e (headSpec ow_dm_X6_makeAbsent ({ frames := 0, cells := 0, slots := 0, locals := 0 })).room s m args below meth c Q A (dC, dI) cX6_makeAbsent (St × (St)) (dw_X6 a ac) r) : dj_X6_makeAbsent_0 p l e s m args below meth c Q A dC dI a ac (df_X6_makeAbsent_0 n) r := by
  obtain ⟨hlt, hx, hb, hml, hown, hts, hN, hA, hK⟩ := id C
  intro v0 s0 H locs ls h hP hD hS hl
  unfold df_X6_makeAbsent_0 at h
  refine lv_iconst (v := 0) hx hb dX6_makeAbsent_0 (by decide) ?_
  refine lv_istore_n (lv' := [(2, .int 0), (0, .ref (a 0)), (1, .int v0)]) hx hb dX6_makeAbsent_1 rfl hl (by decide) rfl (fun ls hl => ?_)
  exact (db_X6_makeAbsent_2 C K n) (v0) (0) s0 _ _ _ h hP hD hS (lv_sub hl [1, 2, 0] rfl)
set_option maxHeartbeats 40000000 in
set_option maxRecDepth 100000 in
theorem dm_X6_makeAbsent (l : Launch) (hlt : l.stackTraces = false) (dC : Nat → ClassId) (dI : Nat → Nat → Nat) (a : Nat → Nat) (ac : Nat → ClassId) (n : Nat) (v0 : Int32) (s0 : St × (St)) {r : St × (St)} (h : df_X6_makeAbsent n v0 s0 = some r) (sz : Nat) : Met l yX6_makeAbsent ow_dm_X6_makeAbsent ({ frames := 0, cells := 0, slots := 0, locals := 0 }) (va_Pc [.ref (a 0), .int v0] (fun U => U.heap.size = sz ∧ va_P (dC, dI) vwCl (dw_X6 a ac s0) U.heap ∧ va_K (dC, dI) vwCl (dk_X6 ac) U ∧ va_D (fun _ => True) (dw_X6 a ac s0) ∧ nv_E (va_A (dw_X6 a ac s0) sz) U)) (va_Qv (fun _ => True) (fun (_ : Unit) t => va_P (dC, dI) vwCl (dw_X6 a ac r) t.heap ∧ va_K (dC, dI) vwCl (dk_X6 ac) t ∧ va_D (va_A (dw_X6 a ac s0) sz) (dw_X6 a ac r)) (va_A (dw_X6 a ac s0) sz)) 0 0 (va_A (dw_X6 a ac s0) sz) := by
  refine Met.ofW (cc := cX6_makeAbsent) (maxL := 3) (ret := none) (by decide) rfl ?_
  intro p e s m args below meth c s₁ B hml hv
  obtain ⟨rfl, hsz, hP, hK, hD0, hN⟩ := hv
  have hx := B.exec
  have hb := B.bytes
  have hr := B.returns
  have hts := atoms_spec (ws := ow_dm_X6_makeAbsent) B.pre
  have hown : s.vm.findClass RX6 = some m.cls := findClass_of_methodNamed B.named
  have hlocks := B.notSynchronized
  subst hsz
  have hD := hD0.self (sz := s.heap.size)
  generalize hAe : va_A (dw_X6 a ac s0) s.heap.size = A at hD hN ⊢
  have hA : ∀ q : Nat, s.heap.size ≤ q → A q := fun q h => by rw [← hAe]; exact Or.inr h
  have hl := lv_entry ([.ref (a 0), .int v0]) (n := 3) (Nat.le_of_ble_eq_true rfl)
  rw [lg_entry_eq]
  generalize (lg_sl ([.ref (a 0), .int v0]) ++ List.replicate (3 - (lg_sl ([.ref (a 0), .int v0])).length) Slot.unset).toArray = ls at hl ⊢
  have hl : lv_has ls 3 [(0, .ref (a 0)), (1, .int v0)] := hl
  exact db_X6_makeAbsent_0 (dC := dC) (dI := dI) (a := a) (ac := ac) (n := n) (r := r) ⟨hlt, hx, hb, hml, hown, hts, hN, hA, hK⟩ (fun pc τ H locs ls d er hP hD hS => by subst er; exact W.vret hx hb hr (fun t ht hW => ⟨⟨(), rfl, trivial, by rw [ht]; exact hP, va_K.moved hW.alike hK, hD⟩, hS.F ht⟩) hS.2.2 d) v0 s0 _ _ _ h hP hD va_S.rf (lv_sub hl [0, 1] rfl)
def ow_dm_X6_start : List Cond := .code yX6_start cX6_start 3 none :: ([.fieldLink RX6 14 "TimeMachine$Machine" "users" "[I", .methodLink RX6 46 yJ7_fill_53178, .static yJ7_fill_53178, .initialized RJ7, .fieldLink RX6 17 "TimeMachine$Machine" "page" "[I", .fieldLink RX6 52 "TimeMachine$Machine" "framesUsed" "I", .fieldLink RX6 60 "TimeMachine$Machine" "randoms" "I", .fieldLink RX6 63 "TimeMachine$Machine" "waiting" "I", .fieldLink RX6 66 "TimeMachine$Machine" "current" "I", .fieldLink RX6 69 "TimeMachine$Machine" "last" "I", .fieldLink RX6 72 "TimeMachine$Machine" "ticked" "I", .fieldLink RX6 75 "TimeMachine$Machine" "clock" "J", .fieldLink RX6 79 "TimeMachine$Machine" "retired" "J", .fieldLink RX6 82 "TimeMachine$Machine" "written" "I", .fieldLink RX6 42 "TimeMachine$Machine" "things" "LTimeMachine$Things;", .methodLink RX6 85 yX10_start, .instanceMethod yX10_start, .selects RX10 yX10_start yX10_start, .initialized RX10, .methodLink RX6 88 yX6_load, .instanceMethod yX6_load, .selects RX6 yX6_load yX6_load, .initialized RX6, .fieldLink RX6 29 "TimeMachine$Machine" "self" "[I", .methodLink RX6 92 yX6_chooseCurrent, .instanceMethod yX6_chooseCurrent, .selects RX6 yX6_chooseCurrent yX6_chooseCurrent, .methodLink RX6 56 yX6_makeAbsent, .instanceMethod yX6_makeAbsent, .selects RX6 yX6_makeAbsent yX6_makeAbsent] ++ (u_ws RX6 TX6 20 ++ (ow_dm_J7_fill_53178 ++ (ow_dm_X10_start ++ (ow_dm_X6_load ++ (ow_dm_X6_chooseCurrent ++ (ow_dm_X6_makeAbsent ++ [])))))))
theorem gd_dm_X6_start : ∀ w ∈ ow_dm_X6_start, (w.onTables && w.keeps) = true ∨ ∃ ty, w = Cond.arrayClass ty := List.forall_mem_cons.mpr ⟨good_of_word rfl, List.forall_mem_append.mpr ⟨fun w h => good_of_word (List.all_eq_true.mp (by decide +kernel) w h), List.forall_mem_append.mpr ⟨gu_X6, List.forall_mem_append.mpr ⟨gd_dm_J7_fill_53178, List.forall_mem_append.mpr ⟨gd_dm_X10_start, List.forall_mem_append.mpr ⟨gd_dm_X6_load, List.forall_mem_append.mpr ⟨gd_dm_X6_chooseCurrent, List.forall_mem_append.mpr ⟨gd_dm_X6_makeAbsent, fun _ h => nomatch h⟩⟩⟩⟩⟩⟩⟩⟩
theorem hi_dm_X6_start_X6 : ∀ w ∈ u_ws RX6 TX6 20, w ∈ ow_dm_X6_start := fun w h => List.mem_cons_of_mem _ (List.mem_append_right _ (List.mem_append_left _ h))
theorem gi_dm_X6_start_0 : GoodIn ow_dm_X6_start (va_wsS RX6 46 yJ7_fill_53178 ow_dm_J7_fill_53178) := goodIn_app (goodIn_of _ (by decide +kernel)) (fun w h => ⟨List.mem_cons_of_mem _ (List.mem_append_right _ (List.mem_append_right _ (List.mem_append_left _ h))), gd_dm_J7_fill_53178 w h⟩)
theorem gi_dm_X6_start_1 : GoodIn ow_dm_X6_start (wsV RX6 85 RX10 yX10_start ow_dm_X10_start) := goodIn_app (goodIn_of _ (by decide +kernel)) (fun w h => ⟨List.mem_cons_of_mem _ (List.mem_append_right _ (List.mem_append_right _ (List.mem_append_right _ (List.mem_append_left _ h)))), gd_dm_X10_start w h⟩)
theorem gi_dm_X6_start_2 : GoodIn ow_dm_X6_start (wsV RX6 88 RX6 yX6_load ow_dm_X6_load) := goodIn_app (goodIn_of _ (by decide +kernel)) (fun w h => ⟨List.mem_cons_of_mem _ (List.mem_append_right _ (List.mem_append_right _ (List.mem_append_right _ (List.mem_append_right _ (List.mem_append_left _ h))))), gd_dm_X6_load w h⟩)
theorem gi_dm_X6_start_3 : GoodIn ow_dm_X6_start (wsV RX6 92 RX6 yX6_chooseCurrent ow_dm_X6_chooseCurrent) := goodIn_app (goodIn_of _ (by decide +kernel)) (fun w h => ⟨List.mem_cons_of_mem _ (List.mem_append_right _ (List.mem_append_right _ (List.mem_append_right _ (List.mem_append_right _ (List.mem_append_right _ (List.mem_append_left _ h)))))), gd_dm_X6_chooseCurrent w h⟩)
theorem gi_dm_X6_start_4 : GoodIn ow_dm_X6_start (wsV RX6 56 RX6 yX6_makeAbsent ow_dm_X6_makeAbsent) := goodIn_app (goodIn_of _ (by decide +kernel)) (fun w h => ⟨List.mem_cons_of_mem _ (List.mem_append_right _ (List.mem_append_right _ (List.mem_append_right _ (List.mem_append_right _ (List.mem_append_right _ (List.mem_append_right _ (List.mem_append_left _ h))))))), gd_dm_X6_makeAbsent w h⟩)
def dj_X6_start_23 (p : Program) (l : Launch) (e : Env) (s : State) (m : MethodId) (args : Array Value) (below : List Frame) (meth : Method) (c : Code) (Q : State → Prop) (A : Nat → Prop) (dC : Nat → ClassId) (dI : Nat → Nat → Nat) (a : Nat → Nat) (ac : Nat → ClassId) (g : Int32 → (St × (St × (St)) × (St)) → Option (St × (St × (St)) × (St))) (r : St × (St × (St)) × (St)) : Prop := ∀ (x2 : Int32) (s0 : St × (St × (St)) × (St)) (H : Heap) (locs : List Loc) (ls : Array Slot), g x2 s0 = some r → va_P (dC, dI) vwCl (dw_X6p a ac s0) H → va_D A (dw_X6p a ac s0) → va_S A s.heap H locs → lv_has ls 3 [(0, .ref (a 0)), (1, .ref (a 20)), (2, .int x2)] → W p l e (headSpec ow_dm_X6_start ({ frames := 3, cells := 0, slots := 0, locals := 69 })).room s m args below meth c H locs 0 0 Q (F0 m 23 ls [])
def dj_X6_start_0 (p : Program) (l : Launch) (e : Env) (s : State) (m : MethodId) (args : Array Value) (below : List Frame) (meth : Method) (c : Code) (Q : State → Prop) (A : Nat → Prop) (dC : Nat → ClassId) (dI : Nat → Nat → Nat) (a : Nat → Nat) (ac : Nat → ClassId) (g : (St × (St × (St)) × (St)) → Option (St × (St × (St)) × (St))) (r : St × (St × (St)) × (St)) : Prop := ∀ (s0 : St × (St × (St)) × (St)) (H : Heap) (locs : List Loc) (ls : Array Slot), g s0 = some r → va_P (dC, dI) vwCl (dw_X6p a ac s0) H → va_D A (dw_X6p a ac s0) → va_S A s.heap H locs → lv_has ls 3 [(0, .ref (a 0)), (1, .ref (a 20))] → W p l e (headSpec ow_dm_X6_start ({ frames := 3, cells := 0, slots := 0, locals := 69 })).room s m args below meth c H locs 0 0 Q (F0 m 0 ls [])
set_option maxHeartbeats 40000000 in
set_option maxRecDepth 100000 in
theorem dB_X6_start_23 {p : Program} {l : Launch} {e : Env} {s : State} {m : MethodId} {args : Array Value} {below : List Frame} {meth : Method} {c : Code} {Q : State → Prop} {A : Nat → Prop} {dC : Nat → ClassId} {dI : Nat → Nat → Nat} {a : Nat → Nat} {ac : Nat → ClassId} {n : Nat} {r : St × (St × (St)) × (St)} (C : nd_C p l s m args c A (dC, dI) cX6_start 3 RX6 ow_dm_X6_start (dk_X6p ac)) (K : nd_Kv p l e (headSpec ow_dm_X6_start ({ frames := 3, cells := 0, slots := 0, locals := 69 })).room s m args below meth c Q A (dC, dI) cX6_start (St × (St × (St)) × (St)) (dw_X6p a ac) r) {g23 : Int32 → (St × (St × (St)) × (St)) → Option (St × (St × (St)) × (St))} (J23 : dj_X6_start_23 p l e s m args below meth c Q A dC dI a ac g23 r) : dj_X6_start_23 p l e s m args below meth c Q A dC dI a ac (dF_X6_start_23 n g23) r := by
  obtain ⟨hlt, hx, hb, hml, hown, hts, hN, hA, hK⟩ := id C
  intro x2 s0 H locs ls h hP hD hS hl
  unfold dF_X6_start_23 at h
  refine lv_iload_n hx hb dX6_start_23 rfl (lv_at hl 2 rfl) ?_
  refine lv_bipush (v := 16) hx hb dX6_start_24 (by decide) ?_
  refine lv_icmp_ge (tgt := 40) hx hb dX6_start_26 (by decide) (fun c4 => ?_) (fun c4 => ?_)
  · have h := nd_pos h c4
    refine lv_aload_n hx hb dX6_start_40 rfl (lv_at hl 0 rfl) ?_
    refine lv_iconst (v := 0) hx hb dX6_start_41 (by decide) ?_
    refine va_put (D := (dC, dI)) (ci := 7) (v := .int 0) (ty := .int) (C := RX6) (T := TX6) (N := 20) hx hb hts hi_dm_X6_start_X6 tyX6 tyX6_ok nmX6 hown hK hP hD hS 0 rfl rfl 10 (by decide) (hts (.fieldLink RX6 60 "TimeMachine$Machine" "randoms" "I") (List.mem_of_getElem? (i := 7) rfl)) (fun _ h9 => h9) rfl (by decide +kernel) rfl rfl (Nat.le_of_ble_eq_true rfl) dX6_start_42 (fun H locs hP hD hS => ?_)
    obtain ⟨s5, es5, h⟩ := nd_let_e h
    have hP : va_P (dC, dI) vwCl (dw_X6p a ac s5) H := by rw [es5]; exact hP
    have hD : va_D A (dw_X6p a ac s5) := by rw [es5]; exact hD
    refine lv_aload_n hx hb dX6_start_45 rfl (lv_at hl 0 rfl) ?_
    refine lv_iconst (v := 0) hx hb dX6_start_46 (by decide) ?_
    refine va_put (D := (dC, dI)) (ci := 7) (v := .int 0) (ty := .int) (C := RX6) (T := TX6) (N := 20) hx hb hts hi_dm_X6_start_X6 tyX6 tyX6_ok nmX6 hown hK hP hD hS 0 rfl rfl 12 (by decide) (hts (.fieldLink RX6 63 "TimeMachine$Machine" "waiting" "I") (List.mem_of_getElem? (i := 8) rfl)) (fun _ h9 => h9) rfl (by decide +kernel) rfl rfl (Nat.le_of_ble_eq_true rfl) dX6_start_47 (fun H locs hP hD hS => ?_)
    obtain ⟨s6, es6, h⟩ := nd_let_e h
    have hP : va_P (dC, dI) vwCl (dw_X6p a ac s6) H := by rw [es6]; exact hP
    have hD : va_D A (dw_X6p a ac s6) := by rw [es6]; exact hD
    refine lv_aload_n hx hb dX6_start_50 rfl (lv_at hl 0 rfl) ?_
    refine lv_iconst (v := (-1)) hx hb dX6_start_51 (by decide) ?_
    refine va_put (D := (dC, dI)) (ci := 7) (v := .int (-1)) (ty := .int) (C := RX6) (T := TX6) (N := 20) hx hb hts hi_dm_X6_start_X6 tyX6 tyX6_ok nmX6 hown hK hP hD hS 0 rfl rfl 13 (by decide) (hts (.fieldLink RX6 66 "TimeMachine$Machine" "current" "I") (List.mem_of_getElem? (i := 9) rfl)) (fun _ h9 => h9) rfl (by decide +kernel) rfl rfl (Nat.le_of_ble_eq_true rfl) dX6_start_52 (fun H locs hP hD hS => ?_)
    obtain ⟨s7, es7, h⟩ := nd_let_e h
    have hP : va_P (dC, dI) vwCl (dw_X6p a ac s7) H := by rw [es7]; exact hP
    have hD : va_D A (dw_X6p a ac s7) := by rw [es7]; exact hD
    refine lv_aload_n hx hb dX6_start_55 rfl (lv_at hl 0 rfl) ?_
    refine lv_bipush (v := 15) hx hb dX6_start_56 (by decide) ?_
    refine va_put (D := (dC, dI)) (ci := 7) (v := .int 15) (ty := .int) (C := RX6) (T := TX6) (N := 20) hx hb hts hi_dm_X6_start_X6 tyX6 tyX6_ok nmX6 hown hK hP hD hS 0 rfl rfl 14 (by decide) (hts (.fieldLink RX6 69 "TimeMachine$Machine" "last" "I") (List.mem_of_getElem? (i := 10) rfl)) (fun _ h9 => h9) rfl (by decide +kernel) rfl rfl (Nat.le_of_ble_eq_true rfl) dX6_start_58 (fun H locs hP hD hS => ?_)
    obtain ⟨s8, es8, h⟩ := nd_let_e h
    have hP : va_P (dC, dI) vwCl (dw_X6p a ac s8) H := by rw [es8]; exact hP
    have hD : va_D A (dw_X6p a ac s8) := by rw [es8]; exact hD
    refine lv_aload_n hx hb dX6_start_61 rfl (lv_at hl 0 rfl) ?_
    refine lv_iconst (v := (-1)) hx hb dX6_start_62 (by decide) ?_
    refine va_put (D := (dC, dI)) (ci := 7) (v := .int (-1)) (ty := .int) (C := RX6) (T := TX6) (N := 20) hx hb hts hi_dm_X6_start_X6 tyX6 tyX6_ok nmX6 hown hK hP hD hS 0 rfl rfl 15 (by decide) (hts (.fieldLink RX6 72 "TimeMachine$Machine" "ticked" "I") (List.mem_of_getElem? (i := 11) rfl)) (fun _ h9 => h9) rfl (by decide +kernel) rfl rfl (Nat.le_of_ble_eq_true rfl) dX6_start_63 (fun H locs hP hD hS => ?_)
    obtain ⟨s9, es9, h⟩ := nd_let_e h
    have hP : va_P (dC, dI) vwCl (dw_X6p a ac s9) H := by rw [es9]; exact hP
    have hD : va_D A (dw_X6p a ac s9) := by rw [es9]; exact hD
    refine lv_aload_n hx hb dX6_start_66 rfl (lv_at hl 0 rfl) ?_
    refine lv_lconst (v := 0) hx hb dX6_start_67 (by decide) ?_
    refine va_put (D := (dC, dI)) (ci := 7) (v := .long 0) (ty := .long) (C := RX6) (T := TX6) (N := 20) hx hb hts hi_dm_X6_start_X6 tyX6 tyX6_ok nmX6 hown hK hP hD hS 0 rfl rfl 17 (by decide) (hts (.fieldLink RX6 75 "TimeMachine$Machine" "clock" "J") (List.mem_of_getElem? (i := 12) rfl)) (fun _ h9 => h9) rfl (by decide +kernel) rfl rfl (Nat.le_of_ble_eq_true rfl) dX6_start_68 (fun H locs hP hD hS => ?_)
    obtain ⟨s10, es10, h⟩ := nd_let_e h
    have hP : va_P (dC, dI) vwCl (dw_X6p a ac s10) H := by rw [es10]; exact hP
    have hD : va_D A (dw_X6p a ac s10) := by rw [es10]; exact hD
    refine lv_aload_n hx hb dX6_start_71 rfl (lv_at hl 0 rfl) ?_
    refine lv_lconst (v := 0) hx hb dX6_start_72 (by decide) ?_
    refine va_put (D := (dC, dI)) (ci := 7) (v := .long 0) (ty := .long) (C := RX6) (T := TX6) (N := 20) hx hb hts hi_dm_X6_start_X6 tyX6 tyX6_ok nmX6 hown hK hP hD hS 0 rfl rfl 18 (by decide) (hts (.fieldLink RX6 79 "TimeMachine$Machine" "retired" "J") (List.mem_of_getElem? (i := 13) rfl)) (fun _ h9 => h9) rfl (by decide +kernel) rfl rfl (Nat.le_of_ble_eq_true rfl) dX6_start_73 (fun H locs hP hD hS => ?_)
    obtain ⟨s11, es11, h⟩ := nd_let_e h
    have hP : va_P (dC, dI) vwCl (dw_X6p a ac s11) H := by rw [es11]; exact hP
    have hD : va_D A (dw_X6p a ac s11) := by rw [es11]; exact hD
    refine lv_aload_n hx hb dX6_start_76 rfl (lv_at hl 0 rfl) ?_
    refine lv_iconst (v := 0) hx hb dX6_start_77 (by decide) ?_
    refine va_put (D := (dC, dI)) (ci := 7) (v := .int 0) (ty := .int) (C := RX6) (T := TX6) (N := 20) hx hb hts hi_dm_X6_start_X6 tyX6 tyX6_ok nmX6 hown hK hP hD hS 0 rfl rfl 19 (by decide) (hts (.fieldLink RX6 82 "TimeMachine$Machine" "written" "I") (List.mem_of_getElem? (i := 14) rfl)) (fun _ h9 => h9) rfl (by decide +kernel) rfl rfl (Nat.le_of_ble_eq_true rfl) dX6_start_78 (fun H locs hP hD hS => ?_)
    obtain ⟨s12, es12, h⟩ := nd_let_e h
    have hP : va_P (dC, dI) vwCl (dw_X6p a ac s12) H := by rw [es12]; exact hP
    have hD : va_D A (dw_X6p a ac s12) := by rw [es12]; exact hD
    refine lv_aload_n hx hb dX6_start_81 rfl (lv_at hl 0 rfl) ?_
    refine va_get (D := (dC, dI)) (ci := 7) (v := .ref (a 10)) (C := RX6) (T := TX6) (N := 20) hx hb hts hi_dm_X6_start_X6 hown hK hP 0 rfl rfl 11 (by decide) (hts (.fieldLink RX6 42 "TimeMachine$Machine" "things" "LTimeMachine$Things;") (List.mem_of_getElem? (i := 15) rfl)) (fun _ h9 => h9) rfl dX6_start_82 ?_
    obtain ⟨s14, hq, h⟩ := nd_b1_e h
    have hPc := dp_X6p_10 hP
    have hDc := dd_X6p_10 hD
    have hKc := dy_X6p_10 hK
    have hFc := nd_rs hDc hS hA
    have hzA : ∀ q : Nat, H.size ≤ q → A q := fun q h => hA q (Nat.le_trans hS.1 h)
    refine nd_cVv (As := []) (rest := []) (w' := dw_X10 (fun k => a (k + 10)) (fun k => ac (k + 10)) s14) ⟨hx, hb, hml, hown, hts⟩ (fun sz => dm_X10_start l hlt dC dI (fun k => a (k + 10)) (fun k => ac (k + 10)) n  s12.2.1.2 hq sz) (cwV 0 hts gi_dm_X6_start_1 rfl rfl rfl (by decide +kernel) ⟨Nat.le_of_ble_eq_true rfl, Nat.le_of_ble_eq_true rfl⟩) hPc hDc hKc hS hA hN (va_recv hKc hPc (ci := 11) (q0 := 0) rfl rfl) rfl hl.1 rfl (Nat.le_of_ble_eq_true rfl) dX6_start_85 (fun H locs hP1 hD1 hk1 hS => ?_)
    obtain ⟨hP, hD⟩ := dn_X6p_10 hP hD hzA hk1 hP1 hD1
    obtain ⟨s16, es16, h⟩ := nd_let_e h
    have hP : va_P (dC, dI) vwCl (dw_X6p a ac s16) H := by rw [es16]; exact hP
    have hD : va_D A (dw_X6p a ac s16) := by rw [es16]; exact hD
    refine lv_aload_n hx hb dX6_start_88 rfl (lv_at hl 0 rfl) ?_
    refine lv_iconst (v := 0) hx hb dX6_start_89 (by decide) ?_
    refine lv_aload_n hx hb dX6_start_90 rfl (lv_at hl 1 rfl) ?_
    obtain ⟨s18, hq, h⟩ := nd_b1_e h
    have hPc := hP
    have hDc := hD
    have hKc := hK
    have hFc := nd_rs hD hS hA
    refine nd_cVv (As := [.int 0, .ref (a 20)]) (rest := []) (w' := dw_X6p a ac s18) ⟨hx, hb, hml, hown, hts⟩ (fun sz => dm_X6_load l hlt dC dI a ac n (0) s16 hq sz) (cwV 2 hts gi_dm_X6_start_2 rfl rfl rfl (by decide +kernel) ⟨Nat.le_of_ble_eq_true rfl, Nat.le_of_ble_eq_true rfl⟩) hPc hDc hKc hS hA hN (va_recv hKc hPc (ci := 7) (q0 := 0) rfl rfl) rfl hl.1 rfl (Nat.le_of_ble_eq_true rfl) dX6_start_91 (fun H locs hP1 hD1 hk1 hS => ?_)
    have hP := hP1
    have hD := hD1.weaken (fun k q _ h => hFc q.1 h)
    refine lv_aload_n hx hb dX6_start_94 rfl (lv_at hl 0 rfl) ?_
    refine va_get (D := (dC, dI)) (ci := 7) (v := .ref (a 7)) (C := RX6) (T := TX6) (N := 20) hx hb hts hi_dm_X6_start_X6 hown hK hP 0 rfl rfl 7 (by decide) (hts (.fieldLink RX6 29 "TimeMachine$Machine" "self" "[I") (List.mem_of_getElem? (i := 24) rfl)) (fun _ h9 => h9) rfl dX6_start_95 ?_
    refine lv_iconst (v := 0) hx hb dX6_start_98 (by decide) ?_
    refine lv_iconst (v := 1) hx hb dX6_start_99 (by decide) ?_
    refine va_iast (i := 0) (x := 1) hx hb hK hP hD hS 7 6 rfl rfl (vp_in_iff.mpr ⟨by decide, by decide⟩) dX6_start_100 (fun H locs hP hD hS => ?_)
    obtain ⟨s20, es20, h⟩ := nd_let_e h
    have hP : va_P (dC, dI) vwCl (dw_X6p a ac s20) H := by rw [es20]; exact hP
    have hD : va_D A (dw_X6p a ac s20) := by rw [es20]; exact hD
    refine lv_aload_n hx hb dX6_start_101 rfl (lv_at hl 0 rfl) ?_
    obtain ⟨s22, hq, h⟩ := nd_b1_e h
    have hPc := dp_X6p_0 hP
    have hDc := dd_X6p_0 hD
    have hKc := dy_X6p_0 hK
    have hFc := nd_rs hDc hS hA
    have hzA : ∀ q : Nat, H.size ≤ q → A q := fun q h => hA q (Nat.le_trans hS.1 h)
    refine nd_cVv (As := []) (rest := []) (w' := dw_X6 (fun k => a (k + 0)) (fun k => ac (k + 0)) s22) ⟨hx, hb, hml, hown, hts⟩ (fun sz => dm_X6_chooseCurrent l hlt dC dI (fun k => a (k + 0)) (fun k => ac (k + 0)) n  s20.2.1 hq sz) (cwV 0 hts gi_dm_X6_start_3 rfl rfl rfl (by decide +kernel) ⟨Nat.le_of_ble_eq_true rfl, Nat.le_of_ble_eq_true rfl⟩) hPc hDc hKc hS hA hN (va_recv hKc hPc (ci := 7) (q0 := 0) rfl rfl) rfl hl.1 rfl (Nat.le_of_ble_eq_true rfl) dX6_start_102 (fun H locs hP1 hD1 hk1 hS => ?_)
    obtain ⟨hP, hD⟩ := dn_X6p_0 hP hD hzA hk1 hP1 hD1
    obtain ⟨s24, es24, h⟩ := nd_let_e h
    have hP : va_P (dC, dI) vwCl (dw_X6p a ac s24) H := by rw [es24]; exact hP
    have hD : va_D A (dw_X6p a ac s24) := by rw [es24]; exact hD
    exact K _ _ _ _ _ dX6_start_105 (Option.some.inj h).symm hP hD hS
  · have h := nd_neg h c4
    refine lv_aload_n hx hb dX6_start_29 rfl (lv_at hl 0 rfl) ?_
    refine lv_iload_n hx hb dX6_start_30 rfl (lv_at hl 2 rfl) ?_
    obtain ⟨s26, hq, h⟩ := nd_b1_e h
    have hPc := dp_X6p_0 hP
    have hDc := dd_X6p_0 hD
    have hKc := dy_X6p_0 hK
    have hFc := nd_rs hDc hS hA
    have hzA : ∀ q : Nat, H.size ≤ q → A q := fun q h => hA q (Nat.le_trans hS.1 h)
    refine nd_cVv (As := [.int x2]) (rest := []) (w' := dw_X6 (fun k => a (k + 0)) (fun k => ac (k + 0)) s26) ⟨hx, hb, hml, hown, hts⟩ (fun sz => dm_X6_makeAbsent l hlt dC dI (fun k => a (k + 0)) (fun k => ac (k + 0)) n (x2) s0.2.1 hq sz) (cwV 1 hts gi_dm_X6_start_4 rfl rfl rfl (by decide +kernel) ⟨Nat.le_of_ble_eq_true rfl, Nat.le_of_ble_eq_true rfl⟩) hPc hDc hKc hS hA hN (va_recv hKc hPc (ci := 7) (q0 := 0) rfl rfl) rfl hl.1 rfl (Nat.le_of_ble_eq_true rfl) dX6_start_31 (fun H locs hP1 hD1 hk1 hS => ?_)
    obtain ⟨hP, hD⟩ := dn_X6p_0 hP hD hzA hk1 hP1 hD1
    obtain ⟨s28, es28, h⟩ := nd_let_e h
    have hP : va_P (dC, dI) vwCl (dw_X6p a ac s28) H := by rw [es28]; exact hP
    have hD : va_D A (dw_X6p a ac s28) := by rw [es28]; exact hD
    obtain ⟨z29, ez29, h⟩ := nd_let_e h
    refine lv_iinc (v := z29) (lv' := [(2, .int z29), (0, .ref (a 0)), (1, .ref (a 20))]) hx hb dX6_start_34 hl (k := 2) rfl (by rw [ez29]) (by decide) rfl (fun ls hl => ?_)
    refine lv_goto (tgt := 23) hx hb dX6_start_37 (by decide) ?_
    exact (J23) (z29) s28 _ _ _ h hP hD hS (lv_sub hl [1, 2, 0] rfl)
set_option maxHeartbeats 40000000 in
set_option maxRecDepth 100000 in
theorem db_X6_start_23 {p : Program} {l : Launch} {e : Env} {s : State} {m : MethodId} {args : Array Value} {below : List Frame} {meth : Method} {c : Code} {Q : State → Prop} {A : Nat → Prop} {dC : Nat → ClassId} {dI : Nat → Nat → Nat} {a : Nat → Nat} {ac : Nat → ClassId} {n : Nat} {r : St × (St × (St)) × (St)} (C : nd_C p l s m args c A (dC, dI) cX6_start 3 RX6 ow_dm_X6_start (dk_X6p ac)) (K : nd_Kv p l e (headSpec ow_dm_X6_start ({ frames := 3, cells := 0, slots := 0, locals := 69 })).room s m args below meth c Q A (dC, dI) cX6_start (St × (St × (St)) × (St)) (dw_X6p a ac) r) (k : Nat) : dj_X6_start_23 p l e s m args below meth c Q A dC dI a ac (df_X6_start_23 n k) r := by
  induction k with
  | zero => intro x2 s0 H locs ls h; exact nomatch (show (none : Option (St × (St × (St)) × (St))) = some r from h)
  | succ k ih => exact dB_X6_start_23 C K ih
set_option maxHeartbeats 40000000 in
set_option maxRecDepth 100000 in
theorem db_X6_start_0 {p : Program} {l : Launch} {e : Env} {s : State} {m : MethodId} {args : Array Value} {below : List Frame} {meth : Method} {c : Code} {Q : State → Prop} {A : Nat → Prop} {dC : Nat → ClassId} {dI : Nat → Nat → Nat} {a : Nat → Nat} {ac : Nat → ClassId} {n : Nat} {r : St × (St × (St)) × (St)} (C : nd_C p l s m args c A (dC, dI) cX6_start 3 RX6 ow_dm_X6_start (dk_X6p ac)) (K : nd_Kv p l e (headSpec ow_dm_X6_start ({ frames := 3, cells := 0, slots := 0, locals := 69 })).room s m args below meth c Q A (dC, dI) cX6_start (St × (St × (St)) × (St)) (dw_X6p a ac) r) : dj_X6_start_0 p l e s m args below meth c Q A dC dI a ac (df_X6_start_0 n) r := by
  obtain ⟨hlt, hx, hb, hml, hown, hts, hN, hA, hK⟩ := id C
  intro s0 H locs ls h hP hD hS hl
  unfold df_X6_start_0 at h
  refine lv_aload_n hx hb dX6_start_0 rfl (lv_at hl 0 rfl) ?_
  refine va_get (D := (dC, dI)) (ci := 7) (v := .ref (a 2)) (C := RX6) (T := TX6) (N := 20) hx hb hts hi_dm_X6_start_X6 hown hK hP 0 rfl rfl 1 (by decide) (hts (.fieldLink RX6 14 "TimeMachine$Machine" "users" "[I") (List.mem_of_getElem? (i := 1) rfl)) (fun _ h9 => h9) rfl dX6_start_1 ?_
  refine lv_iconst (v := 0) hx hb dX6_start_4 (by decide) ?_
  have hcl : (dw_X6p a ac s0)[2]? = some ((a 2), .inl (ac 2, 256, .inl (sR s0.2.1.1 1))) := rfl
  have hPc := nd_c1 hP hcl
  have hDc := nd_cd hD hcl
  have hKc : va_K (dC, dI) vwCl [(ac 2, .int)] s := hK.sub [1] rfl
  have hFc := nd_rs hDc hS hA
  refine va_callv (va_runS (As := [.ref (a 2), .int 0]) (rest := []) ⟨hx, hb, hml, hown, hts⟩ (dm_J7_fill_53178 l hlt dC dI (a 2) (ac 2) 256 (by decide) (sR s0.2.1.1 1) 0 _) (va_cwS 2 hts gi_dm_X6_start_0 rfl rfl rfl (by decide +kernel) ⟨Nat.le_of_ble_eq_true rfl, Nat.le_of_ble_eq_true rfl⟩) ⟨fun a U g mk q => by obtain ⟨q0, q1, qP, qK, qD, qN⟩ := q; exact ⟨q0, q1, qP, va_K.moved (u := U) (U := U.calling g mk a) (Vm.Alike.refl U.vm) qK, qD, nv_same rfl rfl qN⟩, fun U hU hW => ⟨rfl, by rw [hU], by rw [hU]; exact hPc, va_K.moved hW.alike hKc, hDc.weaken (fun _ _ _ _ => trivial), nv_call hS hFc hU hW hN⟩⟩ rfl rfl hl.1 rfl (lv_room (Nat.le_of_ble_eq_true rfl)) dX6_start_5 ⟨by decide +kernel, by decide +kernel⟩) hS (fun q _ h => hFc q h) hFc (fun u t H locs ht hvm hw hB hz1 hk1 hS => ?_)
  obtain ⟨hP1, -, hD1⟩ := hB
  rw [ht] at hP1
  have hP := nd_cs hP hD hcl hk1 hP1
  have hD := hD.set (e := .inl (ac 2, 256, .inl (nd_fl 256 0 (sR s0.2.1.1 1)))) hcl
  refine W.widen (k := 0) (n := 0) (Nat.le_refl _) (Nat.le_refl _) ?_
  obtain ⟨s1, es1, h⟩ := nd_let_e h
  have hP : va_P (dC, dI) vwCl (dw_X6p a ac s1) H := by rw [es1]; exact hP
  have hD : va_D A (dw_X6p a ac s1) := by rw [es1]; exact hD
  refine lv_aload_n hx hb dX6_start_8 rfl (lv_at hl 0 rfl) ?_
  refine va_get (D := (dC, dI)) (ci := 7) (v := .ref (a 3)) (C := RX6) (T := TX6) (N := 20) hx hb hts hi_dm_X6_start_X6 hown hK hP 0 rfl rfl 2 (by decide) (hts (.fieldLink RX6 17 "TimeMachine$Machine" "page" "[I") (List.mem_of_getElem? (i := 5) rfl)) (fun _ h9 => h9) rfl dX6_start_9 ?_
  refine lv_iconst (v := 0) hx hb dX6_start_12 (by decide) ?_
  have hcl : (dw_X6p a ac s1)[3]? = some ((a 3), .inl (ac 3, 1024, .inl (sR s1.2.1.1 2))) := rfl
  have hPc := nd_c1 hP hcl
  have hDc := nd_cd hD hcl
  have hKc : va_K (dC, dI) vwCl [(ac 3, .int)] s := hK.sub [2] rfl
  have hFc := nd_rs hDc hS hA
  refine va_callv (va_runS (As := [.ref (a 3), .int 0]) (rest := []) ⟨hx, hb, hml, hown, hts⟩ (dm_J7_fill_53178 l hlt dC dI (a 3) (ac 3) 1024 (by decide) (sR s1.2.1.1 2) 0 _) (va_cwS 2 hts gi_dm_X6_start_0 rfl rfl rfl (by decide +kernel) ⟨Nat.le_of_ble_eq_true rfl, Nat.le_of_ble_eq_true rfl⟩) ⟨fun a U g mk q => by obtain ⟨q0, q1, qP, qK, qD, qN⟩ := q; exact ⟨q0, q1, qP, va_K.moved (u := U) (U := U.calling g mk a) (Vm.Alike.refl U.vm) qK, qD, nv_same rfl rfl qN⟩, fun U hU hW => ⟨rfl, by rw [hU], by rw [hU]; exact hPc, va_K.moved hW.alike hKc, hDc.weaken (fun _ _ _ _ => trivial), nv_call hS hFc hU hW hN⟩⟩ rfl rfl hl.1 rfl (lv_room (Nat.le_of_ble_eq_true rfl)) dX6_start_13 ⟨by decide +kernel, by decide +kernel⟩) hS (fun q _ h => hFc q h) hFc (fun u t H locs ht hvm hw hB hz1 hk1 hS => ?_)
  obtain ⟨hP1, -, hD1⟩ := hB
  rw [ht] at hP1
  have hP := nd_cs hP hD hcl hk1 hP1
  have hD := hD.set (e := .inl (ac 3, 1024, .inl (nd_fl 1024 0 (sR s1.2.1.1 2)))) hcl
  refine W.widen (k := 0) (n := 0) (Nat.le_refl _) (Nat.le_refl _) ?_
  obtain ⟨s2, es2, h⟩ := nd_let_e h
  have hP : va_P (dC, dI) vwCl (dw_X6p a ac s2) H := by rw [es2]; exact hP
  have hD : va_D A (dw_X6p a ac s2) := by rw [es2]; exact hD
  refine lv_aload_n hx hb dX6_start_16 rfl (lv_at hl 0 rfl) ?_
  refine lv_iconst (v := 0) hx hb dX6_start_17 (by decide) ?_
  refine va_put (D := (dC, dI)) (ci := 7) (v := .int 0) (ty := .int) (C := RX6) (T := TX6) (N := 20) hx hb hts hi_dm_X6_start_X6 tyX6 tyX6_ok nmX6 hown hK hP hD hS 0 rfl rfl 3 (by decide) (hts (.fieldLink RX6 52 "TimeMachine$Machine" "framesUsed" "I") (List.mem_of_getElem? (i := 6) rfl)) (fun _ h9 => h9) rfl (by decide +kernel) rfl rfl (Nat.le_of_ble_eq_true rfl) dX6_start_18 (fun H locs hP hD hS => ?_)
  obtain ⟨s3, es3, h⟩ := nd_let_e h
  have hP : va_P (dC, dI) vwCl (dw_X6p a ac s3) H := by rw [es3]; exact hP
  have hD : va_D A (dw_X6p a ac s3) := by rw [es3]; exact hD
  refine lv_iconst (v := 0) hx hb dX6_start_21 (by decide) ?_
  refine lv_istore_n (lv' := [(2, .int 0), (0, .ref (a 0)), (1, .ref (a 20))]) hx hb dX6_start_22 rfl hl (by decide) rfl (fun ls hl => ?_)
  exact (db_X6_start_23 C K n) (0) s3 _ _ _ h hP hD hS (lv_sub hl [1, 2, 0] rfl)
set_option maxHeartbeats 40000000 in
set_option maxRecDepth 100000 in
theorem dm_X6_start (l : Launch) (hlt : l.stackTraces = false) (dC : Nat → ClassId) (dI : Nat → Nat → Nat) (a : Nat → Nat) (ac : Nat → ClassId) (n : Nat) (s0 : St × (St × (St)) × (St)) {r : St × (St × (St)) × (St)} (h : df_X6_start n s0 = some r) (sz : Nat) : Met l yX6_start ow_dm_X6_start ({ frames := 3, cells := 0, slots := 0, locals := 69 }) (va_Pc [.ref (a 0), .ref (a 20)] (fun U => U.heap.size = sz ∧ va_P (dC, dI) vwCl (dw_X6p a ac s0) U.heap ∧ va_K (dC, dI) vwCl (dk_X6p ac) U ∧ va_D (fun _ => True) (dw_X6p a ac s0) ∧ nv_E (va_A (dw_X6p a ac s0) sz) U)) (va_Qv (fun _ => True) (fun (_ : Unit) t => va_P (dC, dI) vwCl (dw_X6p a ac r) t.heap ∧ va_K (dC, dI) vwCl (dk_X6p ac) t ∧ va_D (va_A (dw_X6p a ac s0) sz) (dw_X6p a ac r)) (va_A (dw_X6p a ac s0) sz)) 0 0 (va_A (dw_X6p a ac s0) sz) := by
  refine Met.ofW (cc := cX6_start) (maxL := 3) (ret := none) (by decide) rfl ?_
  intro p e s m args below meth c s₁ B hml hv
  obtain ⟨rfl, hsz, hP, hK, hD0, hN⟩ := hv
  have hx := B.exec
  have hb := B.bytes
  have hr := B.returns
  have hts := atoms_spec (ws := ow_dm_X6_start) B.pre
  have hown : s.vm.findClass RX6 = some m.cls := findClass_of_methodNamed B.named
  have hlocks := B.notSynchronized
  subst hsz
  have hD := hD0.self (sz := s.heap.size)
  generalize hAe : va_A (dw_X6p a ac s0) s.heap.size = A at hD hN ⊢
  have hA : ∀ q : Nat, s.heap.size ≤ q → A q := fun q h => by rw [← hAe]; exact Or.inr h
  have hl := lv_entry ([.ref (a 0), .ref (a 20)]) (n := 3) (Nat.le_of_ble_eq_true rfl)
  rw [lg_entry_eq]
  generalize (lg_sl ([.ref (a 0), .ref (a 20)]) ++ List.replicate (3 - (lg_sl ([.ref (a 0), .ref (a 20)])).length) Slot.unset).toArray = ls at hl ⊢
  have hl : lv_has ls 3 [(0, .ref (a 0)), (1, .ref (a 20))] := hl
  exact db_X6_start_0 (dC := dC) (dI := dI) (a := a) (ac := ac) (n := n) (r := r) ⟨hlt, hx, hb, hml, hown, hts, hN, hA, hK⟩ (fun pc τ H locs ls d er hP hD hS => by subst er; exact W.vret hx hb hr (fun t ht hW => ⟨⟨(), rfl, trivial, by rw [ht]; exact hP, va_K.moved hW.alike hK, hD⟩, hS.F ht⟩) hS.2.2 d) s0 _ _ _ h hP hD va_S.rf (lv_sub hl [0, 1] rfl)
set_option maxHeartbeats 40000000 in
set_option maxRecDepth 100000 in
theorem dp_vX6m_X10m_0 {D : va_G} {H : Heap} {a : Nat → Nat} {ac : Nat → ClassId} {σ : St × (St × (St)) × (St × (St))} (h : va_P D vwCl (dw_X6m a ac σ) H) : va_P D vwCl (dw_X10m (fun k => a (nd_ix [10, 11, 12, 13, 14, 15, 16, 17, 18, 19, 30, 31, 32, 33, 34, 35, 36, 37, 38, 39] k)) (fun k => ac (nd_ix [10, 11, 12, 13, 14, 15, 16, 17, 18, 19, 30, 31, 32, 33, 34, 35, 36, 37, 38, 39] k)) (nd_st0, σ.2.1.2, σ.2.2.2)) H := h.sub [10, 11, 12, 13, 14, 15, 16, 17, 18, 19, 30, 31, 32, 33, 34, 35, 36, 37, 38, 39] rfl
set_option maxHeartbeats 40000000 in
set_option maxRecDepth 100000 in
theorem dd_vX6m_X10m_0 {A : Nat → Prop} {a : Nat → Nat} {ac : Nat → ClassId} {σ : St × (St × (St)) × (St × (St))} (h : va_D A (dw_X6m a ac σ)) : va_D A (dw_X10m (fun k => a (nd_ix [10, 11, 12, 13, 14, 15, 16, 17, 18, 19, 30, 31, 32, 33, 34, 35, 36, 37, 38, 39] k)) (fun k => ac (nd_ix [10, 11, 12, 13, 14, 15, 16, 17, 18, 19, 30, 31, 32, 33, 34, 35, 36, 37, 38, 39] k)) (nd_st0, σ.2.1.2, σ.2.2.2)) := h.sub [10, 11, 12, 13, 14, 15, 16, 17, 18, 19, 30, 31, 32, 33, 34, 35, 36, 37, 38, 39] (by decide) rfl
set_option maxHeartbeats 40000000 in
set_option maxRecDepth 100000 in
theorem dy_vX6m_X10m_0 {D : va_G} {U : State} {ac : Nat → ClassId} (h : va_K D vwCl (dk_X6m ac) U) : va_K D vwCl (dk_X10m (fun k => ac (nd_ix [10, 11, 12, 13, 14, 15, 16, 17, 18, 19, 30, 31, 32, 33, 34, 35, 36, 37, 38, 39] k))) U := h.sub [9, 10, 11, 12, 13, 14, 15, 16, 17, 27, 28, 29, 30, 31, 32, 33, 34, 35] rfl
set_option maxHeartbeats 40000000 in
set_option maxRecDepth 100000 in
theorem dn_vX6m_X10m_0 {A0 : Nat → Prop} {D : va_G} {H H1 : Heap} {a : Nat → Nat} {ac : Nat → ClassId} {σ : St × (St × (St)) × (St × (St))} {τ : St × (St) × (St)} (hP : va_P D vwCl (dw_X6m a ac σ) H) (hD : va_D A0 (dw_X6m a ac σ)) (hA : ∀ q : Nat, H.size ≤ q → A0 q) (hk : ∀ q : Nat, q < H.size → ¬ va_A (dw_X10m (fun k => a (nd_ix [10, 11, 12, 13, 14, 15, 16, 17, 18, 19, 30, 31, 32, 33, 34, 35, 36, 37, 38, 39] k)) (fun k => ac (nd_ix [10, 11, 12, 13, 14, 15, 16, 17, 18, 19, 30, 31, 32, 33, 34, 35, 36, 37, 38, 39] k)) (nd_st0, σ.2.1.2, σ.2.2.2)) H.size q → H1[q]? = H[q]?) (h1 : va_P D vwCl (dw_X10m (fun k => a (nd_ix [10, 11, 12, 13, 14, 15, 16, 17, 18, 19, 30, 31, 32, 33, 34, 35, 36, 37, 38, 39] k)) (fun k => ac (nd_ix [10, 11, 12, 13, 14, 15, 16, 17, 18, 19, 30, 31, 32, 33, 34, 35, 36, 37, 38, 39] k)) τ) H1) (h2 : va_D (va_A (dw_X10m (fun k => a (nd_ix [10, 11, 12, 13, 14, 15, 16, 17, 18, 19, 30, 31, 32, 33, 34, 35, 36, 37, 38, 39] k)) (fun k => ac (nd_ix [10, 11, 12, 13, 14, 15, 16, 17, 18, 19, 30, 31, 32, 33, 34, 35, 36, 37, 38, 39] k)) (nd_st0, σ.2.1.2, σ.2.2.2)) H.size) (dw_X10m (fun k => a (nd_ix [10, 11, 12, 13, 14, 15, 16, 17, 18, 19, 30, 31, 32, 33, 34, 35, 36, 37, 38, 39] k)) (fun k => ac (nd_ix [10, 11, 12, 13, 14, 15, 16, 17, 18, 19, 30, 31, 32, 33, 34, 35, 36, 37, 38, 39] k)) τ)) : va_P D vwCl (dw_X6m a ac ((σ.1, ((σ.2.1.1, τ.2.1), σ.2.2)).1, ((σ.1, ((σ.2.1.1, τ.2.1), σ.2.2)).2.1, ((σ.1, ((σ.2.1.1, τ.2.1), σ.2.2)).2.2.1, τ.2.2)))) H1 ∧ va_D A0 (dw_X6m a ac ((σ.1, ((σ.2.1.1, τ.2.1), σ.2.2)).1, ((σ.1, ((σ.2.1.1, τ.2.1), σ.2.2)).2.1, ((σ.1, ((σ.2.1.1, τ.2.1), σ.2.2)).2.2.1, τ.2.2)))) := by
  obtain ⟨h1, h2⟩ := va_join (wr := [0, 1, 2, 3, 4, 5, 6, 7, 8, 9, 20, 21, 22, 23, 24, 25, 26, 27, 28, 29].filterMap (fun i => (dw_X6m a ac σ)[i]?)) hP hD [10, 11, 12, 13, 14, 15, 16, 17, 18, 19, 30, 31, 32, 33, 34, 35, 36, 37, 38, 39] [0, 1, 2, 3, 4, 5, 6, 7, 8, 9, 20, 21, 22, 23, 24, 25, 26, 27, 28, 29] rfl rfl (by decide) (by decide) hk (nd_rq (dd_vX6m_X10m_0 hD) hA) h1 h2
  exact ⟨h1.sub [0, 1, 2, 3, 4, 5, 6, 7, 8, 9, 20, 21, 22, 23, 24, 25, 26, 27, 28, 29, 10, 11, 12, 13, 14, 15, 16, 17, 18, 19, 30, 31, 32, 33, 34, 35, 36, 37, 38, 39] rfl, h2.sub [0, 1, 2, 3, 4, 5, 6, 7, 8, 9, 20, 21, 22, 23, 24, 25, 26, 27, 28, 29, 10, 11, 12, 13, 14, 15, 16, 17, 18, 19, 30, 31, 32, 33, 34, 35, 36, 37, 38, 39] (by decide) rfl⟩
def ow_dm_X6_become : List Cond := .code yX6_become cX6_become 3 none :: ([.fieldLink RX6 14 "TimeMachine$Machine" "users" "[I", .methodLink RX6 95 arraycopyName, .native arraycopyName, .static arraycopyName, .initialized "java/lang/System", .fieldLink RX6 17 "TimeMachine$Machine" "page" "[I", .fieldLink RX6 52 "TimeMachine$Machine" "framesUsed" "I", .fieldLink RX6 20 "TimeMachine$Machine" "reg" "[I", .fieldLink RX6 23 "TimeMachine$Machine" "saved" "[I", .fieldLink RX6 26 "TimeMachine$Machine" "handler" "[I", .fieldLink RX6 29 "TimeMachine$Machine" "self" "[I", .fieldLink RX6 32 "TimeMachine$Machine" "sleep" "[J", .fieldLink RX6 36 "TimeMachine$Machine" "random" "[I", .fieldLink RX6 60 "TimeMachine$Machine" "randoms" "I", .fieldLink RX6 42 "TimeMachine$Machine" "things" "LTimeMachine$Things;", .methodLink RX6 101 yX10_become, .instanceMethod yX10_become, .selects RX10 yX10_become yX10_become, .initialized RX10, .fieldLink RX6 63 "TimeMachine$Machine" "waiting" "I", .fieldLink RX6 66 "TimeMachine$Machine" "current" "I", .fieldLink RX6 69 "TimeMachine$Machine" "last" "I", .fieldLink RX6 72 "TimeMachine$Machine" "ticked" "I", .fieldLink RX6 105 "TimeMachine$Machine" "reserved" "I", .fieldLink RX6 75 "TimeMachine$Machine" "clock" "J", .fieldLink RX6 79 "TimeMachine$Machine" "retired" "J", .fieldLink RX6 82 "TimeMachine$Machine" "written" "I", .fieldLink RX6 10 "TimeMachine$Machine" "word" "[I"] ++ (u_ws RX6 TX6 20 ++ (ow_dm_X10_become ++ [])))
theorem gd_dm_X6_become : ∀ w ∈ ow_dm_X6_become, (w.onTables && w.keeps) = true ∨ ∃ ty, w = Cond.arrayClass ty := List.forall_mem_cons.mpr ⟨good_of_word rfl, List.forall_mem_append.mpr ⟨fun w h => good_of_word (List.all_eq_true.mp (by decide +kernel) w h), List.forall_mem_append.mpr ⟨gu_X6, List.forall_mem_append.mpr ⟨gd_dm_X10_become, fun _ h => nomatch h⟩⟩⟩⟩
theorem hi_dm_X6_become_X6 : ∀ w ∈ u_ws RX6 TX6 20, w ∈ ow_dm_X6_become := fun w h => List.mem_cons_of_mem _ (List.mem_append_right _ (List.mem_append_left _ h))
theorem gi_dm_X6_become_0 : GoodIn ow_dm_X6_become (wsV RX6 101 RX10 yX10_become ow_dm_X10_become) := goodIn_app (goodIn_of _ (by decide +kernel)) (fun w h => ⟨List.mem_cons_of_mem _ (List.mem_append_right _ (List.mem_append_right _ (List.mem_append_left _ h))), gd_dm_X10_become w h⟩)
def dj_X6_become_42 (p : Program) (l : Launch) (e : Env) (s : State) (m : MethodId) (args : Array Value) (below : List Frame) (meth : Method) (c : Code) (Q : State → Prop) (A : Nat → Prop) (dC : Nat → ClassId) (dI : Nat → Nat → Nat) (a : Nat → Nat) (ac : Nat → ClassId) (g : Int32 → (St × (St × (St)) × (St × (St))) → Option (St × (St × (St)) × (St × (St)))) (r : St × (St × (St)) × (St × (St))) : Prop := ∀ (x2 : Int32) (s0 : St × (St × (St)) × (St × (St))) (H : Heap) (locs : List Loc) (ls : Array Slot), g x2 s0 = some r → va_P (dC, dI) vwCl (dw_X6m a ac s0) H → va_D A (dw_X6m a ac s0) → va_S A s.heap H locs → lv_has ls 3 [(0, .ref (a 0)), (1, .ref (a 20)), (2, .int x2)] → W p l e (headSpec ow_dm_X6_become ({ frames := 2, cells := 0, slots := 0, locals := 61 })).room s m args below meth c H locs 0 0 Q (F0 m 42 ls [])
def dj_X6_become_2 (p : Program) (l : Launch) (e : Env) (s : State) (m : MethodId) (args : Array Value) (below : List Frame) (meth : Method) (c : Code) (Q : State → Prop) (A : Nat → Prop) (dC : Nat → ClassId) (dI : Nat → Nat → Nat) (a : Nat → Nat) (ac : Nat → ClassId) (g : Int32 → (St × (St × (St)) × (St × (St))) → Option (St × (St × (St)) × (St × (St)))) (r : St × (St × (St)) × (St × (St))) : Prop := ∀ (x2 : Int32) (s0 : St × (St × (St)) × (St × (St))) (H : Heap) (locs : List Loc) (ls : Array Slot), g x2 s0 = some r → va_P (dC, dI) vwCl (dw_X6m a ac s0) H → va_D A (dw_X6m a ac s0) → va_S A s.heap H locs → lv_has ls 3 [(0, .ref (a 0)), (1, .ref (a 20)), (2, .int x2)] → W p l e (headSpec ow_dm_X6_become ({ frames := 2, cells := 0, slots := 0, locals := 61 })).room s m args below meth c H locs 0 0 Q (F0 m 2 ls [])
def dj_X6_become_0 (p : Program) (l : Launch) (e : Env) (s : State) (m : MethodId) (args : Array Value) (below : List Frame) (meth : Method) (c : Code) (Q : State → Prop) (A : Nat → Prop) (dC : Nat → ClassId) (dI : Nat → Nat → Nat) (a : Nat → Nat) (ac : Nat → ClassId) (g : (St × (St × (St)) × (St × (St))) → Option (St × (St × (St)) × (St × (St)))) (r : St × (St × (St)) × (St × (St))) : Prop := ∀ (s0 : St × (St × (St)) × (St × (St))) (H : Heap) (locs : List Loc) (ls : Array Slot), g s0 = some r → va_P (dC, dI) vwCl (dw_X6m a ac s0) H → va_D A (dw_X6m a ac s0) → va_S A s.heap H locs → lv_has ls 3 [(0, .ref (a 0)), (1, .ref (a 20))] → W p l e (headSpec ow_dm_X6_become ({ frames := 2, cells := 0, slots := 0, locals := 61 })).room s m args below meth c H locs 0 0 Q (F0 m 0 ls [])
set_option maxHeartbeats 40000000 in
set_option maxRecDepth 100000 in
theorem db_X6_become_42 {p : Program} {l : Launch} {e : Env} {s : State} {m : MethodId} {args : Array Value} {below : List Frame} {meth : Method} {c : Code} {Q : State → Prop} {A : Nat → Prop} {dC : Nat → ClassId} {dI : Nat → Nat → Nat} {a : Nat → Nat} {ac : Nat → ClassId} {n : Nat} {r : St × (St × (St)) × (St × (St))} (C : nd_C p l s m args c A (dC, dI) cX6_become 3 RX6 ow_dm_X6_become (dk_X6m ac)) (K : nd_Kv p l e (headSpec ow_dm_X6_become ({ frames := 2, cells := 0, slots := 0, locals := 61 })).room s m args below meth c Q A (dC, dI) cX6_become (St × (St × (St)) × (St × (St))) (dw_X6m a ac) r) {g2 : Int32 → (St × (St × (St)) × (St × (St))) → Option (St × (St × (St)) × (St × (St)))} (J2 : dj_X6_become_2 p l e s m args below meth c Q A dC dI a ac g2 r) : dj_X6_become_42 p l e s m args below meth c Q A dC dI a ac (df_X6_become_42 n g2) r := by
  obtain ⟨hlt, hx, hb, hml, hown, hts, hN, hA, hK⟩ := id C
  intro x2 s0 H locs ls h hP hD hS hl
  unfold df_X6_become_42 at h
  obtain ⟨z34, ez34, h⟩ := nd_let_e h
  refine lv_iinc (v := z34) (lv' := [(2, .int z34), (0, .ref (a 0)), (1, .ref (a 20))]) hx hb dX6_become_42 hl (k := 2) rfl (by rw [ez34]) (by decide) rfl (fun ls hl => ?_)
  refine lv_goto (tgt := 2) hx hb dX6_become_45 (by decide) ?_
  exact (J2) (z34) s0 _ _ _ h hP hD hS (lv_sub hl [1, 2, 0] rfl)
set_option maxHeartbeats 40000000 in
set_option maxRecDepth 100000 in
theorem dB_X6_become_2 {p : Program} {l : Launch} {e : Env} {s : State} {m : MethodId} {args : Array Value} {below : List Frame} {meth : Method} {c : Code} {Q : State → Prop} {A : Nat → Prop} {dC : Nat → ClassId} {dI : Nat → Nat → Nat} {a : Nat → Nat} {ac : Nat → ClassId} {n : Nat} {r : St × (St × (St)) × (St × (St))} (C : nd_C p l s m args c A (dC, dI) cX6_become 3 RX6 ow_dm_X6_become (dk_X6m ac)) (K : nd_Kv p l e (headSpec ow_dm_X6_become ({ frames := 2, cells := 0, slots := 0, locals := 61 })).room s m args below meth c Q A (dC, dI) cX6_become (St × (St × (St)) × (St × (St))) (dw_X6m a ac) r) {g2 : Int32 → (St × (St × (St)) × (St × (St))) → Option (St × (St × (St)) × (St × (St)))} (J2 : dj_X6_become_2 p l e s m args below meth c Q A dC dI a ac g2 r) : dj_X6_become_2 p l e s m args below meth c Q A dC dI a ac (dF_X6_become_2 n g2) r := by
  obtain ⟨hlt, hx, hb, hml, hown, hts, hN, hA, hK⟩ := id C
  intro x2 s0 H locs ls h hP hD hS hl
  unfold dF_X6_become_2 at h
  refine lv_iload_n hx hb dX6_become_2 rfl (lv_at hl 2 rfl) ?_
  refine lv_sipush (v := 256) hx hb dX6_become_3 (by decide) ?_
  refine lv_icmp_ge (tgt := 48) hx hb dX6_become_6 (by decide) (fun c1 => ?_) (fun c1 => ?_)
  · have h := nd_pos h c1
    refine lv_aload_n hx hb dX6_become_48 rfl (lv_at hl 1 rfl) ?_
    refine va_get (D := (dC, dI)) (ci := 7) (v := .ref (a 22)) (C := RX6) (T := TX6) (N := 20) hx hb hts hi_dm_X6_become_X6 hown hK hP 20 rfl rfl 1 (by decide) (hts (.fieldLink RX6 14 "TimeMachine$Machine" "users" "[I") (List.mem_of_getElem? (i := 1) rfl)) (fun _ h9 => h9) rfl dX6_become_49 ?_
    refine lv_iconst (v := 0) hx hb dX6_become_52 (by decide) ?_
    refine lv_aload_n hx hb dX6_become_53 rfl (lv_at hl 0 rfl) ?_
    refine va_get (D := (dC, dI)) (ci := 7) (v := .ref (a 2)) (C := RX6) (T := TX6) (N := 20) hx hb hts hi_dm_X6_become_X6 hown hK hP 0 rfl rfl 1 (by decide) (hts (.fieldLink RX6 14 "TimeMachine$Machine" "users" "[I") (List.mem_of_getElem? (i := 1) rfl)) (fun _ h9 => h9) rfl dX6_become_54 ?_
    refine lv_iconst (v := 0) hx hb dX6_become_57 (by decide) ?_
    refine lv_aload_n hx hb dX6_become_58 rfl (lv_at hl 0 rfl) ?_
    refine va_get (D := (dC, dI)) (ci := 7) (v := .ref (a 2)) (C := RX6) (T := TX6) (N := 20) hx hb hts hi_dm_X6_become_X6 hown hK hP 0 rfl rfl 1 (by decide) (hts (.fieldLink RX6 14 "TimeMachine$Machine" "users" "[I") (List.mem_of_getElem? (i := 1) rfl)) (fun _ h9 => h9) rfl dX6_become_59 ?_
    refine va_alen (v := 256) hx hb hK hP 2 1 rfl rfl (show Int32.ofNat 256 = 256 by decide) dX6_become_62 ?_
    obtain ⟨k2, h⟩ := nd_cp_e h
    refine va_copyi (sp := 0) (dp := 0) (n := 256) hx hb (by rw [hml]; exact hl.1.symm) hown (hts (.methodLink RX6 95 arraycopyName) (List.mem_of_getElem? (i := 2) rfl)) (hts (.native arraycopyName) (List.mem_of_getElem? (i := 3) rfl)) (hts (.static arraycopyName) (List.mem_of_getElem? (i := 4) rfl)) (hts (.initialized "java/lang/System") (List.mem_of_getElem? (i := 5) rfl)) hK hP hD hS 22 2 19 1 rfl rfl rfl rfl rfl k2.1 k2.2.1 k2.2.2.1 k2.2.2.2.1 k2.2.2.2.2 (fun _ _ => rfl) (Nat.le_of_ble_eq_true rfl) (by decide +kernel) dX6_become_63 (fun H locs hP hD hS => ?_)
    obtain ⟨s3, es3, h⟩ := nd_let_e h
    have hP : va_P (dC, dI) vwCl (dw_X6m a ac s3) H := by rw [es3]; exact hP
    have hD : va_D A (dw_X6m a ac s3) := by rw [es3]; exact hD
    refine lv_aload_n hx hb dX6_become_66 rfl (lv_at hl 1 rfl) ?_
    refine va_get (D := (dC, dI)) (ci := 7) (v := .ref (a 23)) (C := RX6) (T := TX6) (N := 20) hx hb hts hi_dm_X6_become_X6 hown hK hP 20 rfl rfl 2 (by decide) (hts (.fieldLink RX6 17 "TimeMachine$Machine" "page" "[I") (List.mem_of_getElem? (i := 6) rfl)) (fun _ h9 => h9) rfl dX6_become_67 ?_
    refine lv_iconst (v := 0) hx hb dX6_become_70 (by decide) ?_
    refine lv_aload_n hx hb dX6_become_71 rfl (lv_at hl 0 rfl) ?_
    refine va_get (D := (dC, dI)) (ci := 7) (v := .ref (a 3)) (C := RX6) (T := TX6) (N := 20) hx hb hts hi_dm_X6_become_X6 hown hK hP 0 rfl rfl 2 (by decide) (hts (.fieldLink RX6 17 "TimeMachine$Machine" "page" "[I") (List.mem_of_getElem? (i := 6) rfl)) (fun _ h9 => h9) rfl dX6_become_72 ?_
    refine lv_iconst (v := 0) hx hb dX6_become_75 (by decide) ?_
    refine lv_aload_n hx hb dX6_become_76 rfl (lv_at hl 0 rfl) ?_
    refine va_get (D := (dC, dI)) (ci := 7) (v := .ref (a 3)) (C := RX6) (T := TX6) (N := 20) hx hb hts hi_dm_X6_become_X6 hown hK hP 0 rfl rfl 2 (by decide) (hts (.fieldLink RX6 17 "TimeMachine$Machine" "page" "[I") (List.mem_of_getElem? (i := 6) rfl)) (fun _ h9 => h9) rfl dX6_become_77 ?_
    refine va_alen (v := 1024) hx hb hK hP 3 2 rfl rfl (show Int32.ofNat 1024 = 1024 by decide) dX6_become_80 ?_
    obtain ⟨k4, h⟩ := nd_cp_e h
    refine va_copyi (sp := 0) (dp := 0) (n := 1024) hx hb (by rw [hml]; exact hl.1.symm) hown (hts (.methodLink RX6 95 arraycopyName) (List.mem_of_getElem? (i := 2) rfl)) (hts (.native arraycopyName) (List.mem_of_getElem? (i := 3) rfl)) (hts (.static arraycopyName) (List.mem_of_getElem? (i := 4) rfl)) (hts (.initialized "java/lang/System") (List.mem_of_getElem? (i := 5) rfl)) hK hP hD hS 23 3 20 2 rfl rfl rfl rfl rfl k4.1 k4.2.1 k4.2.2.1 k4.2.2.2.1 k4.2.2.2.2 (fun _ _ => rfl) (Nat.le_of_ble_eq_true rfl) (by decide +kernel) dX6_become_81 (fun H locs hP hD hS => ?_)
    obtain ⟨s5, es5, h⟩ := nd_let_e h
    have hP : va_P (dC, dI) vwCl (dw_X6m a ac s5) H := by rw [es5]; exact hP
    have hD : va_D A (dw_X6m a ac s5) := by rw [es5]; exact hD
    refine lv_aload_n hx hb dX6_become_84 rfl (lv_at hl 0 rfl) ?_
    refine lv_aload_n hx hb dX6_become_85 rfl (lv_at hl 1 rfl) ?_
    refine va_get (D := (dC, dI)) (ci := 7) (v := .int (sI s5.2.2.1 0)) (C := RX6) (T := TX6) (N := 20) hx hb hts hi_dm_X6_become_X6 hown hK hP 20 rfl rfl 3 (by decide) (hts (.fieldLink RX6 52 "TimeMachine$Machine" "framesUsed" "I") (List.mem_of_getElem? (i := 7) rfl)) (fun _ h9 => h9) rfl dX6_become_86 ?_
    refine va_put (D := (dC, dI)) (ci := 7) (v := .int (sI s5.2.2.1 0)) (ty := .int) (C := RX6) (T := TX6) (N := 20) hx hb hts hi_dm_X6_become_X6 tyX6 tyX6_ok nmX6 hown hK hP hD hS 0 rfl rfl 3 (by decide) (hts (.fieldLink RX6 52 "TimeMachine$Machine" "framesUsed" "I") (List.mem_of_getElem? (i := 7) rfl)) (fun _ h9 => h9) rfl (by decide +kernel) rfl rfl (Nat.le_of_ble_eq_true rfl) dX6_become_89 (fun H locs hP hD hS => ?_)
    obtain ⟨s6, es6, h⟩ := nd_let_e h
    have hP : va_P (dC, dI) vwCl (dw_X6m a ac s6) H := by rw [es6]; exact hP
    have hD : va_D A (dw_X6m a ac s6) := by rw [es6]; exact hD
    refine lv_aload_n hx hb dX6_become_92 rfl (lv_at hl 1 rfl) ?_
    refine va_get (D := (dC, dI)) (ci := 7) (v := .ref (a 24)) (C := RX6) (T := TX6) (N := 20) hx hb hts hi_dm_X6_become_X6 hown hK hP 20 rfl rfl 4 (by decide) (hts (.fieldLink RX6 20 "TimeMachine$Machine" "reg" "[I") (List.mem_of_getElem? (i := 8) rfl)) (fun _ h9 => h9) rfl dX6_become_93 ?_
    refine lv_iconst (v := 0) hx hb dX6_become_96 (by decide) ?_
    refine lv_aload_n hx hb dX6_become_97 rfl (lv_at hl 0 rfl) ?_
    refine va_get (D := (dC, dI)) (ci := 7) (v := .ref (a 4)) (C := RX6) (T := TX6) (N := 20) hx hb hts hi_dm_X6_become_X6 hown hK hP 0 rfl rfl 4 (by decide) (hts (.fieldLink RX6 20 "TimeMachine$Machine" "reg" "[I") (List.mem_of_getElem? (i := 8) rfl)) (fun _ h9 => h9) rfl dX6_become_98 ?_
    refine lv_iconst (v := 0) hx hb dX6_become_101 (by decide) ?_
    refine lv_aload_n hx hb dX6_become_102 rfl (lv_at hl 0 rfl) ?_
    refine va_get (D := (dC, dI)) (ci := 7) (v := .ref (a 4)) (C := RX6) (T := TX6) (N := 20) hx hb hts hi_dm_X6_become_X6 hown hK hP 0 rfl rfl 4 (by decide) (hts (.fieldLink RX6 20 "TimeMachine$Machine" "reg" "[I") (List.mem_of_getElem? (i := 8) rfl)) (fun _ h9 => h9) rfl dX6_become_103 ?_
    refine va_alen (v := 528) hx hb hK hP 4 3 rfl rfl (show Int32.ofNat 528 = 528 by decide) dX6_become_106 ?_
    obtain ⟨k7, h⟩ := nd_cp_e h
    refine va_copyi (sp := 0) (dp := 0) (n := 528) hx hb (by rw [hml]; exact hl.1.symm) hown (hts (.methodLink RX6 95 arraycopyName) (List.mem_of_getElem? (i := 2) rfl)) (hts (.native arraycopyName) (List.mem_of_getElem? (i := 3) rfl)) (hts (.static arraycopyName) (List.mem_of_getElem? (i := 4) rfl)) (hts (.initialized "java/lang/System") (List.mem_of_getElem? (i := 5) rfl)) hK hP hD hS 24 4 21 3 rfl rfl rfl rfl rfl k7.1 k7.2.1 k7.2.2.1 k7.2.2.2.1 k7.2.2.2.2 (fun _ _ => rfl) (Nat.le_of_ble_eq_true rfl) (by decide +kernel) dX6_become_107 (fun H locs hP hD hS => ?_)
    obtain ⟨s8, es8, h⟩ := nd_let_e h
    have hP : va_P (dC, dI) vwCl (dw_X6m a ac s8) H := by rw [es8]; exact hP
    have hD : va_D A (dw_X6m a ac s8) := by rw [es8]; exact hD
    refine lv_aload_n hx hb dX6_become_110 rfl (lv_at hl 1 rfl) ?_
    refine va_get (D := (dC, dI)) (ci := 7) (v := .ref (a 25)) (C := RX6) (T := TX6) (N := 20) hx hb hts hi_dm_X6_become_X6 hown hK hP 20 rfl rfl 5 (by decide) (hts (.fieldLink RX6 23 "TimeMachine$Machine" "saved" "[I") (List.mem_of_getElem? (i := 9) rfl)) (fun _ h9 => h9) rfl dX6_become_111 ?_
    refine lv_iconst (v := 0) hx hb dX6_become_114 (by decide) ?_
    refine lv_aload_n hx hb dX6_become_115 rfl (lv_at hl 0 rfl) ?_
    refine va_get (D := (dC, dI)) (ci := 7) (v := .ref (a 5)) (C := RX6) (T := TX6) (N := 20) hx hb hts hi_dm_X6_become_X6 hown hK hP 0 rfl rfl 5 (by decide) (hts (.fieldLink RX6 23 "TimeMachine$Machine" "saved" "[I") (List.mem_of_getElem? (i := 9) rfl)) (fun _ h9 => h9) rfl dX6_become_116 ?_
    refine lv_iconst (v := 0) hx hb dX6_become_119 (by decide) ?_
    refine lv_aload_n hx hb dX6_become_120 rfl (lv_at hl 0 rfl) ?_
    refine va_get (D := (dC, dI)) (ci := 7) (v := .ref (a 5)) (C := RX6) (T := TX6) (N := 20) hx hb hts hi_dm_X6_become_X6 hown hK hP 0 rfl rfl 5 (by decide) (hts (.fieldLink RX6 23 "TimeMachine$Machine" "saved" "[I") (List.mem_of_getElem? (i := 9) rfl)) (fun _ h9 => h9) rfl dX6_become_121 ?_
    refine va_alen (v := 528) hx hb hK hP 5 4 rfl rfl (show Int32.ofNat 528 = 528 by decide) dX6_become_124 ?_
    obtain ⟨k9, h⟩ := nd_cp_e h
    refine va_copyi (sp := 0) (dp := 0) (n := 528) hx hb (by rw [hml]; exact hl.1.symm) hown (hts (.methodLink RX6 95 arraycopyName) (List.mem_of_getElem? (i := 2) rfl)) (hts (.native arraycopyName) (List.mem_of_getElem? (i := 3) rfl)) (hts (.static arraycopyName) (List.mem_of_getElem? (i := 4) rfl)) (hts (.initialized "java/lang/System") (List.mem_of_getElem? (i := 5) rfl)) hK hP hD hS 25 5 22 4 rfl rfl rfl rfl rfl k9.1 k9.2.1 k9.2.2.1 k9.2.2.2.1 k9.2.2.2.2 (fun _ _ => rfl) (Nat.le_of_ble_eq_true rfl) (by decide +kernel) dX6_become_125 (fun H locs hP hD hS => ?_)
    obtain ⟨s10, es10, h⟩ := nd_let_e h
    have hP : va_P (dC, dI) vwCl (dw_X6m a ac s10) H := by rw [es10]; exact hP
    have hD : va_D A (dw_X6m a ac s10) := by rw [es10]; exact hD
    refine lv_aload_n hx hb dX6_become_128 rfl (lv_at hl 1 rfl) ?_
    refine va_get (D := (dC, dI)) (ci := 7) (v := .ref (a 26)) (C := RX6) (T := TX6) (N := 20) hx hb hts hi_dm_X6_become_X6 hown hK hP 20 rfl rfl 6 (by decide) (hts (.fieldLink RX6 26 "TimeMachine$Machine" "handler" "[I") (List.mem_of_getElem? (i := 10) rfl)) (fun _ h9 => h9) rfl dX6_become_129 ?_
    refine lv_iconst (v := 0) hx hb dX6_become_132 (by decide) ?_
    refine lv_aload_n hx hb dX6_become_133 rfl (lv_at hl 0 rfl) ?_
    refine va_get (D := (dC, dI)) (ci := 7) (v := .ref (a 6)) (C := RX6) (T := TX6) (N := 20) hx hb hts hi_dm_X6_become_X6 hown hK hP 0 rfl rfl 6 (by decide) (hts (.fieldLink RX6 26 "TimeMachine$Machine" "handler" "[I") (List.mem_of_getElem? (i := 10) rfl)) (fun _ h9 => h9) rfl dX6_become_134 ?_
    refine lv_iconst (v := 0) hx hb dX6_become_137 (by decide) ?_
    refine lv_aload_n hx hb dX6_become_138 rfl (lv_at hl 0 rfl) ?_
    refine va_get (D := (dC, dI)) (ci := 7) (v := .ref (a 6)) (C := RX6) (T := TX6) (N := 20) hx hb hts hi_dm_X6_become_X6 hown hK hP 0 rfl rfl 6 (by decide) (hts (.fieldLink RX6 26 "TimeMachine$Machine" "handler" "[I") (List.mem_of_getElem? (i := 10) rfl)) (fun _ h9 => h9) rfl dX6_become_139 ?_
    refine va_alen (v := 256) hx hb hK hP 6 5 rfl rfl (show Int32.ofNat 256 = 256 by decide) dX6_become_142 ?_
    obtain ⟨k11, h⟩ := nd_cp_e h
    refine va_copyi (sp := 0) (dp := 0) (n := 256) hx hb (by rw [hml]; exact hl.1.symm) hown (hts (.methodLink RX6 95 arraycopyName) (List.mem_of_getElem? (i := 2) rfl)) (hts (.native arraycopyName) (List.mem_of_getElem? (i := 3) rfl)) (hts (.static arraycopyName) (List.mem_of_getElem? (i := 4) rfl)) (hts (.initialized "java/lang/System") (List.mem_of_getElem? (i := 5) rfl)) hK hP hD hS 26 6 23 5 rfl rfl rfl rfl rfl k11.1 k11.2.1 k11.2.2.1 k11.2.2.2.1 k11.2.2.2.2 (fun _ _ => rfl) (Nat.le_of_ble_eq_true rfl) (by decide +kernel) dX6_become_143 (fun H locs hP hD hS => ?_)
    obtain ⟨s12, es12, h⟩ := nd_let_e h
    have hP : va_P (dC, dI) vwCl (dw_X6m a ac s12) H := by rw [es12]; exact hP
    have hD : va_D A (dw_X6m a ac s12) := by rw [es12]; exact hD
    refine lv_aload_n hx hb dX6_become_146 rfl (lv_at hl 1 rfl) ?_
    refine va_get (D := (dC, dI)) (ci := 7) (v := .ref (a 27)) (C := RX6) (T := TX6) (N := 20) hx hb hts hi_dm_X6_become_X6 hown hK hP 20 rfl rfl 7 (by decide) (hts (.fieldLink RX6 29 "TimeMachine$Machine" "self" "[I") (List.mem_of_getElem? (i := 11) rfl)) (fun _ h9 => h9) rfl dX6_become_147 ?_
    refine lv_iconst (v := 0) hx hb dX6_become_150 (by decide) ?_
    refine lv_aload_n hx hb dX6_become_151 rfl (lv_at hl 0 rfl) ?_
    refine va_get (D := (dC, dI)) (ci := 7) (v := .ref (a 7)) (C := RX6) (T := TX6) (N := 20) hx hb hts hi_dm_X6_become_X6 hown hK hP 0 rfl rfl 7 (by decide) (hts (.fieldLink RX6 29 "TimeMachine$Machine" "self" "[I") (List.mem_of_getElem? (i := 11) rfl)) (fun _ h9 => h9) rfl dX6_become_152 ?_
    refine lv_iconst (v := 0) hx hb dX6_become_155 (by decide) ?_
    refine lv_aload_n hx hb dX6_become_156 rfl (lv_at hl 0 rfl) ?_
    refine va_get (D := (dC, dI)) (ci := 7) (v := .ref (a 7)) (C := RX6) (T := TX6) (N := 20) hx hb hts hi_dm_X6_become_X6 hown hK hP 0 rfl rfl 7 (by decide) (hts (.fieldLink RX6 29 "TimeMachine$Machine" "self" "[I") (List.mem_of_getElem? (i := 11) rfl)) (fun _ h9 => h9) rfl dX6_become_157 ?_
    refine va_alen (v := 112) hx hb hK hP 7 6 rfl rfl (show Int32.ofNat 112 = 112 by decide) dX6_become_160 ?_
    obtain ⟨k13, h⟩ := nd_cp_e h
    refine va_copyi (sp := 0) (dp := 0) (n := 112) hx hb (by rw [hml]; exact hl.1.symm) hown (hts (.methodLink RX6 95 arraycopyName) (List.mem_of_getElem? (i := 2) rfl)) (hts (.native arraycopyName) (List.mem_of_getElem? (i := 3) rfl)) (hts (.static arraycopyName) (List.mem_of_getElem? (i := 4) rfl)) (hts (.initialized "java/lang/System") (List.mem_of_getElem? (i := 5) rfl)) hK hP hD hS 27 7 24 6 rfl rfl rfl rfl rfl k13.1 k13.2.1 k13.2.2.1 k13.2.2.2.1 k13.2.2.2.2 (fun _ _ => rfl) (Nat.le_of_ble_eq_true rfl) (by decide +kernel) dX6_become_161 (fun H locs hP hD hS => ?_)
    obtain ⟨s14, es14, h⟩ := nd_let_e h
    have hP : va_P (dC, dI) vwCl (dw_X6m a ac s14) H := by rw [es14]; exact hP
    have hD : va_D A (dw_X6m a ac s14) := by rw [es14]; exact hD
    refine lv_aload_n hx hb dX6_become_164 rfl (lv_at hl 1 rfl) ?_
    refine va_get (D := (dC, dI)) (ci := 7) (v := .ref (a 28)) (C := RX6) (T := TX6) (N := 20) hx hb hts hi_dm_X6_become_X6 hown hK hP 20 rfl rfl 8 (by decide) (hts (.fieldLink RX6 32 "TimeMachine$Machine" "sleep" "[J") (List.mem_of_getElem? (i := 12) rfl)) (fun _ h9 => h9) rfl dX6_become_165 ?_
    refine lv_iconst (v := 0) hx hb dX6_become_168 (by decide) ?_
    refine lv_aload_n hx hb dX6_become_169 rfl (lv_at hl 0 rfl) ?_
    refine va_get (D := (dC, dI)) (ci := 7) (v := .ref (a 8)) (C := RX6) (T := TX6) (N := 20) hx hb hts hi_dm_X6_become_X6 hown hK hP 0 rfl rfl 8 (by decide) (hts (.fieldLink RX6 32 "TimeMachine$Machine" "sleep" "[J") (List.mem_of_getElem? (i := 12) rfl)) (fun _ h9 => h9) rfl dX6_become_170 ?_
    refine lv_iconst (v := 0) hx hb dX6_become_173 (by decide) ?_
    refine lv_aload_n hx hb dX6_become_174 rfl (lv_at hl 0 rfl) ?_
    refine va_get (D := (dC, dI)) (ci := 7) (v := .ref (a 8)) (C := RX6) (T := TX6) (N := 20) hx hb hts hi_dm_X6_become_X6 hown hK hP 0 rfl rfl 8 (by decide) (hts (.fieldLink RX6 32 "TimeMachine$Machine" "sleep" "[J") (List.mem_of_getElem? (i := 12) rfl)) (fun _ h9 => h9) rfl dX6_become_175 ?_
    refine va_alen (v := 16) hx hb hK hP 8 7 rfl rfl (show Int32.ofNat 16 = 16 by decide) dX6_become_178 ?_
    obtain ⟨k15, h⟩ := nd_cp_e h
    refine va_copyl (sp := 0) (dp := 0) (n := 16) hx hb (by rw [hml]; exact hl.1.symm) hown (hts (.methodLink RX6 95 arraycopyName) (List.mem_of_getElem? (i := 2) rfl)) (hts (.native arraycopyName) (List.mem_of_getElem? (i := 3) rfl)) (hts (.static arraycopyName) (List.mem_of_getElem? (i := 4) rfl)) (hts (.initialized "java/lang/System") (List.mem_of_getElem? (i := 5) rfl)) hK hP hD hS 28 8 25 7 rfl rfl rfl rfl rfl k15.1 k15.2.1 k15.2.2.1 k15.2.2.2.1 k15.2.2.2.2 (fun _ _ => rfl) (Nat.le_of_ble_eq_true rfl) (by decide +kernel) dX6_become_179 (fun H locs hP hD hS => ?_)
    obtain ⟨s16, es16, h⟩ := nd_let_e h
    have hP : va_P (dC, dI) vwCl (dw_X6m a ac s16) H := by rw [es16]; exact hP
    have hD : va_D A (dw_X6m a ac s16) := by rw [es16]; exact hD
    refine lv_aload_n hx hb dX6_become_182 rfl (lv_at hl 1 rfl) ?_
    refine va_get (D := (dC, dI)) (ci := 7) (v := .ref (a 29)) (C := RX6) (T := TX6) (N := 20) hx hb hts hi_dm_X6_become_X6 hown hK hP 20 rfl rfl 9 (by decide) (hts (.fieldLink RX6 36 "TimeMachine$Machine" "random" "[I") (List.mem_of_getElem? (i := 13) rfl)) (fun _ h9 => h9) rfl dX6_become_183 ?_
    refine lv_iconst (v := 0) hx hb dX6_become_186 (by decide) ?_
    refine lv_aload_n hx hb dX6_become_187 rfl (lv_at hl 0 rfl) ?_
    refine va_get (D := (dC, dI)) (ci := 7) (v := .ref (a 9)) (C := RX6) (T := TX6) (N := 20) hx hb hts hi_dm_X6_become_X6 hown hK hP 0 rfl rfl 9 (by decide) (hts (.fieldLink RX6 36 "TimeMachine$Machine" "random" "[I") (List.mem_of_getElem? (i := 13) rfl)) (fun _ h9 => h9) rfl dX6_become_188 ?_
    refine lv_iconst (v := 0) hx hb dX6_become_191 (by decide) ?_
    refine lv_aload_n hx hb dX6_become_192 rfl (lv_at hl 0 rfl) ?_
    refine va_get (D := (dC, dI)) (ci := 7) (v := .ref (a 9)) (C := RX6) (T := TX6) (N := 20) hx hb hts hi_dm_X6_become_X6 hown hK hP 0 rfl rfl 9 (by decide) (hts (.fieldLink RX6 36 "TimeMachine$Machine" "random" "[I") (List.mem_of_getElem? (i := 13) rfl)) (fun _ h9 => h9) rfl dX6_become_193 ?_
    refine va_alen (v := 16) hx hb hK hP 9 8 rfl rfl (show Int32.ofNat 16 = 16 by decide) dX6_become_196 ?_
    obtain ⟨k17, h⟩ := nd_cp_e h
    refine va_copyi (sp := 0) (dp := 0) (n := 16) hx hb (by rw [hml]; exact hl.1.symm) hown (hts (.methodLink RX6 95 arraycopyName) (List.mem_of_getElem? (i := 2) rfl)) (hts (.native arraycopyName) (List.mem_of_getElem? (i := 3) rfl)) (hts (.static arraycopyName) (List.mem_of_getElem? (i := 4) rfl)) (hts (.initialized "java/lang/System") (List.mem_of_getElem? (i := 5) rfl)) hK hP hD hS 29 9 26 8 rfl rfl rfl rfl rfl k17.1 k17.2.1 k17.2.2.1 k17.2.2.2.1 k17.2.2.2.2 (fun _ _ => rfl) (Nat.le_of_ble_eq_true rfl) (by decide +kernel) dX6_become_197 (fun H locs hP hD hS => ?_)
    obtain ⟨s18, es18, h⟩ := nd_let_e h
    have hP : va_P (dC, dI) vwCl (dw_X6m a ac s18) H := by rw [es18]; exact hP
    have hD : va_D A (dw_X6m a ac s18) := by rw [es18]; exact hD
    refine lv_aload_n hx hb dX6_become_200 rfl (lv_at hl 0 rfl) ?_
    refine lv_aload_n hx hb dX6_become_201 rfl (lv_at hl 1 rfl) ?_
    refine va_get (D := (dC, dI)) (ci := 7) (v := .int (sI s18.2.2.1 1)) (C := RX6) (T := TX6) (N := 20) hx hb hts hi_dm_X6_become_X6 hown hK hP 20 rfl rfl 10 (by decide) (hts (.fieldLink RX6 60 "TimeMachine$Machine" "randoms" "I") (List.mem_of_getElem? (i := 14) rfl)) (fun _ h9 => h9) rfl dX6_become_202 ?_
    refine va_put (D := (dC, dI)) (ci := 7) (v := .int (sI s18.2.2.1 1)) (ty := .int) (C := RX6) (T := TX6) (N := 20) hx hb hts hi_dm_X6_become_X6 tyX6 tyX6_ok nmX6 hown hK hP hD hS 0 rfl rfl 10 (by decide) (hts (.fieldLink RX6 60 "TimeMachine$Machine" "randoms" "I") (List.mem_of_getElem? (i := 14) rfl)) (fun _ h9 => h9) rfl (by decide +kernel) rfl rfl (Nat.le_of_ble_eq_true rfl) dX6_become_205 (fun H locs hP hD hS => ?_)
    obtain ⟨s19, es19, h⟩ := nd_let_e h
    have hP : va_P (dC, dI) vwCl (dw_X6m a ac s19) H := by rw [es19]; exact hP
    have hD : va_D A (dw_X6m a ac s19) := by rw [es19]; exact hD
    refine lv_aload_n hx hb dX6_become_208 rfl (lv_at hl 0 rfl) ?_
    refine va_get (D := (dC, dI)) (ci := 7) (v := .ref (a 10)) (C := RX6) (T := TX6) (N := 20) hx hb hts hi_dm_X6_become_X6 hown hK hP 0 rfl rfl 11 (by decide) (hts (.fieldLink RX6 42 "TimeMachine$Machine" "things" "LTimeMachine$Things;") (List.mem_of_getElem? (i := 15) rfl)) (fun _ h9 => h9) rfl dX6_become_209 ?_
    refine lv_aload_n hx hb dX6_become_212 rfl (lv_at hl 1 rfl) ?_
    refine va_get (D := (dC, dI)) (ci := 7) (v := .ref (a 30)) (C := RX6) (T := TX6) (N := 20) hx hb hts hi_dm_X6_become_X6 hown hK hP 20 rfl rfl 11 (by decide) (hts (.fieldLink RX6 42 "TimeMachine$Machine" "things" "LTimeMachine$Things;") (List.mem_of_getElem? (i := 15) rfl)) (fun _ h9 => h9) rfl dX6_become_213 ?_
    obtain ⟨s21, hq, h⟩ := nd_b1_e h
    have hPc := dp_vX6m_X10m_0 hP
    have hDc := dd_vX6m_X10m_0 hD
    have hKc := dy_vX6m_X10m_0 hK
    have hFc := nd_rs hDc hS hA
    have hzA : ∀ q : Nat, H.size ≤ q → A q := fun q h => hA q (Nat.le_trans hS.1 h)
    refine nd_cVv (As := [.ref (a 30)]) (rest := []) (w' := dw_X10m (fun k => a (nd_ix [10, 11, 12, 13, 14, 15, 16, 17, 18, 19, 30, 31, 32, 33, 34, 35, 36, 37, 38, 39] k)) (fun k => ac (nd_ix [10, 11, 12, 13, 14, 15, 16, 17, 18, 19, 30, 31, 32, 33, 34, 35, 36, 37, 38, 39] k)) s21) ⟨hx, hb, hml, hown, hts⟩ (fun sz => dm_X10_become l hlt dC dI (fun k => a (nd_ix [10, 11, 12, 13, 14, 15, 16, 17, 18, 19, 30, 31, 32, 33, 34, 35, 36, 37, 38, 39] k)) (fun k => ac (nd_ix [10, 11, 12, 13, 14, 15, 16, 17, 18, 19, 30, 31, 32, 33, 34, 35, 36, 37, 38, 39] k)) n  (nd_st0, s19.2.1.2, s19.2.2.2) hq sz) (cwV 1 hts gi_dm_X6_become_0 rfl rfl rfl (by decide +kernel) ⟨Nat.le_of_ble_eq_true rfl, Nat.le_of_ble_eq_true rfl⟩) hPc hDc hKc hS hA hN (va_recv hKc hPc (ci := 11) (q0 := 0) rfl rfl) rfl hl.1 rfl (Nat.le_of_ble_eq_true rfl) dX6_become_216 (fun H locs hP1 hD1 hk1 hS => ?_)
    obtain ⟨hP, hD⟩ := dn_vX6m_X10m_0 hP hD hzA hk1 hP1 hD1
    obtain ⟨s23, es23, h⟩ := nd_let_e h
    have hP : va_P (dC, dI) vwCl (dw_X6m a ac s23) H := by rw [es23]; exact hP
    have hD : va_D A (dw_X6m a ac s23) := by rw [es23]; exact hD
    refine lv_aload_n hx hb dX6_become_219 rfl (lv_at hl 0 rfl) ?_
    refine lv_aload_n hx hb dX6_become_220 rfl (lv_at hl 1 rfl) ?_
    refine va_get (D := (dC, dI)) (ci := 7) (v := .int (sI s23.2.2.1 2)) (C := RX6) (T := TX6) (N := 20) hx hb hts hi_dm_X6_become_X6 hown hK hP 20 rfl rfl 12 (by decide) (hts (.fieldLink RX6 63 "TimeMachine$Machine" "waiting" "I") (List.mem_of_getElem? (i := 20) rfl)) (fun _ h9 => h9) rfl dX6_become_221 ?_
    refine va_put (D := (dC, dI)) (ci := 7) (v := .int (sI s23.2.2.1 2)) (ty := .int) (C := RX6) (T := TX6) (N := 20) hx hb hts hi_dm_X6_become_X6 tyX6 tyX6_ok nmX6 hown hK hP hD hS 0 rfl rfl 12 (by decide) (hts (.fieldLink RX6 63 "TimeMachine$Machine" "waiting" "I") (List.mem_of_getElem? (i := 20) rfl)) (fun _ h9 => h9) rfl (by decide +kernel) rfl rfl (Nat.le_of_ble_eq_true rfl) dX6_become_224 (fun H locs hP hD hS => ?_)
    obtain ⟨s24, es24, h⟩ := nd_let_e h
    have hP : va_P (dC, dI) vwCl (dw_X6m a ac s24) H := by rw [es24]; exact hP
    have hD : va_D A (dw_X6m a ac s24) := by rw [es24]; exact hD
    refine lv_aload_n hx hb dX6_become_227 rfl (lv_at hl 0 rfl) ?_
    refine lv_aload_n hx hb dX6_become_228 rfl (lv_at hl 1 rfl) ?_
    refine va_get (D := (dC, dI)) (ci := 7) (v := .int (sI s24.2.2.1 3)) (C := RX6) (T := TX6) (N := 20) hx hb hts hi_dm_X6_become_X6 hown hK hP 20 rfl rfl 13 (by decide) (hts (.fieldLink RX6 66 "TimeMachine$Machine" "current" "I") (List.mem_of_getElem? (i := 21) rfl)) (fun _ h9 => h9) rfl dX6_become_229 ?_
    refine va_put (D := (dC, dI)) (ci := 7) (v := .int (sI s24.2.2.1 3)) (ty := .int) (C := RX6) (T := TX6) (N := 20) hx hb hts hi_dm_X6_become_X6 tyX6 tyX6_ok nmX6 hown hK hP hD hS 0 rfl rfl 13 (by decide) (hts (.fieldLink RX6 66 "TimeMachine$Machine" "current" "I") (List.mem_of_getElem? (i := 21) rfl)) (fun _ h9 => h9) rfl (by decide +kernel) rfl rfl (Nat.le_of_ble_eq_true rfl) dX6_become_232 (fun H locs hP hD hS => ?_)
    obtain ⟨s25, es25, h⟩ := nd_let_e h
    have hP : va_P (dC, dI) vwCl (dw_X6m a ac s25) H := by rw [es25]; exact hP
    have hD : va_D A (dw_X6m a ac s25) := by rw [es25]; exact hD
    refine lv_aload_n hx hb dX6_become_235 rfl (lv_at hl 0 rfl) ?_
    refine lv_aload_n hx hb dX6_become_236 rfl (lv_at hl 1 rfl) ?_
    refine va_get (D := (dC, dI)) (ci := 7) (v := .int (sI s25.2.2.1 4)) (C := RX6) (T := TX6) (N := 20) hx hb hts hi_dm_X6_become_X6 hown hK hP 20 rfl rfl 14 (by decide) (hts (.fieldLink RX6 69 "TimeMachine$Machine" "last" "I") (List.mem_of_getElem? (i := 22) rfl)) (fun _ h9 => h9) rfl dX6_become_237 ?_
    refine va_put (D := (dC, dI)) (ci := 7) (v := .int (sI s25.2.2.1 4)) (ty := .int) (C := RX6) (T := TX6) (N := 20) hx hb hts hi_dm_X6_become_X6 tyX6 tyX6_ok nmX6 hown hK hP hD hS 0 rfl rfl 14 (by decide) (hts (.fieldLink RX6 69 "TimeMachine$Machine" "last" "I") (List.mem_of_getElem? (i := 22) rfl)) (fun _ h9 => h9) rfl (by decide +kernel) rfl rfl (Nat.le_of_ble_eq_true rfl) dX6_become_240 (fun H locs hP hD hS => ?_)
    obtain ⟨s26, es26, h⟩ := nd_let_e h
    have hP : va_P (dC, dI) vwCl (dw_X6m a ac s26) H := by rw [es26]; exact hP
    have hD : va_D A (dw_X6m a ac s26) := by rw [es26]; exact hD
    refine lv_aload_n hx hb dX6_become_243 rfl (lv_at hl 0 rfl) ?_
    refine lv_aload_n hx hb dX6_become_244 rfl (lv_at hl 1 rfl) ?_
    refine va_get (D := (dC, dI)) (ci := 7) (v := .int (sI s26.2.2.1 5)) (C := RX6) (T := TX6) (N := 20) hx hb hts hi_dm_X6_become_X6 hown hK hP 20 rfl rfl 15 (by decide) (hts (.fieldLink RX6 72 "TimeMachine$Machine" "ticked" "I") (List.mem_of_getElem? (i := 23) rfl)) (fun _ h9 => h9) rfl dX6_become_245 ?_
    refine va_put (D := (dC, dI)) (ci := 7) (v := .int (sI s26.2.2.1 5)) (ty := .int) (C := RX6) (T := TX6) (N := 20) hx hb hts hi_dm_X6_become_X6 tyX6 tyX6_ok nmX6 hown hK hP hD hS 0 rfl rfl 15 (by decide) (hts (.fieldLink RX6 72 "TimeMachine$Machine" "ticked" "I") (List.mem_of_getElem? (i := 23) rfl)) (fun _ h9 => h9) rfl (by decide +kernel) rfl rfl (Nat.le_of_ble_eq_true rfl) dX6_become_248 (fun H locs hP hD hS => ?_)
    obtain ⟨s27, es27, h⟩ := nd_let_e h
    have hP : va_P (dC, dI) vwCl (dw_X6m a ac s27) H := by rw [es27]; exact hP
    have hD : va_D A (dw_X6m a ac s27) := by rw [es27]; exact hD
    refine lv_aload_n hx hb dX6_become_251 rfl (lv_at hl 0 rfl) ?_
    refine lv_aload_n hx hb dX6_become_252 rfl (lv_at hl 1 rfl) ?_
    refine va_get (D := (dC, dI)) (ci := 7) (v := .int (sI s27.2.2.1 6)) (C := RX6) (T := TX6) (N := 20) hx hb hts hi_dm_X6_become_X6 hown hK hP 20 rfl rfl 16 (by decide) (hts (.fieldLink RX6 105 "TimeMachine$Machine" "reserved" "I") (List.mem_of_getElem? (i := 24) rfl)) (fun _ h9 => h9) rfl dX6_become_253 ?_
    refine va_put (D := (dC, dI)) (ci := 7) (v := .int (sI s27.2.2.1 6)) (ty := .int) (C := RX6) (T := TX6) (N := 20) hx hb hts hi_dm_X6_become_X6 tyX6 tyX6_ok nmX6 hown hK hP hD hS 0 rfl rfl 16 (by decide) (hts (.fieldLink RX6 105 "TimeMachine$Machine" "reserved" "I") (List.mem_of_getElem? (i := 24) rfl)) (fun _ h9 => h9) rfl (by decide +kernel) rfl rfl (Nat.le_of_ble_eq_true rfl) dX6_become_256 (fun H locs hP hD hS => ?_)
    obtain ⟨s28, es28, h⟩ := nd_let_e h
    have hP : va_P (dC, dI) vwCl (dw_X6m a ac s28) H := by rw [es28]; exact hP
    have hD : va_D A (dw_X6m a ac s28) := by rw [es28]; exact hD
    refine lv_aload_n hx hb dX6_become_259 rfl (lv_at hl 0 rfl) ?_
    refine lv_aload_n hx hb dX6_become_260 rfl (lv_at hl 1 rfl) ?_
    refine va_get (D := (dC, dI)) (ci := 7) (v := .long (sL s28.2.2.1 0)) (C := RX6) (T := TX6) (N := 20) hx hb hts hi_dm_X6_become_X6 hown hK hP 20 rfl rfl 17 (by decide) (hts (.fieldLink RX6 75 "TimeMachine$Machine" "clock" "J") (List.mem_of_getElem? (i := 25) rfl)) (fun _ h9 => h9) rfl dX6_become_261 ?_
    refine va_put (D := (dC, dI)) (ci := 7) (v := .long (sL s28.2.2.1 0)) (ty := .long) (C := RX6) (T := TX6) (N := 20) hx hb hts hi_dm_X6_become_X6 tyX6 tyX6_ok nmX6 hown hK hP hD hS 0 rfl rfl 17 (by decide) (hts (.fieldLink RX6 75 "TimeMachine$Machine" "clock" "J") (List.mem_of_getElem? (i := 25) rfl)) (fun _ h9 => h9) rfl (by decide +kernel) rfl rfl (Nat.le_of_ble_eq_true rfl) dX6_become_264 (fun H locs hP hD hS => ?_)
    obtain ⟨s29, es29, h⟩ := nd_let_e h
    have hP : va_P (dC, dI) vwCl (dw_X6m a ac s29) H := by rw [es29]; exact hP
    have hD : va_D A (dw_X6m a ac s29) := by rw [es29]; exact hD
    refine lv_aload_n hx hb dX6_become_267 rfl (lv_at hl 0 rfl) ?_
    refine lv_aload_n hx hb dX6_become_268 rfl (lv_at hl 1 rfl) ?_
    refine va_get (D := (dC, dI)) (ci := 7) (v := .long (sL s29.2.2.1 1)) (C := RX6) (T := TX6) (N := 20) hx hb hts hi_dm_X6_become_X6 hown hK hP 20 rfl rfl 18 (by decide) (hts (.fieldLink RX6 79 "TimeMachine$Machine" "retired" "J") (List.mem_of_getElem? (i := 26) rfl)) (fun _ h9 => h9) rfl dX6_become_269 ?_
    refine va_put (D := (dC, dI)) (ci := 7) (v := .long (sL s29.2.2.1 1)) (ty := .long) (C := RX6) (T := TX6) (N := 20) hx hb hts hi_dm_X6_become_X6 tyX6 tyX6_ok nmX6 hown hK hP hD hS 0 rfl rfl 18 (by decide) (hts (.fieldLink RX6 79 "TimeMachine$Machine" "retired" "J") (List.mem_of_getElem? (i := 26) rfl)) (fun _ h9 => h9) rfl (by decide +kernel) rfl rfl (Nat.le_of_ble_eq_true rfl) dX6_become_272 (fun H locs hP hD hS => ?_)
    obtain ⟨s30, es30, h⟩ := nd_let_e h
    have hP : va_P (dC, dI) vwCl (dw_X6m a ac s30) H := by rw [es30]; exact hP
    have hD : va_D A (dw_X6m a ac s30) := by rw [es30]; exact hD
    refine lv_aload_n hx hb dX6_become_275 rfl (lv_at hl 0 rfl) ?_
    refine lv_aload_n hx hb dX6_become_276 rfl (lv_at hl 1 rfl) ?_
    refine va_get (D := (dC, dI)) (ci := 7) (v := .int (sI s30.2.2.1 7)) (C := RX6) (T := TX6) (N := 20) hx hb hts hi_dm_X6_become_X6 hown hK hP 20 rfl rfl 19 (by decide) (hts (.fieldLink RX6 82 "TimeMachine$Machine" "written" "I") (List.mem_of_getElem? (i := 27) rfl)) (fun _ h9 => h9) rfl dX6_become_277 ?_
    refine va_put (D := (dC, dI)) (ci := 7) (v := .int (sI s30.2.2.1 7)) (ty := .int) (C := RX6) (T := TX6) (N := 20) hx hb hts hi_dm_X6_become_X6 tyX6 tyX6_ok nmX6 hown hK hP hD hS 0 rfl rfl 19 (by decide) (hts (.fieldLink RX6 82 "TimeMachine$Machine" "written" "I") (List.mem_of_getElem? (i := 27) rfl)) (fun _ h9 => h9) rfl (by decide +kernel) rfl rfl (Nat.le_of_ble_eq_true rfl) dX6_become_280 (fun H locs hP hD hS => ?_)
    obtain ⟨s31, es31, h⟩ := nd_let_e h
    have hP : va_P (dC, dI) vwCl (dw_X6m a ac s31) H := by rw [es31]; exact hP
    have hD : va_D A (dw_X6m a ac s31) := by rw [es31]; exact hD
    exact K _ _ _ _ _ dX6_become_283 (Option.some.inj h).symm hP hD hS
  · have h := nd_neg h c1
    refine lv_aload_n hx hb dX6_become_9 rfl (lv_at hl 1 rfl) ?_
    refine va_get (D := (dC, dI)) (ci := 7) (v := .ref (a 22)) (C := RX6) (T := TX6) (N := 20) hx hb hts hi_dm_X6_become_X6 hown hK hP 20 rfl rfl 1 (by decide) (hts (.fieldLink RX6 14 "TimeMachine$Machine" "users" "[I") (List.mem_of_getElem? (i := 1) rfl)) (fun _ h9 => h9) rfl dX6_become_10 ?_
    refine lv_iload_n hx hb dX6_become_13 rfl (lv_at hl 2 rfl) ?_
    obtain ⟨i32, h⟩ := nd_ck_e h
    refine va_iald (i := x2) hx hb hK hP 22 19 rfl rfl i32 dX6_become_14 ?_
    refine lv_if_le (tgt := 42) hx hb dX6_become_15 (by decide) (fun c33 => ?_) (fun c33 => ?_)
    · have h := nd_pos h c33
      exact (db_X6_become_42 C K J2) (x2) s0 _ _ _ h hP hD hS (lv_sub hl [0, 1, 2] rfl)
    · have h := nd_neg h c33
      refine lv_aload_n hx hb dX6_become_18 rfl (lv_at hl 1 rfl) ?_
      refine va_get (D := (dC, dI)) (ci := 7) (v := .ref (a 21)) (C := RX6) (T := TX6) (N := 20) hx hb hts hi_dm_X6_become_X6 hown hK hP 20 rfl rfl 0 (by decide) (hts (.fieldLink RX6 10 "TimeMachine$Machine" "word" "[I") (List.mem_of_getElem? (i := 28) rfl)) (fun _ h9 => h9) rfl dX6_become_19 ?_
      refine lv_iload_n hx hb dX6_become_22 rfl (lv_at hl 2 rfl) ?_
      refine lv_sipush (v := 256) hx hb dX6_become_23 (by decide) ?_
      refine lv_imul hx hb dX6_become_26 ?_
      refine lv_aload_n hx hb dX6_become_27 rfl (lv_at hl 0 rfl) ?_
      refine va_get (D := (dC, dI)) (ci := 7) (v := .ref (a 1)) (C := RX6) (T := TX6) (N := 20) hx hb hts hi_dm_X6_become_X6 hown hK hP 0 rfl rfl 0 (by decide) (hts (.fieldLink RX6 10 "TimeMachine$Machine" "word" "[I") (List.mem_of_getElem? (i := 28) rfl)) (fun _ h9 => h9) rfl dX6_become_28 ?_
      refine lv_iload_n hx hb dX6_become_31 rfl (lv_at hl 2 rfl) ?_
      refine lv_sipush (v := 256) hx hb dX6_become_32 (by decide) ?_
      refine lv_imul hx hb dX6_become_35 ?_
      refine lv_sipush (v := 256) hx hb dX6_become_36 (by decide) ?_
      obtain ⟨k35, h⟩ := nd_cp_e h
      refine va_copyi (sp := (x2 * 256)) (dp := (x2 * 256)) (n := 256) hx hb (by rw [hml]; exact hl.1.symm) hown (hts (.methodLink RX6 95 arraycopyName) (List.mem_of_getElem? (i := 2) rfl)) (hts (.native arraycopyName) (List.mem_of_getElem? (i := 3) rfl)) (hts (.static arraycopyName) (List.mem_of_getElem? (i := 4) rfl)) (hts (.initialized "java/lang/System") (List.mem_of_getElem? (i := 5) rfl)) hK hP hD hS 21 1 18 0 rfl rfl rfl rfl rfl k35.1 k35.2.1 k35.2.2.1 k35.2.2.2.1 k35.2.2.2.2 (fun _ _ => rfl) (Nat.le_of_ble_eq_true rfl) (by decide +kernel) dX6_become_39 (fun H locs hP hD hS => ?_)
      obtain ⟨s36, es36, h⟩ := nd_let_e h
      have hP : va_P (dC, dI) vwCl (dw_X6m a ac s36) H := by rw [es36]; exact hP
      have hD : va_D A (dw_X6m a ac s36) := by rw [es36]; exact hD
      exact (db_X6_become_42 C K J2) (x2) s36 _ _ _ h hP hD hS (lv_sub hl [0, 1, 2] rfl)
set_option maxHeartbeats 40000000 in
set_option maxRecDepth 100000 in
theorem db_X6_become_2 {p : Program} {l : Launch} {e : Env} {s : State} {m : MethodId} {args : Array Value} {below : List Frame} {meth : Method} {c : Code} {Q : State → Prop} {A : Nat → Prop} {dC : Nat → ClassId} {dI : Nat → Nat → Nat} {a : Nat → Nat} {ac : Nat → ClassId} {n : Nat} {r : St × (St × (St)) × (St × (St))} (C : nd_C p l s m args c A (dC, dI) cX6_become 3 RX6 ow_dm_X6_become (dk_X6m ac)) (K : nd_Kv p l e (headSpec ow_dm_X6_become ({ frames := 2, cells := 0, slots := 0, locals := 61 })).room s m args below meth c Q A (dC, dI) cX6_become (St × (St × (St)) × (St × (St))) (dw_X6m a ac) r) (k : Nat) : dj_X6_become_2 p l e s m args below meth c Q A dC dI a ac (df_X6_become_2 n k) r := by
  induction k with
  | zero => intro x2 s0 H locs ls h; exact nomatch (show (none : Option (St × (St × (St)) × (St × (St)))) = some r from h)
  | succ k ih => exact dB_X6_become_2 C K ih
set_option maxHeartbeats 40000000 in
set_option maxRecDepth 100000 in
theorem db_X6_become_0 {p : Program} {l : Launch} {e : Env} {s : State} {m : MethodId} {args : Array Value} {below : List Frame} {meth : Method} {c : Code} {Q : State → Prop} {A : Nat → Prop} {dC : Nat → ClassId} {dI : Nat → Nat → Nat} {a : Nat → Nat} {ac : Nat → ClassId} {n : Nat} {r : St × (St × (St)) × (St × (St))} (C : nd_C p l s m args c A (dC, dI) cX6_become 3 RX6 ow_dm_X6_become (dk_X6m ac)) (K : nd_Kv p l e (headSpec ow_dm_X6_become ({ frames := 2, cells := 0, slots := 0, locals := 61 })).room s m args below meth c Q A (dC, dI) cX6_become (St × (St × (St)) × (St × (St))) (dw_X6m a ac) r) : dj_X6_become_0 p l e s m args below meth c Q A dC dI a ac (df_X6_become_0 n) r := by
  obtain ⟨hlt, hx, hb, hml, hown, hts, hN, hA, hK⟩ := id C
  intro s0 H locs ls h hP hD hS hl
  unfold df_X6_become_0 at h
  refine lv_iconst (v := 0) hx hb dX6_become_0 (by decide) ?_
  refine lv_istore_n (lv' := [(2, .int 0), (0, .ref (a 0)), (1, .ref (a 20))]) hx hb dX6_become_1 rfl hl (by decide) rfl (fun ls hl => ?_)
  exact (db_X6_become_2 C K n) (0) s0 _ _ _ h hP hD hS (lv_sub hl [1, 2, 0] rfl)
set_option maxHeartbeats 40000000 in
set_option maxRecDepth 100000 in
theorem dm_X6_become (l : Launch) (hlt : l.stackTraces = false) (dC : Nat → ClassId) (dI : Nat → Nat → Nat) (a : Nat → Nat) (ac : Nat → ClassId) (n : Nat) (s0 : St × (St × (St)) × (St × (St))) {r : St × (St × (St)) × (St × (St))} (h : df_X6_become n s0 = some r) (sz : Nat) : Met l yX6_become ow_dm_X6_become ({ frames := 2, cells := 0, slots := 0, locals := 61 }) (va_Pc [.ref (a 0), .ref (a 20)] (fun U => U.heap.size = sz ∧ va_P (dC, dI) vwCl (dw_X6m a ac s0) U.heap ∧ va_K (dC, dI) vwCl (dk_X6m ac) U ∧ va_D (fun _ => True) (dw_X6m a ac s0) ∧ nv_E (va_A (dw_X6m a ac s0) sz) U)) (va_Qv (fun _ => True) (fun (_ : Unit) t => va_P (dC, dI) vwCl (dw_X6m a ac r) t.heap ∧ va_K (dC, dI) vwCl (dk_X6m ac) t ∧ va_D (va_A (dw_X6m a ac s0) sz) (dw_X6m a ac r)) (va_A (dw_X6m a ac s0) sz)) 0 0 (va_A (dw_X6m a ac s0) sz) := by
  refine Met.ofW (cc := cX6_become) (maxL := 3) (ret := none) (by decide) rfl ?_
  intro p e s m args below meth c s₁ B hml hv
  obtain ⟨rfl, hsz, hP, hK, hD0, hN⟩ := hv
  have hx := B.exec
  have hb := B.bytes
  have hr := B.returns
  have hts := atoms_spec (ws := ow_dm_X6_become) B.pre
  have hown : s.vm.findClass RX6 = some m.cls := findClass_of_methodNamed B.named
  have hlocks := B.notSynchronized
  subst hsz
  have hD := hD0.self (sz := s.heap.size)
  generalize hAe : va_A (dw_X6m a ac s0) s.heap.size = A at hD hN ⊢
  have hA : ∀ q : Nat, s.heap.size ≤ q → A q := fun q h => by rw [← hAe]; exact Or.inr h
  have hl := lv_entry ([.ref (a 0), .ref (a 20)]) (n := 3) (Nat.le_of_ble_eq_true rfl)
  rw [lg_entry_eq]
  generalize (lg_sl ([.ref (a 0), .ref (a 20)]) ++ List.replicate (3 - (lg_sl ([.ref (a 0), .ref (a 20)])).length) Slot.unset).toArray = ls at hl ⊢
  have hl : lv_has ls 3 [(0, .ref (a 0)), (1, .ref (a 20))] := hl
  exact db_X6_become_0 (dC := dC) (dI := dI) (a := a) (ac := ac) (n := n) (r := r) ⟨hlt, hx, hb, hml, hown, hts, hN, hA, hK⟩ (fun pc τ H locs ls d er hP hD hS => by subst er; exact W.vret hx hb hr (fun t ht hW => ⟨⟨(), rfl, trivial, by rw [ht]; exact hP, va_K.moved hW.alike hK, hD⟩, hS.F ht⟩) hS.2.2 d) s0 _ _ _ h hP hD va_S.rf (lv_sub hl [0, 1] rfl)
def ow_dm_X6_mayAll : List Cond := .code yX6_mayAll cX6_mayAll 5 (some .boolean) :: ([.methodLink RX6 108 yX6_may, .instanceMethod yX6_may, .selects RX6 yX6_may yX6_may, .initialized RX6] ++ (ow_dm_X6_may ++ []))
theorem gd_dm_X6_mayAll : ∀ w ∈ ow_dm_X6_mayAll, (w.onTables && w.keeps) = true ∨ ∃ ty, w = Cond.arrayClass ty := List.forall_mem_cons.mpr ⟨good_of_word rfl, List.forall_mem_append.mpr ⟨fun w h => good_of_word (List.all_eq_true.mp (by decide +kernel) w h), List.forall_mem_append.mpr ⟨gd_dm_X6_may, fun _ h => nomatch h⟩⟩⟩
theorem gi_dm_X6_mayAll_0 : GoodIn ow_dm_X6_mayAll (wsV RX6 108 RX6 yX6_may ow_dm_X6_may) := goodIn_app (goodIn_of _ (by decide +kernel)) (fun w h => ⟨List.mem_cons_of_mem _ (List.mem_append_right _ (List.mem_append_left _ h)), gd_dm_X6_may w h⟩)
def dj_X6_mayAll_35 (p : Program) (l : Launch) (e : Env) (s : State) (m : MethodId) (args : Array Value) (below : List Frame) (meth : Method) (c : Code) (Q : State → Prop) (A : Nat → Prop) (dC : Nat → ClassId) (dI : Nat → Nat → Nat) (a : Nat → Nat) (ac : Nat → ClassId) (g : Int32 → (St × (St)) → Option (Int32 × (St × (St)))) (r : Int32 × (St × (St))) : Prop := ∀ (y0 : Int32) (s0 : St × (St)) (H : Heap) (locs : List Loc) (ls : Array Slot), g y0 s0 = some r → va_P (dC, dI) vwCl (dw_X6 a ac s0) H → va_D A (dw_X6 a ac s0) → va_S A s.heap H locs → lv_has ls 5 [] → W p l e (headSpec ow_dm_X6_mayAll ({ frames := 1, cells := 0, slots := 0, locals := 23 })).room s m args below meth c H locs 0 0 Q (F0 m 35 ls [.int y0])
def dj_X6_mayAll_30 (p : Program) (l : Launch) (e : Env) (s : State) (m : MethodId) (args : Array Value) (below : List Frame) (meth : Method) (c : Code) (Q : State → Prop) (A : Nat → Prop) (dC : Nat → ClassId) (dI : Nat → Nat → Nat) (a : Nat → Nat) (ac : Nat → ClassId) (g : (St × (St)) → Option (Int32 × (St × (St)))) (r : Int32 × (St × (St))) : Prop := ∀ (s0 : St × (St)) (H : Heap) (locs : List Loc) (ls : Array Slot), g s0 = some r → va_P (dC, dI) vwCl (dw_X6 a ac s0) H → va_D A (dw_X6 a ac s0) → va_S A s.heap H locs → lv_has ls 5 [] → W p l e (headSpec ow_dm_X6_mayAll ({ frames := 1, cells := 0, slots := 0, locals := 23 })).room s m args below meth c H locs 0 0 Q (F0 m 30 ls [])
def dj_X6_mayAll_34 (p : Program) (l : Launch) (e : Env) (s : State) (m : MethodId) (args : Array Value) (below : List Frame) (meth : Method) (c : Code) (Q : State → Prop) (A : Nat → Prop) (dC : Nat → ClassId) (dI : Nat → Nat → Nat) (a : Nat → Nat) (ac : Nat → ClassId) (g : (St × (St)) → Option (Int32 × (St × (St)))) (r : Int32 × (St × (St))) : Prop := ∀ (s0 : St × (St)) (H : Heap) (locs : List Loc) (ls : Array Slot), g s0 = some r → va_P (dC, dI) vwCl (dw_X6 a ac s0) H → va_D A (dw_X6 a ac s0) → va_S A s.heap H locs → lv_has ls 5 [] → W p l e (headSpec ow_dm_X6_mayAll ({ frames := 1, cells := 0, slots := 0, locals := 23 })).room s m args below meth c H locs 0 0 Q (F0 m 34 ls [])
def dj_X6_mayAll_0 (p : Program) (l : Launch) (e : Env) (s : State) (m : MethodId) (args : Array Value) (below : List Frame) (meth : Method) (c : Code) (Q : State → Prop) (A : Nat → Prop) (dC : Nat → ClassId) (dI : Nat → Nat → Nat) (a : Nat → Nat) (ac : Nat → ClassId) (g : Int32 → Int32 → Int32 → Int32 → (St × (St)) → Option (Int32 × (St × (St)))) (r : Int32 × (St × (St))) : Prop := ∀ (v0 : Int32) (v1 : Int32) (v2 : Int32) (v3 : Int32) (s0 : St × (St)) (H : Heap) (locs : List Loc) (ls : Array Slot), g v0 v1 v2 v3 s0 = some r → va_P (dC, dI) vwCl (dw_X6 a ac s0) H → va_D A (dw_X6 a ac s0) → va_S A s.heap H locs → lv_has ls 5 [(0, .ref (a 0)), (1, .int v0), (2, .int v1), (3, .int v2), (4, .int v3)] → W p l e (headSpec ow_dm_X6_mayAll ({ frames := 1, cells := 0, slots := 0, locals := 23 })).room s m args below meth c H locs 0 0 Q (F0 m 0 ls [])
set_option maxHeartbeats 40000000 in
set_option maxRecDepth 100000 in
theorem db_X6_mayAll_35 {p : Program} {l : Launch} {e : Env} {s : State} {m : MethodId} {args : Array Value} {below : List Frame} {meth : Method} {c : Code} {Q : State → Prop} {A : Nat → Prop} {dC : Nat → ClassId} {dI : Nat → Nat → Nat} {a : Nat → Nat} {ac : Nat → ClassId} {n : Nat} {r : Int32 × (St × (St))} (C : nd_C p l s m args c A (dC, dI) cX6_mayAll 5 RX6 ow_dm_X6_mayAll (dk_X6 ac)) (K : nd_Ki p l e (headSpec ow_dm_X6_mayAll ({ frames := 1, cells := 0, slots := 0, locals := 23 })).room s m args below meth c Q A (dC, dI) cX6_mayAll .boolean (St × (St)) (dw_X6 a ac) r) : dj_X6_mayAll_35 p l e s m args below meth c Q A dC dI a ac (df_X6_mayAll_35 n) r := by
  obtain ⟨hlt, hx, hb, hml, hown, hts, hN, hA, hK⟩ := id C
  intro y0 s0 H locs ls h hP hD hS hl
  unfold df_X6_mayAll_35 at h
  obtain ⟨n2, h⟩ := nd_z_e ⟨_, rfl⟩ h
  exact K _ _ _ _ _ _ dX6_mayAll_35 n2 (Option.some.inj h).symm hP hD hS
set_option maxHeartbeats 40000000 in
set_option maxRecDepth 100000 in
theorem db_X6_mayAll_30 {p : Program} {l : Launch} {e : Env} {s : State} {m : MethodId} {args : Array Value} {below : List Frame} {meth : Method} {c : Code} {Q : State → Prop} {A : Nat → Prop} {dC : Nat → ClassId} {dI : Nat → Nat → Nat} {a : Nat → Nat} {ac : Nat → ClassId} {n : Nat} {r : Int32 × (St × (St))} (C : nd_C p l s m args c A (dC, dI) cX6_mayAll 5 RX6 ow_dm_X6_mayAll (dk_X6 ac)) (K : nd_Ki p l e (headSpec ow_dm_X6_mayAll ({ frames := 1, cells := 0, slots := 0, locals := 23 })).room s m args below meth c Q A (dC, dI) cX6_mayAll .boolean (St × (St)) (dw_X6 a ac) r) : dj_X6_mayAll_30 p l e s m args below meth c Q A dC dI a ac (df_X6_mayAll_30 n) r := by
  obtain ⟨hlt, hx, hb, hml, hown, hts, hN, hA, hK⟩ := id C
  intro s0 H locs ls h hP hD hS hl
  unfold df_X6_mayAll_30 at h
  refine lv_iconst (v := 1) hx hb dX6_mayAll_30 (by decide) ?_
  refine lv_goto (tgt := 35) hx hb dX6_mayAll_31 (by decide) ?_
  exact (db_X6_mayAll_35 C K) (1) s0 _ _ _ h hP hD hS (lv_sub hl [] rfl)
set_option maxHeartbeats 40000000 in
set_option maxRecDepth 100000 in
theorem db_X6_mayAll_34 {p : Program} {l : Launch} {e : Env} {s : State} {m : MethodId} {args : Array Value} {below : List Frame} {meth : Method} {c : Code} {Q : State → Prop} {A : Nat → Prop} {dC : Nat → ClassId} {dI : Nat → Nat → Nat} {a : Nat → Nat} {ac : Nat → ClassId} {n : Nat} {r : Int32 × (St × (St))} (C : nd_C p l s m args c A (dC, dI) cX6_mayAll 5 RX6 ow_dm_X6_mayAll (dk_X6 ac)) (K : nd_Ki p l e (headSpec ow_dm_X6_mayAll ({ frames := 1, cells := 0, slots := 0, locals := 23 })).room s m args below meth c Q A (dC, dI) cX6_mayAll .boolean (St × (St)) (dw_X6 a ac) r) : dj_X6_mayAll_34 p l e s m args below meth c Q A dC dI a ac (df_X6_mayAll_34 n) r := by
  obtain ⟨hlt, hx, hb, hml, hown, hts, hN, hA, hK⟩ := id C
  intro s0 H locs ls h hP hD hS hl
  unfold df_X6_mayAll_34 at h
  refine lv_iconst (v := 0) hx hb dX6_mayAll_34 (by decide) ?_
  exact (db_X6_mayAll_35 C K) (0) s0 _ _ _ h hP hD hS (lv_sub hl [] rfl)
set_option maxHeartbeats 40000000 in
set_option maxRecDepth 100000 in
theorem db_X6_mayAll_0 {p : Program} {l : Launch} {e : Env} {s : State} {m : MethodId} {args : Array Value} {below : List Frame} {meth : Method} {c : Code} {Q : State → Prop} {A : Nat → Prop} {dC : Nat → ClassId} {dI : Nat → Nat → Nat} {a : Nat → Nat} {ac : Nat → ClassId} {n : Nat} {r : Int32 × (St × (St))} (C : nd_C p l s m args c A (dC, dI) cX6_mayAll 5 RX6 ow_dm_X6_mayAll (dk_X6 ac)) (K : nd_Ki p l e (headSpec ow_dm_X6_mayAll ({ frames := 1, cells := 0, slots := 0, locals := 23 })).room s m args below meth c Q A (dC, dI) cX6_mayAll .boolean (St × (St)) (dw_X6 a ac) r) : dj_X6_mayAll_0 p l e s m args below meth c Q A dC dI a ac (df_X6_mayAll_0 n) r := by
  obtain ⟨hlt, hx, hb, hml, hown, hts, hN, hA, hK⟩ := id C
  intro v0 v1 v2 v3 s0 H locs ls h hP hD hS hl
  unfold df_X6_mayAll_0 at h
  refine lv_iload_n hx hb dX6_mayAll_0 rfl (lv_at hl 3 rfl) ?_
  refine lv_if_le (tgt := 30) hx hb dX6_mayAll_1 (by decide) (fun c1 => ?_) (fun c1 => ?_)
  · have h := nd_pos h c1
    exact (db_X6_mayAll_30 C K)  s0 _ _ _ h hP hD hS (lv_sub hl [] rfl)
  · have h := nd_neg h c1
    refine lv_aload_n hx hb dX6_mayAll_4 rfl (lv_at hl 0 rfl) ?_
    refine lv_iload_n hx hb dX6_mayAll_5 rfl (lv_at hl 1 rfl) ?_
    refine lv_iload_n hx hb dX6_mayAll_6 rfl (lv_at hl 2 rfl) ?_
    refine lv_iload hx hb dX6_mayAll_7 (lv_at hl 4 rfl) ?_
    obtain ⟨q3, s4, hq, h⟩ := nd_b2_e h
    have hPc := hP
    have hDc := hD
    have hKc := hK
    have hFc := nd_rs hD hS hA
    refine nd_cVi (As := [.int v0, .int v1, .int v3]) (rest := []) (q := q3) (w' := dw_X6 a ac s4) ⟨hx, hb, hml, hown, hts⟩ (fun sz => dm_X6_may l hlt dC dI a ac n (v0) (v1) (v3) s0 hq sz) (cwV 3 hts gi_dm_X6_mayAll_0 rfl rfl rfl (by decide +kernel) ⟨Nat.le_of_ble_eq_true rfl, Nat.le_of_ble_eq_true rfl⟩) hPc hDc hKc hS hA hN (va_recv hKc hPc (ci := 7) (q0 := 0) rfl rfl) rfl hl.1 rfl (Nat.le_of_ble_eq_true rfl) dX6_mayAll_9 (fun H locs hP1 hD1 hk1 hS => ?_)
    have hP := hP1
    have hD := hD1.weaken (fun k q _ h => hFc q.1 h)
    refine lv_if_eq (tgt := 34) hx hb dX6_mayAll_12 (by decide) (fun c6 => ?_) (fun c6 => ?_)
    · have h := nd_pos h c6
      exact (db_X6_mayAll_34 C K)  s4 _ _ _ h hP hD hS (lv_sub hl [] rfl)
    · have h := nd_neg h c6
      refine lv_aload_n hx hb dX6_mayAll_15 rfl (lv_at hl 0 rfl) ?_
      refine lv_iload_n hx hb dX6_mayAll_16 rfl (lv_at hl 1 rfl) ?_
      refine lv_iload_n hx hb dX6_mayAll_17 rfl (lv_at hl 2 rfl) ?_
      refine lv_iload_n hx hb dX6_mayAll_18 rfl (lv_at hl 3 rfl) ?_
      refine lv_iadd hx hb dX6_mayAll_19 ?_
      refine lv_iconst (v := 1) hx hb dX6_mayAll_20 (by decide) ?_
      refine lv_isub hx hb dX6_mayAll_21 ?_
      refine lv_iload hx hb dX6_mayAll_22 (lv_at hl 4 rfl) ?_
      obtain ⟨q7, s8, hq, h⟩ := nd_b2_e h
      have hPc := hP
      have hDc := hD
      have hKc := hK
      have hFc := nd_rs hD hS hA
      refine nd_cVi (As := [.int v0, .int ((v1 + v2) - 1), .int v3]) (rest := []) (q := q7) (w' := dw_X6 a ac s8) ⟨hx, hb, hml, hown, hts⟩ (fun sz => dm_X6_may l hlt dC dI a ac n (v0) (((v1 + v2) - 1)) (v3) s4 hq sz) (cwV 3 hts gi_dm_X6_mayAll_0 rfl rfl rfl (by decide +kernel) ⟨Nat.le_of_ble_eq_true rfl, Nat.le_of_ble_eq_true rfl⟩) hPc hDc hKc hS hA hN (va_recv hKc hPc (ci := 7) (q0 := 0) rfl rfl) rfl hl.1 rfl (Nat.le_of_ble_eq_true rfl) dX6_mayAll_24 (fun H locs hP1 hD1 hk1 hS => ?_)
      have hP := hP1
      have hD := hD1.weaken (fun k q _ h => hFc q.1 h)
      refine lv_if_eq (tgt := 34) hx hb dX6_mayAll_27 (by decide) (fun c10 => ?_) (fun c10 => ?_)
      · have h := nd_pos h c10
        exact (db_X6_mayAll_34 C K)  s8 _ _ _ h hP hD hS (lv_sub hl [] rfl)
      · have h := nd_neg h c10
        exact (db_X6_mayAll_30 C K)  s8 _ _ _ h hP hD hS (lv_sub hl [] rfl)
set_option maxHeartbeats 40000000 in
set_option maxRecDepth 100000 in
theorem dm_X6_mayAll (l : Launch) (hlt : l.stackTraces = false) (dC : Nat → ClassId) (dI : Nat → Nat → Nat) (a : Nat → Nat) (ac : Nat → ClassId) (n : Nat) (v0 : Int32) (v1 : Int32) (v2 : Int32) (v3 : Int32) (s0 : St × (St)) {r : Int32 × (St × (St))} (h : df_X6_mayAll n v0 v1 v2 v3 s0 = some r) (sz : Nat) : Met l yX6_mayAll ow_dm_X6_mayAll ({ frames := 1, cells := 0, slots := 0, locals := 23 }) (va_Pc [.ref (a 0), .int v0, .int v1, .int v2, .int v3] (fun U => U.heap.size = sz ∧ va_P (dC, dI) vwCl (dw_X6 a ac s0) U.heap ∧ va_K (dC, dI) vwCl (dk_X6 ac) U ∧ va_D (fun _ => True) (dw_X6 a ac s0) ∧ nv_E (va_A (dw_X6 a ac s0) sz) U)) (va_Qi (fun x _ => x = r.1) (fun (_ : Unit) t => va_P (dC, dI) vwCl (dw_X6 a ac r.2) t.heap ∧ va_K (dC, dI) vwCl (dk_X6 ac) t ∧ va_D (va_A (dw_X6 a ac s0) sz) (dw_X6 a ac r.2)) (va_A (dw_X6 a ac s0) sz)) 0 0 (va_A (dw_X6 a ac s0) sz) := by
  refine Met.ofW (cc := cX6_mayAll) (maxL := 5) (ret := (some .boolean)) (by decide) rfl ?_
  intro p e s m args below meth c s₁ B hml hv
  obtain ⟨rfl, hsz, hP, hK, hD0, hN⟩ := hv
  have hx := B.exec
  have hb := B.bytes
  have hr := B.returns
  have hts := atoms_spec (ws := ow_dm_X6_mayAll) B.pre
  have hown : s.vm.findClass RX6 = some m.cls := findClass_of_methodNamed B.named
  have hlocks := B.notSynchronized
  subst hsz
  have hD := hD0.self (sz := s.heap.size)
  generalize hAe : va_A (dw_X6 a ac s0) s.heap.size = A at hD hN ⊢
  have hA : ∀ q : Nat, s.heap.size ≤ q → A q := fun q h => by rw [← hAe]; exact Or.inr h
  have hl := lv_entry ([.ref (a 0), .int v0, .int v1, .int v2, .int v3]) (n := 5) (Nat.le_of_ble_eq_true rfl)
  rw [lg_entry_eq]
  generalize (lg_sl ([.ref (a 0), .int v0, .int v1, .int v2, .int v3]) ++ List.replicate (5 - (lg_sl ([.ref (a 0), .int v0, .int v1, .int v2, .int v3])).length) Slot.unset).toArray = ls at hl ⊢
  have hl : lv_has ls 5 [(0, .ref (a 0)), (1, .int v0), (2, .int v1), (3, .int v2), (4, .int v3)] := hl
  exact db_X6_mayAll_0 (dC := dC) (dI := dI) (a := a) (ac := ac) (n := n) (r := r) ⟨hlt, hx, hb, hml, hown, hts, hN, hA, hK⟩ (fun pc v τ H locs ls d z er hP hD hS => by subst er; exact W.zret (v := v) hx hb hr z (fun t ht hW => ⟨⟨v, (), rfl, rfl, by rw [ht]; exact hP, va_K.moved hW.alike hK, hD⟩, hS.F ht⟩) hS.2.2 d) v0 v1 v2 v3 s0 _ _ _ h hP hD va_S.rf (lv_sub hl [0, 1, 2, 3, 4] rfl)
def ow_dm_X6_framesFree : List Cond := .code yX6_framesFree cX6_framesFree 1 (some .int) :: ([.fieldLink RX6 52 "TimeMachine$Machine" "framesUsed" "I"] ++ (u_ws RX6 TX6 20 ++ []))
theorem gd_dm_X6_framesFree : ∀ w ∈ ow_dm_X6_framesFree, (w.onTables && w.keeps) = true ∨ ∃ ty, w = Cond.arrayClass ty := List.forall_mem_cons.mpr ⟨good_of_word rfl, List.forall_mem_append.mpr ⟨fun w h => good_of_word (List.all_eq_true.mp (by decide +kernel) w h), List.forall_mem_append.mpr ⟨gu_X6, fun _ h => nomatch h⟩⟩⟩
theorem hi_dm_X6_framesFree_X6 : ∀ w ∈ u_ws RX6 TX6 20, w ∈ ow_dm_X6_framesFree := fun w h => List.mem_cons_of_mem _ (List.mem_append_right _ (List.mem_append_left _ h))
def dj_X6_framesFree_0 (p : Program) (l : Launch) (e : Env) (s : State) (m : MethodId) (args : Array Value) (below : List Frame) (meth : Method) (c : Code) (Q : State → Prop) (A : Nat → Prop) (dC : Nat → ClassId) (dI : Nat → Nat → Nat) (a : Nat → Nat) (ac : Nat → ClassId) (g : (St × (St)) → Option (Int32 × (St × (St)))) (r : Int32 × (St × (St))) : Prop := ∀ (s0 : St × (St)) (H : Heap) (locs : List Loc) (ls : Array Slot), g s0 = some r → va_P (dC, dI) vwCl (dw_X6 a ac s0) H → va_D A (dw_X6 a ac s0) → va_S A s.heap H locs → lv_has ls 1 [(0, .ref (a 0))] → W p l e (headSpec ow_dm_X6_framesFree ({ frames := 0, cells := 0, slots := 0, locals := 0 })).room s m args below meth c H locs 0 0 Q (F0 m 0 ls [])
set_option maxHeartbeats 40000000 in
set_option maxRecDepth 100000 in
theorem db_X6_framesFree_0 {p : Program} {l : Launch} {e : Env} {s : State} {m : MethodId} {args : Array Value} {below : List Frame} {meth : Method} {c : Code} {Q : State → Prop} {A : Nat → Prop} {dC : Nat → ClassId} {dI : Nat → Nat → Nat} {a : Nat → Nat} {ac : Nat → ClassId} {n : Nat} {r : Int32 × (St × (St))} (C : nd_C p l s m args c A (dC, dI) cX6_framesFree 1 RX6 ow_dm_X6_framesFree (dk_X6 ac)) (K : nd_Ki p l e (headSpec ow_dm_X6_framesFree ({ frames := 0, cells := 0, slots := 0, locals := 0 })).room s m args below meth c Q A (dC, dI) cX6_framesFree .int (St × (St)) (dw_X6 a ac) r) : dj_X6_framesFree_0 p l e s m args below meth c Q A dC dI a ac (df_X6_framesFree_0 n) r := by
  obtain ⟨hlt, hx, hb, hml, hown, hts, hN, hA, hK⟩ := id C
  intro s0 H locs ls h hP hD hS hl
  unfold df_X6_framesFree_0 at h
  refine lv_sipush (v := 256) hx hb dX6_framesFree_0 (by decide) ?_
  refine lv_aload_n hx hb dX6_framesFree_3 rfl (lv_at hl 0 rfl) ?_
  refine va_get (D := (dC, dI)) (ci := 7) (v := .int (sI s0.1 0)) (C := RX6) (T := TX6) (N := 20) hx hb hts hi_dm_X6_framesFree_X6 hown hK hP 0 rfl rfl 3 (by decide) (hts (.fieldLink RX6 52 "TimeMachine$Machine" "framesUsed" "I") (List.mem_of_getElem? (i := 1) rfl)) (fun _ h9 => h9) rfl dX6_framesFree_4 ?_
  refine lv_isub hx hb dX6_framesFree_7 ?_
  exact K _ _ _ _ _ _ dX6_framesFree_8 rfl (Option.some.inj h).symm hP hD hS
set_option maxHeartbeats 40000000 in
set_option maxRecDepth 100000 in
theorem dm_X6_framesFree (l : Launch) (hlt : l.stackTraces = false) (dC : Nat → ClassId) (dI : Nat → Nat → Nat) (a : Nat → Nat) (ac : Nat → ClassId) (n : Nat) (s0 : St × (St)) {r : Int32 × (St × (St))} (h : df_X6_framesFree n s0 = some r) (sz : Nat) : Met l yX6_framesFree ow_dm_X6_framesFree ({ frames := 0, cells := 0, slots := 0, locals := 0 }) (va_Pc [.ref (a 0)] (fun U => U.heap.size = sz ∧ va_P (dC, dI) vwCl (dw_X6 a ac s0) U.heap ∧ va_K (dC, dI) vwCl (dk_X6 ac) U ∧ va_D (fun _ => True) (dw_X6 a ac s0) ∧ nv_E (va_A (dw_X6 a ac s0) sz) U)) (va_Qi (fun x _ => x = r.1) (fun (_ : Unit) t => va_P (dC, dI) vwCl (dw_X6 a ac r.2) t.heap ∧ va_K (dC, dI) vwCl (dk_X6 ac) t ∧ va_D (va_A (dw_X6 a ac s0) sz) (dw_X6 a ac r.2)) (va_A (dw_X6 a ac s0) sz)) 0 0 (va_A (dw_X6 a ac s0) sz) := by
  refine Met.ofW (cc := cX6_framesFree) (maxL := 1) (ret := (some .int)) (by decide) rfl ?_
  intro p e s m args below meth c s₁ B hml hv
  obtain ⟨rfl, hsz, hP, hK, hD0, hN⟩ := hv
  have hx := B.exec
  have hb := B.bytes
  have hr := B.returns
  have hts := atoms_spec (ws := ow_dm_X6_framesFree) B.pre
  have hown : s.vm.findClass RX6 = some m.cls := findClass_of_methodNamed B.named
  have hlocks := B.notSynchronized
  subst hsz
  have hD := hD0.self (sz := s.heap.size)
  generalize hAe : va_A (dw_X6 a ac s0) s.heap.size = A at hD hN ⊢
  have hA : ∀ q : Nat, s.heap.size ≤ q → A q := fun q h => by rw [← hAe]; exact Or.inr h
  have hl := lv_entry ([.ref (a 0)]) (n := 1) (Nat.le_of_ble_eq_true rfl)
  rw [lg_entry_eq]
  generalize (lg_sl ([.ref (a 0)]) ++ List.replicate (1 - (lg_sl ([.ref (a 0)])).length) Slot.unset).toArray = ls at hl ⊢
  have hl : lv_has ls 1 [(0, .ref (a 0))] := hl
  exact db_X6_framesFree_0 (dC := dC) (dI := dI) (a := a) (ac := ac) (n := n) (r := r) ⟨hlt, hx, hb, hml, hown, hts, hN, hA, hK⟩ (fun pc v τ H locs ls d z er hP hD hS => by subst er; exact W.zret (v := v) hx hb hr z (fun t ht hW => ⟨⟨v, (), rfl, rfl, by rw [ht]; exact hP, va_K.moved hW.alike hK, hD⟩, hS.F ht⟩) hS.2.2 d) s0 _ _ _ h hP hD va_S.rf (lv_sub hl [0] rfl)
def ow_dm_X6_framesFor : List Cond := .code yX6_framesFor cX6_framesFor 7 (some .int) :: ([.fieldLink RX6 14 "TimeMachine$Machine" "users" "[I", .fieldLink RX6 17 "TimeMachine$Machine" "page" "[I"] ++ (u_ws RX6 TX6 20 ++ []))
theorem gd_dm_X6_framesFor : ∀ w ∈ ow_dm_X6_framesFor, (w.onTables && w.keeps) = true ∨ ∃ ty, w = Cond.arrayClass ty := List.forall_mem_cons.mpr ⟨good_of_word rfl, List.forall_mem_append.mpr ⟨fun w h => good_of_word (List.all_eq_true.mp (by decide +kernel) w h), List.forall_mem_append.mpr ⟨gu_X6, fun _ h => nomatch h⟩⟩⟩
theorem hi_dm_X6_framesFor_X6 : ∀ w ∈ u_ws RX6 TX6 20, w ∈ ow_dm_X6_framesFor := fun w h => List.mem_cons_of_mem _ (List.mem_append_right _ (List.mem_append_left _ h))
def dj_X6_framesFor_97 (p : Program) (l : Launch) (e : Env) (s : State) (m : MethodId) (args : Array Value) (below : List Frame) (meth : Method) (c : Code) (Q : State → Prop) (A : Nat → Prop) (dC : Nat → ClassId) (dI : Nat → Nat → Nat) (a : Nat → Nat) (ac : Nat → ClassId) (g : Int32 → (St × (St)) → Option (Int32 × (St × (St)))) (r : Int32 × (St × (St))) : Prop := ∀ (y0 : Int32) (s0 : St × (St)) (H : Heap) (locs : List Loc) (ls : Array Slot), g y0 s0 = some r → va_P (dC, dI) vwCl (dw_X6 a ac s0) H → va_D A (dw_X6 a ac s0) → va_S A s.heap H locs → lv_has ls 7 [] → W p l e (headSpec ow_dm_X6_framesFor ({ frames := 0, cells := 0, slots := 0, locals := 0 })).room s m args below meth c H locs 0 0 Q (F0 m 97 ls [.int y0])
def dj_X6_framesFor_95 (p : Program) (l : Launch) (e : Env) (s : State) (m : MethodId) (args : Array Value) (below : List Frame) (meth : Method) (c : Code) (Q : State → Prop) (A : Nat → Prop) (dC : Nat → ClassId) (dI : Nat → Nat → Nat) (a : Nat → Nat) (ac : Nat → ClassId) (g : Int32 → (St × (St)) → Option (Int32 × (St × (St)))) (r : Int32 × (St × (St))) : Prop := ∀ (x6 : Int32) (s0 : St × (St)) (H : Heap) (locs : List Loc) (ls : Array Slot), g x6 s0 = some r → va_P (dC, dI) vwCl (dw_X6 a ac s0) H → va_D A (dw_X6 a ac s0) → va_S A s.heap H locs → lv_has ls 7 [(6, .int x6)] → W p l e (headSpec ow_dm_X6_framesFor ({ frames := 0, cells := 0, slots := 0, locals := 0 })).room s m args below meth c H locs 0 0 Q (F0 m 95 ls [])
def dj_X6_framesFor_61 (p : Program) (l : Launch) (e : Env) (s : State) (m : MethodId) (args : Array Value) (below : List Frame) (meth : Method) (c : Code) (Q : State → Prop) (A : Nat → Prop) (dC : Nat → ClassId) (dI : Nat → Nat → Nat) (a : Nat → Nat) (ac : Nat → ClassId) (g : Int32 → Int32 → Int32 → (St × (St)) → Option (Int32 × (St × (St)))) (r : Int32 × (St × (St))) : Prop := ∀ (x4 : Int32) (x5 : Int32) (y0 : Int32) (s0 : St × (St)) (H : Heap) (locs : List Loc) (ls : Array Slot), g x4 x5 y0 s0 = some r → va_P (dC, dI) vwCl (dw_X6 a ac s0) H → va_D A (dw_X6 a ac s0) → va_S A s.heap H locs → lv_has ls 7 [(0, .ref (a 0)), (4, .int x4), (5, .int x5)] → W p l e (headSpec ow_dm_X6_framesFor ({ frames := 0, cells := 0, slots := 0, locals := 0 })).room s m args below meth c H locs 0 0 Q (F0 m 61 ls [.int y0])
def dj_X6_framesFor_0 (p : Program) (l : Launch) (e : Env) (s : State) (m : MethodId) (args : Array Value) (below : List Frame) (meth : Method) (c : Code) (Q : State → Prop) (A : Nat → Prop) (dC : Nat → ClassId) (dI : Nat → Nat → Nat) (a : Nat → Nat) (ac : Nat → ClassId) (g : Int32 → Int32 → Int32 → (St × (St)) → Option (Int32 × (St × (St)))) (r : Int32 × (St × (St))) : Prop := ∀ (v0 : Int32) (v1 : Int32) (v2 : Int32) (s0 : St × (St)) (H : Heap) (locs : List Loc) (ls : Array Slot), g v0 v1 v2 s0 = some r → va_P (dC, dI) vwCl (dw_X6 a ac s0) H → va_D A (dw_X6 a ac s0) → va_S A s.heap H locs → lv_has ls 7 [(0, .ref (a 0)), (1, .int v0), (2, .int v1), (3, .int v2)] → W p l e (headSpec ow_dm_X6_framesFor ({ frames := 0, cells := 0, slots := 0, locals := 0 })).room s m args below meth c H locs 0 0 Q (F0 m 0 ls [])
set_option maxHeartbeats 40000000 in
set_option maxRecDepth 100000 in
theorem db_X6_framesFor_97 {p : Program} {l : Launch} {e : Env} {s : State} {m : MethodId} {args : Array Value} {below : List Frame} {meth : Method} {c : Code} {Q : State → Prop} {A : Nat → Prop} {dC : Nat → ClassId} {dI : Nat → Nat → Nat} {a : Nat → Nat} {ac : Nat → ClassId} {n : Nat} {r : Int32 × (St × (St))} (C : nd_C p l s m args c A (dC, dI) cX6_framesFor 7 RX6 ow_dm_X6_framesFor (dk_X6 ac)) (K : nd_Ki p l e (headSpec ow_dm_X6_framesFor ({ frames := 0, cells := 0, slots := 0, locals := 0 })).room s m args below meth c Q A (dC, dI) cX6_framesFor .int (St × (St)) (dw_X6 a ac) r) : dj_X6_framesFor_97 p l e s m args below meth c Q A dC dI a ac (df_X6_framesFor_97 n) r := by
  obtain ⟨hlt, hx, hb, hml, hown, hts, hN, hA, hK⟩ := id C
  intro y0 s0 H locs ls h hP hD hS hl
  unfold df_X6_framesFor_97 at h
  exact K _ _ _ _ _ _ dX6_framesFor_97 rfl (Option.some.inj h).symm hP hD hS
set_option maxHeartbeats 40000000 in
set_option maxRecDepth 100000 in
theorem db_X6_framesFor_95 {p : Program} {l : Launch} {e : Env} {s : State} {m : MethodId} {args : Array Value} {below : List Frame} {meth : Method} {c : Code} {Q : State → Prop} {A : Nat → Prop} {dC : Nat → ClassId} {dI : Nat → Nat → Nat} {a : Nat → Nat} {ac : Nat → ClassId} {n : Nat} {r : Int32 × (St × (St))} (C : nd_C p l s m args c A (dC, dI) cX6_framesFor 7 RX6 ow_dm_X6_framesFor (dk_X6 ac)) (K : nd_Ki p l e (headSpec ow_dm_X6_framesFor ({ frames := 0, cells := 0, slots := 0, locals := 0 })).room s m args below meth c Q A (dC, dI) cX6_framesFor .int (St × (St)) (dw_X6 a ac) r) : dj_X6_framesFor_95 p l e s m args below meth c Q A dC dI a ac (df_X6_framesFor_95 n) r := by
  obtain ⟨hlt, hx, hb, hml, hown, hts, hN, hA, hK⟩ := id C
  intro x6 s0 H locs ls h hP hD hS hl
  unfold df_X6_framesFor_95 at h
  refine lv_iload hx hb dX6_framesFor_95 (lv_at hl 0 rfl) ?_
  exact (db_X6_framesFor_97 C K) (x6) s0 _ _ _ h hP hD hS (lv_sub hl [] rfl)
set_option maxHeartbeats 40000000 in
set_option maxRecDepth 100000 in
theorem db_X6_framesFor_61 {p : Program} {l : Launch} {e : Env} {s : State} {m : MethodId} {args : Array Value} {below : List Frame} {meth : Method} {c : Code} {Q : State → Prop} {A : Nat → Prop} {dC : Nat → ClassId} {dI : Nat → Nat → Nat} {a : Nat → Nat} {ac : Nat → ClassId} {n : Nat} {r : Int32 × (St × (St))} (C : nd_C p l s m args c A (dC, dI) cX6_framesFor 7 RX6 ow_dm_X6_framesFor (dk_X6 ac)) (K : nd_Ki p l e (headSpec ow_dm_X6_framesFor ({ frames := 0, cells := 0, slots := 0, locals := 0 })).room s m args below meth c Q A (dC, dI) cX6_framesFor .int (St × (St)) (dw_X6 a ac) r) : dj_X6_framesFor_61 p l e s m args below meth c Q A dC dI a ac (df_X6_framesFor_61 n) r := by
  obtain ⟨hlt, hx, hb, hml, hown, hts, hN, hA, hK⟩ := id C
  intro x4 x5 y0 s0 H locs ls h hP hD hS hl
  unfold df_X6_framesFor_61 at h
  refine lv_istore (lv' := [(6, .int y0), (0, .ref (a 0)), (4, .int x4), (5, .int x5)]) hx hb dX6_framesFor_61 hl (by decide) rfl (fun ls hl => ?_)
  refine lv_iload hx hb dX6_framesFor_63 (lv_at hl 3 rfl) ?_
  refine lv_iload hx hb dX6_framesFor_65 (lv_at hl 2 rfl) ?_
  refine lv_icmp_eq (tgt := 95) hx hb dX6_framesFor_67 (by decide) (fun c7 => ?_) (fun c7 => ?_)
  · have h := nd_pos h c7
    exact (db_X6_framesFor_95 C K) (y0) s0 _ _ _ h hP hD hS (lv_sub hl [0] rfl)
  · have h := nd_neg h c7
    refine lv_aload_n hx hb dX6_framesFor_70 rfl (lv_at hl 1 rfl) ?_
    refine va_get (D := (dC, dI)) (ci := 7) (v := .ref (a 2)) (C := RX6) (T := TX6) (N := 20) hx hb hts hi_dm_X6_framesFor_X6 hown hK hP 0 rfl rfl 1 (by decide) (hts (.fieldLink RX6 14 "TimeMachine$Machine" "users" "[I") (List.mem_of_getElem? (i := 1) rfl)) (fun _ h9 => h9) rfl dX6_framesFor_71 ?_
    refine lv_aload_n hx hb dX6_framesFor_74 rfl (lv_at hl 1 rfl) ?_
    refine va_get (D := (dC, dI)) (ci := 7) (v := .ref (a 3)) (C := RX6) (T := TX6) (N := 20) hx hb hts hi_dm_X6_framesFor_X6 hown hK hP 0 rfl rfl 2 (by decide) (hts (.fieldLink RX6 17 "TimeMachine$Machine" "page" "[I") (List.mem_of_getElem? (i := 2) rfl)) (fun _ h9 => h9) rfl dX6_framesFor_75 ?_
    refine lv_iload hx hb dX6_framesFor_78 (lv_at hl 3 rfl) ?_
    obtain ⟨i8, h⟩ := nd_ck_e h
    refine va_iald (i := x5) hx hb hK hP 3 2 rfl rfl i8 dX6_framesFor_80 ?_
    refine lv_iconst (v := 3) hx hb dX6_framesFor_81 (by decide) ?_
    refine lv_ishr hx hb dX6_framesFor_82 ?_
    obtain ⟨i9, h⟩ := nd_ck_e h
    refine va_iald (i := (((sR s0.1 2 (Int32.toNatClampNeg x5)) : Int32) >>> ((3 : Int32) &&& 31))) hx hb hK hP 2 1 rfl rfl i9 dX6_framesFor_83 ?_
    refine lv_iconst (v := 1) hx hb dX6_framesFor_84 (by decide) ?_
    refine lv_icmp_le (tgt := 95) hx hb dX6_framesFor_85 (by decide) (fun c10 => ?_) (fun c10 => ?_)
    · have h := nd_pos h c10
      exact (db_X6_framesFor_95 C K) (y0) s0 _ _ _ h hP hD hS (lv_sub hl [0] rfl)
    · have h := nd_neg h c10
      refine lv_iload hx hb dX6_framesFor_88 (lv_at hl 0 rfl) ?_
      refine lv_iconst (v := 1) hx hb dX6_framesFor_90 (by decide) ?_
      refine lv_iadd hx hb dX6_framesFor_91 ?_
      refine lv_goto (tgt := 97) hx hb dX6_framesFor_92 (by decide) ?_
      exact (db_X6_framesFor_97 C K) ((y0 + 1)) s0 _ _ _ h hP hD hS (lv_sub hl [] rfl)
set_option maxHeartbeats 40000000 in
set_option maxRecDepth 100000 in
theorem db_X6_framesFor_0 {p : Program} {l : Launch} {e : Env} {s : State} {m : MethodId} {args : Array Value} {below : List Frame} {meth : Method} {c : Code} {Q : State → Prop} {A : Nat → Prop} {dC : Nat → ClassId} {dI : Nat → Nat → Nat} {a : Nat → Nat} {ac : Nat → ClassId} {n : Nat} {r : Int32 × (St × (St))} (C : nd_C p l s m args c A (dC, dI) cX6_framesFor 7 RX6 ow_dm_X6_framesFor (dk_X6 ac)) (K : nd_Ki p l e (headSpec ow_dm_X6_framesFor ({ frames := 0, cells := 0, slots := 0, locals := 0 })).room s m args below meth c Q A (dC, dI) cX6_framesFor .int (St × (St)) (dw_X6 a ac) r) : dj_X6_framesFor_0 p l e s m args below meth c Q A dC dI a ac (df_X6_framesFor_0 n) r := by
  obtain ⟨hlt, hx, hb, hml, hown, hts, hN, hA, hK⟩ := id C
  intro v0 v1 v2 s0 H locs ls h hP hD hS hl
  unfold df_X6_framesFor_0 at h
  refine lv_iload_n hx hb dX6_framesFor_0 rfl (lv_at hl 3 rfl) ?_
  refine lv_if_gt (tgt := 6) hx hb dX6_framesFor_1 (by decide) (fun c1 => ?_) (fun c1 => ?_)
  · have h := nd_pos h c1
    refine lv_iload_n hx hb dX6_framesFor_6 rfl (lv_at hl 1 rfl) ?_
    refine lv_bipush (v := 6) hx hb dX6_framesFor_7 (by decide) ?_
    refine lv_ishl hx hb dX6_framesFor_9 ?_
    refine lv_iload_n hx hb dX6_framesFor_10 rfl (lv_at hl 2 rfl) ?_
    refine lv_bipush (v := 10) hx hb dX6_framesFor_11 (by decide) ?_
    refine lv_iushr hx hb dX6_framesFor_13 rfl ?_
    refine lv_bipush (v := 63) hx hb dX6_framesFor_14 (by decide) ?_
    refine lv_iand hx hb dX6_framesFor_16 ?_
    refine lv_ior hx hb dX6_framesFor_17 ?_
    refine lv_topi (fun z2 ez2 => ?_)
    have h := nd_at h ez2
    refine lv_istore (lv' := [(4, .int z2), (0, .ref (a 0)), (1, .int v0), (2, .int v1), (3, .int v2)]) hx hb dX6_framesFor_18 hl (by decide) rfl (fun ls hl => ?_)
    refine lv_iload_n hx hb dX6_framesFor_20 rfl (lv_at hl 2 rfl) ?_
    refine lv_bipush (v := 6) hx hb dX6_framesFor_21 (by decide) ?_
    refine lv_ishl hx hb dX6_framesFor_23 ?_
    refine lv_iload_n hx hb dX6_framesFor_24 rfl (lv_at hl 3 rfl) ?_
    refine lv_iload_n hx hb dX6_framesFor_25 rfl (lv_at hl 4 rfl) ?_
    refine lv_iadd hx hb dX6_framesFor_26 ?_
    refine lv_iconst (v := 1) hx hb dX6_framesFor_27 (by decide) ?_
    refine lv_isub hx hb dX6_framesFor_28 ?_
    refine lv_bipush (v := 10) hx hb dX6_framesFor_29 (by decide) ?_
    refine lv_iushr hx hb dX6_framesFor_31 rfl ?_
    refine lv_bipush (v := 63) hx hb dX6_framesFor_32 (by decide) ?_
    refine lv_iand hx hb dX6_framesFor_34 ?_
    refine lv_ior hx hb dX6_framesFor_35 ?_
    refine lv_topi (fun z3 ez3 => ?_)
    have h := nd_at h ez3
    refine lv_istore (lv' := [(5, .int z3), (4, .int z2), (0, .ref (a 0)), (1, .int v0), (2, .int v1), (3, .int v2)]) hx hb dX6_framesFor_36 hl (by decide) rfl (fun ls hl => ?_)
    refine lv_aload_n hx hb dX6_framesFor_38 rfl (lv_at hl 2 rfl) ?_
    refine va_get (D := (dC, dI)) (ci := 7) (v := .ref (a 2)) (C := RX6) (T := TX6) (N := 20) hx hb hts hi_dm_X6_framesFor_X6 hown hK hP 0 rfl rfl 1 (by decide) (hts (.fieldLink RX6 14 "TimeMachine$Machine" "users" "[I") (List.mem_of_getElem? (i := 1) rfl)) (fun _ h9 => h9) rfl dX6_framesFor_39 ?_
    refine lv_aload_n hx hb dX6_framesFor_42 rfl (lv_at hl 2 rfl) ?_
    refine va_get (D := (dC, dI)) (ci := 7) (v := .ref (a 3)) (C := RX6) (T := TX6) (N := 20) hx hb hts hi_dm_X6_framesFor_X6 hown hK hP 0 rfl rfl 2 (by decide) (hts (.fieldLink RX6 17 "TimeMachine$Machine" "page" "[I") (List.mem_of_getElem? (i := 2) rfl)) (fun _ h9 => h9) rfl dX6_framesFor_43 ?_
    refine lv_iload hx hb dX6_framesFor_46 (lv_at hl 1 rfl) ?_
    obtain ⟨i4, h⟩ := nd_ck_e h
    refine va_iald (i := z2) hx hb hK hP 3 2 rfl rfl i4 dX6_framesFor_48 ?_
    refine lv_iconst (v := 3) hx hb dX6_framesFor_49 (by decide) ?_
    refine lv_ishr hx hb dX6_framesFor_50 ?_
    obtain ⟨i5, h⟩ := nd_ck_e h
    refine va_iald (i := (((sR s0.1 2 (Int32.toNatClampNeg z2)) : Int32) >>> ((3 : Int32) &&& 31))) hx hb hK hP 2 1 rfl rfl i5 dX6_framesFor_51 ?_
    refine lv_iconst (v := 1) hx hb dX6_framesFor_52 (by decide) ?_
    refine lv_icmp_le (tgt := 60) hx hb dX6_framesFor_53 (by decide) (fun c6 => ?_) (fun c6 => ?_)
    · have h := nd_pos h c6
      refine lv_iconst (v := 0) hx hb dX6_framesFor_60 (by decide) ?_
      exact (db_X6_framesFor_61 C K) (z2) (z3) (0) s0 _ _ _ h hP hD hS (lv_sub hl [2, 1, 0] rfl)
    · have h := nd_neg h c6
      refine lv_iconst (v := 1) hx hb dX6_framesFor_56 (by decide) ?_
      refine lv_goto (tgt := 61) hx hb dX6_framesFor_57 (by decide) ?_
      exact (db_X6_framesFor_61 C K) (z2) (z3) (1) s0 _ _ _ h hP hD hS (lv_sub hl [2, 1, 0] rfl)
  · have h := nd_neg h c1
    refine lv_iconst (v := 0) hx hb dX6_framesFor_4 (by decide) ?_
    exact K _ _ _ _ _ _ dX6_framesFor_5 rfl (Option.some.inj h).symm hP hD hS
set_option maxHeartbeats 40000000 in
set_option maxRecDepth 100000 in
theorem dm_X6_framesFor (l : Launch) (hlt : l.stackTraces = false) (dC : Nat → ClassId) (dI : Nat → Nat → Nat) (a : Nat → Nat) (ac : Nat → ClassId) (n : Nat) (v0 : Int32) (v1 : Int32) (v2 : Int32) (s0 : St × (St)) {r : Int32 × (St × (St))} (h : df_X6_framesFor n v0 v1 v2 s0 = some r) (sz : Nat) : Met l yX6_framesFor ow_dm_X6_framesFor ({ frames := 0, cells := 0, slots := 0, locals := 0 }) (va_Pc [.ref (a 0), .int v0, .int v1, .int v2] (fun U => U.heap.size = sz ∧ va_P (dC, dI) vwCl (dw_X6 a ac s0) U.heap ∧ va_K (dC, dI) vwCl (dk_X6 ac) U ∧ va_D (fun _ => True) (dw_X6 a ac s0) ∧ nv_E (va_A (dw_X6 a ac s0) sz) U)) (va_Qi (fun x _ => x = r.1) (fun (_ : Unit) t => va_P (dC, dI) vwCl (dw_X6 a ac r.2) t.heap ∧ va_K (dC, dI) vwCl (dk_X6 ac) t ∧ va_D (va_A (dw_X6 a ac s0) sz) (dw_X6 a ac r.2)) (va_A (dw_X6 a ac s0) sz)) 0 0 (va_A (dw_X6 a ac s0) sz) := by
  refine Met.ofW (cc := cX6_framesFor) (maxL := 7) (ret := (some .int)) (by decide) rfl ?_
  intro p e s m args below meth c s₁ B hml hv
  obtain ⟨rfl, hsz, hP, hK, hD0, hN⟩ := hv
  have hx := B.exec
  have hb := B.bytes
  have hr := B.returns
  have hts := atoms_spec (ws := ow_dm_X6_framesFor) B.pre
  have hown : s.vm.findClass RX6 = some m.cls := findClass_of_methodNamed B.named
  have hlocks := B.notSynchronized
  subst hsz
  have hD := hD0.self (sz := s.heap.size)
  generalize hAe : va_A (dw_X6 a ac s0) s.heap.size = A at hD hN ⊢
  have hA : ∀ q : Nat, s.heap.size ≤ q → A q := fun q h => by rw [← hAe]; exact Or.inr h
  have hl := lv_entry ([.ref (a 0), .int v0, .int v1, .int v2]) (n := 7) (Nat.le_of_ble_eq_true rfl)
  rw [lg_entry_eq]
  generalize (lg_sl ([.ref (a 0), .int v0, .int v1, .int v2]) ++ List.replicate (7 - (lg_sl ([.ref (a 0), .int v0, .int v1, .int v2])).length) Slot.unset).toArray = ls at hl ⊢
  have hl : lv_has ls 7 [(0, .ref (a 0)), (1, .int v0), (2, .int v1), (3, .int v2)] := hl
  exact db_X6_framesFor_0 (dC := dC) (dI := dI) (a := a) (ac := ac) (n := n) (r := r) ⟨hlt, hx, hb, hml, hown, hts, hN, hA, hK⟩ (fun pc v τ H locs ls d z er hP hD hS => by subst er; exact W.zret (v := v) hx hb hr z (fun t ht hW => ⟨⟨v, (), rfl, rfl, by rw [ht]; exact hP, va_K.moved hW.alike hK, hD⟩, hS.F ht⟩) hS.2.2 d) v0 v1 v2 s0 _ _ _ h hP hD va_S.rf (lv_sub hl [0, 1, 2, 3] rfl)
def ow_dm_X6_dropPage : List Cond := .code yX6_dropPage cX6_dropPage 4 none :: ([.fieldLink RX6 17 "TimeMachine$Machine" "page" "[I", .fieldLink RX6 14 "TimeMachine$Machine" "users" "[I", .fieldLink RX6 52 "TimeMachine$Machine" "framesUsed" "I"] ++ (u_ws RX6 TX6 20 ++ []))
theorem gd_dm_X6_dropPage : ∀ w ∈ ow_dm_X6_dropPage, (w.onTables && w.keeps) = true ∨ ∃ ty, w = Cond.arrayClass ty := List.forall_mem_cons.mpr ⟨good_of_word rfl, List.forall_mem_append.mpr ⟨fun w h => good_of_word (List.all_eq_true.mp (by decide +kernel) w h), List.forall_mem_append.mpr ⟨gu_X6, fun _ h => nomatch h⟩⟩⟩
theorem hi_dm_X6_dropPage_X6 : ∀ w ∈ u_ws RX6 TX6 20, w ∈ ow_dm_X6_dropPage := fun w h => List.mem_cons_of_mem _ (List.mem_append_right _ (List.mem_append_left _ h))
def dj_X6_dropPage_67 (p : Program) (l : Launch) (e : Env) (s : State) (m : MethodId) (args : Array Value) (below : List Frame) (meth : Method) (c : Code) (Q : State → Prop) (A : Nat → Prop) (dC : Nat → ClassId) (dI : Nat → Nat → Nat) (a : Nat → Nat) (ac : Nat → ClassId) (g : (St × (St)) → Option (St × (St))) (r : St × (St)) : Prop := ∀ (s0 : St × (St)) (H : Heap) (locs : List Loc) (ls : Array Slot), g s0 = some r → va_P (dC, dI) vwCl (dw_X6 a ac s0) H → va_D A (dw_X6 a ac s0) → va_S A s.heap H locs → lv_has ls 4 [] → W p l e (headSpec ow_dm_X6_dropPage ({ frames := 0, cells := 0, slots := 0, locals := 0 })).room s m args below meth c H locs 0 0 Q (F0 m 67 ls [])
def dj_X6_dropPage_0 (p : Program) (l : Launch) (e : Env) (s : State) (m : MethodId) (args : Array Value) (below : List Frame) (meth : Method) (c : Code) (Q : State → Prop) (A : Nat → Prop) (dC : Nat → ClassId) (dI : Nat → Nat → Nat) (a : Nat → Nat) (ac : Nat → ClassId) (g : Int32 → Int32 → (St × (St)) → Option (St × (St))) (r : St × (St)) : Prop := ∀ (v0 : Int32) (v1 : Int32) (s0 : St × (St)) (H : Heap) (locs : List Loc) (ls : Array Slot), g v0 v1 s0 = some r → va_P (dC, dI) vwCl (dw_X6 a ac s0) H → va_D A (dw_X6 a ac s0) → va_S A s.heap H locs → lv_has ls 4 [(0, .ref (a 0)), (1, .int v0), (2, .int v1)] → W p l e (headSpec ow_dm_X6_dropPage ({ frames := 0, cells := 0, slots := 0, locals := 0 })).room s m args below meth c H locs 0 0 Q (F0 m 0 ls [])
set_option maxHeartbeats 40000000 in
set_option maxRecDepth 100000 in
theorem db_X6_dropPage_67 {p : Program} {l : Launch} {e : Env} {s : State} {m : MethodId} {args : Array Value} {below : List Frame} {meth : Method} {c : Code} {Q : State → Prop} {A : Nat → Prop} {dC : Nat → ClassId} {dI : Nat → Nat → Nat} {a : Nat → Nat} {ac : Nat → ClassId} {n : Nat} {r : St × (St)} (C : nd_C p l s m args c A (dC, dI) cX6_dropPage 4 RX6 ow_dm_X6_dropPage (dk_X6 ac)) (K : nd_Kv p l e (headSpec ow_dm_X6_dropPage ({ frames := 0, cells := 0, slots := 0, locals := 0 })).room s m args below meth c Q A (dC, dI) cX6_dropPage (St × (St)) (dw_X6 a ac) r) : dj_X6_dropPage_67 p l e s m args below meth c Q A dC dI a ac (df_X6_dropPage_67 n) r := by
  obtain ⟨hlt, hx, hb, hml, hown, hts, hN, hA, hK⟩ := id C
  intro s0 H locs ls h hP hD hS hl
  unfold df_X6_dropPage_67 at h
  exact K _ _ _ _ _ dX6_dropPage_67 (Option.some.inj h).symm hP hD hS
set_option maxHeartbeats 40000000 in
set_option maxRecDepth 100000 in
theorem db_X6_dropPage_0 {p : Program} {l : Launch} {e : Env} {s : State} {m : MethodId} {args : Array Value} {below : List Frame} {meth : Method} {c : Code} {Q : State → Prop} {A : Nat → Prop} {dC : Nat → ClassId} {dI : Nat → Nat → Nat} {a : Nat → Nat} {ac : Nat → ClassId} {n : Nat} {r : St × (St)} (C : nd_C p l s m args c A (dC, dI) cX6_dropPage 4 RX6 ow_dm_X6_dropPage (dk_X6 ac)) (K : nd_Kv p l e (headSpec ow_dm_X6_dropPage ({ frames := 0, cells := 0, slots := 0, locals := 0 })).room s m args below meth c Q A (dC, dI) cX6_dropPage (St × (St)) (dw_X6 a ac) r) : dj_X6_dropPage_0 p l e s m args below meth c Q A dC dI a ac (df_X6_dropPage_0 n) r := by
  obtain ⟨hlt, hx, hb, hml, hown, hts, hN, hA, hK⟩ := id C
  intro v0 v1 s0 H locs ls h hP hD hS hl
  unfold df_X6_dropPage_0 at h
  refine lv_aload_n hx hb dX6_dropPage_0 rfl (lv_at hl 0 rfl) ?_
  refine va_get (D := (dC, dI)) (ci := 7) (v := .ref (a 3)) (C := RX6) (T := TX6) (N := 20) hx hb hts hi_dm_X6_dropPage_X6 hown hK hP 0 rfl rfl 2 (by decide) (hts (.fieldLink RX6 17 "TimeMachine$Machine" "page" "[I") (List.mem_of_getElem? (i := 1) rfl)) (fun _ h9 => h9) rfl dX6_dropPage_1 ?_
  refine lv_iload_n hx hb dX6_dropPage_4 rfl (lv_at hl 1 rfl) ?_
  refine lv_bipush (v := 6) hx hb dX6_dropPage_5 (by decide) ?_
  refine lv_ishl hx hb dX6_dropPage_7 ?_
  refine lv_iload_n hx hb dX6_dropPage_8 rfl (lv_at hl 2 rfl) ?_
  refine lv_bipush (v := 63) hx hb dX6_dropPage_9 (by decide) ?_
  refine lv_iand hx hb dX6_dropPage_11 ?_
  refine lv_ior hx hb dX6_dropPage_12 ?_
  obtain ⟨i1, h⟩ := nd_ck_e h
  refine va_iald (i := (((v0 : Int32) <<< ((6 : Int32) &&& 31)) ||| (v1 &&& 63))) hx hb hK hP 3 2 rfl rfl i1 dX6_dropPage_13 ?_
  refine lv_topi (fun z2 ez2 => ?_)
  have h := nd_at h ez2
  refine lv_istore_n (lv' := [(3, .int z2), (0, .ref (a 0)), (1, .int v0), (2, .int v1)]) hx hb dX6_dropPage_14 rfl hl (by decide) rfl (fun ls hl => ?_)
  refine lv_iload_n hx hb dX6_dropPage_15 rfl (lv_at hl 0 rfl) ?_
  refine lv_if_eq (tgt := 67) hx hb dX6_dropPage_16 (by decide) (fun c3 => ?_) (fun c3 => ?_)
  · have h := nd_pos h c3
    exact (db_X6_dropPage_67 C K)  s0 _ _ _ h hP hD hS (lv_sub hl [] rfl)
  · have h := nd_neg h c3
    refine lv_aload_n hx hb dX6_dropPage_19 rfl (lv_at hl 1 rfl) ?_
    refine va_get (D := (dC, dI)) (ci := 7) (v := .ref (a 3)) (C := RX6) (T := TX6) (N := 20) hx hb hts hi_dm_X6_dropPage_X6 hown hK hP 0 rfl rfl 2 (by decide) (hts (.fieldLink RX6 17 "TimeMachine$Machine" "page" "[I") (List.mem_of_getElem? (i := 1) rfl)) (fun _ h9 => h9) rfl dX6_dropPage_20 ?_
    refine lv_iload_n hx hb dX6_dropPage_23 rfl (lv_at hl 2 rfl) ?_
    refine lv_bipush (v := 6) hx hb dX6_dropPage_24 (by decide) ?_
    refine lv_ishl hx hb dX6_dropPage_26 ?_
    refine lv_iload_n hx hb dX6_dropPage_27 rfl (lv_at hl 3 rfl) ?_
    refine lv_bipush (v := 63) hx hb dX6_dropPage_28 (by decide) ?_
    refine lv_iand hx hb dX6_dropPage_30 ?_
    refine lv_ior hx hb dX6_dropPage_31 ?_
    refine lv_iconst (v := 0) hx hb dX6_dropPage_32 (by decide) ?_
    obtain ⟨i4, h⟩ := nd_ck_e h
    refine va_iast (i := (((v0 : Int32) <<< ((6 : Int32) &&& 31)) ||| (v1 &&& 63))) (x := 0) hx hb hK hP hD hS 3 2 rfl rfl i4 dX6_dropPage_33 (fun H locs hP hD hS => ?_)
    obtain ⟨s5, es5, h⟩ := nd_let_e h
    have hP : va_P (dC, dI) vwCl (dw_X6 a ac s5) H := by rw [es5]; exact hP
    have hD : va_D A (dw_X6 a ac s5) := by rw [es5]; exact hD
    refine lv_aload_n hx hb dX6_dropPage_34 rfl (lv_at hl 1 rfl) ?_
    refine va_get (D := (dC, dI)) (ci := 7) (v := .ref (a 2)) (C := RX6) (T := TX6) (N := 20) hx hb hts hi_dm_X6_dropPage_X6 hown hK hP 0 rfl rfl 1 (by decide) (hts (.fieldLink RX6 14 "TimeMachine$Machine" "users" "[I") (List.mem_of_getElem? (i := 2) rfl)) (fun _ h9 => h9) rfl dX6_dropPage_35 ?_
    refine lv_iload_n hx hb dX6_dropPage_38 rfl (lv_at hl 0 rfl) ?_
    refine lv_iconst (v := 3) hx hb dX6_dropPage_39 (by decide) ?_
    refine lv_ishr hx hb dX6_dropPage_40 ?_
    refine lv_dup2_11 hx hb dX6_dropPage_41 rfl rfl ?_
    obtain ⟨i6, h⟩ := nd_ck_e h
    refine va_iald (i := ((z2 : Int32) >>> ((3 : Int32) &&& 31))) hx hb hK hP 2 1 rfl rfl i6 dX6_dropPage_42 ?_
    refine lv_iconst (v := 1) hx hb dX6_dropPage_43 (by decide) ?_
    refine lv_isub hx hb dX6_dropPage_44 ?_
    obtain ⟨i7, h⟩ := nd_ck_e h
    refine va_iast (i := ((z2 : Int32) >>> ((3 : Int32) &&& 31))) (x := ((sR s5.1 1 (Int32.toNatClampNeg ((z2 : Int32) >>> ((3 : Int32) &&& 31)))) - 1)) hx hb hK hP hD hS 2 1 rfl rfl i7 dX6_dropPage_45 (fun H locs hP hD hS => ?_)
    obtain ⟨s8, es8, h⟩ := nd_let_e h
    have hP : va_P (dC, dI) vwCl (dw_X6 a ac s8) H := by rw [es8]; exact hP
    have hD : va_D A (dw_X6 a ac s8) := by rw [es8]; exact hD
    refine lv_aload_n hx hb dX6_dropPage_46 rfl (lv_at hl 1 rfl) ?_
    refine va_get (D := (dC, dI)) (ci := 7) (v := .ref (a 2)) (C := RX6) (T := TX6) (N := 20) hx hb hts hi_dm_X6_dropPage_X6 hown hK hP 0 rfl rfl 1 (by decide) (hts (.fieldLink RX6 14 "TimeMachine$Machine" "users" "[I") (List.mem_of_getElem? (i := 2) rfl)) (fun _ h9 => h9) rfl dX6_dropPage_47 ?_
    refine lv_iload_n hx hb dX6_dropPage_50 rfl (lv_at hl 0 rfl) ?_
    refine lv_iconst (v := 3) hx hb dX6_dropPage_51 (by decide) ?_
    refine lv_ishr hx hb dX6_dropPage_52 ?_
    obtain ⟨i9, h⟩ := nd_ck_e h
    refine va_iald (i := ((z2 : Int32) >>> ((3 : Int32) &&& 31))) hx hb hK hP 2 1 rfl rfl i9 dX6_dropPage_53 ?_
    refine lv_if_ne (tgt := 67) hx hb dX6_dropPage_54 (by decide) (fun c10 => ?_) (fun c10 => ?_)
    · have h := nd_neg h c10
      exact (db_X6_dropPage_67 C K)  s8 _ _ _ h hP hD hS (lv_sub hl [] rfl)
    · have h := nd_pos h c10
      refine lv_aload_n hx hb dX6_dropPage_57 rfl (lv_at hl 1 rfl) ?_
      refine lv_dup hx hb dX6_dropPage_58 rfl ?_
      refine va_get (D := (dC, dI)) (ci := 7) (v := .int (sI s8.1 0)) (C := RX6) (T := TX6) (N := 20) hx hb hts hi_dm_X6_dropPage_X6 hown hK hP 0 rfl rfl 3 (by decide) (hts (.fieldLink RX6 52 "TimeMachine$Machine" "framesUsed" "I") (List.mem_of_getElem? (i := 3) rfl)) (fun _ h9 => h9) rfl dX6_dropPage_59 ?_
      refine lv_iconst (v := 1) hx hb dX6_dropPage_62 (by decide) ?_
      refine lv_isub hx hb dX6_dropPage_63 ?_
      refine va_put (D := (dC, dI)) (ci := 7) (v := .int ((sI s8.1 0) - 1)) (ty := .int) (C := RX6) (T := TX6) (N := 20) hx hb hts hi_dm_X6_dropPage_X6 tyX6 tyX6_ok nmX6 hown hK hP hD hS 0 rfl rfl 3 (by decide) (hts (.fieldLink RX6 52 "TimeMachine$Machine" "framesUsed" "I") (List.mem_of_getElem? (i := 3) rfl)) (fun _ h9 => h9) rfl (by decide +kernel) rfl rfl (Nat.le_of_ble_eq_true rfl) dX6_dropPage_64 (fun H locs hP hD hS => ?_)
      obtain ⟨s11, es11, h⟩ := nd_let_e h
      have hP : va_P (dC, dI) vwCl (dw_X6 a ac s11) H := by rw [es11]; exact hP
      have hD : va_D A (dw_X6 a ac s11) := by rw [es11]; exact hD
      exact (db_X6_dropPage_67 C K)  s11 _ _ _ h hP hD hS (lv_sub hl [] rfl)
set_option maxHeartbeats 40000000 in
set_option maxRecDepth 100000 in
theorem dm_X6_dropPage (l : Launch) (hlt : l.stackTraces = false) (dC : Nat → ClassId) (dI : Nat → Nat → Nat) (a : Nat → Nat) (ac : Nat → ClassId) (n : Nat) (v0 : Int32) (v1 : Int32) (s0 : St × (St)) {r : St × (St)} (h : df_X6_dropPage n v0 v1 s0 = some r) (sz : Nat) : Met l yX6_dropPage ow_dm_X6_dropPage ({ frames := 0, cells := 0, slots := 0, locals := 0 }) (va_Pc [.ref (a 0), .int v0, .int v1] (fun U => U.heap.size = sz ∧ va_P (dC, dI) vwCl (dw_X6 a ac s0) U.heap ∧ va_K (dC, dI) vwCl (dk_X6 ac) U ∧ va_D (fun _ => True) (dw_X6 a ac s0) ∧ nv_E (va_A (dw_X6 a ac s0) sz) U)) (va_Qv (fun _ => True) (fun (_ : Unit) t => va_P (dC, dI) vwCl (dw_X6 a ac r) t.heap ∧ va_K (dC, dI) vwCl (dk_X6 ac) t ∧ va_D (va_A (dw_X6 a ac s0) sz) (dw_X6 a ac r)) (va_A (dw_X6 a ac s0) sz)) 0 0 (va_A (dw_X6 a ac s0) sz) := by
  refine Met.ofW (cc := cX6_dropPage) (maxL := 4) (ret := none) (by decide) rfl ?_
  intro p e s m args below meth c s₁ B hml hv
  obtain ⟨rfl, hsz, hP, hK, hD0, hN⟩ := hv
  have hx := B.exec
  have hb := B.bytes
  have hr := B.returns
  have hts := atoms_spec (ws := ow_dm_X6_dropPage) B.pre
  have hown : s.vm.findClass RX6 = some m.cls := findClass_of_methodNamed B.named
  have hlocks := B.notSynchronized
  subst hsz
  have hD := hD0.self (sz := s.heap.size)
  generalize hAe : va_A (dw_X6 a ac s0) s.heap.size = A at hD hN ⊢
  have hA : ∀ q : Nat, s.heap.size ≤ q → A q := fun q h => by rw [← hAe]; exact Or.inr h
  have hl := lv_entry ([.ref (a 0), .int v0, .int v1]) (n := 4) (Nat.le_of_ble_eq_true rfl)
  rw [lg_entry_eq]
  generalize (lg_sl ([.ref (a 0), .int v0, .int v1]) ++ List.replicate (4 - (lg_sl ([.ref (a 0), .int v0, .int v1])).length) Slot.unset).toArray = ls at hl ⊢
  have hl : lv_has ls 4 [(0, .ref (a 0)), (1, .int v0), (2, .int v1)] := hl
  exact db_X6_dropPage_0 (dC := dC) (dI := dI) (a := a) (ac := ac) (n := n) (r := r) ⟨hlt, hx, hb, hml, hown, hts, hN, hA, hK⟩ (fun pc τ H locs ls d er hP hD hS => by subst er; exact W.vret hx hb hr (fun t ht hW => ⟨⟨(), rfl, trivial, by rw [ht]; exact hP, va_K.moved hW.alike hK, hD⟩, hS.F ht⟩) hS.2.2 d) v0 v1 s0 _ _ _ h hP hD va_S.rf (lv_sub hl [0, 1, 2] rfl)
def ow_dm_X6_dropPages : List Cond := .code yX6_dropPages cX6_dropPages 3 none :: ([.methodLink RX6 113 yX6_dropPage, .instanceMethod yX6_dropPage, .selects RX6 yX6_dropPage yX6_dropPage, .initialized RX6] ++ (ow_dm_X6_dropPage ++ []))
theorem gd_dm_X6_dropPages : ∀ w ∈ ow_dm_X6_dropPages, (w.onTables && w.keeps) = true ∨ ∃ ty, w = Cond.arrayClass ty := List.forall_mem_cons.mpr ⟨good_of_word rfl, List.forall_mem_append.mpr ⟨fun w h => good_of_word (List.all_eq_true.mp (by decide +kernel) w h), List.forall_mem_append.mpr ⟨gd_dm_X6_dropPage, fun _ h => nomatch h⟩⟩⟩
theorem gi_dm_X6_dropPages_0 : GoodIn ow_dm_X6_dropPages (wsV RX6 113 RX6 yX6_dropPage ow_dm_X6_dropPage) := goodIn_app (goodIn_of _ (by decide +kernel)) (fun w h => ⟨List.mem_cons_of_mem _ (List.mem_append_right _ (List.mem_append_left _ h)), gd_dm_X6_dropPage w h⟩)
def dj_X6_dropPages_2 (p : Program) (l : Launch) (e : Env) (s : State) (m : MethodId) (args : Array Value) (below : List Frame) (meth : Method) (c : Code) (Q : State → Prop) (A : Nat → Prop) (dC : Nat → ClassId) (dI : Nat → Nat → Nat) (a : Nat → Nat) (ac : Nat → ClassId) (g : Int32 → Int32 → (St × (St)) → Option (St × (St))) (r : St × (St)) : Prop := ∀ (x1 : Int32) (x2 : Int32) (s0 : St × (St)) (H : Heap) (locs : List Loc) (ls : Array Slot), g x1 x2 s0 = some r → va_P (dC, dI) vwCl (dw_X6 a ac s0) H → va_D A (dw_X6 a ac s0) → va_S A s.heap H locs → lv_has ls 3 [(0, .ref (a 0)), (1, .int x1), (2, .int x2)] → W p l e (headSpec ow_dm_X6_dropPages ({ frames := 1, cells := 0, slots := 0, locals := 23 })).room s m args below meth c H locs 0 0 Q (F0 m 2 ls [])
def dj_X6_dropPages_0 (p : Program) (l : Launch) (e : Env) (s : State) (m : MethodId) (args : Array Value) (below : List Frame) (meth : Method) (c : Code) (Q : State → Prop) (A : Nat → Prop) (dC : Nat → ClassId) (dI : Nat → Nat → Nat) (a : Nat → Nat) (ac : Nat → ClassId) (g : Int32 → (St × (St)) → Option (St × (St))) (r : St × (St)) : Prop := ∀ (v0 : Int32) (s0 : St × (St)) (H : Heap) (locs : List Loc) (ls : Array Slot), g v0 s0 = some r → va_P (dC, dI) vwCl (dw_X6 a ac s0) H → va_D A (dw_X6 a ac s0) → va_S A s.heap H locs → lv_has ls 3 [(0, .ref (a 0)), (1, .int v0)] → W p l e (headSpec ow_dm_X6_dropPages ({ frames := 1, cells := 0, slots := 0, locals := 23 })).room s m args below meth c H locs 0 0 Q (F0 m 0 ls [])
set_option maxHeartbeats 40000000 in
set_option maxRecDepth 100000 in
theorem dB_X6_dropPages_2 {p : Program} {l : Launch} {e : Env} {s : State} {m : MethodId} {args : Array Value} {below : List Frame} {meth : Method} {c : Code} {Q : State → Prop} {A : Nat → Prop} {dC : Nat → ClassId} {dI : Nat → Nat → Nat} {a : Nat → Nat} {ac : Nat → ClassId} {n : Nat} {r : St × (St)} (C : nd_C p l s m args c A (dC, dI) cX6_dropPages 3 RX6 ow_dm_X6_dropPages (dk_X6 ac)) (K : nd_Kv p l e (headSpec ow_dm_X6_dropPages ({ frames := 1, cells := 0, slots := 0, locals := 23 })).room s m args below meth c Q A (dC, dI) cX6_dropPages (St × (St)) (dw_X6 a ac) r) {g2 : Int32 → Int32 → (St × (St)) → Option (St × (St))} (J2 : dj_X6_dropPages_2 p l e s m args below meth c Q A dC dI a ac g2 r) : dj_X6_dropPages_2 p l e s m args below meth c Q A dC dI a ac (dF_X6_dropPages_2 n g2) r := by
  obtain ⟨hlt, hx, hb, hml, hown, hts, hN, hA, hK⟩ := id C
  intro x1 x2 s0 H locs ls h hP hD hS hl
  unfold dF_X6_dropPages_2 at h
  refine lv_iload_n hx hb dX6_dropPages_2 rfl (lv_at hl 2 rfl) ?_
  refine lv_bipush (v := 64) hx hb dX6_dropPages_3 (by decide) ?_
  refine lv_icmp_ge (tgt := 20) hx hb dX6_dropPages_5 (by decide) (fun c1 => ?_) (fun c1 => ?_)
  · have h := nd_pos h c1
    exact K _ _ _ _ _ dX6_dropPages_20 (Option.some.inj h).symm hP hD hS
  · have h := nd_neg h c1
    refine lv_aload_n hx hb dX6_dropPages_8 rfl (lv_at hl 0 rfl) ?_
    refine lv_iload_n hx hb dX6_dropPages_9 rfl (lv_at hl 1 rfl) ?_
    refine lv_iload_n hx hb dX6_dropPages_10 rfl (lv_at hl 2 rfl) ?_
    obtain ⟨s3, hq, h⟩ := nd_b1_e h
    have hPc := hP
    have hDc := hD
    have hKc := hK
    have hFc := nd_rs hD hS hA
    refine nd_cVv (As := [.int x1, .int x2]) (rest := []) (w' := dw_X6 a ac s3) ⟨hx, hb, hml, hown, hts⟩ (fun sz => dm_X6_dropPage l hlt dC dI a ac n (x1) (x2) s0 hq sz) (cwV 2 hts gi_dm_X6_dropPages_0 rfl rfl rfl (by decide +kernel) ⟨Nat.le_of_ble_eq_true rfl, Nat.le_of_ble_eq_true rfl⟩) hPc hDc hKc hS hA hN (va_recv hKc hPc (ci := 7) (q0 := 0) rfl rfl) rfl hl.1 rfl (Nat.le_of_ble_eq_true rfl) dX6_dropPages_11 (fun H locs hP1 hD1 hk1 hS => ?_)
    have hP := hP1
    have hD := hD1.weaken (fun k q _ h => hFc q.1 h)
    obtain ⟨z5, ez5, h⟩ := nd_let_e h
    refine lv_iinc (v := z5) (lv' := [(2, .int z5), (0, .ref (a 0)), (1, .int x1)]) hx hb dX6_dropPages_14 hl (k := 2) rfl (by rw [ez5]) (by decide) rfl (fun ls hl => ?_)
    refine lv_goto (tgt := 2) hx hb dX6_dropPages_17 (by decide) ?_
    exact (J2) (x1) (z5) s3 _ _ _ h hP hD hS (lv_sub hl [1, 2, 0] rfl)
set_option maxHeartbeats 40000000 in
set_option maxRecDepth 100000 in
theorem db_X6_dropPages_2 {p : Program} {l : Launch} {e : Env} {s : State} {m : MethodId} {args : Array Value} {below : List Frame} {meth : Method} {c : Code} {Q : State → Prop} {A : Nat → Prop} {dC : Nat → ClassId} {dI : Nat → Nat → Nat} {a : Nat → Nat} {ac : Nat → ClassId} {n : Nat} {r : St × (St)} (C : nd_C p l s m args c A (dC, dI) cX6_dropPages 3 RX6 ow_dm_X6_dropPages (dk_X6 ac)) (K : nd_Kv p l e (headSpec ow_dm_X6_dropPages ({ frames := 1, cells := 0, slots := 0, locals := 23 })).room s m args below meth c Q A (dC, dI) cX6_dropPages (St × (St)) (dw_X6 a ac) r) (k : Nat) : dj_X6_dropPages_2 p l e s m args below meth c Q A dC dI a ac (df_X6_dropPages_2 n k) r := by
  induction k with
  | zero => intro x1 x2 s0 H locs ls h; exact nomatch (show (none : Option (St × (St))) = some r from h)
  | succ k ih => exact dB_X6_dropPages_2 C K ih
set_option maxHeartbeats 40000000 in
set_option maxRecDepth 100000 in
theorem db_X6_dropPages_0 {p : Program} {l : Launch} {e : Env} {s : State} {m : MethodId} {args : Array Value} {below : List Frame} {meth : Method} {c : Code} {Q : State → Prop} {A : Nat → Prop} {dC : Nat → ClassId} {dI : Nat → Nat → Nat} {a : Nat → Nat} {ac : Nat → ClassId} {n : Nat} {r : St × (St)} (C : nd_C p l s m args c A (dC, dI) cX6_dropPages 3 RX6 ow_dm_X6_dropPages (dk_X6 ac)) (K : nd_Kv p l e (headSpec ow_dm_X6_dropPages ({ frames := 1, cells := 0, slots := 0, locals := 23 })).room s m args below meth c Q A (dC, dI) cX6_dropPages (St × (St)) (dw_X6 a ac) r) : dj_X6_dropPages_0 p l e s m args below meth c Q A dC dI a ac (df_X6_dropPages_0 n) r := by
  obtain ⟨hlt, hx, hb, hml, hown, hts, hN, hA, hK⟩ := id C
  intro v0 s0 H locs ls h hP hD hS hl
  unfold df_X6_dropPages_0 at h
  refine lv_iconst (v := 0) hx hb dX6_dropPages_0 (by decide) ?_
  refine lv_istore_n (lv' := [(2, .int 0), (0, .ref (a 0)), (1, .int v0)]) hx hb dX6_dropPages_1 rfl hl (by decide) rfl (fun ls hl => ?_)
  exact (db_X6_dropPages_2 C K n) (v0) (0) s0 _ _ _ h hP hD hS (lv_sub hl [1, 2, 0] rfl)
set_option maxHeartbeats 40000000 in
set_option maxRecDepth 100000 in
theorem dm_X6_dropPages (l : Launch) (hlt : l.stackTraces = false) (dC : Nat → ClassId) (dI : Nat → Nat → Nat) (a : Nat → Nat) (ac : Nat → ClassId) (n : Nat) (v0 : Int32) (s0 : St × (St)) {r : St × (St)} (h : df_X6_dropPages n v0 s0 = some r) (sz : Nat) : Met l yX6_dropPages ow_dm_X6_dropPages ({ frames := 1, cells := 0, slots := 0, locals := 23 }) (va_Pc [.ref (a 0), .int v0] (fun U => U.heap.size = sz ∧ va_P (dC, dI) vwCl (dw_X6 a ac s0) U.heap ∧ va_K (dC, dI) vwCl (dk_X6 ac) U ∧ va_D (fun _ => True) (dw_X6 a ac s0) ∧ nv_E (va_A (dw_X6 a ac s0) sz) U)) (va_Qv (fun _ => True) (fun (_ : Unit) t => va_P (dC, dI) vwCl (dw_X6 a ac r) t.heap ∧ va_K (dC, dI) vwCl (dk_X6 ac) t ∧ va_D (va_A (dw_X6 a ac s0) sz) (dw_X6 a ac r)) (va_A (dw_X6 a ac s0) sz)) 0 0 (va_A (dw_X6 a ac s0) sz) := by
  refine Met.ofW (cc := cX6_dropPages) (maxL := 3) (ret := none) (by decide) rfl ?_
  intro p e s m args below meth c s₁ B hml hv
  obtain ⟨rfl, hsz, hP, hK, hD0, hN⟩ := hv
  have hx := B.exec
  have hb := B.bytes
  have hr := B.returns
  have hts := atoms_spec (ws := ow_dm_X6_dropPages) B.pre
  have hown : s.vm.findClass RX6 = some m.cls := findClass_of_methodNamed B.named
  have hlocks := B.notSynchronized
  subst hsz
  have hD := hD0.self (sz := s.heap.size)
  generalize hAe : va_A (dw_X6 a ac s0) s.heap.size = A at hD hN ⊢
  have hA : ∀ q : Nat, s.heap.size ≤ q → A q := fun q h => by rw [← hAe]; exact Or.inr h
  have hl := lv_entry ([.ref (a 0), .int v0]) (n := 3) (Nat.le_of_ble_eq_true rfl)
  rw [lg_entry_eq]
  generalize (lg_sl ([.ref (a 0), .int v0]) ++ List.replicate (3 - (lg_sl ([.ref (a 0), .int v0])).length) Slot.unset).toArray = ls at hl ⊢
  have hl : lv_has ls 3 [(0, .ref (a 0)), (1, .int v0)] := hl
  exact db_X6_dropPages_0 (dC := dC) (dI := dI) (a := a) (ac := ac) (n := n) (r := r) ⟨hlt, hx, hb, hml, hown, hts, hN, hA, hK⟩ (fun pc τ H locs ls d er hP hD hS => by subst er; exact W.vret hx hb hr (fun t ht hW => ⟨⟨(), rfl, trivial, by rw [ht]; exact hP, va_K.moved hW.alike hK, hD⟩, hS.F ht⟩) hS.2.2 d) v0 s0 _ _ _ h hP hD va_S.rf (lv_sub hl [0, 1] rfl)
def ow_dm_X6_pagesOf : List Cond := .code yX6_pagesOf cX6_pagesOf 4 (some .int) :: ([.fieldLink RX6 17 "TimeMachine$Machine" "page" "[I"] ++ (u_ws RX6 TX6 20 ++ []))
theorem gd_dm_X6_pagesOf : ∀ w ∈ ow_dm_X6_pagesOf, (w.onTables && w.keeps) = true ∨ ∃ ty, w = Cond.arrayClass ty := List.forall_mem_cons.mpr ⟨good_of_word rfl, List.forall_mem_append.mpr ⟨fun w h => good_of_word (List.all_eq_true.mp (by decide +kernel) w h), List.forall_mem_append.mpr ⟨gu_X6, fun _ h => nomatch h⟩⟩⟩
theorem hi_dm_X6_pagesOf_X6 : ∀ w ∈ u_ws RX6 TX6 20, w ∈ ow_dm_X6_pagesOf := fun w h => List.mem_cons_of_mem _ (List.mem_append_right _ (List.mem_append_left _ h))
def dj_X6_pagesOf_27 (p : Program) (l : Launch) (e : Env) (s : State) (m : MethodId) (args : Array Value) (below : List Frame) (meth : Method) (c : Code) (Q : State → Prop) (A : Nat → Prop) (dC : Nat → ClassId) (dI : Nat → Nat → Nat) (a : Nat → Nat) (ac : Nat → ClassId) (g : Int32 → Int32 → Int32 → (St × (St)) → Option (Int32 × (St × (St)))) (r : Int32 × (St × (St))) : Prop := ∀ (x1 : Int32) (x2 : Int32) (x3 : Int32) (s0 : St × (St)) (H : Heap) (locs : List Loc) (ls : Array Slot), g x1 x2 x3 s0 = some r → va_P (dC, dI) vwCl (dw_X6 a ac s0) H → va_D A (dw_X6 a ac s0) → va_S A s.heap H locs → lv_has ls 4 [(0, .ref (a 0)), (1, .int x1), (2, .int x2), (3, .int x3)] → W p l e (headSpec ow_dm_X6_pagesOf ({ frames := 0, cells := 0, slots := 0, locals := 0 })).room s m args below meth c H locs 0 0 Q (F0 m 27 ls [])
def dj_X6_pagesOf_4 (p : Program) (l : Launch) (e : Env) (s : State) (m : MethodId) (args : Array Value) (below : List Frame) (meth : Method) (c : Code) (Q : State → Prop) (A : Nat → Prop) (dC : Nat → ClassId) (dI : Nat → Nat → Nat) (a : Nat → Nat) (ac : Nat → ClassId) (g : Int32 → Int32 → Int32 → (St × (St)) → Option (Int32 × (St × (St)))) (r : Int32 × (St × (St))) : Prop := ∀ (x1 : Int32) (x2 : Int32) (x3 : Int32) (s0 : St × (St)) (H : Heap) (locs : List Loc) (ls : Array Slot), g x1 x2 x3 s0 = some r → va_P (dC, dI) vwCl (dw_X6 a ac s0) H → va_D A (dw_X6 a ac s0) → va_S A s.heap H locs → lv_has ls 4 [(0, .ref (a 0)), (1, .int x1), (2, .int x2), (3, .int x3)] → W p l e (headSpec ow_dm_X6_pagesOf ({ frames := 0, cells := 0, slots := 0, locals := 0 })).room s m args below meth c H locs 0 0 Q (F0 m 4 ls [])
def dj_X6_pagesOf_0 (p : Program) (l : Launch) (e : Env) (s : State) (m : MethodId) (args : Array Value) (below : List Frame) (meth : Method) (c : Code) (Q : State → Prop) (A : Nat → Prop) (dC : Nat → ClassId) (dI : Nat → Nat → Nat) (a : Nat → Nat) (ac : Nat → ClassId) (g : Int32 → (St × (St)) → Option (Int32 × (St × (St)))) (r : Int32 × (St × (St))) : Prop := ∀ (v0 : Int32) (s0 : St × (St)) (H : Heap) (locs : List Loc) (ls : Array Slot), g v0 s0 = some r → va_P (dC, dI) vwCl (dw_X6 a ac s0) H → va_D A (dw_X6 a ac s0) → va_S A s.heap H locs → lv_has ls 4 [(0, .ref (a 0)), (1, .int v0)] → W p l e (headSpec ow_dm_X6_pagesOf ({ frames := 0, cells := 0, slots := 0, locals := 0 })).room s m args below meth c H locs 0 0 Q (F0 m 0 ls [])
set_option maxHeartbeats 40000000 in
set_option maxRecDepth 100000 in
theorem db_X6_pagesOf_27 {p : Program} {l : Launch} {e : Env} {s : State} {m : MethodId} {args : Array Value} {below : List Frame} {meth : Method} {c : Code} {Q : State → Prop} {A : Nat → Prop} {dC : Nat → ClassId} {dI : Nat → Nat → Nat} {a : Nat → Nat} {ac : Nat → ClassId} {n : Nat} {r : Int32 × (St × (St))} (C : nd_C p l s m args c A (dC, dI) cX6_pagesOf 4 RX6 ow_dm_X6_pagesOf (dk_X6 ac)) (K : nd_Ki p l e (headSpec ow_dm_X6_pagesOf ({ frames := 0, cells := 0, slots := 0, locals := 0 })).room s m args below meth c Q A (dC, dI) cX6_pagesOf .int (St × (St)) (dw_X6 a ac) r) {g4 : Int32 → Int32 → Int32 → (St × (St)) → Option (Int32 × (St × (St)))} (J4 : dj_X6_pagesOf_4 p l e s m args below meth c Q A dC dI a ac g4 r) : dj_X6_pagesOf_27 p l e s m args below meth c Q A dC dI a ac (df_X6_pagesOf_27 n g4) r := by
  obtain ⟨hlt, hx, hb, hml, hown, hts, hN, hA, hK⟩ := id C
  intro x1 x2 x3 s0 H locs ls h hP hD hS hl
  unfold df_X6_pagesOf_27 at h
  obtain ⟨z4, ez4, h⟩ := nd_let_e h
  refine lv_iinc (v := z4) (lv' := [(3, .int z4), (0, .ref (a 0)), (1, .int x1), (2, .int x2)]) hx hb dX6_pagesOf_27 hl (k := 3) rfl (by rw [ez4]) (by decide) rfl (fun ls hl => ?_)
  refine lv_goto (tgt := 4) hx hb dX6_pagesOf_30 (by decide) ?_
  exact (J4) (x1) (x2) (z4) s0 _ _ _ h hP hD hS (lv_sub hl [1, 2, 3, 0] rfl)
