set_option maxHeartbeats 40000000 in
set_option maxRecDepth 100000 in
theorem dm_X19_low (l : Launch) (hlt : l.stackTraces = false) (dC : Nat → ClassId) (dI : Nat → Nat → Nat) (a : Nat → Nat) (ac : Nat → ClassId) (n : Nat) (v0 : Int64) (v1 : Int32) (s0 : Unit) {r : Int64 × (Unit)} (h : df_X19_low n v0 v1 s0 = some r) (sz : Nat) : Met l yX19_low ow_dm_X19_low ({ frames := 0, cells := 0, slots := 0, locals := 0 }) (va_Pc [.long v0, .int v1] (fun U => U.heap.size = sz ∧ va_P (dC, dI) vwCl (dw_P a ac s0) U.heap ∧ va_K (dC, dI) vwCl (dk_P ac) U ∧ va_D (fun _ => True) (dw_P a ac s0) ∧ nv_E (va_A (dw_P a ac s0) sz) U)) (va_Ql (fun x _ => x = r.1) (fun (_ : Unit) t => va_P (dC, dI) vwCl (dw_P a ac r.2) t.heap ∧ va_K (dC, dI) vwCl (dk_P ac) t ∧ va_D (va_A (dw_P a ac s0) sz) (dw_P a ac r.2)) (va_A (dw_P a ac s0) sz)) 0 0 (va_A (dw_P a ac s0) sz) := by
  refine Met.ofW (cc := cX19_low) (maxL := 3) (ret := (some .long)) (by decide) rfl ?_
  intro p e s m args below meth c s₁ B hml hv
  obtain ⟨rfl, hsz, hP, hK, hD0, hN⟩ := hv
  have hx := B.exec
  have hb := B.bytes
  have hr := B.returns
  have hts := atoms_spec (ws := ow_dm_X19_low) B.pre
  have hown : s.vm.findClass RX19 = some m.cls := findClass_of_methodNamed B.named
  have hlocks := B.notSynchronized
  subst hsz
  have hD := hD0.self (sz := s.heap.size)
  generalize hAe : va_A (dw_P a ac s0) s.heap.size = A at hD hN ⊢
  have hA : ∀ q : Nat, s.heap.size ≤ q → A q := fun q h => by rw [← hAe]; exact Or.inr h
  have hl := lv_entry ([.long v0, .int v1]) (n := 3) (Nat.le_of_ble_eq_true rfl)
  rw [lg_entry_eq]
  generalize (lg_sl ([.long v0, .int v1]) ++ List.replicate (3 - (lg_sl ([.long v0, .int v1])).length) Slot.unset).toArray = ls at hl ⊢
  have hl : lv_has ls 3 [(0, .long v0), (2, .int v1)] := hl
  exact db_X19_low_0 (dC := dC) (dI := dI) (a := a) (ac := ac) (n := n) (r := r) ⟨hlt, hx, hb, hml, hown, hts, hN, hA, hK⟩ (fun pc v τ H locs ls d er hP hD hS => by subst er; exact W.lret (v := v) hx hb hr (fun t ht hW => ⟨⟨v, (), rfl, rfl, by rw [ht]; exact hP, va_K.moved hW.alike hK, hD⟩, hS.F ht⟩) hS.2.2 d) v0 v1 s0 _ _ _ h hP hD va_S.rf (lv_sub hl [0, 1] rfl)
def ow_dm_X19_outside : List Cond := .code yX19_outside cX19_outside 6 (some .int) :: ([.methodLink RX19 263 yX19_isSaid, .static yX19_isSaid, .initialized RX19, .methodLink RX19 136 yX19_fails, .instanceMethod yX19_fails, .selects RX19 yX19_fails yX19_fails, .fieldLink RX19 234 "TimeMachineModel" "now" "I", .fieldLink RX19 210 "TimeMachineModel" "end" "I", .fieldLink RX19 212 "TimeMachineModel" "scheduled" "I", .fieldLink RX19 192 "TimeMachineModel" "events" "I", .methodLink RX19 266 yX19_come, .instanceMethod yX19_come, .selects RX19 yX19_come yX19_come, .methodLink RX19 215 yX19_record, .instanceMethod yX19_record, .selects RX19 yX19_record yX19_record, .methodLink RX19 269 yX19_low, .static yX19_low, .fieldLink RX19 231 "TimeMachineModel" "booted" "Z"] ++ (u_ws RX19 TX19 36 ++ (ow_dm_X19_isSaid ++ (ow_dm_X19_fails ++ (ow_dm_X19_come ++ (ow_dm_X19_record ++ (ow_dm_X19_low ++ [])))))))
theorem gd_dm_X19_outside : ∀ w ∈ ow_dm_X19_outside, (w.onTables && w.keeps) = true ∨ ∃ ty, w = Cond.arrayClass ty := List.forall_mem_cons.mpr ⟨good_of_word rfl, List.forall_mem_append.mpr ⟨fun w h => good_of_word (List.all_eq_true.mp (by decide +kernel) w h), List.forall_mem_append.mpr ⟨gu_X19, List.forall_mem_append.mpr ⟨gd_dm_X19_isSaid, List.forall_mem_append.mpr ⟨gd_dm_X19_fails, List.forall_mem_append.mpr ⟨gd_dm_X19_come, List.forall_mem_append.mpr ⟨gd_dm_X19_record, List.forall_mem_append.mpr ⟨gd_dm_X19_low, fun _ h => nomatch h⟩⟩⟩⟩⟩⟩⟩⟩
theorem hi_dm_X19_outside_X19 : ∀ w ∈ u_ws RX19 TX19 36, w ∈ ow_dm_X19_outside := fun w h => List.mem_cons_of_mem _ (List.mem_append_right _ (List.mem_append_left _ h))
theorem gi_dm_X19_outside_0 : GoodIn ow_dm_X19_outside (wsS RX19 263 yX19_isSaid ow_dm_X19_isSaid) := goodIn_app (goodIn_of _ (by decide +kernel)) (fun w h => ⟨List.mem_cons_of_mem _ (List.mem_append_right _ (List.mem_append_right _ (List.mem_append_left _ h))), gd_dm_X19_isSaid w h⟩)
theorem gi_dm_X19_outside_1 : GoodIn ow_dm_X19_outside (wsV RX19 136 RX19 yX19_fails ow_dm_X19_fails) := goodIn_app (goodIn_of _ (by decide +kernel)) (fun w h => ⟨List.mem_cons_of_mem _ (List.mem_append_right _ (List.mem_append_right _ (List.mem_append_right _ (List.mem_append_left _ h)))), gd_dm_X19_fails w h⟩)
theorem gi_dm_X19_outside_2 : GoodIn ow_dm_X19_outside (wsV RX19 266 RX19 yX19_come ow_dm_X19_come) := goodIn_app (goodIn_of _ (by decide +kernel)) (fun w h => ⟨List.mem_cons_of_mem _ (List.mem_append_right _ (List.mem_append_right _ (List.mem_append_right _ (List.mem_append_right _ (List.mem_append_left _ h))))), gd_dm_X19_come w h⟩)
theorem gi_dm_X19_outside_3 : GoodIn ow_dm_X19_outside (wsV RX19 215 RX19 yX19_record ow_dm_X19_record) := goodIn_app (goodIn_of _ (by decide +kernel)) (fun w h => ⟨List.mem_cons_of_mem _ (List.mem_append_right _ (List.mem_append_right _ (List.mem_append_right _ (List.mem_append_right _ (List.mem_append_right _ (List.mem_append_left _ h)))))), gd_dm_X19_record w h⟩)
theorem gi_dm_X19_outside_4 : GoodIn ow_dm_X19_outside (wsS RX19 269 yX19_low ow_dm_X19_low) := goodIn_app (goodIn_of _ (by decide +kernel)) (fun w h => ⟨List.mem_cons_of_mem _ (List.mem_append_right _ (List.mem_append_right _ (List.mem_append_right _ (List.mem_append_right _ (List.mem_append_right _ (List.mem_append_right _ (List.mem_append_left _ h))))))), gd_dm_X19_low w h⟩)
def dj_X19_outside_63 (p : Program) (l : Launch) (e : Env) (s : State) (m : MethodId) (args : Array Value) (below : List Frame) (meth : Method) (c : Code) (Q : State → Prop) (A : Nat → Prop) (dC : Nat → ClassId) (dI : Nat → Nat → Nat) (a : Nat → Nat) (ac : Nat → ClassId) (g : (St × (St) × (St × (St × (St))) × (St) × (St)) → Option (Int32 × (St × (St) × (St × (St × (St))) × (St) × (St)))) (r : Int32 × (St × (St) × (St × (St × (St))) × (St) × (St))) : Prop := ∀ (s0 : St × (St) × (St × (St × (St))) × (St) × (St)) (H : Heap) (locs : List Loc) (ls : Array Slot), g s0 = some r → va_P (dC, dI) vwCl (dw_X19 a ac s0) H → va_D A (dw_X19 a ac s0) → va_S A s.heap H locs → lv_has ls 6 [] → W p l e (headSpec ow_dm_X19_outside ({ frames := 10, cells := 0, slots := 0, locals := 225 })).room s m args below meth c H locs 0 0 Q (F0 m 63 ls [])
def dj_X19_outside_142 (p : Program) (l : Launch) (e : Env) (s : State) (m : MethodId) (args : Array Value) (below : List Frame) (meth : Method) (c : Code) (Q : State → Prop) (A : Nat → Prop) (dC : Nat → ClassId) (dI : Nat → Nat → Nat) (a : Nat → Nat) (ac : Nat → ClassId) (g : Int32 → (St × (St) × (St × (St × (St))) × (St) × (St)) → Option (Int32 × (St × (St) × (St × (St × (St))) × (St) × (St)))) (r : Int32 × (St × (St) × (St × (St × (St))) × (St) × (St))) : Prop := ∀ (y0 : Int32) (s0 : St × (St) × (St × (St × (St))) × (St) × (St)) (H : Heap) (locs : List Loc) (ls : Array Slot), g y0 s0 = some r → va_P (dC, dI) vwCl (dw_X19 a ac s0) H → va_D A (dw_X19 a ac s0) → va_S A s.heap H locs → lv_has ls 6 [] → W p l e (headSpec ow_dm_X19_outside ({ frames := 10, cells := 0, slots := 0, locals := 225 })).room s m args below meth c H locs 0 0 Q (F0 m 142 ls [.int y0])
def dj_X19_outside_131 (p : Program) (l : Launch) (e : Env) (s : State) (m : MethodId) (args : Array Value) (below : List Frame) (meth : Method) (c : Code) (Q : State → Prop) (A : Nat → Prop) (dC : Nat → ClassId) (dI : Nat → Nat → Nat) (a : Nat → Nat) (ac : Nat → ClassId) (g : Int32 → Int64 → Int32 → (St × (St) × (St × (St × (St))) × (St) × (St)) → Option (Int32 × (St × (St) × (St × (St × (St))) × (St) × (St)))) (r : Int32 × (St × (St) × (St × (St × (St))) × (St) × (St))) : Prop := ∀ (y1 : Int32) (y2 : Int64) (y3 : Int32) (s0 : St × (St) × (St × (St × (St))) × (St) × (St)) (H : Heap) (locs : List Loc) (ls : Array Slot), g y1 y2 y3 s0 = some r → va_P (dC, dI) vwCl (dw_X19 a ac s0) H → va_D A (dw_X19 a ac s0) → va_S A s.heap H locs → lv_has ls 6 [] → W p l e (headSpec ow_dm_X19_outside ({ frames := 10, cells := 0, slots := 0, locals := 225 })).room s m args below meth c H locs 0 0 Q (F0 m 131 ls [.int y3, .long y2, .int y1, .ref (a 0)])
def dj_X19_outside_125 (p : Program) (l : Launch) (e : Env) (s : State) (m : MethodId) (args : Array Value) (below : List Frame) (meth : Method) (c : Code) (Q : State → Prop) (A : Nat → Prop) (dC : Nat → ClassId) (dI : Nat → Nat → Nat) (a : Nat → Nat) (ac : Nat → ClassId) (g : Int32 → Int32 → Int64 → (St × (St) × (St × (St × (St))) × (St) × (St)) → Option (Int32 × (St × (St) × (St × (St × (St))) × (St) × (St)))) (r : Int32 × (St × (St) × (St × (St × (St))) × (St) × (St))) : Prop := ∀ (x4 : Int32) (y1 : Int32) (y2 : Int64) (s0 : St × (St) × (St × (St × (St))) × (St) × (St)) (H : Heap) (locs : List Loc) (ls : Array Slot), g x4 y1 y2 s0 = some r → va_P (dC, dI) vwCl (dw_X19 a ac s0) H → va_D A (dw_X19 a ac s0) → va_S A s.heap H locs → lv_has ls 6 [(4, .int x4)] → W p l e (headSpec ow_dm_X19_outside ({ frames := 10, cells := 0, slots := 0, locals := 225 })).room s m args below meth c H locs 0 0 Q (F0 m 125 ls [.long y2, .int y1, .ref (a 0)])
def dj_X19_outside_115 (p : Program) (l : Launch) (e : Env) (s : State) (m : MethodId) (args : Array Value) (below : List Frame) (meth : Method) (c : Code) (Q : State → Prop) (A : Nat → Prop) (dC : Nat → ClassId) (dI : Nat → Nat → Nat) (a : Nat → Nat) (ac : Nat → ClassId) (g : Int32 → Int32 → Int32 → Int64 → (St × (St) × (St × (St × (St))) × (St) × (St)) → Option (Int32 × (St × (St) × (St × (St × (St))) × (St) × (St)))) (r : Int32 × (St × (St) × (St × (St × (St))) × (St) × (St))) : Prop := ∀ (x1 : Int32) (x4 : Int32) (y1 : Int32) (y2 : Int64) (s0 : St × (St) × (St × (St × (St))) × (St) × (St)) (H : Heap) (locs : List Loc) (ls : Array Slot), g x1 x4 y1 y2 s0 = some r → va_P (dC, dI) vwCl (dw_X19 a ac s0) H → va_D A (dw_X19 a ac s0) → va_S A s.heap H locs → lv_has ls 6 [(1, .int x1), (4, .int x4)] → W p l e (headSpec ow_dm_X19_outside ({ frames := 10, cells := 0, slots := 0, locals := 225 })).room s m args below meth c H locs 0 0 Q (F0 m 115 ls [.long y2, .int y1, .ref (a 0)])
def dj_X19_outside_37 (p : Program) (l : Launch) (e : Env) (s : State) (m : MethodId) (args : Array Value) (below : List Frame) (meth : Method) (c : Code) (Q : State → Prop) (A : Nat → Prop) (dC : Nat → ClassId) (dI : Nat → Nat → Nat) (a : Nat → Nat) (ac : Nat → ClassId) (g : Int32 → Int64 → Int32 → Int32 → Int32 → (St × (St) × (St × (St × (St))) × (St) × (St)) → Option (Int32 × (St × (St) × (St × (St × (St))) × (St) × (St)))) (r : Int32 × (St × (St) × (St × (St × (St))) × (St) × (St))) : Prop := ∀ (x1 : Int32) (x2 : Int64) (x4 : Int32) (y1 : Int32) (y2 : Int32) (s0 : St × (St) × (St × (St × (St))) × (St) × (St)) (H : Heap) (locs : List Loc) (ls : Array Slot), g x1 x2 x4 y1 y2 s0 = some r → va_P (dC, dI) vwCl (dw_X19 a ac s0) H → va_D A (dw_X19 a ac s0) → va_S A s.heap H locs → lv_has ls 6 [(0, .ref (a 0)), (1, .int x1), (2, .long x2), (4, .int x4)] → W p l e (headSpec ow_dm_X19_outside ({ frames := 10, cells := 0, slots := 0, locals := 225 })).room s m args below meth c H locs 0 0 Q (F0 m 37 ls [.int y2, .int y1, .ref (a 0)])
def dj_X19_outside_36 (p : Program) (l : Launch) (e : Env) (s : State) (m : MethodId) (args : Array Value) (below : List Frame) (meth : Method) (c : Code) (Q : State → Prop) (A : Nat → Prop) (dC : Nat → ClassId) (dI : Nat → Nat → Nat) (a : Nat → Nat) (ac : Nat → ClassId) (g : Int32 → Int64 → Int32 → Int32 → (St × (St) × (St × (St × (St))) × (St) × (St)) → Option (Int32 × (St × (St) × (St × (St × (St))) × (St) × (St)))) (r : Int32 × (St × (St) × (St × (St × (St))) × (St) × (St))) : Prop := ∀ (x1 : Int32) (x2 : Int64) (x4 : Int32) (y1 : Int32) (s0 : St × (St) × (St × (St × (St))) × (St) × (St)) (H : Heap) (locs : List Loc) (ls : Array Slot), g x1 x2 x4 y1 s0 = some r → va_P (dC, dI) vwCl (dw_X19 a ac s0) H → va_D A (dw_X19 a ac s0) → va_S A s.heap H locs → lv_has ls 6 [(0, .ref (a 0)), (1, .int x1), (2, .long x2), (4, .int x4)] → W p l e (headSpec ow_dm_X19_outside ({ frames := 10, cells := 0, slots := 0, locals := 225 })).room s m args below meth c H locs 0 0 Q (F0 m 36 ls [.int y1, .ref (a 0)])
def dj_X19_outside_20 (p : Program) (l : Launch) (e : Env) (s : State) (m : MethodId) (args : Array Value) (below : List Frame) (meth : Method) (c : Code) (Q : State → Prop) (A : Nat → Prop) (dC : Nat → ClassId) (dI : Nat → Nat → Nat) (a : Nat → Nat) (ac : Nat → ClassId) (g : Int32 → Int64 → Int32 → Int32 → Int32 → (St × (St) × (St × (St × (St))) × (St) × (St)) → Option (Int32 × (St × (St) × (St × (St × (St))) × (St) × (St)))) (r : Int32 × (St × (St) × (St × (St × (St))) × (St) × (St))) : Prop := ∀ (x1 : Int32) (x2 : Int64) (x4 : Int32) (x5 : Int32) (y1 : Int32) (s0 : St × (St) × (St × (St × (St))) × (St) × (St)) (H : Heap) (locs : List Loc) (ls : Array Slot), g x1 x2 x4 x5 y1 s0 = some r → va_P (dC, dI) vwCl (dw_X19 a ac s0) H → va_D A (dw_X19 a ac s0) → va_S A s.heap H locs → lv_has ls 6 [(0, .ref (a 0)), (1, .int x1), (2, .long x2), (4, .int x4), (5, .int x5)] → W p l e (headSpec ow_dm_X19_outside ({ frames := 10, cells := 0, slots := 0, locals := 225 })).room s m args below meth c H locs 0 0 Q (F0 m 20 ls [.int y1, .ref (a 0)])
def dj_X19_outside_0 (p : Program) (l : Launch) (e : Env) (s : State) (m : MethodId) (args : Array Value) (below : List Frame) (meth : Method) (c : Code) (Q : State → Prop) (A : Nat → Prop) (dC : Nat → ClassId) (dI : Nat → Nat → Nat) (a : Nat → Nat) (ac : Nat → ClassId) (g : Int32 → Int64 → Int32 → (St × (St) × (St × (St × (St))) × (St) × (St)) → Option (Int32 × (St × (St) × (St × (St × (St))) × (St) × (St)))) (r : Int32 × (St × (St) × (St × (St × (St))) × (St) × (St))) : Prop := ∀ (v0 : Int32) (v1 : Int64) (v2 : Int32) (s0 : St × (St) × (St × (St × (St))) × (St) × (St)) (H : Heap) (locs : List Loc) (ls : Array Slot), g v0 v1 v2 s0 = some r → va_P (dC, dI) vwCl (dw_X19 a ac s0) H → va_D A (dw_X19 a ac s0) → va_S A s.heap H locs → lv_has ls 6 [(0, .ref (a 0)), (1, .int v0), (2, .long v1), (4, .int v2)] → W p l e (headSpec ow_dm_X19_outside ({ frames := 10, cells := 0, slots := 0, locals := 225 })).room s m args below meth c H locs 0 0 Q (F0 m 0 ls [])
set_option maxHeartbeats 40000000 in
set_option maxRecDepth 100000 in
theorem db_X19_outside_63 {p : Program} {l : Launch} {e : Env} {s : State} {m : MethodId} {args : Array Value} {below : List Frame} {meth : Method} {c : Code} {Q : State → Prop} {A : Nat → Prop} {dC : Nat → ClassId} {dI : Nat → Nat → Nat} {a : Nat → Nat} {ac : Nat → ClassId} {n : Nat} {r : Int32 × (St × (St) × (St × (St × (St))) × (St) × (St))} (C : nd_C p l s m args c A (dC, dI) cX19_outside 6 RX19 ow_dm_X19_outside (dk_X19 ac)) (K : nd_Ki p l e (headSpec ow_dm_X19_outside ({ frames := 10, cells := 0, slots := 0, locals := 225 })).room s m args below meth c Q A (dC, dI) cX19_outside .int (St × (St) × (St × (St × (St))) × (St) × (St)) (dw_X19 a ac) r) : dj_X19_outside_63 p l e s m args below meth c Q A dC dI a ac (df_X19_outside_63 n) r := by
  obtain ⟨hlt, hx, hb, hml, hown, hts, hN, hA, hK⟩ := id C
  intro s0 H locs ls h hP hD hS hl
  unfold df_X19_outside_63 at h
  refine lv_iconst (v := 2) hx hb dX19_outside_63 (by decide) ?_
  exact K _ _ _ _ _ _ dX19_outside_64 rfl (Option.some.inj h).symm hP hD hS
set_option maxHeartbeats 40000000 in
set_option maxRecDepth 100000 in
theorem db_X19_outside_142 {p : Program} {l : Launch} {e : Env} {s : State} {m : MethodId} {args : Array Value} {below : List Frame} {meth : Method} {c : Code} {Q : State → Prop} {A : Nat → Prop} {dC : Nat → ClassId} {dI : Nat → Nat → Nat} {a : Nat → Nat} {ac : Nat → ClassId} {n : Nat} {r : Int32 × (St × (St) × (St × (St × (St))) × (St) × (St))} (C : nd_C p l s m args c A (dC, dI) cX19_outside 6 RX19 ow_dm_X19_outside (dk_X19 ac)) (K : nd_Ki p l e (headSpec ow_dm_X19_outside ({ frames := 10, cells := 0, slots := 0, locals := 225 })).room s m args below meth c Q A (dC, dI) cX19_outside .int (St × (St) × (St × (St × (St))) × (St) × (St)) (dw_X19 a ac) r) : dj_X19_outside_142 p l e s m args below meth c Q A dC dI a ac (df_X19_outside_142 n) r := by
  obtain ⟨hlt, hx, hb, hml, hown, hts, hN, hA, hK⟩ := id C
  intro y0 s0 H locs ls h hP hD hS hl
  unfold df_X19_outside_142 at h
  exact K _ _ _ _ _ _ dX19_outside_142 rfl (Option.some.inj h).symm hP hD hS
set_option maxHeartbeats 40000000 in
set_option maxRecDepth 100000 in
theorem db_X19_outside_131 {p : Program} {l : Launch} {e : Env} {s : State} {m : MethodId} {args : Array Value} {below : List Frame} {meth : Method} {c : Code} {Q : State → Prop} {A : Nat → Prop} {dC : Nat → ClassId} {dI : Nat → Nat → Nat} {a : Nat → Nat} {ac : Nat → ClassId} {n : Nat} {r : Int32 × (St × (St) × (St × (St × (St))) × (St) × (St))} (C : nd_C p l s m args c A (dC, dI) cX19_outside 6 RX19 ow_dm_X19_outside (dk_X19 ac)) (K : nd_Ki p l e (headSpec ow_dm_X19_outside ({ frames := 10, cells := 0, slots := 0, locals := 225 })).room s m args below meth c Q A (dC, dI) cX19_outside .int (St × (St) × (St × (St × (St))) × (St) × (St)) (dw_X19 a ac) r) : dj_X19_outside_131 p l e s m args below meth c Q A dC dI a ac (df_X19_outside_131 n) r := by
  obtain ⟨hlt, hx, hb, hml, hown, hts, hN, hA, hK⟩ := id C
  intro y1 y2 y3 s0 H locs ls h hP hD hS hl
  unfold df_X19_outside_131 at h
  obtain ⟨q19, s20, hq, h⟩ := nd_b2_e h
  have hPc := hP
  have hDc := hD
  have hKc := hK
  have hFc := nd_rs hD hS hA
  refine nd_cVi (As := [.int y1, .long y2, .int y3]) (rest := []) (q := q19) (w' := dw_X19 a ac s20) ⟨hx, hb, hml, hown, hts⟩ (fun sz => dm_X19_record l hlt dC dI a ac n (y1) (y2) (y3) s0 hq sz) (cwV 3 hts gi_dm_X19_outside_3 rfl rfl rfl (by decide +kernel) ⟨Nat.le_of_ble_eq_true rfl, Nat.le_of_ble_eq_true rfl⟩) hPc hDc hKc hS hA hN (va_recv hKc hPc (ci := 20) (q0 := 0) rfl rfl) rfl hl.1 rfl (Nat.le_of_ble_eq_true rfl) dX19_outside_131 (fun H locs hP1 hD1 hk1 hS => ?_)
  have hP := hP1
  have hD := hD1.weaken (fun k q _ h => hFc q.1 h)
  refine lv_if_eq (tgt := 141) hx hb dX19_outside_134 (by decide) (fun c22 => ?_) (fun c22 => ?_)
  · have h := nd_pos h c22
    refine lv_iconst (v := 1) hx hb dX19_outside_141 (by decide) ?_
    exact (db_X19_outside_142 C K) (1) s20 _ _ _ h hP hD hS (lv_sub hl [] rfl)
  · have h := nd_neg h c22
    refine lv_iconst (v := 0) hx hb dX19_outside_137 (by decide) ?_
    refine lv_goto (tgt := 142) hx hb dX19_outside_138 (by decide) ?_
    exact (db_X19_outside_142 C K) (0) s20 _ _ _ h hP hD hS (lv_sub hl [] rfl)
set_option maxHeartbeats 40000000 in
set_option maxRecDepth 100000 in
theorem db_X19_outside_125 {p : Program} {l : Launch} {e : Env} {s : State} {m : MethodId} {args : Array Value} {below : List Frame} {meth : Method} {c : Code} {Q : State → Prop} {A : Nat → Prop} {dC : Nat → ClassId} {dI : Nat → Nat → Nat} {a : Nat → Nat} {ac : Nat → ClassId} {n : Nat} {r : Int32 × (St × (St) × (St × (St × (St))) × (St) × (St))} (C : nd_C p l s m args c A (dC, dI) cX19_outside 6 RX19 ow_dm_X19_outside (dk_X19 ac)) (K : nd_Ki p l e (headSpec ow_dm_X19_outside ({ frames := 10, cells := 0, slots := 0, locals := 225 })).room s m args below meth c Q A (dC, dI) cX19_outside .int (St × (St) × (St × (St × (St))) × (St) × (St)) (dw_X19 a ac) r) : dj_X19_outside_125 p l e s m args below meth c Q A dC dI a ac (df_X19_outside_125 n) r := by
  obtain ⟨hlt, hx, hb, hml, hown, hts, hN, hA, hK⟩ := id C
  intro x4 y1 y2 s0 H locs ls h hP hD hS hl
  unfold df_X19_outside_125 at h
  refine lv_iload hx hb dX19_outside_125 (lv_at hl 0 rfl) ?_
  refine lv_goto (tgt := 131) hx hb dX19_outside_127 (by decide) ?_
  exact (db_X19_outside_131 C K) (y1) (y2) (x4) s0 _ _ _ h hP hD hS (lv_sub hl [] rfl)
set_option maxHeartbeats 40000000 in
set_option maxRecDepth 100000 in
theorem db_X19_outside_115 {p : Program} {l : Launch} {e : Env} {s : State} {m : MethodId} {args : Array Value} {below : List Frame} {meth : Method} {c : Code} {Q : State → Prop} {A : Nat → Prop} {dC : Nat → ClassId} {dI : Nat → Nat → Nat} {a : Nat → Nat} {ac : Nat → ClassId} {n : Nat} {r : Int32 × (St × (St) × (St × (St × (St))) × (St) × (St))} (C : nd_C p l s m args c A (dC, dI) cX19_outside 6 RX19 ow_dm_X19_outside (dk_X19 ac)) (K : nd_Ki p l e (headSpec ow_dm_X19_outside ({ frames := 10, cells := 0, slots := 0, locals := 225 })).room s m args below meth c Q A (dC, dI) cX19_outside .int (St × (St) × (St × (St × (St))) × (St) × (St)) (dw_X19 a ac) r) : dj_X19_outside_115 p l e s m args below meth c Q A dC dI a ac (df_X19_outside_115 n) r := by
  obtain ⟨hlt, hx, hb, hml, hown, hts, hN, hA, hK⟩ := id C
  intro x1 x4 y1 y2 s0 H locs ls h hP hD hS hl
  unfold df_X19_outside_115 at h
  refine lv_iload_n hx hb dX19_outside_115 rfl (lv_at hl 0 rfl) ?_
  refine lv_iconst (v := 1) hx hb dX19_outside_116 (by decide) ?_
  refine lv_icmp_eq (tgt := 125) hx hb dX19_outside_117 (by decide) (fun c18 => ?_) (fun c18 => ?_)
  · have h := nd_pos h c18
    exact (db_X19_outside_125 C K) (x4) (y1) (y2) s0 _ _ _ h hP hD hS (lv_sub hl [1] rfl)
  · have h := nd_neg h c18
    refine lv_iload_n hx hb dX19_outside_120 rfl (lv_at hl 0 rfl) ?_
    refine lv_iconst (v := 2) hx hb dX19_outside_121 (by decide) ?_
    refine lv_icmp_ne (tgt := 130) hx hb dX19_outside_122 (by decide) (fun c23 => ?_) (fun c23 => ?_)
    · have h := nd_neg h c23
      refine lv_iconst (v := 0) hx hb dX19_outside_130 (by decide) ?_
      exact (db_X19_outside_131 C K) (y1) (y2) (0) s0 _ _ _ h hP hD hS (lv_sub hl [] rfl)
    · have h := nd_pos h c23
      exact (db_X19_outside_125 C K) (x4) (y1) (y2) s0 _ _ _ h hP hD hS (lv_sub hl [1] rfl)
set_option maxHeartbeats 40000000 in
set_option maxRecDepth 100000 in
theorem db_X19_outside_37 {p : Program} {l : Launch} {e : Env} {s : State} {m : MethodId} {args : Array Value} {below : List Frame} {meth : Method} {c : Code} {Q : State → Prop} {A : Nat → Prop} {dC : Nat → ClassId} {dI : Nat → Nat → Nat} {a : Nat → Nat} {ac : Nat → ClassId} {n : Nat} {r : Int32 × (St × (St) × (St × (St × (St))) × (St) × (St))} (C : nd_C p l s m args c A (dC, dI) cX19_outside 6 RX19 ow_dm_X19_outside (dk_X19 ac)) (K : nd_Ki p l e (headSpec ow_dm_X19_outside ({ frames := 10, cells := 0, slots := 0, locals := 225 })).room s m args below meth c Q A (dC, dI) cX19_outside .int (St × (St) × (St × (St × (St))) × (St) × (St)) (dw_X19 a ac) r) : dj_X19_outside_37 p l e s m args below meth c Q A dC dI a ac (df_X19_outside_37 n) r := by
  obtain ⟨hlt, hx, hb, hml, hown, hts, hN, hA, hK⟩ := id C
  intro x1 x2 x4 y1 y2 s0 H locs ls h hP hD hS hl
  unfold df_X19_outside_37 at h
  obtain ⟨q6, s7, hq, h⟩ := nd_b2_e h
  have hPc := hP
  have hDc := hD
  have hKc := hK
  have hFc := nd_rs hD hS hA
  refine nd_cVi (As := [.int y1, .int y2]) (rest := []) (q := q6) (w' := dw_X19 a ac s7) ⟨hx, hb, hml, hown, hts⟩ (fun sz => dm_X19_fails l hlt dC dI a ac n (y1) (y2) s0 hq sz) (cwV 2 hts gi_dm_X19_outside_1 rfl rfl rfl (by decide +kernel) ⟨Nat.le_of_ble_eq_true rfl, Nat.le_of_ble_eq_true rfl⟩) hPc hDc hKc hS hA hN (va_recv hKc hPc (ci := 20) (q0 := 0) rfl rfl) rfl hl.1 rfl (Nat.le_of_ble_eq_true rfl) dX19_outside_37 (fun H locs hP1 hD1 hk1 hS => ?_)
  have hP := hP1
  have hD := hD1.weaken (fun k q _ h => hFc q.1 h)
  refine lv_if_eq (tgt := 45) hx hb dX19_outside_40 (by decide) (fun c9 => ?_) (fun c9 => ?_)
  · have h := nd_pos h c9
    refine lv_aload_n hx hb dX19_outside_45 rfl (lv_at hl 0 rfl) ?_
    refine va_get (D := (dC, dI)) (ci := 20) (v := .int (sI s7.1 5)) (C := RX19) (T := TX19) (N := 36) hx hb hts hi_dm_X19_outside_X19 hown hK hP 0 rfl rfl 19 (by decide) (hts (.fieldLink RX19 234 "TimeMachineModel" "now" "I") (List.mem_of_getElem? (i := 7) rfl)) (fun _ h9 => h9) rfl dX19_outside_46 ?_
    refine lv_aload_n hx hb dX19_outside_49 rfl (lv_at hl 0 rfl) ?_
    refine va_get (D := (dC, dI)) (ci := 20) (v := .int (sI s7.1 6)) (C := RX19) (T := TX19) (N := 36) hx hb hts hi_dm_X19_outside_X19 hown hK hP 0 rfl rfl 20 (by decide) (hts (.fieldLink RX19 210 "TimeMachineModel" "end" "I") (List.mem_of_getElem? (i := 8) rfl)) (fun _ h9 => h9) rfl dX19_outside_50 ?_
    refine lv_icmp_ne (tgt := 63) hx hb dX19_outside_53 (by decide) (fun c10 => ?_) (fun c10 => ?_)
    · have h := nd_neg h c10
      exact (db_X19_outside_63 C K)  s7 _ _ _ h hP hD hS (lv_sub hl [] rfl)
    · have h := nd_pos h c10
      refine lv_aload_n hx hb dX19_outside_56 rfl (lv_at hl 0 rfl) ?_
      refine va_get (D := (dC, dI)) (ci := 20) (v := .int (sI s7.1 9)) (C := RX19) (T := TX19) (N := 36) hx hb hts hi_dm_X19_outside_X19 hown hK hP 0 rfl rfl 23 (by decide) (hts (.fieldLink RX19 212 "TimeMachineModel" "scheduled" "I") (List.mem_of_getElem? (i := 9) rfl)) (fun _ h9 => h9) rfl dX19_outside_57 ?_
      refine lv_if_le (tgt := 65) hx hb dX19_outside_60 (by decide) (fun c11 => ?_) (fun c11 => ?_)
      · have h := nd_pos h c11
        refine lv_aload_n hx hb dX19_outside_65 rfl (lv_at hl 0 rfl) ?_
        refine va_get (D := (dC, dI)) (ci := 20) (v := .int (sI s7.1 8)) (C := RX19) (T := TX19) (N := 36) hx hb hts hi_dm_X19_outside_X19 hown hK hP 0 rfl rfl 22 (by decide) (hts (.fieldLink RX19 192 "TimeMachineModel" "events" "I") (List.mem_of_getElem? (i := 10) rfl)) (fun _ h9 => h9) rfl dX19_outside_66 ?_
        refine lv_sipush (v := 2048) hx hb dX19_outside_69 (by decide) ?_
        refine lv_icmp_ne (tgt := 77) hx hb dX19_outside_72 (by decide) (fun c12 => ?_) (fun c12 => ?_)
        · have h := nd_neg h c12
          refine lv_aload_n hx hb dX19_outside_77 rfl (lv_at hl 0 rfl) ?_
          refine lv_aload_n hx hb dX19_outside_78 rfl (lv_at hl 0 rfl) ?_
          refine va_get (D := (dC, dI)) (ci := 20) (v := .int (sI s7.1 6)) (C := RX19) (T := TX19) (N := 36) hx hb hts hi_dm_X19_outside_X19 hown hK hP 0 rfl rfl 20 (by decide) (hts (.fieldLink RX19 210 "TimeMachineModel" "end" "I") (List.mem_of_getElem? (i := 8) rfl)) (fun _ h9 => h9) rfl dX19_outside_79 ?_
          obtain ⟨s14, hq, h⟩ := nd_b1_e h
          have hPc := hP
          have hDc := hD
          have hKc := hK
          have hFc := nd_rs hD hS hA
          refine nd_cVv (As := [.int (sI s7.1 6)]) (rest := []) (w' := dw_X19 a ac s14) ⟨hx, hb, hml, hown, hts⟩ (fun sz => dm_X19_come l hlt dC dI a ac n ((sI s7.1 6)) s7 hq sz) (cwV 1 hts gi_dm_X19_outside_2 rfl rfl rfl (by decide +kernel) ⟨Nat.le_of_ble_eq_true rfl, Nat.le_of_ble_eq_true rfl⟩) hPc hDc hKc hS hA hN (va_recv hKc hPc (ci := 20) (q0 := 0) rfl rfl) rfl hl.1 rfl (Nat.le_of_ble_eq_true rfl) dX19_outside_82 (fun H locs hP1 hD1 hk1 hS => ?_)
          have hP := hP1
          have hD := hD1.weaken (fun k q _ h => hFc q.1 h)
          refine lv_aload_n hx hb dX19_outside_85 rfl (lv_at hl 0 rfl) ?_
          refine lv_iload_n hx hb dX19_outside_86 rfl (lv_at hl 1 rfl) ?_
          refine lv_iload_n hx hb dX19_outside_87 rfl (lv_at hl 1 rfl) ?_
          refine lv_iconst (v := 1) hx hb dX19_outside_88 (by decide) ?_
          refine lv_icmp_ne (tgt := 101) hx hb dX19_outside_89 (by decide) (fun c16 => ?_) (fun c16 => ?_)
          · have h := nd_neg h c16
            refine lv_iload_n hx hb dX19_outside_101 rfl (lv_at hl 1 rfl) ?_
            refine lv_iconst (v := 4) hx hb dX19_outside_102 (by decide) ?_
            refine lv_icmp_ne (tgt := 114) hx hb dX19_outside_103 (by decide) (fun c17 => ?_) (fun c17 => ?_)
            · have h := nd_neg h c17
              refine lv_lload_n hx hb dX19_outside_114 rfl (lv_at hl 2 rfl) ?_
              exact (db_X19_outside_115 C K) (x1) (x4) (x1) (x2) s14 _ _ _ h hP hD hS (lv_sub hl [1, 3] rfl)
            · have h := nd_pos h c17
              refine lv_lload_n hx hb dX19_outside_106 rfl (lv_at hl 2 rfl) ?_
              refine lv_iconst (v := 4) hx hb dX19_outside_107 (by decide) ?_
              obtain ⟨q24, s25, hq, h⟩ := nd_b2_e h
              have hPc : va_P (dC, dI) vwCl (dw_P a ac ()) H := nd_p0
              have hDc : va_D A (dw_P a ac ()) := nd_d0
              have hKc : va_K (dC, dI) vwCl (dk_P ac) s := nd_y0 hK
              have hFc : ∀ q, va_A (dw_P a ac ()) H.size q → A q := nd_r0 hS hA
              refine nd_cSl (As := [.long x2, .int 4]) (rest := [.int x1, .ref (a 0)]) (q := q24) (w' := dw_P a ac s25) ⟨hx, hb, hml, hown, hts⟩ (fun sz => dm_X19_low l hlt dC dI a ac n (x2) (4) () hq sz) (cwS 2 hts gi_dm_X19_outside_4 rfl rfl rfl (by decide +kernel) ⟨Nat.le_of_ble_eq_true rfl, Nat.le_of_ble_eq_true rfl⟩) hPc hDc hKc hS hA hN rfl hl.1 rfl (Nat.le_of_ble_eq_true rfl) dX19_outside_108 (fun H locs hP1 hD1 hk1 hS => ?_)
              have hP := nd_n0 hP hk1
              refine lv_goto (tgt := 115) hx hb dX19_outside_111 (by decide) ?_
              exact (db_X19_outside_115 C K) (x1) (x4) (x1) (q24) s14 _ _ _ h hP hD hS (lv_sub hl [1, 3] rfl)
          · have h := nd_pos h c16
            refine lv_lload_n hx hb dX19_outside_92 rfl (lv_at hl 2 rfl) ?_
            refine lv_iload hx hb dX19_outside_93 (lv_at hl 3 rfl) ?_
            obtain ⟨q27, s28, hq, h⟩ := nd_b2_e h
            have hPc : va_P (dC, dI) vwCl (dw_P a ac ()) H := nd_p0
            have hDc : va_D A (dw_P a ac ()) := nd_d0
            have hKc : va_K (dC, dI) vwCl (dk_P ac) s := nd_y0 hK
            have hFc : ∀ q, va_A (dw_P a ac ()) H.size q → A q := nd_r0 hS hA
            refine nd_cSl (As := [.long x2, .int x4]) (rest := [.int x1, .ref (a 0)]) (q := q27) (w' := dw_P a ac s28) ⟨hx, hb, hml, hown, hts⟩ (fun sz => dm_X19_low l hlt dC dI a ac n (x2) (x4) () hq sz) (cwS 2 hts gi_dm_X19_outside_4 rfl rfl rfl (by decide +kernel) ⟨Nat.le_of_ble_eq_true rfl, Nat.le_of_ble_eq_true rfl⟩) hPc hDc hKc hS hA hN rfl hl.1 rfl (Nat.le_of_ble_eq_true rfl) dX19_outside_95 (fun H locs hP1 hD1 hk1 hS => ?_)
            have hP := nd_n0 hP hk1
            refine lv_goto (tgt := 115) hx hb dX19_outside_98 (by decide) ?_
            exact (db_X19_outside_115 C K) (x1) (x4) (x1) (q27) s14 _ _ _ h hP hD hS (lv_sub hl [1, 3] rfl)
        · have h := nd_pos h c12
          refine lv_iconst (v := 3) hx hb dX19_outside_75 (by decide) ?_
          exact K _ _ _ _ _ _ dX19_outside_76 rfl (Option.some.inj h).symm hP hD hS
      · have h := nd_neg h c11
        exact (db_X19_outside_63 C K)  s7 _ _ _ h hP hD hS (lv_sub hl [] rfl)
  · have h := nd_neg h c9
    refine lv_iconst (v := 0) hx hb dX19_outside_43 (by decide) ?_
    exact K _ _ _ _ _ _ dX19_outside_44 rfl (Option.some.inj h).symm hP hD hS
set_option maxHeartbeats 40000000 in
set_option maxRecDepth 100000 in
theorem db_X19_outside_36 {p : Program} {l : Launch} {e : Env} {s : State} {m : MethodId} {args : Array Value} {below : List Frame} {meth : Method} {c : Code} {Q : State → Prop} {A : Nat → Prop} {dC : Nat → ClassId} {dI : Nat → Nat → Nat} {a : Nat → Nat} {ac : Nat → ClassId} {n : Nat} {r : Int32 × (St × (St) × (St × (St × (St))) × (St) × (St))} (C : nd_C p l s m args c A (dC, dI) cX19_outside 6 RX19 ow_dm_X19_outside (dk_X19 ac)) (K : nd_Ki p l e (headSpec ow_dm_X19_outside ({ frames := 10, cells := 0, slots := 0, locals := 225 })).room s m args below meth c Q A (dC, dI) cX19_outside .int (St × (St) × (St × (St × (St))) × (St) × (St)) (dw_X19 a ac) r) : dj_X19_outside_36 p l e s m args below meth c Q A dC dI a ac (df_X19_outside_36 n) r := by
  obtain ⟨hlt, hx, hb, hml, hown, hts, hN, hA, hK⟩ := id C
  intro x1 x2 x4 y1 s0 H locs ls h hP hD hS hl
  unfold df_X19_outside_36 at h
  refine lv_iconst (v := 0) hx hb dX19_outside_36 (by decide) ?_
  exact (db_X19_outside_37 C K) (x1) (x2) (x4) (y1) (0) s0 _ _ _ h hP hD hS (lv_sub hl [0, 1, 2, 3] rfl)
set_option maxHeartbeats 40000000 in
set_option maxRecDepth 100000 in
theorem db_X19_outside_20 {p : Program} {l : Launch} {e : Env} {s : State} {m : MethodId} {args : Array Value} {below : List Frame} {meth : Method} {c : Code} {Q : State → Prop} {A : Nat → Prop} {dC : Nat → ClassId} {dI : Nat → Nat → Nat} {a : Nat → Nat} {ac : Nat → ClassId} {n : Nat} {r : Int32 × (St × (St) × (St × (St × (St))) × (St) × (St))} (C : nd_C p l s m args c A (dC, dI) cX19_outside 6 RX19 ow_dm_X19_outside (dk_X19 ac)) (K : nd_Ki p l e (headSpec ow_dm_X19_outside ({ frames := 10, cells := 0, slots := 0, locals := 225 })).room s m args below meth c Q A (dC, dI) cX19_outside .int (St × (St) × (St × (St × (St))) × (St) × (St)) (dw_X19 a ac) r) : dj_X19_outside_20 p l e s m args below meth c Q A dC dI a ac (df_X19_outside_20 n) r := by
  obtain ⟨hlt, hx, hb, hml, hown, hts, hN, hA, hK⟩ := id C
  intro x1 x2 x4 x5 y1 s0 H locs ls h hP hD hS hl
  unfold df_X19_outside_20 at h
  refine lv_iload hx hb dX19_outside_20 (lv_at hl 4 rfl) ?_
  refine lv_if_eq (tgt := 36) hx hb dX19_outside_22 (by decide) (fun c5 => ?_) (fun c5 => ?_)
  · have h := nd_pos h c5
    exact (db_X19_outside_36 C K) (x1) (x2) (x4) (y1) s0 _ _ _ h hP hD hS (lv_sub hl [0, 1, 2, 3] rfl)
  · have h := nd_neg h c5
    refine lv_aload_n hx hb dX19_outside_25 rfl (lv_at hl 0 rfl) ?_
    refine va_get (D := (dC, dI)) (ci := 20) (v := .int (sI s0.1 3)) (C := RX19) (T := TX19) (N := 36) hx hb hts hi_dm_X19_outside_X19 hown hK hP 0 rfl rfl 17 (by decide) (hts (.fieldLink RX19 231 "TimeMachineModel" "booted" "Z") (List.mem_of_getElem? (i := 19) rfl)) (fun _ h9 => h9) rfl dX19_outside_26 ?_
    refine lv_if_ne (tgt := 36) hx hb dX19_outside_29 (by decide) (fun c30 => ?_) (fun c30 => ?_)
    · have h := nd_neg h c30
      exact (db_X19_outside_36 C K) (x1) (x2) (x4) (y1) s0 _ _ _ h hP hD hS (lv_sub hl [0, 1, 2, 3] rfl)
    · have h := nd_pos h c30
      refine lv_iconst (v := 1) hx hb dX19_outside_32 (by decide) ?_
      refine lv_goto (tgt := 37) hx hb dX19_outside_33 (by decide) ?_
      exact (db_X19_outside_37 C K) (x1) (x2) (x4) (y1) (1) s0 _ _ _ h hP hD hS (lv_sub hl [0, 1, 2, 3] rfl)
set_option maxHeartbeats 40000000 in
set_option maxRecDepth 100000 in
theorem db_X19_outside_0 {p : Program} {l : Launch} {e : Env} {s : State} {m : MethodId} {args : Array Value} {below : List Frame} {meth : Method} {c : Code} {Q : State → Prop} {A : Nat → Prop} {dC : Nat → ClassId} {dI : Nat → Nat → Nat} {a : Nat → Nat} {ac : Nat → ClassId} {n : Nat} {r : Int32 × (St × (St) × (St × (St × (St))) × (St) × (St))} (C : nd_C p l s m args c A (dC, dI) cX19_outside 6 RX19 ow_dm_X19_outside (dk_X19 ac)) (K : nd_Ki p l e (headSpec ow_dm_X19_outside ({ frames := 10, cells := 0, slots := 0, locals := 225 })).room s m args below meth c Q A (dC, dI) cX19_outside .int (St × (St) × (St × (St × (St))) × (St) × (St)) (dw_X19 a ac) r) : dj_X19_outside_0 p l e s m args below meth c Q A dC dI a ac (df_X19_outside_0 n) r := by
  obtain ⟨hlt, hx, hb, hml, hown, hts, hN, hA, hK⟩ := id C
  intro v0 v1 v2 s0 H locs ls h hP hD hS hl
  unfold df_X19_outside_0 at h
  refine lv_iload_n hx hb dX19_outside_0 rfl (lv_at hl 1 rfl) ?_
  refine lv_lload_n hx hb dX19_outside_1 rfl (lv_at hl 2 rfl) ?_
  refine lv_iload hx hb dX19_outside_2 (lv_at hl 3 rfl) ?_
  obtain ⟨q1, s2, hq, h⟩ := nd_b2_e h
  have hPc : va_P (dC, dI) vwCl (dw_P a ac ()) H := nd_p0
  have hDc : va_D A (dw_P a ac ()) := nd_d0
  have hKc : va_K (dC, dI) vwCl (dk_P ac) s := nd_y0 hK
  have hFc : ∀ q, va_A (dw_P a ac ()) H.size q → A q := nd_r0 hS hA
  refine nd_cSi (As := [.int v0, .long v1, .int v2]) (rest := []) (q := q1) (w' := dw_P a ac s2) ⟨hx, hb, hml, hown, hts⟩ (fun sz => dm_X19_isSaid l hlt dC dI a ac n (v0) (v1) (v2) () hq sz) (cwS 3 hts gi_dm_X19_outside_0 rfl rfl rfl (by decide +kernel) ⟨Nat.le_of_ble_eq_true rfl, Nat.le_of_ble_eq_true rfl⟩) hPc hDc hKc hS hA hN rfl hl.1 rfl (Nat.le_of_ble_eq_true rfl) dX19_outside_4 (fun H locs hP1 hD1 hk1 hS => ?_)
  have hP := nd_n0 hP hk1
  refine lv_istore (lv' := [(5, .int q1), (0, .ref (a 0)), (1, .int v0), (2, .long v1), (4, .int v2)]) hx hb dX19_outside_7 hl (by decide) rfl (fun ls hl => ?_)
  refine lv_aload_n hx hb dX19_outside_9 rfl (lv_at hl 1 rfl) ?_
  refine lv_iload hx hb dX19_outside_10 (lv_at hl 0 rfl) ?_
  refine lv_if_ne (tgt := 19) hx hb dX19_outside_12 (by decide) (fun c4 => ?_) (fun c4 => ?_)
  · have h := nd_neg h c4
    refine lv_iconst (v := 0) hx hb dX19_outside_19 (by decide) ?_
    exact (db_X19_outside_20 C K) (v0) (v1) (v2) (q1) (0) s0 _ _ _ h hP hD hS (lv_sub hl [1, 2, 3, 4, 0] rfl)
  · have h := nd_pos h c4
    refine lv_iconst (v := 1) hx hb dX19_outside_15 (by decide) ?_
    refine lv_goto (tgt := 20) hx hb dX19_outside_16 (by decide) ?_
    exact (db_X19_outside_20 C K) (v0) (v1) (v2) (q1) (1) s0 _ _ _ h hP hD hS (lv_sub hl [1, 2, 3, 4, 0] rfl)
set_option maxHeartbeats 40000000 in
set_option maxRecDepth 100000 in
theorem dm_X19_outside (l : Launch) (hlt : l.stackTraces = false) (dC : Nat → ClassId) (dI : Nat → Nat → Nat) (a : Nat → Nat) (ac : Nat → ClassId) (n : Nat) (v0 : Int32) (v1 : Int64) (v2 : Int32) (s0 : St × (St) × (St × (St × (St))) × (St) × (St)) {r : Int32 × (St × (St) × (St × (St × (St))) × (St) × (St))} (h : df_X19_outside n v0 v1 v2 s0 = some r) (sz : Nat) : Met l yX19_outside ow_dm_X19_outside ({ frames := 10, cells := 0, slots := 0, locals := 225 }) (va_Pc [.ref (a 0), .int v0, .long v1, .int v2] (fun U => U.heap.size = sz ∧ va_P (dC, dI) vwCl (dw_X19 a ac s0) U.heap ∧ va_K (dC, dI) vwCl (dk_X19 ac) U ∧ va_D (fun _ => True) (dw_X19 a ac s0) ∧ nv_E (va_A (dw_X19 a ac s0) sz) U)) (va_Qi (fun x _ => x = r.1) (fun (_ : Unit) t => va_P (dC, dI) vwCl (dw_X19 a ac r.2) t.heap ∧ va_K (dC, dI) vwCl (dk_X19 ac) t ∧ va_D (va_A (dw_X19 a ac s0) sz) (dw_X19 a ac r.2)) (va_A (dw_X19 a ac s0) sz)) 0 0 (va_A (dw_X19 a ac s0) sz) := by
  refine Met.ofW (cc := cX19_outside) (maxL := 6) (ret := (some .int)) (by decide) rfl ?_
  intro p e s m args below meth c s₁ B hml hv
  obtain ⟨rfl, hsz, hP, hK, hD0, hN⟩ := hv
  have hx := B.exec
  have hb := B.bytes
  have hr := B.returns
  have hts := atoms_spec (ws := ow_dm_X19_outside) B.pre
  have hown : s.vm.findClass RX19 = some m.cls := findClass_of_methodNamed B.named
  have hlocks := B.notSynchronized
  subst hsz
  have hD := hD0.self (sz := s.heap.size)
  generalize hAe : va_A (dw_X19 a ac s0) s.heap.size = A at hD hN ⊢
  have hA : ∀ q : Nat, s.heap.size ≤ q → A q := fun q h => by rw [← hAe]; exact Or.inr h
  have hl := lv_entry ([.ref (a 0), .int v0, .long v1, .int v2]) (n := 6) (Nat.le_of_ble_eq_true rfl)
  rw [lg_entry_eq]
  generalize (lg_sl ([.ref (a 0), .int v0, .long v1, .int v2]) ++ List.replicate (6 - (lg_sl ([.ref (a 0), .int v0, .long v1, .int v2])).length) Slot.unset).toArray = ls at hl ⊢
  have hl : lv_has ls 6 [(0, .ref (a 0)), (1, .int v0), (2, .long v1), (4, .int v2)] := hl
  exact db_X19_outside_0 (dC := dC) (dI := dI) (a := a) (ac := ac) (n := n) (r := r) ⟨hlt, hx, hb, hml, hown, hts, hN, hA, hK⟩ (fun pc v τ H locs ls d z er hP hD hS => by subst er; exact W.zret (v := v) hx hb hr z (fun t ht hW => ⟨⟨v, (), rfl, rfl, by rw [ht]; exact hP, va_K.moved hW.alike hK, hD⟩, hS.F ht⟩) hS.2.2 d) v0 v1 v2 s0 _ _ _ h hP hD va_S.rf (lv_sub hl [0, 1, 2, 3] rfl)
def ow_dm_X19_hit : List Cond := .code yX19_hit cX19_hit 2 (some .int) :: ([.fieldLink RX19 67 "TimeMachineModel" "conditions" "LTimeMachineModel$Conditions;", .methodLink RX19 273 yX15_isThere, .instanceMethod yX15_isThere, .selects RX15 yX15_isThere yX15_isThere, .initialized RX15, .methodLink RX19 276 yX15_value, .instanceMethod yX15_value, .selects RX15 yX15_value yX15_value] ++ (u_ws RX19 TX19 36 ++ (ow_dm_X15_isThere ++ (ow_dm_X15_value ++ []))))
theorem gd_dm_X19_hit : ∀ w ∈ ow_dm_X19_hit, (w.onTables && w.keeps) = true ∨ ∃ ty, w = Cond.arrayClass ty := List.forall_mem_cons.mpr ⟨good_of_word rfl, List.forall_mem_append.mpr ⟨fun w h => good_of_word (List.all_eq_true.mp (by decide +kernel) w h), List.forall_mem_append.mpr ⟨gu_X19, List.forall_mem_append.mpr ⟨gd_dm_X15_isThere, List.forall_mem_append.mpr ⟨gd_dm_X15_value, fun _ h => nomatch h⟩⟩⟩⟩⟩
theorem hi_dm_X19_hit_X19 : ∀ w ∈ u_ws RX19 TX19 36, w ∈ ow_dm_X19_hit := fun w h => List.mem_cons_of_mem _ (List.mem_append_right _ (List.mem_append_left _ h))
theorem gi_dm_X19_hit_0 : GoodIn ow_dm_X19_hit (wsV RX19 273 RX15 yX15_isThere ow_dm_X15_isThere) := goodIn_app (goodIn_of _ (by decide +kernel)) (fun w h => ⟨List.mem_cons_of_mem _ (List.mem_append_right _ (List.mem_append_right _ (List.mem_append_left _ h))), gd_dm_X15_isThere w h⟩)
theorem gi_dm_X19_hit_1 : GoodIn ow_dm_X19_hit (wsV RX19 276 RX15 yX15_value ow_dm_X15_value) := goodIn_app (goodIn_of _ (by decide +kernel)) (fun w h => ⟨List.mem_cons_of_mem _ (List.mem_append_right _ (List.mem_append_right _ (List.mem_append_right _ (List.mem_append_left _ h)))), gd_dm_X15_value w h⟩)
def dj_X19_hit_49 (p : Program) (l : Launch) (e : Env) (s : State) (m : MethodId) (args : Array Value) (below : List Frame) (meth : Method) (c : Code) (Q : State → Prop) (A : Nat → Prop) (dC : Nat → ClassId) (dI : Nat → Nat → Nat) (a : Nat → Nat) (ac : Nat → ClassId) (g : Int32 → (St × (St) × (St × (St × (St))) × (St) × (St)) → Option (Int32 × (St × (St) × (St × (St × (St))) × (St) × (St)))) (r : Int32 × (St × (St) × (St × (St × (St))) × (St) × (St))) : Prop := ∀ (y0 : Int32) (s0 : St × (St) × (St × (St × (St))) × (St) × (St)) (H : Heap) (locs : List Loc) (ls : Array Slot), g y0 s0 = some r → va_P (dC, dI) vwCl (dw_X19 a ac s0) H → va_D A (dw_X19 a ac s0) → va_S A s.heap H locs → lv_has ls 2 [] → W p l e (headSpec ow_dm_X19_hit ({ frames := 7, cells := 0, slots := 0, locals := 164 })).room s m args below meth c H locs 0 0 Q (F0 m 49 ls [.int y0])
def dj_X19_hit_38 (p : Program) (l : Launch) (e : Env) (s : State) (m : MethodId) (args : Array Value) (below : List Frame) (meth : Method) (c : Code) (Q : State → Prop) (A : Nat → Prop) (dC : Nat → ClassId) (dI : Nat → Nat → Nat) (a : Nat → Nat) (ac : Nat → ClassId) (g : Int32 → (St × (St) × (St × (St × (St))) × (St) × (St)) → Option (Int32 × (St × (St) × (St × (St × (St))) × (St) × (St)))) (r : Int32 × (St × (St) × (St × (St × (St))) × (St) × (St))) : Prop := ∀ (x1 : Int32) (s0 : St × (St) × (St × (St × (St))) × (St) × (St)) (H : Heap) (locs : List Loc) (ls : Array Slot), g x1 s0 = some r → va_P (dC, dI) vwCl (dw_X19 a ac s0) H → va_D A (dw_X19 a ac s0) → va_S A s.heap H locs → lv_has ls 2 [(1, .int x1)] → W p l e (headSpec ow_dm_X19_hit ({ frames := 7, cells := 0, slots := 0, locals := 164 })).room s m args below meth c H locs 0 0 Q (F0 m 38 ls [])
def dj_X19_hit_32 (p : Program) (l : Launch) (e : Env) (s : State) (m : MethodId) (args : Array Value) (below : List Frame) (meth : Method) (c : Code) (Q : State → Prop) (A : Nat → Prop) (dC : Nat → ClassId) (dI : Nat → Nat → Nat) (a : Nat → Nat) (ac : Nat → ClassId) (g : Int32 → (St × (St) × (St × (St × (St))) × (St) × (St)) → Option (Int32 × (St × (St) × (St × (St × (St))) × (St) × (St)))) (r : Int32 × (St × (St) × (St × (St × (St))) × (St) × (St))) : Prop := ∀ (x1 : Int32) (s0 : St × (St) × (St × (St × (St))) × (St) × (St)) (H : Heap) (locs : List Loc) (ls : Array Slot), g x1 s0 = some r → va_P (dC, dI) vwCl (dw_X19 a ac s0) H → va_D A (dw_X19 a ac s0) → va_S A s.heap H locs → lv_has ls 2 [(0, .ref (a 0)), (1, .int x1)] → W p l e (headSpec ow_dm_X19_hit ({ frames := 7, cells := 0, slots := 0, locals := 164 })).room s m args below meth c H locs 0 0 Q (F0 m 32 ls [])
def dj_X19_hit_2 (p : Program) (l : Launch) (e : Env) (s : State) (m : MethodId) (args : Array Value) (below : List Frame) (meth : Method) (c : Code) (Q : State → Prop) (A : Nat → Prop) (dC : Nat → ClassId) (dI : Nat → Nat → Nat) (a : Nat → Nat) (ac : Nat → ClassId) (g : Int32 → (St × (St) × (St × (St × (St))) × (St) × (St)) → Option (Int32 × (St × (St) × (St × (St × (St))) × (St) × (St)))) (r : Int32 × (St × (St) × (St × (St × (St))) × (St) × (St))) : Prop := ∀ (x1 : Int32) (s0 : St × (St) × (St × (St × (St))) × (St) × (St)) (H : Heap) (locs : List Loc) (ls : Array Slot), g x1 s0 = some r → va_P (dC, dI) vwCl (dw_X19 a ac s0) H → va_D A (dw_X19 a ac s0) → va_S A s.heap H locs → lv_has ls 2 [(0, .ref (a 0)), (1, .int x1)] → W p l e (headSpec ow_dm_X19_hit ({ frames := 7, cells := 0, slots := 0, locals := 164 })).room s m args below meth c H locs 0 0 Q (F0 m 2 ls [])
def dj_X19_hit_0 (p : Program) (l : Launch) (e : Env) (s : State) (m : MethodId) (args : Array Value) (below : List Frame) (meth : Method) (c : Code) (Q : State → Prop) (A : Nat → Prop) (dC : Nat → ClassId) (dI : Nat → Nat → Nat) (a : Nat → Nat) (ac : Nat → ClassId) (g : (St × (St) × (St × (St × (St))) × (St) × (St)) → Option (Int32 × (St × (St) × (St × (St × (St))) × (St) × (St)))) (r : Int32 × (St × (St) × (St × (St × (St))) × (St) × (St))) : Prop := ∀ (s0 : St × (St) × (St × (St × (St))) × (St) × (St)) (H : Heap) (locs : List Loc) (ls : Array Slot), g s0 = some r → va_P (dC, dI) vwCl (dw_X19 a ac s0) H → va_D A (dw_X19 a ac s0) → va_S A s.heap H locs → lv_has ls 2 [(0, .ref (a 0))] → W p l e (headSpec ow_dm_X19_hit ({ frames := 7, cells := 0, slots := 0, locals := 164 })).room s m args below meth c H locs 0 0 Q (F0 m 0 ls [])
set_option maxHeartbeats 40000000 in
set_option maxRecDepth 100000 in
theorem db_X19_hit_49 {p : Program} {l : Launch} {e : Env} {s : State} {m : MethodId} {args : Array Value} {below : List Frame} {meth : Method} {c : Code} {Q : State → Prop} {A : Nat → Prop} {dC : Nat → ClassId} {dI : Nat → Nat → Nat} {a : Nat → Nat} {ac : Nat → ClassId} {n : Nat} {r : Int32 × (St × (St) × (St × (St × (St))) × (St) × (St))} (C : nd_C p l s m args c A (dC, dI) cX19_hit 2 RX19 ow_dm_X19_hit (dk_X19 ac)) (K : nd_Ki p l e (headSpec ow_dm_X19_hit ({ frames := 7, cells := 0, slots := 0, locals := 164 })).room s m args below meth c Q A (dC, dI) cX19_hit .int (St × (St) × (St × (St × (St))) × (St) × (St)) (dw_X19 a ac) r) : dj_X19_hit_49 p l e s m args below meth c Q A dC dI a ac (df_X19_hit_49 n) r := by
  obtain ⟨hlt, hx, hb, hml, hown, hts, hN, hA, hK⟩ := id C
  intro y0 s0 H locs ls h hP hD hS hl
  unfold df_X19_hit_49 at h
  exact K _ _ _ _ _ _ dX19_hit_49 rfl (Option.some.inj h).symm hP hD hS
set_option maxHeartbeats 40000000 in
set_option maxRecDepth 100000 in
theorem db_X19_hit_38 {p : Program} {l : Launch} {e : Env} {s : State} {m : MethodId} {args : Array Value} {below : List Frame} {meth : Method} {c : Code} {Q : State → Prop} {A : Nat → Prop} {dC : Nat → ClassId} {dI : Nat → Nat → Nat} {a : Nat → Nat} {ac : Nat → ClassId} {n : Nat} {r : Int32 × (St × (St) × (St × (St × (St))) × (St) × (St))} (C : nd_C p l s m args c A (dC, dI) cX19_hit 2 RX19 ow_dm_X19_hit (dk_X19 ac)) (K : nd_Ki p l e (headSpec ow_dm_X19_hit ({ frames := 7, cells := 0, slots := 0, locals := 164 })).room s m args below meth c Q A (dC, dI) cX19_hit .int (St × (St) × (St × (St × (St))) × (St) × (St)) (dw_X19 a ac) r) : dj_X19_hit_38 p l e s m args below meth c Q A dC dI a ac (df_X19_hit_38 n) r := by
  obtain ⟨hlt, hx, hb, hml, hown, hts, hN, hA, hK⟩ := id C
  intro x1 s0 H locs ls h hP hD hS hl
  unfold df_X19_hit_38 at h
  refine lv_iload_n hx hb dX19_hit_38 rfl (lv_at hl 0 rfl) ?_
  refine lv_bipush (v := 8) hx hb dX19_hit_39 (by decide) ?_
  refine lv_icmp_ge (tgt := 48) hx hb dX19_hit_41 (by decide) (fun c2 => ?_) (fun c2 => ?_)
  · have h := nd_pos h c2
    refine lv_iconst (v := (-1)) hx hb dX19_hit_48 (by decide) ?_
    exact (db_X19_hit_49 C K) ((-1)) s0 _ _ _ h hP hD hS (lv_sub hl [] rfl)
  · have h := nd_neg h c2
    refine lv_iload_n hx hb dX19_hit_44 rfl (lv_at hl 0 rfl) ?_
    refine lv_goto (tgt := 49) hx hb dX19_hit_45 (by decide) ?_
    exact (db_X19_hit_49 C K) (x1) s0 _ _ _ h hP hD hS (lv_sub hl [] rfl)
set_option maxHeartbeats 40000000 in
set_option maxRecDepth 100000 in
theorem db_X19_hit_32 {p : Program} {l : Launch} {e : Env} {s : State} {m : MethodId} {args : Array Value} {below : List Frame} {meth : Method} {c : Code} {Q : State → Prop} {A : Nat → Prop} {dC : Nat → ClassId} {dI : Nat → Nat → Nat} {a : Nat → Nat} {ac : Nat → ClassId} {n : Nat} {r : Int32 × (St × (St) × (St × (St × (St))) × (St) × (St))} (C : nd_C p l s m args c A (dC, dI) cX19_hit 2 RX19 ow_dm_X19_hit (dk_X19 ac)) (K : nd_Ki p l e (headSpec ow_dm_X19_hit ({ frames := 7, cells := 0, slots := 0, locals := 164 })).room s m args below meth c Q A (dC, dI) cX19_hit .int (St × (St) × (St × (St × (St))) × (St) × (St)) (dw_X19 a ac) r) {g2 : Int32 → (St × (St) × (St × (St × (St))) × (St) × (St)) → Option (Int32 × (St × (St) × (St × (St × (St))) × (St) × (St)))} (J2 : dj_X19_hit_2 p l e s m args below meth c Q A dC dI a ac g2 r) : dj_X19_hit_32 p l e s m args below meth c Q A dC dI a ac (df_X19_hit_32 n g2) r := by
  obtain ⟨hlt, hx, hb, hml, hown, hts, hN, hA, hK⟩ := id C
  intro x1 s0 H locs ls h hP hD hS hl
  unfold df_X19_hit_32 at h
  obtain ⟨z8, ez8, h⟩ := nd_let_e h
  refine lv_iinc (v := z8) (lv' := [(1, .int z8), (0, .ref (a 0))]) hx hb dX19_hit_32 hl (k := 1) rfl (by rw [ez8]) (by decide) rfl (fun ls hl => ?_)
  refine lv_goto (tgt := 2) hx hb dX19_hit_35 (by decide) ?_
  exact (J2) (z8) s0 _ _ _ h hP hD hS (lv_sub hl [1, 0] rfl)
set_option maxHeartbeats 40000000 in
set_option maxRecDepth 100000 in
theorem dB_X19_hit_2 {p : Program} {l : Launch} {e : Env} {s : State} {m : MethodId} {args : Array Value} {below : List Frame} {meth : Method} {c : Code} {Q : State → Prop} {A : Nat → Prop} {dC : Nat → ClassId} {dI : Nat → Nat → Nat} {a : Nat → Nat} {ac : Nat → ClassId} {n : Nat} {r : Int32 × (St × (St) × (St × (St × (St))) × (St) × (St))} (C : nd_C p l s m args c A (dC, dI) cX19_hit 2 RX19 ow_dm_X19_hit (dk_X19 ac)) (K : nd_Ki p l e (headSpec ow_dm_X19_hit ({ frames := 7, cells := 0, slots := 0, locals := 164 })).room s m args below meth c Q A (dC, dI) cX19_hit .int (St × (St) × (St × (St × (St))) × (St) × (St)) (dw_X19 a ac) r) {g2 : Int32 → (St × (St) × (St × (St × (St))) × (St) × (St)) → Option (Int32 × (St × (St) × (St × (St × (St))) × (St) × (St)))} (J2 : dj_X19_hit_2 p l e s m args below meth c Q A dC dI a ac g2 r) : dj_X19_hit_2 p l e s m args below meth c Q A dC dI a ac (dF_X19_hit_2 n g2) r := by
  obtain ⟨hlt, hx, hb, hml, hown, hts, hN, hA, hK⟩ := id C
  intro x1 s0 H locs ls h hP hD hS hl
  unfold dF_X19_hit_2 at h
  refine lv_iload_n hx hb dX19_hit_2 rfl (lv_at hl 1 rfl) ?_
  refine lv_bipush (v := 8) hx hb dX19_hit_3 (by decide) ?_
  refine lv_icmp_ge (tgt := 38) hx hb dX19_hit_5 (by decide) (fun c1 => ?_) (fun c1 => ?_)
  · have h := nd_pos h c1
    exact (db_X19_hit_38 C K) (x1) s0 _ _ _ h hP hD hS (lv_sub hl [1] rfl)
  · have h := nd_neg h c1
    refine lv_aload_n hx hb dX19_hit_8 rfl (lv_at hl 0 rfl) ?_
    refine va_get (D := (dC, dI)) (ci := 20) (v := .ref (a 27)) (C := RX19) (T := TX19) (N := 36) hx hb hts hi_dm_X19_hit_X19 hown hK hP 0 rfl rfl 14 (by decide) (hts (.fieldLink RX19 67 "TimeMachineModel" "conditions" "LTimeMachineModel$Conditions;") (List.mem_of_getElem? (i := 1) rfl)) (fun _ h9 => h9) rfl dX19_hit_9 ?_
    refine lv_iload_n hx hb dX19_hit_12 rfl (lv_at hl 1 rfl) ?_
    obtain ⟨q3, s4, hq, h⟩ := nd_b2_e h
    have hPc := dp_X19_27 hP
    have hDc := dd_X19_27 hD
    have hKc := dy_X19_27 hK
    have hFc := nd_rs hDc hS hA
    have hzA : ∀ q : Nat, H.size ≤ q → A q := fun q h => hA q (Nat.le_trans hS.1 h)
    refine nd_cVi (As := [.int x1]) (rest := []) (q := q3) (w' := dw_X15 (fun k => a (k + 27)) (fun k => ac (k + 27)) s4) ⟨hx, hb, hml, hown, hts⟩ (fun sz => dm_X15_isThere l hlt dC dI (fun k => a (k + 27)) (fun k => ac (k + 27)) n (x1) s0.2.2.1 hq sz) (cwV 1 hts gi_dm_X19_hit_0 rfl rfl rfl (by decide +kernel) ⟨Nat.le_of_ble_eq_true rfl, Nat.le_of_ble_eq_true rfl⟩) hPc hDc hKc hS hA hN (va_recv hKc hPc (ci := 16) (q0 := 0) rfl rfl) rfl hl.1 rfl (Nat.le_of_ble_eq_true rfl) dX19_hit_13 (fun H locs hP1 hD1 hk1 hS => ?_)
    obtain ⟨hP, hD⟩ := dn_X19_27 hP hD hzA hk1 hP1 hD1
    obtain ⟨s6, es6, h⟩ := nd_let_e h
    have hP : va_P (dC, dI) vwCl (dw_X19 a ac s6) H := by rw [es6]; exact hP
    have hD : va_D A (dw_X19 a ac s6) := by rw [es6]; exact hD
    refine lv_if_eq (tgt := 32) hx hb dX19_hit_16 (by decide) (fun c7 => ?_) (fun c7 => ?_)
    · have h := nd_pos h c7
      exact (db_X19_hit_32 C K J2) (x1) s6 _ _ _ h hP hD hS (lv_sub hl [0, 1] rfl)
    · have h := nd_neg h c7
      refine lv_aload_n hx hb dX19_hit_19 rfl (lv_at hl 0 rfl) ?_
      refine va_get (D := (dC, dI)) (ci := 20) (v := .ref (a 27)) (C := RX19) (T := TX19) (N := 36) hx hb hts hi_dm_X19_hit_X19 hown hK hP 0 rfl rfl 14 (by decide) (hts (.fieldLink RX19 67 "TimeMachineModel" "conditions" "LTimeMachineModel$Conditions;") (List.mem_of_getElem? (i := 1) rfl)) (fun _ h9 => h9) rfl dX19_hit_20 ?_
      refine lv_iload_n hx hb dX19_hit_23 rfl (lv_at hl 1 rfl) ?_
      obtain ⟨q9, s10, hq, h⟩ := nd_b2_e h
      have hPc := dp_X19_27 hP
      have hDc := dd_X19_27 hD
      have hKc := dy_X19_27 hK
      have hFc := nd_rs hDc hS hA
      have hzA : ∀ q : Nat, H.size ≤ q → A q := fun q h => hA q (Nat.le_trans hS.1 h)
      refine nd_cVl (As := [.int x1]) (rest := []) (q := q9) (w' := dw_X15 (fun k => a (k + 27)) (fun k => ac (k + 27)) s10) ⟨hx, hb, hml, hown, hts⟩ (fun sz => dm_X15_value l hlt dC dI (fun k => a (k + 27)) (fun k => ac (k + 27)) n (x1) s6.2.2.1 hq sz) (cwV 1 hts gi_dm_X19_hit_1 rfl rfl rfl (by decide +kernel) ⟨Nat.le_of_ble_eq_true rfl, Nat.le_of_ble_eq_true rfl⟩) hPc hDc hKc hS hA hN (va_recv hKc hPc (ci := 16) (q0 := 0) rfl rfl) rfl hl.1 rfl (Nat.le_of_ble_eq_true rfl) dX19_hit_24 (fun H locs hP1 hD1 hk1 hS => ?_)
      obtain ⟨hP, hD⟩ := dn_X19_27 hP hD hzA hk1 hP1 hD1
      obtain ⟨s12, es12, h⟩ := nd_let_e h
      have hP : va_P (dC, dI) vwCl (dw_X19 a ac s12) H := by rw [es12]; exact hP
      have hD : va_D A (dw_X19 a ac s12) := by rw [es12]; exact hD
      refine lv_lconst (v := 0) hx hb dX19_hit_27 (by decide) ?_
      refine W.lcmp hx hb dX19_hit_28 ?_
      refine lv_if_ne (tgt := 38) hx hb dX19_hit_29 (by decide) (fun c13 => ?_) (fun c13 => ?_)
      · have h := nd_neg h c13
        exact (db_X19_hit_38 C K) (x1) s12 _ _ _ h hP hD hS (lv_sub hl [1] rfl)
      · have h := nd_pos h c13
        exact (db_X19_hit_32 C K J2) (x1) s12 _ _ _ h hP hD hS (lv_sub hl [0, 1] rfl)
set_option maxHeartbeats 40000000 in
set_option maxRecDepth 100000 in
theorem db_X19_hit_2 {p : Program} {l : Launch} {e : Env} {s : State} {m : MethodId} {args : Array Value} {below : List Frame} {meth : Method} {c : Code} {Q : State → Prop} {A : Nat → Prop} {dC : Nat → ClassId} {dI : Nat → Nat → Nat} {a : Nat → Nat} {ac : Nat → ClassId} {n : Nat} {r : Int32 × (St × (St) × (St × (St × (St))) × (St) × (St))} (C : nd_C p l s m args c A (dC, dI) cX19_hit 2 RX19 ow_dm_X19_hit (dk_X19 ac)) (K : nd_Ki p l e (headSpec ow_dm_X19_hit ({ frames := 7, cells := 0, slots := 0, locals := 164 })).room s m args below meth c Q A (dC, dI) cX19_hit .int (St × (St) × (St × (St × (St))) × (St) × (St)) (dw_X19 a ac) r) (k : Nat) : dj_X19_hit_2 p l e s m args below meth c Q A dC dI a ac (df_X19_hit_2 n k) r := by
  induction k with
  | zero => intro x1 s0 H locs ls h; exact nomatch (show (none : Option (Int32 × (St × (St) × (St × (St × (St))) × (St) × (St)))) = some r from h)
  | succ k ih => exact dB_X19_hit_2 C K ih
set_option maxHeartbeats 40000000 in
set_option maxRecDepth 100000 in
theorem db_X19_hit_0 {p : Program} {l : Launch} {e : Env} {s : State} {m : MethodId} {args : Array Value} {below : List Frame} {meth : Method} {c : Code} {Q : State → Prop} {A : Nat → Prop} {dC : Nat → ClassId} {dI : Nat → Nat → Nat} {a : Nat → Nat} {ac : Nat → ClassId} {n : Nat} {r : Int32 × (St × (St) × (St × (St × (St))) × (St) × (St))} (C : nd_C p l s m args c A (dC, dI) cX19_hit 2 RX19 ow_dm_X19_hit (dk_X19 ac)) (K : nd_Ki p l e (headSpec ow_dm_X19_hit ({ frames := 7, cells := 0, slots := 0, locals := 164 })).room s m args below meth c Q A (dC, dI) cX19_hit .int (St × (St) × (St × (St × (St))) × (St) × (St)) (dw_X19 a ac) r) : dj_X19_hit_0 p l e s m args below meth c Q A dC dI a ac (df_X19_hit_0 n) r := by
  obtain ⟨hlt, hx, hb, hml, hown, hts, hN, hA, hK⟩ := id C
  intro s0 H locs ls h hP hD hS hl
  unfold df_X19_hit_0 at h
  refine lv_iconst (v := 0) hx hb dX19_hit_0 (by decide) ?_
  refine lv_istore_n (lv' := [(1, .int 0), (0, .ref (a 0))]) hx hb dX19_hit_1 rfl hl (by decide) rfl (fun ls hl => ?_)
  exact (db_X19_hit_2 C K n) (0) s0 _ _ _ h hP hD hS (lv_sub hl [1, 0] rfl)
set_option maxHeartbeats 40000000 in
set_option maxRecDepth 100000 in
theorem dm_X19_hit (l : Launch) (hlt : l.stackTraces = false) (dC : Nat → ClassId) (dI : Nat → Nat → Nat) (a : Nat → Nat) (ac : Nat → ClassId) (n : Nat) (s0 : St × (St) × (St × (St × (St))) × (St) × (St)) {r : Int32 × (St × (St) × (St × (St × (St))) × (St) × (St))} (h : df_X19_hit n s0 = some r) (sz : Nat) : Met l yX19_hit ow_dm_X19_hit ({ frames := 7, cells := 0, slots := 0, locals := 164 }) (va_Pc [.ref (a 0)] (fun U => U.heap.size = sz ∧ va_P (dC, dI) vwCl (dw_X19 a ac s0) U.heap ∧ va_K (dC, dI) vwCl (dk_X19 ac) U ∧ va_D (fun _ => True) (dw_X19 a ac s0) ∧ nv_E (va_A (dw_X19 a ac s0) sz) U)) (va_Qi (fun x _ => x = r.1) (fun (_ : Unit) t => va_P (dC, dI) vwCl (dw_X19 a ac r.2) t.heap ∧ va_K (dC, dI) vwCl (dk_X19 ac) t ∧ va_D (va_A (dw_X19 a ac s0) sz) (dw_X19 a ac r.2)) (va_A (dw_X19 a ac s0) sz)) 0 0 (va_A (dw_X19 a ac s0) sz) := by
  refine Met.ofW (cc := cX19_hit) (maxL := 2) (ret := (some .int)) (by decide) rfl ?_
  intro p e s m args below meth c s₁ B hml hv
  obtain ⟨rfl, hsz, hP, hK, hD0, hN⟩ := hv
  have hx := B.exec
  have hb := B.bytes
  have hr := B.returns
  have hts := atoms_spec (ws := ow_dm_X19_hit) B.pre
  have hown : s.vm.findClass RX19 = some m.cls := findClass_of_methodNamed B.named
  have hlocks := B.notSynchronized
  subst hsz
  have hD := hD0.self (sz := s.heap.size)
  generalize hAe : va_A (dw_X19 a ac s0) s.heap.size = A at hD hN ⊢
  have hA : ∀ q : Nat, s.heap.size ≤ q → A q := fun q h => by rw [← hAe]; exact Or.inr h
  have hl := lv_entry ([.ref (a 0)]) (n := 2) (Nat.le_of_ble_eq_true rfl)
  rw [lg_entry_eq]
  generalize (lg_sl ([.ref (a 0)]) ++ List.replicate (2 - (lg_sl ([.ref (a 0)])).length) Slot.unset).toArray = ls at hl ⊢
  have hl : lv_has ls 2 [(0, .ref (a 0))] := hl
  exact db_X19_hit_0 (dC := dC) (dI := dI) (a := a) (ac := ac) (n := n) (r := r) ⟨hlt, hx, hb, hml, hown, hts, hN, hA, hK⟩ (fun pc v τ H locs ls d z er hP hD hS => by subst er; exact W.zret (v := v) hx hb hr z (fun t ht hW => ⟨⟨v, (), rfl, rfl, by rw [ht]; exact hP, va_K.moved hW.alike hK, hD⟩, hS.F ht⟩) hS.2.2 d) s0 _ _ _ h hP hD va_S.rf (lv_sub hl [0] rfl)
def ow_dm_X19_remember : List Cond := .code yX19_remember cX19_remember 2 none :: ([.fieldLink RX19 67 "TimeMachineModel" "conditions" "LTimeMachineModel$Conditions;", .methodLink RX19 273 yX15_isThere, .instanceMethod yX15_isThere, .selects RX15 yX15_isThere yX15_isThere, .initialized RX15, .methodLink RX19 280 yX15_remember, .instanceMethod yX15_remember, .selects RX15 yX15_remember yX15_remember] ++ (u_ws RX19 TX19 36 ++ (ow_dm_X15_isThere ++ (ow_dm_X15_remember ++ []))))
theorem gd_dm_X19_remember : ∀ w ∈ ow_dm_X19_remember, (w.onTables && w.keeps) = true ∨ ∃ ty, w = Cond.arrayClass ty := List.forall_mem_cons.mpr ⟨good_of_word rfl, List.forall_mem_append.mpr ⟨fun w h => good_of_word (List.all_eq_true.mp (by decide +kernel) w h), List.forall_mem_append.mpr ⟨gu_X19, List.forall_mem_append.mpr ⟨gd_dm_X15_isThere, List.forall_mem_append.mpr ⟨gd_dm_X15_remember, fun _ h => nomatch h⟩⟩⟩⟩⟩
theorem hi_dm_X19_remember_X19 : ∀ w ∈ u_ws RX19 TX19 36, w ∈ ow_dm_X19_remember := fun w h => List.mem_cons_of_mem _ (List.mem_append_right _ (List.mem_append_left _ h))
theorem gi_dm_X19_remember_0 : GoodIn ow_dm_X19_remember (wsV RX19 273 RX15 yX15_isThere ow_dm_X15_isThere) := goodIn_app (goodIn_of _ (by decide +kernel)) (fun w h => ⟨List.mem_cons_of_mem _ (List.mem_append_right _ (List.mem_append_right _ (List.mem_append_left _ h))), gd_dm_X15_isThere w h⟩)
theorem gi_dm_X19_remember_1 : GoodIn ow_dm_X19_remember (wsV RX19 280 RX15 yX15_remember ow_dm_X15_remember) := goodIn_app (goodIn_of _ (by decide +kernel)) (fun w h => ⟨List.mem_cons_of_mem _ (List.mem_append_right _ (List.mem_append_right _ (List.mem_append_right _ (List.mem_append_left _ h)))), gd_dm_X15_remember w h⟩)
def dj_X19_remember_27 (p : Program) (l : Launch) (e : Env) (s : State) (m : MethodId) (args : Array Value) (below : List Frame) (meth : Method) (c : Code) (Q : State → Prop) (A : Nat → Prop) (dC : Nat → ClassId) (dI : Nat → Nat → Nat) (a : Nat → Nat) (ac : Nat → ClassId) (g : Int32 → (St × (St) × (St × (St × (St))) × (St) × (St)) → Option (St × (St) × (St × (St × (St))) × (St) × (St))) (r : St × (St) × (St × (St × (St))) × (St) × (St)) : Prop := ∀ (x1 : Int32) (s0 : St × (St) × (St × (St × (St))) × (St) × (St)) (H : Heap) (locs : List Loc) (ls : Array Slot), g x1 s0 = some r → va_P (dC, dI) vwCl (dw_X19 a ac s0) H → va_D A (dw_X19 a ac s0) → va_S A s.heap H locs → lv_has ls 2 [(0, .ref (a 0)), (1, .int x1)] → W p l e (headSpec ow_dm_X19_remember ({ frames := 7, cells := 0, slots := 0, locals := 166 })).room s m args below meth c H locs 0 0 Q (F0 m 27 ls [])
def dj_X19_remember_2 (p : Program) (l : Launch) (e : Env) (s : State) (m : MethodId) (args : Array Value) (below : List Frame) (meth : Method) (c : Code) (Q : State → Prop) (A : Nat → Prop) (dC : Nat → ClassId) (dI : Nat → Nat → Nat) (a : Nat → Nat) (ac : Nat → ClassId) (g : Int32 → (St × (St) × (St × (St × (St))) × (St) × (St)) → Option (St × (St) × (St × (St × (St))) × (St) × (St))) (r : St × (St) × (St × (St × (St))) × (St) × (St)) : Prop := ∀ (x1 : Int32) (s0 : St × (St) × (St × (St × (St))) × (St) × (St)) (H : Heap) (locs : List Loc) (ls : Array Slot), g x1 s0 = some r → va_P (dC, dI) vwCl (dw_X19 a ac s0) H → va_D A (dw_X19 a ac s0) → va_S A s.heap H locs → lv_has ls 2 [(0, .ref (a 0)), (1, .int x1)] → W p l e (headSpec ow_dm_X19_remember ({ frames := 7, cells := 0, slots := 0, locals := 166 })).room s m args below meth c H locs 0 0 Q (F0 m 2 ls [])
def dj_X19_remember_0 (p : Program) (l : Launch) (e : Env) (s : State) (m : MethodId) (args : Array Value) (below : List Frame) (meth : Method) (c : Code) (Q : State → Prop) (A : Nat → Prop) (dC : Nat → ClassId) (dI : Nat → Nat → Nat) (a : Nat → Nat) (ac : Nat → ClassId) (g : (St × (St) × (St × (St × (St))) × (St) × (St)) → Option (St × (St) × (St × (St × (St))) × (St) × (St))) (r : St × (St) × (St × (St × (St))) × (St) × (St)) : Prop := ∀ (s0 : St × (St) × (St × (St × (St))) × (St) × (St)) (H : Heap) (locs : List Loc) (ls : Array Slot), g s0 = some r → va_P (dC, dI) vwCl (dw_X19 a ac s0) H → va_D A (dw_X19 a ac s0) → va_S A s.heap H locs → lv_has ls 2 [(0, .ref (a 0))] → W p l e (headSpec ow_dm_X19_remember ({ frames := 7, cells := 0, slots := 0, locals := 166 })).room s m args below meth c H locs 0 0 Q (F0 m 0 ls [])
set_option maxHeartbeats 40000000 in
set_option maxRecDepth 100000 in
theorem db_X19_remember_27 {p : Program} {l : Launch} {e : Env} {s : State} {m : MethodId} {args : Array Value} {below : List Frame} {meth : Method} {c : Code} {Q : State → Prop} {A : Nat → Prop} {dC : Nat → ClassId} {dI : Nat → Nat → Nat} {a : Nat → Nat} {ac : Nat → ClassId} {n : Nat} {r : St × (St) × (St × (St × (St))) × (St) × (St)} (C : nd_C p l s m args c A (dC, dI) cX19_remember 2 RX19 ow_dm_X19_remember (dk_X19 ac)) (K : nd_Kv p l e (headSpec ow_dm_X19_remember ({ frames := 7, cells := 0, slots := 0, locals := 166 })).room s m args below meth c Q A (dC, dI) cX19_remember (St × (St) × (St × (St × (St))) × (St) × (St)) (dw_X19 a ac) r) {g2 : Int32 → (St × (St) × (St × (St × (St))) × (St) × (St)) → Option (St × (St) × (St × (St × (St))) × (St) × (St))} (J2 : dj_X19_remember_2 p l e s m args below meth c Q A dC dI a ac g2 r) : dj_X19_remember_27 p l e s m args below meth c Q A dC dI a ac (df_X19_remember_27 n g2) r := by
  obtain ⟨hlt, hx, hb, hml, hown, hts, hN, hA, hK⟩ := id C
  intro x1 s0 H locs ls h hP hD hS hl
  unfold df_X19_remember_27 at h
  obtain ⟨z7, ez7, h⟩ := nd_let_e h
  refine lv_iinc (v := z7) (lv' := [(1, .int z7), (0, .ref (a 0))]) hx hb dX19_remember_27 hl (k := 1) rfl (by rw [ez7]) (by decide) rfl (fun ls hl => ?_)
  refine lv_goto (tgt := 2) hx hb dX19_remember_30 (by decide) ?_
  exact (J2) (z7) s0 _ _ _ h hP hD hS (lv_sub hl [1, 0] rfl)
set_option maxHeartbeats 40000000 in
set_option maxRecDepth 100000 in
theorem dB_X19_remember_2 {p : Program} {l : Launch} {e : Env} {s : State} {m : MethodId} {args : Array Value} {below : List Frame} {meth : Method} {c : Code} {Q : State → Prop} {A : Nat → Prop} {dC : Nat → ClassId} {dI : Nat → Nat → Nat} {a : Nat → Nat} {ac : Nat → ClassId} {n : Nat} {r : St × (St) × (St × (St × (St))) × (St) × (St)} (C : nd_C p l s m args c A (dC, dI) cX19_remember 2 RX19 ow_dm_X19_remember (dk_X19 ac)) (K : nd_Kv p l e (headSpec ow_dm_X19_remember ({ frames := 7, cells := 0, slots := 0, locals := 166 })).room s m args below meth c Q A (dC, dI) cX19_remember (St × (St) × (St × (St × (St))) × (St) × (St)) (dw_X19 a ac) r) {g2 : Int32 → (St × (St) × (St × (St × (St))) × (St) × (St)) → Option (St × (St) × (St × (St × (St))) × (St) × (St))} (J2 : dj_X19_remember_2 p l e s m args below meth c Q A dC dI a ac g2 r) : dj_X19_remember_2 p l e s m args below meth c Q A dC dI a ac (dF_X19_remember_2 n g2) r := by
  obtain ⟨hlt, hx, hb, hml, hown, hts, hN, hA, hK⟩ := id C
  intro x1 s0 H locs ls h hP hD hS hl
  unfold dF_X19_remember_2 at h
  refine lv_iload_n hx hb dX19_remember_2 rfl (lv_at hl 1 rfl) ?_
  refine lv_bipush (v := 8) hx hb dX19_remember_3 (by decide) ?_
  refine lv_icmp_ge (tgt := 33) hx hb dX19_remember_5 (by decide) (fun c1 => ?_) (fun c1 => ?_)
  · have h := nd_pos h c1
    exact K _ _ _ _ _ dX19_remember_33 (Option.some.inj h).symm hP hD hS
  · have h := nd_neg h c1
    refine lv_aload_n hx hb dX19_remember_8 rfl (lv_at hl 0 rfl) ?_
    refine va_get (D := (dC, dI)) (ci := 20) (v := .ref (a 27)) (C := RX19) (T := TX19) (N := 36) hx hb hts hi_dm_X19_remember_X19 hown hK hP 0 rfl rfl 14 (by decide) (hts (.fieldLink RX19 67 "TimeMachineModel" "conditions" "LTimeMachineModel$Conditions;") (List.mem_of_getElem? (i := 1) rfl)) (fun _ h9 => h9) rfl dX19_remember_9 ?_
    refine lv_iload_n hx hb dX19_remember_12 rfl (lv_at hl 1 rfl) ?_
    obtain ⟨q2, s3, hq, h⟩ := nd_b2_e h
    have hPc := dp_X19_27 hP
    have hDc := dd_X19_27 hD
    have hKc := dy_X19_27 hK
    have hFc := nd_rs hDc hS hA
    have hzA : ∀ q : Nat, H.size ≤ q → A q := fun q h => hA q (Nat.le_trans hS.1 h)
    refine nd_cVi (As := [.int x1]) (rest := []) (q := q2) (w' := dw_X15 (fun k => a (k + 27)) (fun k => ac (k + 27)) s3) ⟨hx, hb, hml, hown, hts⟩ (fun sz => dm_X15_isThere l hlt dC dI (fun k => a (k + 27)) (fun k => ac (k + 27)) n (x1) s0.2.2.1 hq sz) (cwV 1 hts gi_dm_X19_remember_0 rfl rfl rfl (by decide +kernel) ⟨Nat.le_of_ble_eq_true rfl, Nat.le_of_ble_eq_true rfl⟩) hPc hDc hKc hS hA hN (va_recv hKc hPc (ci := 16) (q0 := 0) rfl rfl) rfl hl.1 rfl (Nat.le_of_ble_eq_true rfl) dX19_remember_13 (fun H locs hP1 hD1 hk1 hS => ?_)
    obtain ⟨hP, hD⟩ := dn_X19_27 hP hD hzA hk1 hP1 hD1
    obtain ⟨s5, es5, h⟩ := nd_let_e h
    have hP : va_P (dC, dI) vwCl (dw_X19 a ac s5) H := by rw [es5]; exact hP
    have hD : va_D A (dw_X19 a ac s5) := by rw [es5]; exact hD
    refine lv_if_eq (tgt := 27) hx hb dX19_remember_16 (by decide) (fun c6 => ?_) (fun c6 => ?_)
    · have h := nd_pos h c6
      exact (db_X19_remember_27 C K J2) (x1) s5 _ _ _ h hP hD hS (lv_sub hl [0, 1] rfl)
    · have h := nd_neg h c6
      refine lv_aload_n hx hb dX19_remember_19 rfl (lv_at hl 0 rfl) ?_
      refine va_get (D := (dC, dI)) (ci := 20) (v := .ref (a 27)) (C := RX19) (T := TX19) (N := 36) hx hb hts hi_dm_X19_remember_X19 hown hK hP 0 rfl rfl 14 (by decide) (hts (.fieldLink RX19 67 "TimeMachineModel" "conditions" "LTimeMachineModel$Conditions;") (List.mem_of_getElem? (i := 1) rfl)) (fun _ h9 => h9) rfl dX19_remember_20 ?_
      refine lv_iload_n hx hb dX19_remember_23 rfl (lv_at hl 1 rfl) ?_
      obtain ⟨s9, hq, h⟩ := nd_b1_e h
      have hPc := dp_X19_27 hP
      have hDc := dd_X19_27 hD
      have hKc := dy_X19_27 hK
      have hFc := nd_rs hDc hS hA
      have hzA : ∀ q : Nat, H.size ≤ q → A q := fun q h => hA q (Nat.le_trans hS.1 h)
      refine nd_cVv (As := [.int x1]) (rest := []) (w' := dw_X15 (fun k => a (k + 27)) (fun k => ac (k + 27)) s9) ⟨hx, hb, hml, hown, hts⟩ (fun sz => dm_X15_remember l hlt dC dI (fun k => a (k + 27)) (fun k => ac (k + 27)) n (x1) s5.2.2.1 hq sz) (cwV 1 hts gi_dm_X19_remember_1 rfl rfl rfl (by decide +kernel) ⟨Nat.le_of_ble_eq_true rfl, Nat.le_of_ble_eq_true rfl⟩) hPc hDc hKc hS hA hN (va_recv hKc hPc (ci := 16) (q0 := 0) rfl rfl) rfl hl.1 rfl (Nat.le_of_ble_eq_true rfl) dX19_remember_24 (fun H locs hP1 hD1 hk1 hS => ?_)
      obtain ⟨hP, hD⟩ := dn_X19_27 hP hD hzA hk1 hP1 hD1
      obtain ⟨s11, es11, h⟩ := nd_let_e h
      have hP : va_P (dC, dI) vwCl (dw_X19 a ac s11) H := by rw [es11]; exact hP
      have hD : va_D A (dw_X19 a ac s11) := by rw [es11]; exact hD
      exact (db_X19_remember_27 C K J2) (x1) s11 _ _ _ h hP hD hS (lv_sub hl [0, 1] rfl)
set_option maxHeartbeats 40000000 in
set_option maxRecDepth 100000 in
theorem db_X19_remember_2 {p : Program} {l : Launch} {e : Env} {s : State} {m : MethodId} {args : Array Value} {below : List Frame} {meth : Method} {c : Code} {Q : State → Prop} {A : Nat → Prop} {dC : Nat → ClassId} {dI : Nat → Nat → Nat} {a : Nat → Nat} {ac : Nat → ClassId} {n : Nat} {r : St × (St) × (St × (St × (St))) × (St) × (St)} (C : nd_C p l s m args c A (dC, dI) cX19_remember 2 RX19 ow_dm_X19_remember (dk_X19 ac)) (K : nd_Kv p l e (headSpec ow_dm_X19_remember ({ frames := 7, cells := 0, slots := 0, locals := 166 })).room s m args below meth c Q A (dC, dI) cX19_remember (St × (St) × (St × (St × (St))) × (St) × (St)) (dw_X19 a ac) r) (k : Nat) : dj_X19_remember_2 p l e s m args below meth c Q A dC dI a ac (df_X19_remember_2 n k) r := by
  induction k with
  | zero => intro x1 s0 H locs ls h; exact nomatch (show (none : Option (St × (St) × (St × (St × (St))) × (St) × (St))) = some r from h)
  | succ k ih => exact dB_X19_remember_2 C K ih
set_option maxHeartbeats 40000000 in
set_option maxRecDepth 100000 in
theorem db_X19_remember_0 {p : Program} {l : Launch} {e : Env} {s : State} {m : MethodId} {args : Array Value} {below : List Frame} {meth : Method} {c : Code} {Q : State → Prop} {A : Nat → Prop} {dC : Nat → ClassId} {dI : Nat → Nat → Nat} {a : Nat → Nat} {ac : Nat → ClassId} {n : Nat} {r : St × (St) × (St × (St × (St))) × (St) × (St)} (C : nd_C p l s m args c A (dC, dI) cX19_remember 2 RX19 ow_dm_X19_remember (dk_X19 ac)) (K : nd_Kv p l e (headSpec ow_dm_X19_remember ({ frames := 7, cells := 0, slots := 0, locals := 166 })).room s m args below meth c Q A (dC, dI) cX19_remember (St × (St) × (St × (St × (St))) × (St) × (St)) (dw_X19 a ac) r) : dj_X19_remember_0 p l e s m args below meth c Q A dC dI a ac (df_X19_remember_0 n) r := by
  obtain ⟨hlt, hx, hb, hml, hown, hts, hN, hA, hK⟩ := id C
  intro s0 H locs ls h hP hD hS hl
  unfold df_X19_remember_0 at h
  refine lv_iconst (v := 0) hx hb dX19_remember_0 (by decide) ?_
  refine lv_istore_n (lv' := [(1, .int 0), (0, .ref (a 0))]) hx hb dX19_remember_1 rfl hl (by decide) rfl (fun ls hl => ?_)
  exact (db_X19_remember_2 C K n) (0) s0 _ _ _ h hP hD hS (lv_sub hl [1, 0] rfl)
set_option maxHeartbeats 40000000 in
set_option maxRecDepth 100000 in
theorem dm_X19_remember (l : Launch) (hlt : l.stackTraces = false) (dC : Nat → ClassId) (dI : Nat → Nat → Nat) (a : Nat → Nat) (ac : Nat → ClassId) (n : Nat) (s0 : St × (St) × (St × (St × (St))) × (St) × (St)) {r : St × (St) × (St × (St × (St))) × (St) × (St)} (h : df_X19_remember n s0 = some r) (sz : Nat) : Met l yX19_remember ow_dm_X19_remember ({ frames := 7, cells := 0, slots := 0, locals := 166 }) (va_Pc [.ref (a 0)] (fun U => U.heap.size = sz ∧ va_P (dC, dI) vwCl (dw_X19 a ac s0) U.heap ∧ va_K (dC, dI) vwCl (dk_X19 ac) U ∧ va_D (fun _ => True) (dw_X19 a ac s0) ∧ nv_E (va_A (dw_X19 a ac s0) sz) U)) (va_Qv (fun _ => True) (fun (_ : Unit) t => va_P (dC, dI) vwCl (dw_X19 a ac r) t.heap ∧ va_K (dC, dI) vwCl (dk_X19 ac) t ∧ va_D (va_A (dw_X19 a ac s0) sz) (dw_X19 a ac r)) (va_A (dw_X19 a ac s0) sz)) 0 0 (va_A (dw_X19 a ac s0) sz) := by
  refine Met.ofW (cc := cX19_remember) (maxL := 2) (ret := none) (by decide) rfl ?_
  intro p e s m args below meth c s₁ B hml hv
  obtain ⟨rfl, hsz, hP, hK, hD0, hN⟩ := hv
  have hx := B.exec
  have hb := B.bytes
  have hr := B.returns
  have hts := atoms_spec (ws := ow_dm_X19_remember) B.pre
  have hown : s.vm.findClass RX19 = some m.cls := findClass_of_methodNamed B.named
  have hlocks := B.notSynchronized
  subst hsz
  have hD := hD0.self (sz := s.heap.size)
  generalize hAe : va_A (dw_X19 a ac s0) s.heap.size = A at hD hN ⊢
  have hA : ∀ q : Nat, s.heap.size ≤ q → A q := fun q h => by rw [← hAe]; exact Or.inr h
  have hl := lv_entry ([.ref (a 0)]) (n := 2) (Nat.le_of_ble_eq_true rfl)
  rw [lg_entry_eq]
  generalize (lg_sl ([.ref (a 0)]) ++ List.replicate (2 - (lg_sl ([.ref (a 0)])).length) Slot.unset).toArray = ls at hl ⊢
  have hl : lv_has ls 2 [(0, .ref (a 0))] := hl
  exact db_X19_remember_0 (dC := dC) (dI := dI) (a := a) (ac := ac) (n := n) (r := r) ⟨hlt, hx, hb, hml, hown, hts, hN, hA, hK⟩ (fun pc τ H locs ls d er hP hD hS => by subst er; exact W.vret hx hb hr (fun t ht hW => ⟨⟨(), rfl, trivial, by rw [ht]; exact hP, va_K.moved hW.alike hK, hD⟩, hS.F ht⟩) hS.2.2 d) s0 _ _ _ h hP hD va_S.rf (lv_sub hl [0] rfl)
def ow_dm_X19_run : List Cond := .code yX19_run cX19_run 6 (some .int) :: ([.constantLong RX19 283 (60000), .methodLink RX19 126 yX19_in, .static yX19_in, .initialized RX19, .methodLink RX19 136 yX19_fails, .instanceMethod yX19_fails, .selects RX19 yX19_fails yX19_fails, .fieldLink RX19 234 "TimeMachineModel" "now" "I", .methodLink RX19 266 yX19_come, .instanceMethod yX19_come, .selects RX19 yX19_come yX19_come, .fieldLink RX19 236 "TimeMachineModel" "refused" "Z", .fieldLink RX19 285 "TimeMachineModel" "why" "I", .constant RX19 288 (60000), .fieldLink RX19 58 "TimeMachineModel" "m" "LTimeMachineModel$Machine;", .methodLink RX19 289 yX16_count, .instanceMethod yX16_count, .selects RX16 yX16_count yX16_count, .initialized RX16, .constantLong RX19 292 (-1), .methodLink RX19 297 yX19_remember, .instanceMethod yX19_remember, .selects RX19 yX19_remember yX19_remember, .methodLink RX19 209 yX19_tick, .instanceMethod yX19_tick, .selects RX19 yX19_tick yX19_tick, .fieldLink RX19 210 "TimeMachineModel" "end" "I", .methodLink RX19 299 yX19_hit, .instanceMethod yX19_hit, .selects RX19 yX19_hit yX19_hit, .methodLink RX19 252 yX19_takeScheduled, .instanceMethod yX19_takeScheduled, .selects RX19 yX19_takeScheduled yX19_takeScheduled, .methodLink RX19 294 yX16_isWaiting, .instanceMethod yX16_isWaiting, .selects RX16 yX16_isWaiting yX16_isWaiting, .fieldLink RX19 231 "TimeMachineModel" "booted" "Z"] ++ (u_ws RX19 TX19 36 ++ (ow_dm_X19_in ++ (ow_dm_X19_fails ++ (ow_dm_X19_come ++ (ow_dm_X16_count ++ (ow_dm_X19_remember ++ (ow_dm_X19_tick ++ (ow_dm_X19_hit ++ (ow_dm_X19_takeScheduled ++ (ow_dm_X16_isWaiting ++ [])))))))))))
theorem gd_dm_X19_run : ∀ w ∈ ow_dm_X19_run, (w.onTables && w.keeps) = true ∨ ∃ ty, w = Cond.arrayClass ty := List.forall_mem_cons.mpr ⟨good_of_word rfl, List.forall_mem_append.mpr ⟨fun w h => good_of_word (List.all_eq_true.mp (by decide +kernel) w h), List.forall_mem_append.mpr ⟨gu_X19, List.forall_mem_append.mpr ⟨gd_dm_X19_in, List.forall_mem_append.mpr ⟨gd_dm_X19_fails, List.forall_mem_append.mpr ⟨gd_dm_X19_come, List.forall_mem_append.mpr ⟨gd_dm_X16_count, List.forall_mem_append.mpr ⟨gd_dm_X19_remember, List.forall_mem_append.mpr ⟨gd_dm_X19_tick, List.forall_mem_append.mpr ⟨gd_dm_X19_hit, List.forall_mem_append.mpr ⟨gd_dm_X19_takeScheduled, List.forall_mem_append.mpr ⟨gd_dm_X16_isWaiting, fun _ h => nomatch h⟩⟩⟩⟩⟩⟩⟩⟩⟩⟩⟩⟩
theorem hi_dm_X19_run_X19 : ∀ w ∈ u_ws RX19 TX19 36, w ∈ ow_dm_X19_run := fun w h => List.mem_cons_of_mem _ (List.mem_append_right _ (List.mem_append_left _ h))
theorem gi_dm_X19_run_0 : GoodIn ow_dm_X19_run (wsS RX19 126 yX19_in ow_dm_X19_in) := goodIn_app (goodIn_of _ (by decide +kernel)) (fun w h => ⟨List.mem_cons_of_mem _ (List.mem_append_right _ (List.mem_append_right _ (List.mem_append_left _ h))), gd_dm_X19_in w h⟩)
theorem gi_dm_X19_run_1 : GoodIn ow_dm_X19_run (wsV RX19 136 RX19 yX19_fails ow_dm_X19_fails) := goodIn_app (goodIn_of _ (by decide +kernel)) (fun w h => ⟨List.mem_cons_of_mem _ (List.mem_append_right _ (List.mem_append_right _ (List.mem_append_right _ (List.mem_append_left _ h)))), gd_dm_X19_fails w h⟩)
theorem gi_dm_X19_run_2 : GoodIn ow_dm_X19_run (wsV RX19 266 RX19 yX19_come ow_dm_X19_come) := goodIn_app (goodIn_of _ (by decide +kernel)) (fun w h => ⟨List.mem_cons_of_mem _ (List.mem_append_right _ (List.mem_append_right _ (List.mem_append_right _ (List.mem_append_right _ (List.mem_append_left _ h))))), gd_dm_X19_come w h⟩)
theorem gi_dm_X19_run_3 : GoodIn ow_dm_X19_run (wsV RX19 289 RX16 yX16_count ow_dm_X16_count) := goodIn_app (goodIn_of _ (by decide +kernel)) (fun w h => ⟨List.mem_cons_of_mem _ (List.mem_append_right _ (List.mem_append_right _ (List.mem_append_right _ (List.mem_append_right _ (List.mem_append_right _ (List.mem_append_left _ h)))))), gd_dm_X16_count w h⟩)
theorem gi_dm_X19_run_4 : GoodIn ow_dm_X19_run (wsV RX19 297 RX19 yX19_remember ow_dm_X19_remember) := goodIn_app (goodIn_of _ (by decide +kernel)) (fun w h => ⟨List.mem_cons_of_mem _ (List.mem_append_right _ (List.mem_append_right _ (List.mem_append_right _ (List.mem_append_right _ (List.mem_append_right _ (List.mem_append_right _ (List.mem_append_left _ h))))))), gd_dm_X19_remember w h⟩)
theorem gi_dm_X19_run_5 : GoodIn ow_dm_X19_run (wsV RX19 209 RX19 yX19_tick ow_dm_X19_tick) := goodIn_app (goodIn_of _ (by decide +kernel)) (fun w h => ⟨List.mem_cons_of_mem _ (List.mem_append_right _ (List.mem_append_right _ (List.mem_append_right _ (List.mem_append_right _ (List.mem_append_right _ (List.mem_append_right _ (List.mem_append_right _ (List.mem_append_left _ h)))))))), gd_dm_X19_tick w h⟩)
theorem gi_dm_X19_run_6 : GoodIn ow_dm_X19_run (wsV RX19 299 RX19 yX19_hit ow_dm_X19_hit) := goodIn_app (goodIn_of _ (by decide +kernel)) (fun w h => ⟨List.mem_cons_of_mem _ (List.mem_append_right _ (List.mem_append_right _ (List.mem_append_right _ (List.mem_append_right _ (List.mem_append_right _ (List.mem_append_right _ (List.mem_append_right _ (List.mem_append_right _ (List.mem_append_left _ h))))))))), gd_dm_X19_hit w h⟩)
theorem gi_dm_X19_run_7 : GoodIn ow_dm_X19_run (wsV RX19 252 RX19 yX19_takeScheduled ow_dm_X19_takeScheduled) := goodIn_app (goodIn_of _ (by decide +kernel)) (fun w h => ⟨List.mem_cons_of_mem _ (List.mem_append_right _ (List.mem_append_right _ (List.mem_append_right _ (List.mem_append_right _ (List.mem_append_right _ (List.mem_append_right _ (List.mem_append_right _ (List.mem_append_right _ (List.mem_append_right _ (List.mem_append_left _ h)))))))))), gd_dm_X19_takeScheduled w h⟩)
theorem gi_dm_X19_run_8 : GoodIn ow_dm_X19_run (wsV RX19 294 RX16 yX16_isWaiting ow_dm_X16_isWaiting) := goodIn_app (goodIn_of _ (by decide +kernel)) (fun w h => ⟨List.mem_cons_of_mem _ (List.mem_append_right _ (List.mem_append_right _ (List.mem_append_right _ (List.mem_append_right _ (List.mem_append_right _ (List.mem_append_right _ (List.mem_append_right _ (List.mem_append_right _ (List.mem_append_right _ (List.mem_append_right _ (List.mem_append_left _ h))))))))))), gd_dm_X16_isWaiting w h⟩)
def dj_X19_run_237 (p : Program) (l : Launch) (e : Env) (s : State) (m : MethodId) (args : Array Value) (below : List Frame) (meth : Method) (c : Code) (Q : State → Prop) (A : Nat → Prop) (dC : Nat → ClassId) (dI : Nat → Nat → Nat) (a : Nat → Nat) (ac : Nat → ClassId) (g : Int32 → (St × (St) × (St × (St × (St))) × (St) × (St)) → Option (Int32 × (St × (St) × (St × (St × (St))) × (St) × (St)))) (r : Int32 × (St × (St) × (St × (St × (St))) × (St) × (St))) : Prop := ∀ (x3 : Int32) (s0 : St × (St) × (St × (St × (St))) × (St) × (St)) (H : Heap) (locs : List Loc) (ls : Array Slot), g x3 s0 = some r → va_P (dC, dI) vwCl (dw_X19 a ac s0) H → va_D A (dw_X19 a ac s0) → va_S A s.heap H locs → lv_has ls 6 [(3, .int x3)] → W p l e (headSpec ow_dm_X19_run ({ frames := 10, cells := 0, slots := 0, locals := 225 })).room s m args below meth c H locs 0 0 Q (F0 m 237 ls [])
def dj_X19_run_231 (p : Program) (l : Launch) (e : Env) (s : State) (m : MethodId) (args : Array Value) (below : List Frame) (meth : Method) (c : Code) (Q : State → Prop) (A : Nat → Prop) (dC : Nat → ClassId) (dI : Nat → Nat → Nat) (a : Nat → Nat) (ac : Nat → ClassId) (g : Int32 → Int32 → Int32 → (St × (St) × (St × (St × (St))) × (St) × (St)) → Option (Int32 × (St × (St) × (St × (St × (St))) × (St) × (St)))) (r : Int32 × (St × (St) × (St × (St × (St))) × (St) × (St))) : Prop := ∀ (x1 : Int32) (x3 : Int32) (y1 : Int32) (s0 : St × (St) × (St × (St × (St))) × (St) × (St)) (H : Heap) (locs : List Loc) (ls : Array Slot), g x1 x3 y1 s0 = some r → va_P (dC, dI) vwCl (dw_X19 a ac s0) H → va_D A (dw_X19 a ac s0) → va_S A s.heap H locs → lv_has ls 6 [(0, .ref (a 0)), (1, .int x1), (3, .int x3)] → W p l e (headSpec ow_dm_X19_run ({ frames := 10, cells := 0, slots := 0, locals := 225 })).room s m args below meth c H locs 0 0 Q (F0 m 231 ls [.int y1, .ref (a 0)])
def dj_X19_run_199 (p : Program) (l : Launch) (e : Env) (s : State) (m : MethodId) (args : Array Value) (below : List Frame) (meth : Method) (c : Code) (Q : State → Prop) (A : Nat → Prop) (dC : Nat → ClassId) (dI : Nat → Nat → Nat) (a : Nat → Nat) (ac : Nat → ClassId) (g : Int32 → Int32 → Int32 → (St × (St) × (St × (St × (St))) × (St) × (St)) → Option (Int32 × (St × (St) × (St × (St × (St))) × (St) × (St)))) (r : Int32 × (St × (St) × (St × (St × (St))) × (St) × (St))) : Prop := ∀ (x1 : Int32) (x3 : Int32) (x4 : Int32) (s0 : St × (St) × (St × (St × (St))) × (St) × (St)) (H : Heap) (locs : List Loc) (ls : Array Slot), g x1 x3 x4 s0 = some r → va_P (dC, dI) vwCl (dw_X19 a ac s0) H → va_D A (dw_X19 a ac s0) → va_S A s.heap H locs → lv_has ls 6 [(0, .ref (a 0)), (1, .int x1), (3, .int x3), (4, .int x4)] → W p l e (headSpec ow_dm_X19_run ({ frames := 10, cells := 0, slots := 0, locals := 225 })).room s m args below meth c H locs 0 0 Q (F0 m 199 ls [])
def dj_X19_run_139 (p : Program) (l : Launch) (e : Env) (s : State) (m : MethodId) (args : Array Value) (below : List Frame) (meth : Method) (c : Code) (Q : State → Prop) (A : Nat → Prop) (dC : Nat → ClassId) (dI : Nat → Nat → Nat) (a : Nat → Nat) (ac : Nat → ClassId) (g : Int32 → Int32 → (St × (St) × (St × (St × (St))) × (St) × (St)) → Option (Int32 × (St × (St) × (St × (St × (St))) × (St) × (St)))) (r : Int32 × (St × (St) × (St × (St × (St))) × (St) × (St))) : Prop := ∀ (x1 : Int32) (x3 : Int32) (s0 : St × (St) × (St × (St × (St))) × (St) × (St)) (H : Heap) (locs : List Loc) (ls : Array Slot), g x1 x3 s0 = some r → va_P (dC, dI) vwCl (dw_X19 a ac s0) H → va_D A (dw_X19 a ac s0) → va_S A s.heap H locs → lv_has ls 6 [(0, .ref (a 0)), (1, .int x1), (3, .int x3)] → W p l e (headSpec ow_dm_X19_run ({ frames := 10, cells := 0, slots := 0, locals := 225 })).room s m args below meth c H locs 0 0 Q (F0 m 139 ls [])
def dj_X19_run_136 (p : Program) (l : Launch) (e : Env) (s : State) (m : MethodId) (args : Array Value) (below : List Frame) (meth : Method) (c : Code) (Q : State → Prop) (A : Nat → Prop) (dC : Nat → ClassId) (dI : Nat → Nat → Nat) (a : Nat → Nat) (ac : Nat → ClassId) (g : Int32 → Int32 → Int32 → (St × (St) × (St × (St × (St))) × (St) × (St)) → Option (Int32 × (St × (St) × (St × (St × (St))) × (St) × (St)))) (r : Int32 × (St × (St) × (St × (St × (St))) × (St) × (St))) : Prop := ∀ (x1 : Int32) (x3 : Int32) (y1 : Int32) (s0 : St × (St) × (St × (St × (St))) × (St) × (St)) (H : Heap) (locs : List Loc) (ls : Array Slot), g x1 x3 y1 s0 = some r → va_P (dC, dI) vwCl (dw_X19 a ac s0) H → va_D A (dw_X19 a ac s0) → va_S A s.heap H locs → lv_has ls 6 [(0, .ref (a 0)), (1, .int x1), (3, .int x3)] → W p l e (headSpec ow_dm_X19_run ({ frames := 10, cells := 0, slots := 0, locals := 225 })).room s m args below meth c H locs 0 0 Q (F0 m 136 ls [.int y1, .ref (a 0)])
def dj_X19_run_75 (p : Program) (l : Launch) (e : Env) (s : State) (m : MethodId) (args : Array Value) (below : List Frame) (meth : Method) (c : Code) (Q : State → Prop) (A : Nat → Prop) (dC : Nat → ClassId) (dI : Nat → Nat → Nat) (a : Nat → Nat) (ac : Nat → ClassId) (g : Int32 → Int32 → (St × (St) × (St × (St × (St))) × (St) × (St)) → Option (Int32 × (St × (St) × (St × (St × (St))) × (St) × (St)))) (r : Int32 × (St × (St) × (St × (St × (St))) × (St) × (St))) : Prop := ∀ (x1 : Int32) (x3 : Int32) (s0 : St × (St) × (St × (St × (St))) × (St) × (St)) (H : Heap) (locs : List Loc) (ls : Array Slot), g x1 x3 s0 = some r → va_P (dC, dI) vwCl (dw_X19 a ac s0) H → va_D A (dw_X19 a ac s0) → va_S A s.heap H locs → lv_has ls 6 [(0, .ref (a 0)), (1, .int x1), (3, .int x3)] → W p l e (headSpec ow_dm_X19_run ({ frames := 10, cells := 0, slots := 0, locals := 225 })).room s m args below meth c H locs 0 0 Q (F0 m 75 ls [])
def dj_X19_run_65 (p : Program) (l : Launch) (e : Env) (s : State) (m : MethodId) (args : Array Value) (below : List Frame) (meth : Method) (c : Code) (Q : State → Prop) (A : Nat → Prop) (dC : Nat → ClassId) (dI : Nat → Nat → Nat) (a : Nat → Nat) (ac : Nat → ClassId) (g : Int32 → Int32 → (St × (St) × (St × (St × (St))) × (St) × (St)) → Option (Int32 × (St × (St) × (St × (St × (St))) × (St) × (St)))) (r : Int32 × (St × (St) × (St × (St × (St))) × (St) × (St))) : Prop := ∀ (x1 : Int32) (y1 : Int32) (s0 : St × (St) × (St × (St × (St))) × (St) × (St)) (H : Heap) (locs : List Loc) (ls : Array Slot), g x1 y1 s0 = some r → va_P (dC, dI) vwCl (dw_X19 a ac s0) H → va_D A (dw_X19 a ac s0) → va_S A s.heap H locs → lv_has ls 6 [(0, .ref (a 0)), (1, .int x1)] → W p l e (headSpec ow_dm_X19_run ({ frames := 10, cells := 0, slots := 0, locals := 225 })).room s m args below meth c H locs 0 0 Q (F0 m 65 ls [.int y1, .ref (a 0)])
def dj_X19_run_36 (p : Program) (l : Launch) (e : Env) (s : State) (m : MethodId) (args : Array Value) (below : List Frame) (meth : Method) (c : Code) (Q : State → Prop) (A : Nat → Prop) (dC : Nat → ClassId) (dI : Nat → Nat → Nat) (a : Nat → Nat) (ac : Nat → ClassId) (g : Int32 → Int32 → Int32 → (St × (St) × (St × (St × (St))) × (St) × (St)) → Option (Int32 × (St × (St) × (St × (St × (St))) × (St) × (St)))) (r : Int32 × (St × (St) × (St × (St × (St))) × (St) × (St))) : Prop := ∀ (x1 : Int32) (y1 : Int32) (y2 : Int32) (s0 : St × (St) × (St × (St × (St))) × (St) × (St)) (H : Heap) (locs : List Loc) (ls : Array Slot), g x1 y1 y2 s0 = some r → va_P (dC, dI) vwCl (dw_X19 a ac s0) H → va_D A (dw_X19 a ac s0) → va_S A s.heap H locs → lv_has ls 6 [(0, .ref (a 0)), (1, .int x1)] → W p l e (headSpec ow_dm_X19_run ({ frames := 10, cells := 0, slots := 0, locals := 225 })).room s m args below meth c H locs 0 0 Q (F0 m 36 ls [.int y2, .int y1, .ref (a 0)])
def dj_X19_run_35 (p : Program) (l : Launch) (e : Env) (s : State) (m : MethodId) (args : Array Value) (below : List Frame) (meth : Method) (c : Code) (Q : State → Prop) (A : Nat → Prop) (dC : Nat → ClassId) (dI : Nat → Nat → Nat) (a : Nat → Nat) (ac : Nat → ClassId) (g : Int32 → Int32 → (St × (St) × (St × (St × (St))) × (St) × (St)) → Option (Int32 × (St × (St) × (St × (St × (St))) × (St) × (St)))) (r : Int32 × (St × (St) × (St × (St × (St))) × (St) × (St))) : Prop := ∀ (x1 : Int32) (y1 : Int32) (s0 : St × (St) × (St × (St × (St))) × (St) × (St)) (H : Heap) (locs : List Loc) (ls : Array Slot), g x1 y1 s0 = some r → va_P (dC, dI) vwCl (dw_X19 a ac s0) H → va_D A (dw_X19 a ac s0) → va_S A s.heap H locs → lv_has ls 6 [(0, .ref (a 0)), (1, .int x1)] → W p l e (headSpec ow_dm_X19_run ({ frames := 10, cells := 0, slots := 0, locals := 225 })).room s m args below meth c H locs 0 0 Q (F0 m 35 ls [.int y1, .ref (a 0)])
def dj_X19_run_20 (p : Program) (l : Launch) (e : Env) (s : State) (m : MethodId) (args : Array Value) (below : List Frame) (meth : Method) (c : Code) (Q : State → Prop) (A : Nat → Prop) (dC : Nat → ClassId) (dI : Nat → Nat → Nat) (a : Nat → Nat) (ac : Nat → ClassId) (g : Int32 → Int32 → Int32 → (St × (St) × (St × (St × (St))) × (St) × (St)) → Option (Int32 × (St × (St) × (St × (St × (St))) × (St) × (St)))) (r : Int32 × (St × (St) × (St × (St × (St))) × (St) × (St))) : Prop := ∀ (x1 : Int32) (x2 : Int32) (y1 : Int32) (s0 : St × (St) × (St × (St × (St))) × (St) × (St)) (H : Heap) (locs : List Loc) (ls : Array Slot), g x1 x2 y1 s0 = some r → va_P (dC, dI) vwCl (dw_X19 a ac s0) H → va_D A (dw_X19 a ac s0) → va_S A s.heap H locs → lv_has ls 6 [(0, .ref (a 0)), (1, .int x1), (2, .int x2)] → W p l e (headSpec ow_dm_X19_run ({ frames := 10, cells := 0, slots := 0, locals := 225 })).room s m args below meth c H locs 0 0 Q (F0 m 20 ls [.int y1, .ref (a 0)])
def dj_X19_run_0 (p : Program) (l : Launch) (e : Env) (s : State) (m : MethodId) (args : Array Value) (below : List Frame) (meth : Method) (c : Code) (Q : State → Prop) (A : Nat → Prop) (dC : Nat → ClassId) (dI : Nat → Nat → Nat) (a : Nat → Nat) (ac : Nat → ClassId) (g : Int32 → (St × (St) × (St × (St × (St))) × (St) × (St)) → Option (Int32 × (St × (St) × (St × (St × (St))) × (St) × (St)))) (r : Int32 × (St × (St) × (St × (St × (St))) × (St) × (St))) : Prop := ∀ (v0 : Int32) (s0 : St × (St) × (St × (St × (St))) × (St) × (St)) (H : Heap) (locs : List Loc) (ls : Array Slot), g v0 s0 = some r → va_P (dC, dI) vwCl (dw_X19 a ac s0) H → va_D A (dw_X19 a ac s0) → va_S A s.heap H locs → lv_has ls 6 [(0, .ref (a 0)), (1, .int v0)] → W p l e (headSpec ow_dm_X19_run ({ frames := 10, cells := 0, slots := 0, locals := 225 })).room s m args below meth c H locs 0 0 Q (F0 m 0 ls [])
set_option maxHeartbeats 40000000 in
set_option maxRecDepth 100000 in
theorem db_X19_run_237 {p : Program} {l : Launch} {e : Env} {s : State} {m : MethodId} {args : Array Value} {below : List Frame} {meth : Method} {c : Code} {Q : State → Prop} {A : Nat → Prop} {dC : Nat → ClassId} {dI : Nat → Nat → Nat} {a : Nat → Nat} {ac : Nat → ClassId} {n : Nat} {r : Int32 × (St × (St) × (St × (St × (St))) × (St) × (St))} (C : nd_C p l s m args c A (dC, dI) cX19_run 6 RX19 ow_dm_X19_run (dk_X19 ac)) (K : nd_Ki p l e (headSpec ow_dm_X19_run ({ frames := 10, cells := 0, slots := 0, locals := 225 })).room s m args below meth c Q A (dC, dI) cX19_run .int (St × (St) × (St × (St × (St))) × (St) × (St)) (dw_X19 a ac) r) : dj_X19_run_237 p l e s m args below meth c Q A dC dI a ac (df_X19_run_237 n) r := by
  obtain ⟨hlt, hx, hb, hml, hown, hts, hN, hA, hK⟩ := id C
  intro x3 s0 H locs ls h hP hD hS hl
  unfold df_X19_run_237 at h
  refine lv_iload_n hx hb dX19_run_237 rfl (lv_at hl 0 rfl) ?_
  exact K _ _ _ _ _ _ dX19_run_238 rfl (Option.some.inj h).symm hP hD hS
set_option maxHeartbeats 40000000 in
set_option maxRecDepth 100000 in
theorem db_X19_run_231 {p : Program} {l : Launch} {e : Env} {s : State} {m : MethodId} {args : Array Value} {below : List Frame} {meth : Method} {c : Code} {Q : State → Prop} {A : Nat → Prop} {dC : Nat → ClassId} {dI : Nat → Nat → Nat} {a : Nat → Nat} {ac : Nat → ClassId} {n : Nat} {r : Int32 × (St × (St) × (St × (St × (St))) × (St) × (St))} (C : nd_C p l s m args c A (dC, dI) cX19_run 6 RX19 ow_dm_X19_run (dk_X19 ac)) (K : nd_Ki p l e (headSpec ow_dm_X19_run ({ frames := 10, cells := 0, slots := 0, locals := 225 })).room s m args below meth c Q A (dC, dI) cX19_run .int (St × (St) × (St × (St × (St))) × (St) × (St)) (dw_X19 a ac) r) {g75 : Int32 → Int32 → (St × (St) × (St × (St × (St))) × (St) × (St)) → Option (Int32 × (St × (St) × (St × (St × (St))) × (St) × (St)))} (J75 : dj_X19_run_75 p l e s m args below meth c Q A dC dI a ac g75 r) : dj_X19_run_231 p l e s m args below meth c Q A dC dI a ac (df_X19_run_231 n g75) r := by
  obtain ⟨hlt, hx, hb, hml, hown, hts, hN, hA, hK⟩ := id C
  intro x1 x3 y1 s0 H locs ls h hP hD hS hl
  unfold df_X19_run_231 at h
  refine va_put (D := (dC, dI)) (ci := 20) (v := .int y1) (ty := .int) (C := RX19) (T := TX19) (N := 36) hx hb hts hi_dm_X19_run_X19 tyX19 tyX19_ok nmX19 hown hK hP hD hS 0 rfl rfl 21 (by decide) (hts (.fieldLink RX19 285 "TimeMachineModel" "why" "I") (List.mem_of_getElem? (i := 13) rfl)) (fun _ h9 => h9) rfl (by decide +kernel) rfl rfl (Nat.le_of_ble_eq_true rfl) dX19_run_231 (fun H locs hP hD hS => ?_)
  obtain ⟨s39, es39, h⟩ := nd_let_e h
  have hP : va_P (dC, dI) vwCl (dw_X19 a ac s39) H := by rw [es39]; exact hP
  have hD : va_D A (dw_X19 a ac s39) := by rw [es39]; exact hD
  refine lv_goto (tgt := 75) hx hb dX19_run_234 (by decide) ?_
  exact (J75) (x1) (x3) s39 _ _ _ h hP hD hS (lv_sub hl [0, 1, 2] rfl)
set_option maxHeartbeats 40000000 in
set_option maxRecDepth 100000 in
theorem db_X19_run_199 {p : Program} {l : Launch} {e : Env} {s : State} {m : MethodId} {args : Array Value} {below : List Frame} {meth : Method} {c : Code} {Q : State → Prop} {A : Nat → Prop} {dC : Nat → ClassId} {dI : Nat → Nat → Nat} {a : Nat → Nat} {ac : Nat → ClassId} {n : Nat} {r : Int32 × (St × (St) × (St × (St × (St))) × (St) × (St))} (C : nd_C p l s m args c A (dC, dI) cX19_run 6 RX19 ow_dm_X19_run (dk_X19 ac)) (K : nd_Ki p l e (headSpec ow_dm_X19_run ({ frames := 10, cells := 0, slots := 0, locals := 225 })).room s m args below meth c Q A (dC, dI) cX19_run .int (St × (St) × (St × (St × (St))) × (St) × (St)) (dw_X19 a ac) r) {g75 : Int32 → Int32 → (St × (St) × (St × (St × (St))) × (St) × (St)) → Option (Int32 × (St × (St) × (St × (St × (St))) × (St) × (St)))} (J75 : dj_X19_run_75 p l e s m args below meth c Q A dC dI a ac g75 r) : dj_X19_run_199 p l e s m args below meth c Q A dC dI a ac (df_X19_run_199 n g75) r := by
  obtain ⟨hlt, hx, hb, hml, hown, hts, hN, hA, hK⟩ := id C
  intro x1 x3 x4 s0 H locs ls h hP hD hS hl
  unfold df_X19_run_199 at h
  refine lv_aload_n hx hb dX19_run_199 rfl (lv_at hl 0 rfl) ?_
  obtain ⟨q34, s35, hq, h⟩ := nd_b2_e h
  have hPc := hP
  have hDc := hD
  have hKc := hK
  have hFc := nd_rs hD hS hA
  refine nd_cVi (As := []) (rest := []) (q := q34) (w' := dw_X19 a ac s35) ⟨hx, hb, hml, hown, hts⟩ (fun sz => dm_X19_hit l hlt dC dI a ac n  s0 hq sz) (cwV 0 hts gi_dm_X19_run_6 rfl rfl rfl (by decide +kernel) ⟨Nat.le_of_ble_eq_true rfl, Nat.le_of_ble_eq_true rfl⟩) hPc hDc hKc hS hA hN (va_recv hKc hPc (ci := 20) (q0 := 0) rfl rfl) rfl hl.1 rfl (Nat.le_of_ble_eq_true rfl) dX19_run_200 (fun H locs hP1 hD1 hk1 hS => ?_)
  have hP := hP1
  have hD := hD1.weaken (fun k q _ h => hFc q.1 h)
  refine lv_istore (lv' := [(5, .int q34), (0, .ref (a 0)), (1, .int x1), (3, .int x3), (4, .int x4)]) hx hb dX19_run_203 hl (by decide) rfl (fun ls hl => ?_)
  refine lv_aload_n hx hb dX19_run_205 rfl (lv_at hl 1 rfl) ?_
  refine lv_iload hx hb dX19_run_206 (lv_at hl 4 rfl) ?_
  refine lv_if_ne (tgt := 215) hx hb dX19_run_208 (by decide) (fun c37 => ?_) (fun c37 => ?_)
  · have h := nd_neg h c37
    refine lv_iload hx hb dX19_run_215 (lv_at hl 0 rfl) ?_
    refine lv_if_lt (tgt := 230) hx hb dX19_run_217 (by decide) (fun c38 => ?_) (fun c38 => ?_)
    · have h := nd_pos h c38
      refine lv_iconst (v := 0) hx hb dX19_run_230 (by decide) ?_
      exact (db_X19_run_231 C K J75) (x1) (x3) (0) s35 _ _ _ h hP hD hS (lv_sub hl [1, 2, 3] rfl)
    · have h := nd_neg h c38
      refine lv_iconst (v := 3) hx hb dX19_run_220 (by decide) ?_
      refine lv_bipush (v := 8) hx hb dX19_run_221 (by decide) ?_
      refine lv_iload hx hb dX19_run_223 (lv_at hl 0 rfl) ?_
      refine lv_imul hx hb dX19_run_225 ?_
      refine lv_iadd hx hb dX19_run_226 ?_
      refine lv_goto (tgt := 231) hx hb dX19_run_227 (by decide) ?_
      exact (db_X19_run_231 C K J75) (x1) (x3) ((3 + (8 * q34))) s35 _ _ _ h hP hD hS (lv_sub hl [1, 2, 3] rfl)
  · have h := nd_pos h c37
    refine lv_iconst (v := 5) hx hb dX19_run_211 (by decide) ?_
    refine lv_goto (tgt := 231) hx hb dX19_run_212 (by decide) ?_
    exact (db_X19_run_231 C K J75) (x1) (x3) (5) s35 _ _ _ h hP hD hS (lv_sub hl [1, 2, 3] rfl)
set_option maxHeartbeats 40000000 in
set_option maxRecDepth 100000 in
theorem db_X19_run_139 {p : Program} {l : Launch} {e : Env} {s : State} {m : MethodId} {args : Array Value} {below : List Frame} {meth : Method} {c : Code} {Q : State → Prop} {A : Nat → Prop} {dC : Nat → ClassId} {dI : Nat → Nat → Nat} {a : Nat → Nat} {ac : Nat → ClassId} {n : Nat} {r : Int32 × (St × (St) × (St × (St × (St))) × (St) × (St))} (C : nd_C p l s m args c A (dC, dI) cX19_run 6 RX19 ow_dm_X19_run (dk_X19 ac)) (K : nd_Ki p l e (headSpec ow_dm_X19_run ({ frames := 10, cells := 0, slots := 0, locals := 225 })).room s m args below meth c Q A (dC, dI) cX19_run .int (St × (St) × (St × (St × (St))) × (St) × (St)) (dw_X19 a ac) r) {g75 : Int32 → Int32 → (St × (St) × (St × (St × (St))) × (St) × (St)) → Option (Int32 × (St × (St) × (St × (St × (St))) × (St) × (St)))} (J75 : dj_X19_run_75 p l e s m args below meth c Q A dC dI a ac g75 r) : dj_X19_run_139 p l e s m args below meth c Q A dC dI a ac (df_X19_run_139 n g75) r := by
  obtain ⟨hlt, hx, hb, hml, hown, hts, hN, hA, hK⟩ := id C
  intro x1 x3 s0 H locs ls h hP hD hS hl
  unfold df_X19_run_139 at h
  refine lv_aload_n hx hb dX19_run_139 rfl (lv_at hl 0 rfl) ?_
  refine va_get (D := (dC, dI)) (ci := 20) (v := .int (sI s0.1 7)) (C := RX19) (T := TX19) (N := 36) hx hb hts hi_dm_X19_run_X19 hown hK hP 0 rfl rfl 21 (by decide) (hts (.fieldLink RX19 285 "TimeMachineModel" "why" "I") (List.mem_of_getElem? (i := 13) rfl)) (fun _ h9 => h9) rfl dX19_run_140 ?_
  refine lv_if_le (tgt := 149) hx hb dX19_run_143 (by decide) (fun c24 => ?_) (fun c24 => ?_)
  · have h := nd_pos h c24
    refine lv_aload_n hx hb dX19_run_149 rfl (lv_at hl 0 rfl) ?_
    obtain ⟨s26, hq, h⟩ := nd_b1_e h
    have hPc := hP
    have hDc := hD
    have hKc := hK
    have hFc := nd_rs hD hS hA
    refine nd_cVv (As := []) (rest := []) (w' := dw_X19 a ac s26) ⟨hx, hb, hml, hown, hts⟩ (fun sz => dm_X19_remember l hlt dC dI a ac n  s0 hq sz) (cwV 0 hts gi_dm_X19_run_4 rfl rfl rfl (by decide +kernel) ⟨Nat.le_of_ble_eq_true rfl, Nat.le_of_ble_eq_true rfl⟩) hPc hDc hKc hS hA hN (va_recv hKc hPc (ci := 20) (q0 := 0) rfl rfl) rfl hl.1 rfl (Nat.le_of_ble_eq_true rfl) dX19_run_150 (fun H locs hP1 hD1 hk1 hS => ?_)
    have hP := hP1
    have hD := hD1.weaken (fun k q _ h => hFc q.1 h)
    refine lv_aload_n hx hb dX19_run_153 rfl (lv_at hl 0 rfl) ?_
    obtain ⟨q28, s29, hq, h⟩ := nd_b2_e h
    have hPc := hP
    have hDc := hD
    have hKc := hK
    have hFc := nd_rs hD hS hA
    refine nd_cVi (As := []) (rest := []) (q := q28) (w' := dw_X19 a ac s29) ⟨hx, hb, hml, hown, hts⟩ (fun sz => dm_X19_tick l hlt dC dI a ac n  s26 hq sz) (cwV 0 hts gi_dm_X19_run_5 rfl rfl rfl (by decide +kernel) ⟨Nat.le_of_ble_eq_true rfl, Nat.le_of_ble_eq_true rfl⟩) hPc hDc hKc hS hA hN (va_recv hKc hPc (ci := 20) (q0 := 0) rfl rfl) rfl hl.1 rfl (Nat.le_of_ble_eq_true rfl) dX19_run_154 (fun H locs hP1 hD1 hk1 hS => ?_)
    have hP := hP1
    have hD := hD1.weaken (fun k q _ h => hFc q.1 h)
    refine lv_pop hx hb dX19_run_157 rfl ?_
    refine lv_aload_n hx hb dX19_run_158 rfl (lv_at hl 0 rfl) ?_
    refine lv_dup hx hb dX19_run_159 rfl ?_
    refine va_get (D := (dC, dI)) (ci := 20) (v := .int (sI s29.1 5)) (C := RX19) (T := TX19) (N := 36) hx hb hts hi_dm_X19_run_X19 hown hK hP 0 rfl rfl 19 (by decide) (hts (.fieldLink RX19 234 "TimeMachineModel" "now" "I") (List.mem_of_getElem? (i := 8) rfl)) (fun _ h9 => h9) rfl dX19_run_160 ?_
    refine lv_iconst (v := 1) hx hb dX19_run_163 (by decide) ?_
    refine lv_iadd hx hb dX19_run_164 ?_
    refine va_put (D := (dC, dI)) (ci := 20) (v := .int ((sI s29.1 5) + 1)) (ty := .int) (C := RX19) (T := TX19) (N := 36) hx hb hts hi_dm_X19_run_X19 tyX19 tyX19_ok nmX19 hown hK hP hD hS 0 rfl rfl 19 (by decide) (hts (.fieldLink RX19 234 "TimeMachineModel" "now" "I") (List.mem_of_getElem? (i := 8) rfl)) (fun _ h9 => h9) rfl (by decide +kernel) rfl rfl (Nat.le_of_ble_eq_true rfl) dX19_run_165 (fun H locs hP hD hS => ?_)
    obtain ⟨s31, es31, h⟩ := nd_let_e h
    have hP : va_P (dC, dI) vwCl (dw_X19 a ac s31) H := by rw [es31]; exact hP
    have hD : va_D A (dw_X19 a ac s31) := by rw [es31]; exact hD
    obtain ⟨z32, ez32, h⟩ := nd_let_e h
    refine lv_iinc (v := z32) (lv' := [(3, .int z32), (0, .ref (a 0)), (1, .int x1)]) hx hb dX19_run_168 hl (k := 2) rfl (by rw [ez32]) (by decide) rfl (fun ls hl => ?_)
    refine lv_iconst (v := 1) hx hb dX19_run_171 (by decide) ?_
    refine lv_istore (lv' := [(4, .int 1), (3, .int z32), (0, .ref (a 0)), (1, .int x1)]) hx hb dX19_run_172 hl (by decide) rfl (fun ls hl => ?_)
    refine lv_aload_n hx hb dX19_run_174 rfl (lv_at hl 2 rfl) ?_
    refine va_get (D := (dC, dI)) (ci := 20) (v := .int (sI s31.1 5)) (C := RX19) (T := TX19) (N := 36) hx hb hts hi_dm_X19_run_X19 hown hK hP 0 rfl rfl 19 (by decide) (hts (.fieldLink RX19 234 "TimeMachineModel" "now" "I") (List.mem_of_getElem? (i := 8) rfl)) (fun _ h9 => h9) rfl dX19_run_175 ?_
    refine lv_aload_n hx hb dX19_run_178 rfl (lv_at hl 2 rfl) ?_
    refine va_get (D := (dC, dI)) (ci := 20) (v := .int (sI s31.1 6)) (C := RX19) (T := TX19) (N := 36) hx hb hts hi_dm_X19_run_X19 hown hK hP 0 rfl rfl 20 (by decide) (hts (.fieldLink RX19 210 "TimeMachineModel" "end" "I") (List.mem_of_getElem? (i := 27) rfl)) (fun _ h9 => h9) rfl dX19_run_179 ?_
    refine lv_icmp_le (tgt := 199) hx hb dX19_run_182 (by decide) (fun c33 => ?_) (fun c33 => ?_)
    · have h := nd_pos h c33
      exact (db_X19_run_199 C K J75) (x1) (z32) (1) s31 _ _ _ h hP hD hS (lv_sub hl [2, 3, 1, 0] rfl)
    · have h := nd_neg h c33
      refine lv_aload_n hx hb dX19_run_185 rfl (lv_at hl 2 rfl) ?_
      refine lv_aload_n hx hb dX19_run_186 rfl (lv_at hl 2 rfl) ?_
      refine va_get (D := (dC, dI)) (ci := 20) (v := .int (sI s31.1 5)) (C := RX19) (T := TX19) (N := 36) hx hb hts hi_dm_X19_run_X19 hown hK hP 0 rfl rfl 19 (by decide) (hts (.fieldLink RX19 234 "TimeMachineModel" "now" "I") (List.mem_of_getElem? (i := 8) rfl)) (fun _ h9 => h9) rfl dX19_run_187 ?_
      refine va_put (D := (dC, dI)) (ci := 20) (v := .int (sI s31.1 5)) (ty := .int) (C := RX19) (T := TX19) (N := 36) hx hb hts hi_dm_X19_run_X19 tyX19 tyX19_ok nmX19 hown hK hP hD hS 0 rfl rfl 20 (by decide) (hts (.fieldLink RX19 210 "TimeMachineModel" "end" "I") (List.mem_of_getElem? (i := 27) rfl)) (fun _ h9 => h9) rfl (by decide +kernel) rfl rfl (Nat.le_of_ble_eq_true rfl) dX19_run_190 (fun H locs hP hD hS => ?_)
      obtain ⟨s40, es40, h⟩ := nd_let_e h
      have hP : va_P (dC, dI) vwCl (dw_X19 a ac s40) H := by rw [es40]; exact hP
      have hD : va_D A (dw_X19 a ac s40) := by rw [es40]; exact hD
      refine lv_aload_n hx hb dX19_run_193 rfl (lv_at hl 2 rfl) ?_
      obtain ⟨q41, s42, hq, h⟩ := nd_b2_e h
      have hPc := hP
      have hDc := hD
      have hKc := hK
      have hFc := nd_rs hD hS hA
      refine nd_cVi (As := []) (rest := []) (q := q41) (w' := dw_X19 a ac s42) ⟨hx, hb, hml, hown, hts⟩ (fun sz => dm_X19_takeScheduled l hlt dC dI a ac n  s40 hq sz) (cwV 0 hts gi_dm_X19_run_7 rfl rfl rfl (by decide +kernel) ⟨Nat.le_of_ble_eq_true rfl, Nat.le_of_ble_eq_true rfl⟩) hPc hDc hKc hS hA hN (va_recv hKc hPc (ci := 20) (q0 := 0) rfl rfl) rfl hl.1 rfl (Nat.le_of_ble_eq_true rfl) dX19_run_194 (fun H locs hP1 hD1 hk1 hS => ?_)
      have hP := hP1
      have hD := hD1.weaken (fun k q _ h => hFc q.1 h)
      refine lv_istore (lv' := [(4, .int q41), (3, .int z32), (0, .ref (a 0)), (1, .int x1)]) hx hb dX19_run_197 hl (by decide) rfl (fun ls hl => ?_)
      exact (db_X19_run_199 C K J75) (x1) (z32) (q41) s42 _ _ _ h hP hD hS (lv_sub hl [2, 3, 1, 0] rfl)
  · have h := nd_neg h c24
    refine lv_goto (tgt := 75) hx hb dX19_run_146 (by decide) ?_
    exact (J75) (x1) (x3) s0 _ _ _ h hP hD hS (lv_sub hl [0, 1, 2] rfl)
set_option maxHeartbeats 40000000 in
set_option maxRecDepth 100000 in
theorem db_X19_run_136 {p : Program} {l : Launch} {e : Env} {s : State} {m : MethodId} {args : Array Value} {below : List Frame} {meth : Method} {c : Code} {Q : State → Prop} {A : Nat → Prop} {dC : Nat → ClassId} {dI : Nat → Nat → Nat} {a : Nat → Nat} {ac : Nat → ClassId} {n : Nat} {r : Int32 × (St × (St) × (St × (St × (St))) × (St) × (St))} (C : nd_C p l s m args c A (dC, dI) cX19_run 6 RX19 ow_dm_X19_run (dk_X19 ac)) (K : nd_Ki p l e (headSpec ow_dm_X19_run ({ frames := 10, cells := 0, slots := 0, locals := 225 })).room s m args below meth c Q A (dC, dI) cX19_run .int (St × (St) × (St × (St × (St))) × (St) × (St)) (dw_X19 a ac) r) {g75 : Int32 → Int32 → (St × (St) × (St × (St × (St))) × (St) × (St)) → Option (Int32 × (St × (St) × (St × (St × (St))) × (St) × (St)))} (J75 : dj_X19_run_75 p l e s m args below meth c Q A dC dI a ac g75 r) : dj_X19_run_136 p l e s m args below meth c Q A dC dI a ac (df_X19_run_136 n g75) r := by
  obtain ⟨hlt, hx, hb, hml, hown, hts, hN, hA, hK⟩ := id C
  intro x1 x3 y1 s0 H locs ls h hP hD hS hl
  unfold df_X19_run_136 at h
  refine va_put (D := (dC, dI)) (ci := 20) (v := .int y1) (ty := .int) (C := RX19) (T := TX19) (N := 36) hx hb hts hi_dm_X19_run_X19 tyX19 tyX19_ok nmX19 hown hK hP hD hS 0 rfl rfl 21 (by decide) (hts (.fieldLink RX19 285 "TimeMachineModel" "why" "I") (List.mem_of_getElem? (i := 13) rfl)) (fun _ h9 => h9) rfl (by decide +kernel) rfl rfl (Nat.le_of_ble_eq_true rfl) dX19_run_136 (fun H locs hP hD hS => ?_)
  obtain ⟨s49, es49, h⟩ := nd_let_e h
  have hP : va_P (dC, dI) vwCl (dw_X19 a ac s49) H := by rw [es49]; exact hP
  have hD : va_D A (dw_X19 a ac s49) := by rw [es49]; exact hD
  exact (db_X19_run_139 C K J75) (x1) (x3) s49 _ _ _ h hP hD hS (lv_sub hl [0, 1, 2] rfl)
set_option maxHeartbeats 40000000 in
set_option maxRecDepth 100000 in
theorem dB_X19_run_75 {p : Program} {l : Launch} {e : Env} {s : State} {m : MethodId} {args : Array Value} {below : List Frame} {meth : Method} {c : Code} {Q : State → Prop} {A : Nat → Prop} {dC : Nat → ClassId} {dI : Nat → Nat → Nat} {a : Nat → Nat} {ac : Nat → ClassId} {n : Nat} {r : Int32 × (St × (St) × (St × (St × (St))) × (St) × (St))} (C : nd_C p l s m args c A (dC, dI) cX19_run 6 RX19 ow_dm_X19_run (dk_X19 ac)) (K : nd_Ki p l e (headSpec ow_dm_X19_run ({ frames := 10, cells := 0, slots := 0, locals := 225 })).room s m args below meth c Q A (dC, dI) cX19_run .int (St × (St) × (St × (St × (St))) × (St) × (St)) (dw_X19 a ac) r) {g75 : Int32 → Int32 → (St × (St) × (St × (St × (St))) × (St) × (St)) → Option (Int32 × (St × (St) × (St × (St × (St))) × (St) × (St)))} (J75 : dj_X19_run_75 p l e s m args below meth c Q A dC dI a ac g75 r) : dj_X19_run_75 p l e s m args below meth c Q A dC dI a ac (dF_X19_run_75 n g75) r := by
  obtain ⟨hlt, hx, hb, hml, hown, hts, hN, hA, hK⟩ := id C
  intro x1 x3 s0 H locs ls h hP hD hS hl
  unfold dF_X19_run_75 at h
  refine lv_iload_n hx hb dX19_run_75 rfl (lv_at hl 2 rfl) ?_
  refine lv_iload_n hx hb dX19_run_76 rfl (lv_at hl 1 rfl) ?_
  refine lv_icmp_ge (tgt := 237) hx hb dX19_run_77 (by decide) (fun c16 => ?_) (fun c16 => ?_)
  · have h := nd_pos h c16
    exact (db_X19_run_237 C K) (x3) s0 _ _ _ h hP hD hS (lv_sub hl [2] rfl)
  · have h := nd_neg h c16
    refine lv_aload_n hx hb dX19_run_80 rfl (lv_at hl 0 rfl) ?_
    refine va_get (D := (dC, dI)) (ci := 20) (v := .int (sI s0.1 7)) (C := RX19) (T := TX19) (N := 36) hx hb hts hi_dm_X19_run_X19 hown hK hP 0 rfl rfl 21 (by decide) (hts (.fieldLink RX19 285 "TimeMachineModel" "why" "I") (List.mem_of_getElem? (i := 13) rfl)) (fun _ h9 => h9) rfl dX19_run_81 ?_
    refine lv_if_ne (tgt := 237) hx hb dX19_run_84 (by decide) (fun c17 => ?_) (fun c17 => ?_)
    · have h := nd_neg h c17
      exact (db_X19_run_237 C K) (x3) s0 _ _ _ h hP hD hS (lv_sub hl [2] rfl)
    · have h := nd_pos h c17
      refine lv_aload_n hx hb dX19_run_87 rfl (lv_at hl 0 rfl) ?_
      refine va_get (D := (dC, dI)) (ci := 20) (v := .int (sI s0.1 5)) (C := RX19) (T := TX19) (N := 36) hx hb hts hi_dm_X19_run_X19 hown hK hP 0 rfl rfl 19 (by decide) (hts (.fieldLink RX19 234 "TimeMachineModel" "now" "I") (List.mem_of_getElem? (i := 8) rfl)) (fun _ h9 => h9) rfl dX19_run_88 ?_
      refine lv_ldcw hx hb hown (hts (.constant RX19 288 (60000)) (List.mem_of_getElem? (i := 14) rfl)) dX19_run_91 ?_
      refine lv_icmp_ne (tgt := 105) hx hb dX19_run_94 (by decide) (fun c18 => ?_) (fun c18 => ?_)
      · have h := nd_neg h c18
        refine lv_aload_n hx hb dX19_run_105 rfl (lv_at hl 0 rfl) ?_
        refine va_get (D := (dC, dI)) (ci := 20) (v := .ref (a 44)) (C := RX19) (T := TX19) (N := 36) hx hb hts hi_dm_X19_run_X19 hown hK hP 0 rfl rfl 13 (by decide) (hts (.fieldLink RX19 58 "TimeMachineModel" "m" "LTimeMachineModel$Machine;") (List.mem_of_getElem? (i := 15) rfl)) (fun _ h9 => h9) rfl dX19_run_106 ?_
        refine lv_iconst (v := 2) hx hb dX19_run_109 (by decide) ?_
        obtain ⟨q19, s20, hq, h⟩ := nd_b2_e h
        have hPc := dp_X19_44 hP
        have hDc := dd_X19_44 hD
        have hKc := dy_X19_44 hK
        have hFc := nd_rs hDc hS hA
        have hzA : ∀ q : Nat, H.size ≤ q → A q := fun q h => hA q (Nat.le_trans hS.1 h)
        refine nd_cVl (As := [.int 2]) (rest := []) (q := q19) (w' := dw_X16 (fun k => a (k + 44)) (fun k => ac (k + 44)) s20) ⟨hx, hb, hml, hown, hts⟩ (fun sz => dm_X16_count l hlt dC dI (fun k => a (k + 44)) (fun k => ac (k + 44)) n (2) s0.2.2.1.2 hq sz) (cwV 1 hts gi_dm_X19_run_3 rfl rfl rfl (by decide +kernel) ⟨Nat.le_of_ble_eq_true rfl, Nat.le_of_ble_eq_true rfl⟩) hPc hDc hKc hS hA hN (va_recv hKc hPc (ci := 17) (q0 := 0) rfl rfl) rfl hl.1 rfl (Nat.le_of_ble_eq_true rfl) dX19_run_110 (fun H locs hP1 hD1 hk1 hS => ?_)
        obtain ⟨hP, hD⟩ := dn_X19_44 hP hD hzA hk1 hP1 hD1
        obtain ⟨s22, es22, h⟩ := nd_let_e h
        have hP : va_P (dC, dI) vwCl (dw_X19 a ac s22) H := by rw [es22]; exact hP
        have hD : va_D A (dw_X19 a ac s22) := by rw [es22]; exact hD
        refine lv_ldc2 hx hb hown (hts (.constantLong RX19 292 (-1)) (List.mem_of_getElem? (i := 20) rfl)) dX19_run_113 ?_
        refine W.lcmp hx hb dX19_run_116 ?_
        refine lv_if_ne (tgt := 139) hx hb dX19_run_117 (by decide) (fun c23 => ?_) (fun c23 => ?_)
        · have h := nd_neg h c23
          exact (db_X19_run_139 C K J75) (x1) (x3) s22 _ _ _ h hP hD hS (lv_sub hl [0, 1, 2] rfl)
        · have h := nd_pos h c23
          refine lv_aload_n hx hb dX19_run_120 rfl (lv_at hl 0 rfl) ?_
          refine lv_aload_n hx hb dX19_run_121 rfl (lv_at hl 0 rfl) ?_
          refine va_get (D := (dC, dI)) (ci := 20) (v := .ref (a 44)) (C := RX19) (T := TX19) (N := 36) hx hb hts hi_dm_X19_run_X19 hown hK hP 0 rfl rfl 13 (by decide) (hts (.fieldLink RX19 58 "TimeMachineModel" "m" "LTimeMachineModel$Machine;") (List.mem_of_getElem? (i := 15) rfl)) (fun _ h9 => h9) rfl dX19_run_122 ?_
          obtain ⟨q44, s45, hq, h⟩ := nd_b2_e h
          have hPc := dp_X19_44 hP
          have hDc := dd_X19_44 hD
          have hKc := dy_X19_44 hK
          have hFc := nd_rs hDc hS hA
          have hzA : ∀ q : Nat, H.size ≤ q → A q := fun q h => hA q (Nat.le_trans hS.1 h)
          refine nd_cVi (As := []) (rest := [.ref (a 0)]) (q := q44) (w' := dw_X16 (fun k => a (k + 44)) (fun k => ac (k + 44)) s45) ⟨hx, hb, hml, hown, hts⟩ (fun sz => dm_X16_isWaiting l hlt dC dI (fun k => a (k + 44)) (fun k => ac (k + 44)) n  s22.2.2.1.2 hq sz) (cwV 0 hts gi_dm_X19_run_8 rfl rfl rfl (by decide +kernel) ⟨Nat.le_of_ble_eq_true rfl, Nat.le_of_ble_eq_true rfl⟩) hPc hDc hKc hS hA hN (va_recv hKc hPc (ci := 17) (q0 := 0) rfl rfl) rfl hl.1 rfl (Nat.le_of_ble_eq_true rfl) dX19_run_125 (fun H locs hP1 hD1 hk1 hS => ?_)
          obtain ⟨hP, hD⟩ := dn_X19_44 hP hD hzA hk1 hP1 hD1
          obtain ⟨s47, es47, h⟩ := nd_let_e h
          have hP : va_P (dC, dI) vwCl (dw_X19 a ac s47) H := by rw [es47]; exact hP
          have hD : va_D A (dw_X19 a ac s47) := by rw [es47]; exact hD
          refine lv_if_eq (tgt := 135) hx hb dX19_run_128 (by decide) (fun c48 => ?_) (fun c48 => ?_)
          · have h := nd_pos h c48
            refine lv_iconst (v := 2) hx hb dX19_run_135 (by decide) ?_
            exact (db_X19_run_136 C K J75) (x1) (x3) (2) s47 _ _ _ h hP hD hS (lv_sub hl [0, 1, 2] rfl)
          · have h := nd_neg h c48
            refine lv_iconst (v := 1) hx hb dX19_run_131 (by decide) ?_
            refine lv_goto (tgt := 136) hx hb dX19_run_132 (by decide) ?_
            exact (db_X19_run_136 C K J75) (x1) (x3) (1) s47 _ _ _ h hP hD hS (lv_sub hl [0, 1, 2] rfl)
      · have h := nd_pos h c18
        refine lv_aload_n hx hb dX19_run_97 rfl (lv_at hl 0 rfl) ?_
        refine lv_iconst (v := 4) hx hb dX19_run_98 (by decide) ?_
        refine va_put (D := (dC, dI)) (ci := 20) (v := .int 4) (ty := .int) (C := RX19) (T := TX19) (N := 36) hx hb hts hi_dm_X19_run_X19 tyX19 tyX19_ok nmX19 hown hK hP hD hS 0 rfl rfl 21 (by decide) (hts (.fieldLink RX19 285 "TimeMachineModel" "why" "I") (List.mem_of_getElem? (i := 13) rfl)) (fun _ h9 => h9) rfl (by decide +kernel) rfl rfl (Nat.le_of_ble_eq_true rfl) dX19_run_99 (fun H locs hP hD hS => ?_)
        obtain ⟨s50, es50, h⟩ := nd_let_e h
        have hP : va_P (dC, dI) vwCl (dw_X19 a ac s50) H := by rw [es50]; exact hP
        have hD : va_D A (dw_X19 a ac s50) := by rw [es50]; exact hD
        refine lv_goto (tgt := 139) hx hb dX19_run_102 (by decide) ?_
        exact (db_X19_run_139 C K J75) (x1) (x3) s50 _ _ _ h hP hD hS (lv_sub hl [0, 1, 2] rfl)
set_option maxHeartbeats 40000000 in
set_option maxRecDepth 100000 in
theorem db_X19_run_75 {p : Program} {l : Launch} {e : Env} {s : State} {m : MethodId} {args : Array Value} {below : List Frame} {meth : Method} {c : Code} {Q : State → Prop} {A : Nat → Prop} {dC : Nat → ClassId} {dI : Nat → Nat → Nat} {a : Nat → Nat} {ac : Nat → ClassId} {n : Nat} {r : Int32 × (St × (St) × (St × (St × (St))) × (St) × (St))} (C : nd_C p l s m args c A (dC, dI) cX19_run 6 RX19 ow_dm_X19_run (dk_X19 ac)) (K : nd_Ki p l e (headSpec ow_dm_X19_run ({ frames := 10, cells := 0, slots := 0, locals := 225 })).room s m args below meth c Q A (dC, dI) cX19_run .int (St × (St) × (St × (St × (St))) × (St) × (St)) (dw_X19 a ac) r) (k : Nat) : dj_X19_run_75 p l e s m args below meth c Q A dC dI a ac (df_X19_run_75 n k) r := by
  induction k with
  | zero => intro x1 x3 s0 H locs ls h; exact nomatch (show (none : Option (Int32 × (St × (St) × (St × (St × (St))) × (St) × (St)))) = some r from h)
  | succ k ih => exact dB_X19_run_75 C K ih
set_option maxHeartbeats 40000000 in
set_option maxRecDepth 100000 in
theorem db_X19_run_65 {p : Program} {l : Launch} {e : Env} {s : State} {m : MethodId} {args : Array Value} {below : List Frame} {meth : Method} {c : Code} {Q : State → Prop} {A : Nat → Prop} {dC : Nat → ClassId} {dI : Nat → Nat → Nat} {a : Nat → Nat} {ac : Nat → ClassId} {n : Nat} {r : Int32 × (St × (St) × (St × (St × (St))) × (St) × (St))} (C : nd_C p l s m args c A (dC, dI) cX19_run 6 RX19 ow_dm_X19_run (dk_X19 ac)) (K : nd_Ki p l e (headSpec ow_dm_X19_run ({ frames := 10, cells := 0, slots := 0, locals := 225 })).room s m args below meth c Q A (dC, dI) cX19_run .int (St × (St) × (St × (St × (St))) × (St) × (St)) (dw_X19 a ac) r) : dj_X19_run_65 p l e s m args below meth c Q A dC dI a ac (df_X19_run_65 n) r := by
  obtain ⟨hlt, hx, hb, hml, hown, hts, hN, hA, hK⟩ := id C
  intro x1 y1 s0 H locs ls h hP hD hS hl
  unfold df_X19_run_65 at h
  refine va_put (D := (dC, dI)) (ci := 20) (v := .int y1) (ty := .int) (C := RX19) (T := TX19) (N := 36) hx hb hts hi_dm_X19_run_X19 tyX19 tyX19_ok nmX19 hown hK hP hD hS 0 rfl rfl 21 (by decide) (hts (.fieldLink RX19 285 "TimeMachineModel" "why" "I") (List.mem_of_getElem? (i := 13) rfl)) (fun _ h9 => h9) rfl (by decide +kernel) rfl rfl (Nat.le_of_ble_eq_true rfl) dX19_run_65 (fun H locs hP hD hS => ?_)
  obtain ⟨s14, es14, h⟩ := nd_let_e h
  have hP : va_P (dC, dI) vwCl (dw_X19 a ac s14) H := by rw [es14]; exact hP
  have hD : va_D A (dw_X19 a ac s14) := by rw [es14]; exact hD
  refine lv_aload_n hx hb dX19_run_68 rfl (lv_at hl 0 rfl) ?_
  refine lv_iconst (v := 0) hx hb dX19_run_69 (by decide) ?_
  refine va_put (D := (dC, dI)) (ci := 20) (v := .int 0) (ty := .boolean) (C := RX19) (T := TX19) (N := 36) hx hb hts hi_dm_X19_run_X19 tyX19 tyX19_ok nmX19 hown hK hP hD hS 0 rfl rfl 25 (by decide) (hts (.fieldLink RX19 236 "TimeMachineModel" "refused" "Z") (List.mem_of_getElem? (i := 12) rfl)) (fun _ h9 => h9) rfl (by decide +kernel) (by first | rfl | decide) rfl (Nat.le_of_ble_eq_true rfl) dX19_run_70 (fun H locs hP hD hS => ?_)
  obtain ⟨s15, es15, h⟩ := nd_let_e h
  have hP : va_P (dC, dI) vwCl (dw_X19 a ac s15) H := by rw [es15]; exact hP
  have hD : va_D A (dw_X19 a ac s15) := by rw [es15]; exact hD
  refine lv_iconst (v := 0) hx hb dX19_run_73 (by decide) ?_
  refine lv_istore_n (lv' := [(3, .int 0), (0, .ref (a 0)), (1, .int x1)]) hx hb dX19_run_74 rfl hl (by decide) rfl (fun ls hl => ?_)
  exact (db_X19_run_75 C K n) (x1) (0) s15 _ _ _ h hP hD hS (lv_sub hl [1, 2, 0] rfl)
set_option maxHeartbeats 40000000 in
set_option maxRecDepth 100000 in
theorem db_X19_run_36 {p : Program} {l : Launch} {e : Env} {s : State} {m : MethodId} {args : Array Value} {below : List Frame} {meth : Method} {c : Code} {Q : State → Prop} {A : Nat → Prop} {dC : Nat → ClassId} {dI : Nat → Nat → Nat} {a : Nat → Nat} {ac : Nat → ClassId} {n : Nat} {r : Int32 × (St × (St) × (St × (St × (St))) × (St) × (St))} (C : nd_C p l s m args c A (dC, dI) cX19_run 6 RX19 ow_dm_X19_run (dk_X19 ac)) (K : nd_Ki p l e (headSpec ow_dm_X19_run ({ frames := 10, cells := 0, slots := 0, locals := 225 })).room s m args below meth c Q A (dC, dI) cX19_run .int (St × (St) × (St × (St × (St))) × (St) × (St)) (dw_X19 a ac) r) : dj_X19_run_36 p l e s m args below meth c Q A dC dI a ac (df_X19_run_36 n) r := by
  obtain ⟨hlt, hx, hb, hml, hown, hts, hN, hA, hK⟩ := id C
  intro x1 y1 y2 s0 H locs ls h hP hD hS hl
  unfold df_X19_run_36 at h
  obtain ⟨q6, s7, hq, h⟩ := nd_b2_e h
  have hPc := hP
  have hDc := hD
  have hKc := hK
  have hFc := nd_rs hD hS hA
  refine nd_cVi (As := [.int y1, .int y2]) (rest := []) (q := q6) (w' := dw_X19 a ac s7) ⟨hx, hb, hml, hown, hts⟩ (fun sz => dm_X19_fails l hlt dC dI a ac n (y1) (y2) s0 hq sz) (cwV 2 hts gi_dm_X19_run_1 rfl rfl rfl (by decide +kernel) ⟨Nat.le_of_ble_eq_true rfl, Nat.le_of_ble_eq_true rfl⟩) hPc hDc hKc hS hA hN (va_recv hKc hPc (ci := 20) (q0 := 0) rfl rfl) rfl hl.1 rfl (Nat.le_of_ble_eq_true rfl) dX19_run_36 (fun H locs hP1 hD1 hk1 hS => ?_)
  have hP := hP1
  have hD := hD1.weaken (fun k q _ h => hFc q.1 h)
  refine lv_if_eq (tgt := 44) hx hb dX19_run_39 (by decide) (fun c9 => ?_) (fun c9 => ?_)
  · have h := nd_pos h c9
    refine lv_aload_n hx hb dX19_run_44 rfl (lv_at hl 0 rfl) ?_
    refine lv_aload_n hx hb dX19_run_45 rfl (lv_at hl 0 rfl) ?_
    refine va_get (D := (dC, dI)) (ci := 20) (v := .int (sI s7.1 5)) (C := RX19) (T := TX19) (N := 36) hx hb hts hi_dm_X19_run_X19 hown hK hP 0 rfl rfl 19 (by decide) (hts (.fieldLink RX19 234 "TimeMachineModel" "now" "I") (List.mem_of_getElem? (i := 8) rfl)) (fun _ h9 => h9) rfl dX19_run_46 ?_
    obtain ⟨s11, hq, h⟩ := nd_b1_e h
    have hPc := hP
    have hDc := hD
    have hKc := hK
    have hFc := nd_rs hD hS hA
    refine nd_cVv (As := [.int (sI s7.1 5)]) (rest := []) (w' := dw_X19 a ac s11) ⟨hx, hb, hml, hown, hts⟩ (fun sz => dm_X19_come l hlt dC dI a ac n ((sI s7.1 5)) s7 hq sz) (cwV 1 hts gi_dm_X19_run_2 rfl rfl rfl (by decide +kernel) ⟨Nat.le_of_ble_eq_true rfl, Nat.le_of_ble_eq_true rfl⟩) hPc hDc hKc hS hA hN (va_recv hKc hPc (ci := 20) (q0 := 0) rfl rfl) rfl hl.1 rfl (Nat.le_of_ble_eq_true rfl) dX19_run_49 (fun H locs hP1 hD1 hk1 hS => ?_)
    have hP := hP1
    have hD := hD1.weaken (fun k q _ h => hFc q.1 h)
    refine lv_aload_n hx hb dX19_run_52 rfl (lv_at hl 0 rfl) ?_
    refine lv_aload_n hx hb dX19_run_53 rfl (lv_at hl 0 rfl) ?_
    refine va_get (D := (dC, dI)) (ci := 20) (v := .int (sI s11.1 11)) (C := RX19) (T := TX19) (N := 36) hx hb hts hi_dm_X19_run_X19 hown hK hP 0 rfl rfl 25 (by decide) (hts (.fieldLink RX19 236 "TimeMachineModel" "refused" "Z") (List.mem_of_getElem? (i := 12) rfl)) (fun _ h9 => h9) rfl dX19_run_54 ?_
    refine lv_if_eq (tgt := 64) hx hb dX19_run_57 (by decide) (fun c13 => ?_) (fun c13 => ?_)
    · have h := nd_pos h c13
      refine lv_iconst (v := 0) hx hb dX19_run_64 (by decide) ?_
      exact (db_X19_run_65 C K) (x1) (0) s11 _ _ _ h hP hD hS (lv_sub hl [0, 1] rfl)
    · have h := nd_neg h c13
      refine lv_iconst (v := 5) hx hb dX19_run_60 (by decide) ?_
      refine lv_goto (tgt := 65) hx hb dX19_run_61 (by decide) ?_
      exact (db_X19_run_65 C K) (x1) (5) s11 _ _ _ h hP hD hS (lv_sub hl [0, 1] rfl)
  · have h := nd_neg h c9
    refine lv_iconst (v := 0) hx hb dX19_run_42 (by decide) ?_
    exact K _ _ _ _ _ _ dX19_run_43 rfl (Option.some.inj h).symm hP hD hS
set_option maxHeartbeats 40000000 in
set_option maxRecDepth 100000 in
theorem db_X19_run_35 {p : Program} {l : Launch} {e : Env} {s : State} {m : MethodId} {args : Array Value} {below : List Frame} {meth : Method} {c : Code} {Q : State → Prop} {A : Nat → Prop} {dC : Nat → ClassId} {dI : Nat → Nat → Nat} {a : Nat → Nat} {ac : Nat → ClassId} {n : Nat} {r : Int32 × (St × (St) × (St × (St × (St))) × (St) × (St))} (C : nd_C p l s m args c A (dC, dI) cX19_run 6 RX19 ow_dm_X19_run (dk_X19 ac)) (K : nd_Ki p l e (headSpec ow_dm_X19_run ({ frames := 10, cells := 0, slots := 0, locals := 225 })).room s m args below meth c Q A (dC, dI) cX19_run .int (St × (St) × (St × (St × (St))) × (St) × (St)) (dw_X19 a ac) r) : dj_X19_run_35 p l e s m args below meth c Q A dC dI a ac (df_X19_run_35 n) r := by
  obtain ⟨hlt, hx, hb, hml, hown, hts, hN, hA, hK⟩ := id C
  intro x1 y1 s0 H locs ls h hP hD hS hl
  unfold df_X19_run_35 at h
  refine lv_iconst (v := 0) hx hb dX19_run_35 (by decide) ?_
  exact (db_X19_run_36 C K) (x1) (y1) (0) s0 _ _ _ h hP hD hS (lv_sub hl [0, 1] rfl)
set_option maxHeartbeats 40000000 in
set_option maxRecDepth 100000 in
theorem db_X19_run_20 {p : Program} {l : Launch} {e : Env} {s : State} {m : MethodId} {args : Array Value} {below : List Frame} {meth : Method} {c : Code} {Q : State → Prop} {A : Nat → Prop} {dC : Nat → ClassId} {dI : Nat → Nat → Nat} {a : Nat → Nat} {ac : Nat → ClassId} {n : Nat} {r : Int32 × (St × (St) × (St × (St × (St))) × (St) × (St))} (C : nd_C p l s m args c A (dC, dI) cX19_run 6 RX19 ow_dm_X19_run (dk_X19 ac)) (K : nd_Ki p l e (headSpec ow_dm_X19_run ({ frames := 10, cells := 0, slots := 0, locals := 225 })).room s m args below meth c Q A (dC, dI) cX19_run .int (St × (St) × (St × (St × (St))) × (St) × (St)) (dw_X19 a ac) r) : dj_X19_run_20 p l e s m args below meth c Q A dC dI a ac (df_X19_run_20 n) r := by
  obtain ⟨hlt, hx, hb, hml, hown, hts, hN, hA, hK⟩ := id C
  intro x1 x2 y1 s0 H locs ls h hP hD hS hl
  unfold df_X19_run_20 at h
  refine lv_iload_n hx hb dX19_run_20 rfl (lv_at hl 2 rfl) ?_
  refine lv_if_eq (tgt := 35) hx hb dX19_run_21 (by decide) (fun c5 => ?_) (fun c5 => ?_)
  · have h := nd_pos h c5
    exact (db_X19_run_35 C K) (x1) (y1) s0 _ _ _ h hP hD hS (lv_sub hl [0, 1] rfl)
  · have h := nd_neg h c5
    refine lv_aload_n hx hb dX19_run_24 rfl (lv_at hl 0 rfl) ?_
    refine va_get (D := (dC, dI)) (ci := 20) (v := .int (sI s0.1 3)) (C := RX19) (T := TX19) (N := 36) hx hb hts hi_dm_X19_run_X19 hown hK hP 0 rfl rfl 17 (by decide) (hts (.fieldLink RX19 231 "TimeMachineModel" "booted" "Z") (List.mem_of_getElem? (i := 37) rfl)) (fun _ h9 => h9) rfl dX19_run_25 ?_
    refine lv_if_ne (tgt := 35) hx hb dX19_run_28 (by decide) (fun c51 => ?_) (fun c51 => ?_)
    · have h := nd_neg h c51
      exact (db_X19_run_35 C K) (x1) (y1) s0 _ _ _ h hP hD hS (lv_sub hl [0, 1] rfl)
    · have h := nd_pos h c51
      refine lv_iconst (v := 1) hx hb dX19_run_31 (by decide) ?_
      refine lv_goto (tgt := 36) hx hb dX19_run_32 (by decide) ?_
      exact (db_X19_run_36 C K) (x1) (y1) (1) s0 _ _ _ h hP hD hS (lv_sub hl [0, 1] rfl)
set_option maxHeartbeats 40000000 in
set_option maxRecDepth 100000 in
theorem db_X19_run_0 {p : Program} {l : Launch} {e : Env} {s : State} {m : MethodId} {args : Array Value} {below : List Frame} {meth : Method} {c : Code} {Q : State → Prop} {A : Nat → Prop} {dC : Nat → ClassId} {dI : Nat → Nat → Nat} {a : Nat → Nat} {ac : Nat → ClassId} {n : Nat} {r : Int32 × (St × (St) × (St × (St × (St))) × (St) × (St))} (C : nd_C p l s m args c A (dC, dI) cX19_run 6 RX19 ow_dm_X19_run (dk_X19 ac)) (K : nd_Ki p l e (headSpec ow_dm_X19_run ({ frames := 10, cells := 0, slots := 0, locals := 225 })).room s m args below meth c Q A (dC, dI) cX19_run .int (St × (St) × (St × (St × (St))) × (St) × (St)) (dw_X19 a ac) r) : dj_X19_run_0 p l e s m args below meth c Q A dC dI a ac (df_X19_run_0 n) r := by
  obtain ⟨hlt, hx, hb, hml, hown, hts, hN, hA, hK⟩ := id C
  intro v0 s0 H locs ls h hP hD hS hl
  unfold df_X19_run_0 at h
  refine lv_iload_n hx hb dX19_run_0 rfl (lv_at hl 1 rfl) ?_
  refine lv_i2l hx hb dX19_run_1 rfl ?_
  refine lv_lconst (v := 0) hx hb dX19_run_2 (by decide) ?_
  refine lv_ldc2 hx hb hown (hts (.constantLong RX19 283 (60000)) (List.mem_of_getElem? (i := 1) rfl)) dX19_run_3 ?_
  obtain ⟨q1, s2, hq, h⟩ := nd_b2_e h
  have hPc : va_P (dC, dI) vwCl (dw_P a ac ()) H := nd_p0
  have hDc : va_D A (dw_P a ac ()) := nd_d0
  have hKc : va_K (dC, dI) vwCl (dk_P ac) s := nd_y0 hK
  have hFc : ∀ q, va_A (dw_P a ac ()) H.size q → A q := nd_r0 hS hA
  refine nd_cSi (As := [.long (v0.toInt64), .long 0, .long 60000]) (rest := []) (q := q1) (w' := dw_P a ac s2) ⟨hx, hb, hml, hown, hts⟩ (fun sz => dm_X19_in l hlt dC dI a ac n ((v0.toInt64)) (0) (60000) () hq sz) (cwS 3 hts gi_dm_X19_run_0 rfl rfl rfl (by decide +kernel) ⟨Nat.le_of_ble_eq_true rfl, Nat.le_of_ble_eq_true rfl⟩) hPc hDc hKc hS hA hN rfl hl.1 rfl (Nat.le_of_ble_eq_true rfl) dX19_run_6 (fun H locs hP1 hD1 hk1 hS => ?_)
  have hP := nd_n0 hP hk1
  refine lv_istore_n (lv' := [(2, .int q1), (0, .ref (a 0)), (1, .int v0)]) hx hb dX19_run_9 rfl hl (by decide) rfl (fun ls hl => ?_)
  refine lv_aload_n hx hb dX19_run_10 rfl (lv_at hl 1 rfl) ?_
  refine lv_iload_n hx hb dX19_run_11 rfl (lv_at hl 0 rfl) ?_
  refine lv_if_ne (tgt := 19) hx hb dX19_run_12 (by decide) (fun c4 => ?_) (fun c4 => ?_)
  · have h := nd_neg h c4
    refine lv_iconst (v := 0) hx hb dX19_run_19 (by decide) ?_
    exact (db_X19_run_20 C K) (v0) (q1) (0) s0 _ _ _ h hP hD hS (lv_sub hl [1, 2, 0] rfl)
  · have h := nd_pos h c4
    refine lv_iconst (v := 1) hx hb dX19_run_15 (by decide) ?_
    refine lv_goto (tgt := 20) hx hb dX19_run_16 (by decide) ?_
    exact (db_X19_run_20 C K) (v0) (q1) (1) s0 _ _ _ h hP hD hS (lv_sub hl [1, 2, 0] rfl)
set_option maxHeartbeats 40000000 in
set_option maxRecDepth 100000 in
theorem dm_X19_run (l : Launch) (hlt : l.stackTraces = false) (dC : Nat → ClassId) (dI : Nat → Nat → Nat) (a : Nat → Nat) (ac : Nat → ClassId) (n : Nat) (v0 : Int32) (s0 : St × (St) × (St × (St × (St))) × (St) × (St)) {r : Int32 × (St × (St) × (St × (St × (St))) × (St) × (St))} (h : df_X19_run n v0 s0 = some r) (sz : Nat) : Met l yX19_run ow_dm_X19_run ({ frames := 10, cells := 0, slots := 0, locals := 225 }) (va_Pc [.ref (a 0), .int v0] (fun U => U.heap.size = sz ∧ va_P (dC, dI) vwCl (dw_X19 a ac s0) U.heap ∧ va_K (dC, dI) vwCl (dk_X19 ac) U ∧ va_D (fun _ => True) (dw_X19 a ac s0) ∧ nv_E (va_A (dw_X19 a ac s0) sz) U)) (va_Qi (fun x _ => x = r.1) (fun (_ : Unit) t => va_P (dC, dI) vwCl (dw_X19 a ac r.2) t.heap ∧ va_K (dC, dI) vwCl (dk_X19 ac) t ∧ va_D (va_A (dw_X19 a ac s0) sz) (dw_X19 a ac r.2)) (va_A (dw_X19 a ac s0) sz)) 0 0 (va_A (dw_X19 a ac s0) sz) := by
  refine Met.ofW (cc := cX19_run) (maxL := 6) (ret := (some .int)) (by decide) rfl ?_
  intro p e s m args below meth c s₁ B hml hv
  obtain ⟨rfl, hsz, hP, hK, hD0, hN⟩ := hv
  have hx := B.exec
  have hb := B.bytes
  have hr := B.returns
  have hts := atoms_spec (ws := ow_dm_X19_run) B.pre
  have hown : s.vm.findClass RX19 = some m.cls := findClass_of_methodNamed B.named
  have hlocks := B.notSynchronized
  subst hsz
  have hD := hD0.self (sz := s.heap.size)
  generalize hAe : va_A (dw_X19 a ac s0) s.heap.size = A at hD hN ⊢
  have hA : ∀ q : Nat, s.heap.size ≤ q → A q := fun q h => by rw [← hAe]; exact Or.inr h
  have hl := lv_entry ([.ref (a 0), .int v0]) (n := 6) (Nat.le_of_ble_eq_true rfl)
  rw [lg_entry_eq]
  generalize (lg_sl ([.ref (a 0), .int v0]) ++ List.replicate (6 - (lg_sl ([.ref (a 0), .int v0])).length) Slot.unset).toArray = ls at hl ⊢
  have hl : lv_has ls 6 [(0, .ref (a 0)), (1, .int v0)] := hl
  exact db_X19_run_0 (dC := dC) (dI := dI) (a := a) (ac := ac) (n := n) (r := r) ⟨hlt, hx, hb, hml, hown, hts, hN, hA, hK⟩ (fun pc v τ H locs ls d z er hP hD hS => by subst er; exact W.zret (v := v) hx hb hr z (fun t ht hW => ⟨⟨v, (), rfl, rfl, by rw [ht]; exact hP, va_K.moved hW.alike hK, hD⟩, hS.F ht⟩) hS.2.2 d) v0 s0 _ _ _ h hP hD va_S.rf (lv_sub hl [0, 1] rfl)
def ow_dm_X19_reason : List Cond := .code yX19_reason cX19_reason 1 (some .int) :: ([.fieldLink RX19 113 "TimeMachineModel" "code" "I", .fieldLink RX19 285 "TimeMachineModel" "why" "I"] ++ (u_ws RX19 TX19 36 ++ []))
theorem gd_dm_X19_reason : ∀ w ∈ ow_dm_X19_reason, (w.onTables && w.keeps) = true ∨ ∃ ty, w = Cond.arrayClass ty := List.forall_mem_cons.mpr ⟨good_of_word rfl, List.forall_mem_append.mpr ⟨fun w h => good_of_word (List.all_eq_true.mp (by decide +kernel) w h), List.forall_mem_append.mpr ⟨gu_X19, fun _ h => nomatch h⟩⟩⟩
theorem hi_dm_X19_reason_X19 : ∀ w ∈ u_ws RX19 TX19 36, w ∈ ow_dm_X19_reason := fun w h => List.mem_cons_of_mem _ (List.mem_append_right _ (List.mem_append_left _ h))
def dj_X19_reason_0 (p : Program) (l : Launch) (e : Env) (s : State) (m : MethodId) (args : Array Value) (below : List Frame) (meth : Method) (c : Code) (Q : State → Prop) (A : Nat → Prop) (dC : Nat → ClassId) (dI : Nat → Nat → Nat) (a : Nat → Nat) (ac : Nat → ClassId) (g : (St × (St) × (St × (St × (St))) × (St) × (St)) → Option (Int32 × (St × (St) × (St × (St × (St))) × (St) × (St)))) (r : Int32 × (St × (St) × (St × (St × (St))) × (St) × (St))) : Prop := ∀ (s0 : St × (St) × (St × (St × (St))) × (St) × (St)) (H : Heap) (locs : List Loc) (ls : Array Slot), g s0 = some r → va_P (dC, dI) vwCl (dw_X19 a ac s0) H → va_D A (dw_X19 a ac s0) → va_S A s.heap H locs → lv_has ls 1 [(0, .ref (a 0))] → W p l e (headSpec ow_dm_X19_reason ({ frames := 0, cells := 0, slots := 0, locals := 0 })).room s m args below meth c H locs 0 0 Q (F0 m 0 ls [])
set_option maxHeartbeats 40000000 in
set_option maxRecDepth 100000 in
theorem db_X19_reason_0 {p : Program} {l : Launch} {e : Env} {s : State} {m : MethodId} {args : Array Value} {below : List Frame} {meth : Method} {c : Code} {Q : State → Prop} {A : Nat → Prop} {dC : Nat → ClassId} {dI : Nat → Nat → Nat} {a : Nat → Nat} {ac : Nat → ClassId} {n : Nat} {r : Int32 × (St × (St) × (St × (St × (St))) × (St) × (St))} (C : nd_C p l s m args c A (dC, dI) cX19_reason 1 RX19 ow_dm_X19_reason (dk_X19 ac)) (K : nd_Ki p l e (headSpec ow_dm_X19_reason ({ frames := 0, cells := 0, slots := 0, locals := 0 })).room s m args below meth c Q A (dC, dI) cX19_reason .int (St × (St) × (St × (St × (St))) × (St) × (St)) (dw_X19 a ac) r) : dj_X19_reason_0 p l e s m args below meth c Q A dC dI a ac (df_X19_reason_0 n) r := by
  obtain ⟨hlt, hx, hb, hml, hown, hts, hN, hA, hK⟩ := id C
  intro s0 H locs ls h hP hD hS hl
  unfold df_X19_reason_0 at h
  refine lv_aload_n hx hb dX19_reason_0 rfl (lv_at hl 0 rfl) ?_
  refine lv_iconst (v := 0) hx hb dX19_reason_1 (by decide) ?_
  refine va_put (D := (dC, dI)) (ci := 20) (v := .int 0) (ty := .int) (C := RX19) (T := TX19) (N := 36) hx hb hts hi_dm_X19_reason_X19 tyX19 tyX19_ok nmX19 hown hK hP hD hS 0 rfl rfl 0 (by decide) (hts (.fieldLink RX19 113 "TimeMachineModel" "code" "I") (List.mem_of_getElem? (i := 1) rfl)) (fun _ h9 => h9) rfl (by decide +kernel) rfl rfl (Nat.le_of_ble_eq_true rfl) dX19_reason_2 (fun H locs hP hD hS => ?_)
  obtain ⟨s1, es1, h⟩ := nd_let_e h
  have hP : va_P (dC, dI) vwCl (dw_X19 a ac s1) H := by rw [es1]; exact hP
  have hD : va_D A (dw_X19 a ac s1) := by rw [es1]; exact hD
  refine lv_aload_n hx hb dX19_reason_5 rfl (lv_at hl 0 rfl) ?_
  refine va_get (D := (dC, dI)) (ci := 20) (v := .int (sI s1.1 7)) (C := RX19) (T := TX19) (N := 36) hx hb hts hi_dm_X19_reason_X19 hown hK hP 0 rfl rfl 21 (by decide) (hts (.fieldLink RX19 285 "TimeMachineModel" "why" "I") (List.mem_of_getElem? (i := 2) rfl)) (fun _ h9 => h9) rfl dX19_reason_6 ?_
  exact K _ _ _ _ _ _ dX19_reason_9 rfl (Option.some.inj h).symm hP hD hS
set_option maxHeartbeats 40000000 in
set_option maxRecDepth 100000 in
theorem dm_X19_reason (l : Launch) (hlt : l.stackTraces = false) (dC : Nat → ClassId) (dI : Nat → Nat → Nat) (a : Nat → Nat) (ac : Nat → ClassId) (n : Nat) (s0 : St × (St) × (St × (St × (St))) × (St) × (St)) {r : Int32 × (St × (St) × (St × (St × (St))) × (St) × (St))} (h : df_X19_reason n s0 = some r) (sz : Nat) : Met l yX19_reason ow_dm_X19_reason ({ frames := 0, cells := 0, slots := 0, locals := 0 }) (va_Pc [.ref (a 0)] (fun U => U.heap.size = sz ∧ va_P (dC, dI) vwCl (dw_X19 a ac s0) U.heap ∧ va_K (dC, dI) vwCl (dk_X19 ac) U ∧ va_D (fun _ => True) (dw_X19 a ac s0) ∧ nv_E (va_A (dw_X19 a ac s0) sz) U)) (va_Qi (fun x _ => x = r.1) (fun (_ : Unit) t => va_P (dC, dI) vwCl (dw_X19 a ac r.2) t.heap ∧ va_K (dC, dI) vwCl (dk_X19 ac) t ∧ va_D (va_A (dw_X19 a ac s0) sz) (dw_X19 a ac r.2)) (va_A (dw_X19 a ac s0) sz)) 0 0 (va_A (dw_X19 a ac s0) sz) := by
  refine Met.ofW (cc := cX19_reason) (maxL := 1) (ret := (some .int)) (by decide) rfl ?_
  intro p e s m args below meth c s₁ B hml hv
  obtain ⟨rfl, hsz, hP, hK, hD0, hN⟩ := hv
  have hx := B.exec
  have hb := B.bytes
  have hr := B.returns
  have hts := atoms_spec (ws := ow_dm_X19_reason) B.pre
  have hown : s.vm.findClass RX19 = some m.cls := findClass_of_methodNamed B.named
  have hlocks := B.notSynchronized
  subst hsz
  have hD := hD0.self (sz := s.heap.size)
  generalize hAe : va_A (dw_X19 a ac s0) s.heap.size = A at hD hN ⊢
  have hA : ∀ q : Nat, s.heap.size ≤ q → A q := fun q h => by rw [← hAe]; exact Or.inr h
  have hl := lv_entry ([.ref (a 0)]) (n := 1) (Nat.le_of_ble_eq_true rfl)
  rw [lg_entry_eq]
  generalize (lg_sl ([.ref (a 0)]) ++ List.replicate (1 - (lg_sl ([.ref (a 0)])).length) Slot.unset).toArray = ls at hl ⊢
  have hl : lv_has ls 1 [(0, .ref (a 0))] := hl
  exact db_X19_reason_0 (dC := dC) (dI := dI) (a := a) (ac := ac) (n := n) (r := r) ⟨hlt, hx, hb, hml, hown, hts, hN, hA, hK⟩ (fun pc v τ H locs ls d z er hP hD hS => by subst er; exact W.zret (v := v) hx hb hr z (fun t ht hW => ⟨⟨v, (), rfl, rfl, by rw [ht]; exact hP, va_K.moved hW.alike hK, hD⟩, hS.F ht⟩) hS.2.2 d) s0 _ _ _ h hP hD va_S.rf (lv_sub hl [0] rfl)
def ow_dm_X19_go : List Cond := .code yX19_go cX19_go 2 none :: ([.fieldLink RX19 231 "TimeMachineModel" "booted" "Z", .methodLink RX19 136 yX19_fails, .instanceMethod yX19_fails, .selects RX19 yX19_fails yX19_fails, .initialized RX19, .fieldLink RX19 234 "TimeMachineModel" "now" "I", .fieldLink RX19 210 "TimeMachineModel" "end" "I", .methodLink RX19 126 yX19_in, .static yX19_in] ++ (u_ws RX19 TX19 36 ++ (ow_dm_X19_fails ++ (ow_dm_X19_in ++ []))))
theorem gd_dm_X19_go : ∀ w ∈ ow_dm_X19_go, (w.onTables && w.keeps) = true ∨ ∃ ty, w = Cond.arrayClass ty := List.forall_mem_cons.mpr ⟨good_of_word rfl, List.forall_mem_append.mpr ⟨fun w h => good_of_word (List.all_eq_true.mp (by decide +kernel) w h), List.forall_mem_append.mpr ⟨gu_X19, List.forall_mem_append.mpr ⟨gd_dm_X19_fails, List.forall_mem_append.mpr ⟨gd_dm_X19_in, fun _ h => nomatch h⟩⟩⟩⟩⟩
theorem hi_dm_X19_go_X19 : ∀ w ∈ u_ws RX19 TX19 36, w ∈ ow_dm_X19_go := fun w h => List.mem_cons_of_mem _ (List.mem_append_right _ (List.mem_append_left _ h))
theorem gi_dm_X19_go_0 : GoodIn ow_dm_X19_go (wsV RX19 136 RX19 yX19_fails ow_dm_X19_fails) := goodIn_app (goodIn_of _ (by decide +kernel)) (fun w h => ⟨List.mem_cons_of_mem _ (List.mem_append_right _ (List.mem_append_right _ (List.mem_append_left _ h))), gd_dm_X19_fails w h⟩)
theorem gi_dm_X19_go_1 : GoodIn ow_dm_X19_go (wsS RX19 126 yX19_in ow_dm_X19_in) := goodIn_app (goodIn_of _ (by decide +kernel)) (fun w h => ⟨List.mem_cons_of_mem _ (List.mem_append_right _ (List.mem_append_right _ (List.mem_append_right _ (List.mem_append_left _ h)))), gd_dm_X19_in w h⟩)
def dj_X19_go_39 (p : Program) (l : Launch) (e : Env) (s : State) (m : MethodId) (args : Array Value) (below : List Frame) (meth : Method) (c : Code) (Q : State → Prop) (A : Nat → Prop) (dC : Nat → ClassId) (dI : Nat → Nat → Nat) (a : Nat → Nat) (ac : Nat → ClassId) (g : (St × (St) × (St × (St × (St))) × (St) × (St)) → Option (St × (St) × (St × (St × (St))) × (St) × (St))) (r : St × (St) × (St × (St × (St))) × (St) × (St)) : Prop := ∀ (s0 : St × (St) × (St × (St × (St))) × (St) × (St)) (H : Heap) (locs : List Loc) (ls : Array Slot), g s0 = some r → va_P (dC, dI) vwCl (dw_X19 a ac s0) H → va_D A (dw_X19 a ac s0) → va_S A s.heap H locs → lv_has ls 2 [] → W p l e (headSpec ow_dm_X19_go ({ frames := 1, cells := 0, slots := 0, locals := 25 })).room s m args below meth c H locs 0 0 Q (F0 m 39 ls [])
def dj_X19_go_27 (p : Program) (l : Launch) (e : Env) (s : State) (m : MethodId) (args : Array Value) (below : List Frame) (meth : Method) (c : Code) (Q : State → Prop) (A : Nat → Prop) (dC : Nat → ClassId) (dI : Nat → Nat → Nat) (a : Nat → Nat) (ac : Nat → ClassId) (g : Int32 → Int32 → (St × (St) × (St × (St × (St))) × (St) × (St)) → Option (St × (St) × (St × (St × (St))) × (St) × (St))) (r : St × (St) × (St × (St × (St))) × (St) × (St)) : Prop := ∀ (x1 : Int32) (y1 : Int32) (s0 : St × (St) × (St × (St × (St))) × (St) × (St)) (H : Heap) (locs : List Loc) (ls : Array Slot), g x1 y1 s0 = some r → va_P (dC, dI) vwCl (dw_X19 a ac s0) H → va_D A (dw_X19 a ac s0) → va_S A s.heap H locs → lv_has ls 2 [(0, .ref (a 0)), (1, .int x1)] → W p l e (headSpec ow_dm_X19_go ({ frames := 1, cells := 0, slots := 0, locals := 25 })).room s m args below meth c H locs 0 0 Q (F0 m 27 ls [.int y1, .ref (a 0)])
def dj_X19_go_22 (p : Program) (l : Launch) (e : Env) (s : State) (m : MethodId) (args : Array Value) (below : List Frame) (meth : Method) (c : Code) (Q : State → Prop) (A : Nat → Prop) (dC : Nat → ClassId) (dI : Nat → Nat → Nat) (a : Nat → Nat) (ac : Nat → ClassId) (g : Int32 → (St × (St) × (St × (St × (St))) × (St) × (St)) → Option (St × (St) × (St × (St × (St))) × (St) × (St))) (r : St × (St) × (St × (St × (St))) × (St) × (St)) : Prop := ∀ (x1 : Int32) (s0 : St × (St) × (St × (St × (St))) × (St) × (St)) (H : Heap) (locs : List Loc) (ls : Array Slot), g x1 s0 = some r → va_P (dC, dI) vwCl (dw_X19 a ac s0) H → va_D A (dw_X19 a ac s0) → va_S A s.heap H locs → lv_has ls 2 [(0, .ref (a 0)), (1, .int x1)] → W p l e (headSpec ow_dm_X19_go ({ frames := 1, cells := 0, slots := 0, locals := 25 })).room s m args below meth c H locs 0 0 Q (F0 m 22 ls [.ref (a 0)])
def dj_X19_go_0 (p : Program) (l : Launch) (e : Env) (s : State) (m : MethodId) (args : Array Value) (below : List Frame) (meth : Method) (c : Code) (Q : State → Prop) (A : Nat → Prop) (dC : Nat → ClassId) (dI : Nat → Nat → Nat) (a : Nat → Nat) (ac : Nat → ClassId) (g : Int32 → (St × (St) × (St × (St × (St))) × (St) × (St)) → Option (St × (St) × (St × (St × (St))) × (St) × (St))) (r : St × (St) × (St × (St × (St))) × (St) × (St)) : Prop := ∀ (v0 : Int32) (s0 : St × (St) × (St × (St × (St))) × (St) × (St)) (H : Heap) (locs : List Loc) (ls : Array Slot), g v0 s0 = some r → va_P (dC, dI) vwCl (dw_X19 a ac s0) H → va_D A (dw_X19 a ac s0) → va_S A s.heap H locs → lv_has ls 2 [(0, .ref (a 0)), (1, .int v0)] → W p l e (headSpec ow_dm_X19_go ({ frames := 1, cells := 0, slots := 0, locals := 25 })).room s m args below meth c H locs 0 0 Q (F0 m 0 ls [])
set_option maxHeartbeats 40000000 in
set_option maxRecDepth 100000 in
theorem db_X19_go_39 {p : Program} {l : Launch} {e : Env} {s : State} {m : MethodId} {args : Array Value} {below : List Frame} {meth : Method} {c : Code} {Q : State → Prop} {A : Nat → Prop} {dC : Nat → ClassId} {dI : Nat → Nat → Nat} {a : Nat → Nat} {ac : Nat → ClassId} {n : Nat} {r : St × (St) × (St × (St × (St))) × (St) × (St)} (C : nd_C p l s m args c A (dC, dI) cX19_go 2 RX19 ow_dm_X19_go (dk_X19 ac)) (K : nd_Kv p l e (headSpec ow_dm_X19_go ({ frames := 1, cells := 0, slots := 0, locals := 25 })).room s m args below meth c Q A (dC, dI) cX19_go (St × (St) × (St × (St × (St))) × (St) × (St)) (dw_X19 a ac) r) : dj_X19_go_39 p l e s m args below meth c Q A dC dI a ac (df_X19_go_39 n) r := by
  obtain ⟨hlt, hx, hb, hml, hown, hts, hN, hA, hK⟩ := id C
  intro s0 H locs ls h hP hD hS hl
  unfold df_X19_go_39 at h
  exact K _ _ _ _ _ dX19_go_39 (Option.some.inj h).symm hP hD hS
set_option maxHeartbeats 40000000 in
set_option maxRecDepth 100000 in
theorem db_X19_go_27 {p : Program} {l : Launch} {e : Env} {s : State} {m : MethodId} {args : Array Value} {below : List Frame} {meth : Method} {c : Code} {Q : State → Prop} {A : Nat → Prop} {dC : Nat → ClassId} {dI : Nat → Nat → Nat} {a : Nat → Nat} {ac : Nat → ClassId} {n : Nat} {r : St × (St) × (St × (St × (St))) × (St) × (St)} (C : nd_C p l s m args c A (dC, dI) cX19_go 2 RX19 ow_dm_X19_go (dk_X19 ac)) (K : nd_Kv p l e (headSpec ow_dm_X19_go ({ frames := 1, cells := 0, slots := 0, locals := 25 })).room s m args below meth c Q A (dC, dI) cX19_go (St × (St) × (St × (St × (St))) × (St) × (St)) (dw_X19 a ac) r) : dj_X19_go_27 p l e s m args below meth c Q A dC dI a ac (df_X19_go_27 n) r := by
  obtain ⟨hlt, hx, hb, hml, hown, hts, hN, hA, hK⟩ := id C
  intro x1 y1 s0 H locs ls h hP hD hS hl
  unfold df_X19_go_27 at h
  refine lv_iconst (v := 0) hx hb dX19_go_27 (by decide) ?_
  obtain ⟨q2, s3, hq, h⟩ := nd_b2_e h
  have hPc := hP
  have hDc := hD
  have hKc := hK
  have hFc := nd_rs hD hS hA
  refine nd_cVi (As := [.int y1, .int 0]) (rest := []) (q := q2) (w' := dw_X19 a ac s3) ⟨hx, hb, hml, hown, hts⟩ (fun sz => dm_X19_fails l hlt dC dI a ac n (y1) (0) s0 hq sz) (cwV 2 hts gi_dm_X19_go_0 rfl rfl rfl (by decide +kernel) ⟨Nat.le_of_ble_eq_true rfl, Nat.le_of_ble_eq_true rfl⟩) hPc hDc hKc hS hA hN (va_recv hKc hPc (ci := 20) (q0 := 0) rfl rfl) rfl hl.1 rfl (Nat.le_of_ble_eq_true rfl) dX19_go_28 (fun H locs hP1 hD1 hk1 hS => ?_)
  have hP := hP1
  have hD := hD1.weaken (fun k q _ h => hFc q.1 h)
  refine lv_if_ne (tgt := 39) hx hb dX19_go_31 (by decide) (fun c5 => ?_) (fun c5 => ?_)
  · have h := nd_neg h c5
    exact (db_X19_go_39 C K)  s3 _ _ _ h hP hD hS (lv_sub hl [] rfl)
  · have h := nd_pos h c5
    refine lv_aload_n hx hb dX19_go_34 rfl (lv_at hl 0 rfl) ?_
    refine lv_iload_n hx hb dX19_go_35 rfl (lv_at hl 1 rfl) ?_
    refine va_put (D := (dC, dI)) (ci := 20) (v := .int x1) (ty := .int) (C := RX19) (T := TX19) (N := 36) hx hb hts hi_dm_X19_go_X19 tyX19 tyX19_ok nmX19 hown hK hP hD hS 0 rfl rfl 19 (by decide) (hts (.fieldLink RX19 234 "TimeMachineModel" "now" "I") (List.mem_of_getElem? (i := 6) rfl)) (fun _ h9 => h9) rfl (by decide +kernel) rfl rfl (Nat.le_of_ble_eq_true rfl) dX19_go_36 (fun H locs hP hD hS => ?_)
    obtain ⟨s6, es6, h⟩ := nd_let_e h
    have hP : va_P (dC, dI) vwCl (dw_X19 a ac s6) H := by rw [es6]; exact hP
    have hD : va_D A (dw_X19 a ac s6) := by rw [es6]; exact hD
    exact (db_X19_go_39 C K)  s6 _ _ _ h hP hD hS (lv_sub hl [] rfl)
set_option maxHeartbeats 40000000 in
set_option maxRecDepth 100000 in
theorem db_X19_go_22 {p : Program} {l : Launch} {e : Env} {s : State} {m : MethodId} {args : Array Value} {below : List Frame} {meth : Method} {c : Code} {Q : State → Prop} {A : Nat → Prop} {dC : Nat → ClassId} {dI : Nat → Nat → Nat} {a : Nat → Nat} {ac : Nat → ClassId} {n : Nat} {r : St × (St) × (St × (St × (St))) × (St) × (St)} (C : nd_C p l s m args c A (dC, dI) cX19_go 2 RX19 ow_dm_X19_go (dk_X19 ac)) (K : nd_Kv p l e (headSpec ow_dm_X19_go ({ frames := 1, cells := 0, slots := 0, locals := 25 })).room s m args below meth c Q A (dC, dI) cX19_go (St × (St) × (St × (St × (St))) × (St) × (St)) (dw_X19 a ac) r) : dj_X19_go_22 p l e s m args below meth c Q A dC dI a ac (df_X19_go_22 n) r := by
  obtain ⟨hlt, hx, hb, hml, hown, hts, hN, hA, hK⟩ := id C
  intro x1 s0 H locs ls h hP hD hS hl
  unfold df_X19_go_22 at h
  refine lv_iconst (v := 1) hx hb dX19_go_22 (by decide) ?_
  refine lv_goto (tgt := 27) hx hb dX19_go_23 (by decide) ?_
  exact (db_X19_go_27 C K) (x1) (1) s0 _ _ _ h hP hD hS (lv_sub hl [0, 1] rfl)
set_option maxHeartbeats 40000000 in
set_option maxRecDepth 100000 in
theorem db_X19_go_0 {p : Program} {l : Launch} {e : Env} {s : State} {m : MethodId} {args : Array Value} {below : List Frame} {meth : Method} {c : Code} {Q : State → Prop} {A : Nat → Prop} {dC : Nat → ClassId} {dI : Nat → Nat → Nat} {a : Nat → Nat} {ac : Nat → ClassId} {n : Nat} {r : St × (St) × (St × (St × (St))) × (St) × (St)} (C : nd_C p l s m args c A (dC, dI) cX19_go 2 RX19 ow_dm_X19_go (dk_X19 ac)) (K : nd_Kv p l e (headSpec ow_dm_X19_go ({ frames := 1, cells := 0, slots := 0, locals := 25 })).room s m args below meth c Q A (dC, dI) cX19_go (St × (St) × (St × (St × (St))) × (St) × (St)) (dw_X19 a ac) r) : dj_X19_go_0 p l e s m args below meth c Q A dC dI a ac (df_X19_go_0 n) r := by
  obtain ⟨hlt, hx, hb, hml, hown, hts, hN, hA, hK⟩ := id C
  intro v0 s0 H locs ls h hP hD hS hl
  unfold df_X19_go_0 at h
  refine lv_aload_n hx hb dX19_go_0 rfl (lv_at hl 0 rfl) ?_
  refine lv_aload_n hx hb dX19_go_1 rfl (lv_at hl 0 rfl) ?_
  refine va_get (D := (dC, dI)) (ci := 20) (v := .int (sI s0.1 3)) (C := RX19) (T := TX19) (N := 36) hx hb hts hi_dm_X19_go_X19 hown hK hP 0 rfl rfl 17 (by decide) (hts (.fieldLink RX19 231 "TimeMachineModel" "booted" "Z") (List.mem_of_getElem? (i := 1) rfl)) (fun _ h9 => h9) rfl dX19_go_2 ?_
  refine lv_if_eq (tgt := 22) hx hb dX19_go_5 (by decide) (fun c1 => ?_) (fun c1 => ?_)
  · have h := nd_pos h c1
    exact (db_X19_go_22 C K) (v0) s0 _ _ _ h hP hD hS (lv_sub hl [0, 1] rfl)
  · have h := nd_neg h c1
    refine lv_iload_n hx hb dX19_go_8 rfl (lv_at hl 1 rfl) ?_
    refine lv_i2l hx hb dX19_go_9 rfl ?_
    refine lv_lconst (v := 0) hx hb dX19_go_10 (by decide) ?_
    refine lv_aload_n hx hb dX19_go_11 rfl (lv_at hl 0 rfl) ?_
    refine va_get (D := (dC, dI)) (ci := 20) (v := .int (sI s0.1 6)) (C := RX19) (T := TX19) (N := 36) hx hb hts hi_dm_X19_go_X19 hown hK hP 0 rfl rfl 20 (by decide) (hts (.fieldLink RX19 210 "TimeMachineModel" "end" "I") (List.mem_of_getElem? (i := 7) rfl)) (fun _ h9 => h9) rfl dX19_go_12 ?_
    refine lv_i2l hx hb dX19_go_15 rfl ?_
    obtain ⟨q7, s8, hq, h⟩ := nd_b2_e h
    have hPc : va_P (dC, dI) vwCl (dw_P a ac ()) H := nd_p0
    have hDc : va_D A (dw_P a ac ()) := nd_d0
    have hKc : va_K (dC, dI) vwCl (dk_P ac) s := nd_y0 hK
    have hFc : ∀ q, va_A (dw_P a ac ()) H.size q → A q := nd_r0 hS hA
    refine nd_cSi (As := [.long (v0.toInt64), .long 0, .long (((sI s0.1 6) : Int32).toInt64)]) (rest := [.ref (a 0)]) (q := q7) (w' := dw_P a ac s8) ⟨hx, hb, hml, hown, hts⟩ (fun sz => dm_X19_in l hlt dC dI a ac n ((v0.toInt64)) (0) ((((sI s0.1 6) : Int32).toInt64)) () hq sz) (cwS 3 hts gi_dm_X19_go_1 rfl rfl rfl (by decide +kernel) ⟨Nat.le_of_ble_eq_true rfl, Nat.le_of_ble_eq_true rfl⟩) hPc hDc hKc hS hA hN rfl hl.1 rfl (Nat.le_of_ble_eq_true rfl) dX19_go_16 (fun H locs hP1 hD1 hk1 hS => ?_)
    have hP := nd_n0 hP hk1
    refine lv_if_ne (tgt := 26) hx hb dX19_go_19 (by decide) (fun c10 => ?_) (fun c10 => ?_)
    · have h := nd_neg h c10
      refine lv_iconst (v := 0) hx hb dX19_go_26 (by decide) ?_
      exact (db_X19_go_27 C K) (v0) (0) s0 _ _ _ h hP hD hS (lv_sub hl [0, 1] rfl)
    · have h := nd_pos h c10
      exact (db_X19_go_22 C K) (v0) s0 _ _ _ h hP hD hS (lv_sub hl [0, 1] rfl)
set_option maxHeartbeats 40000000 in
set_option maxRecDepth 100000 in
theorem dm_X19_go (l : Launch) (hlt : l.stackTraces = false) (dC : Nat → ClassId) (dI : Nat → Nat → Nat) (a : Nat → Nat) (ac : Nat → ClassId) (n : Nat) (v0 : Int32) (s0 : St × (St) × (St × (St × (St))) × (St) × (St)) {r : St × (St) × (St × (St × (St))) × (St) × (St)} (h : df_X19_go n v0 s0 = some r) (sz : Nat) : Met l yX19_go ow_dm_X19_go ({ frames := 1, cells := 0, slots := 0, locals := 25 }) (va_Pc [.ref (a 0), .int v0] (fun U => U.heap.size = sz ∧ va_P (dC, dI) vwCl (dw_X19 a ac s0) U.heap ∧ va_K (dC, dI) vwCl (dk_X19 ac) U ∧ va_D (fun _ => True) (dw_X19 a ac s0) ∧ nv_E (va_A (dw_X19 a ac s0) sz) U)) (va_Qv (fun _ => True) (fun (_ : Unit) t => va_P (dC, dI) vwCl (dw_X19 a ac r) t.heap ∧ va_K (dC, dI) vwCl (dk_X19 ac) t ∧ va_D (va_A (dw_X19 a ac s0) sz) (dw_X19 a ac r)) (va_A (dw_X19 a ac s0) sz)) 0 0 (va_A (dw_X19 a ac s0) sz) := by
  refine Met.ofW (cc := cX19_go) (maxL := 2) (ret := none) (by decide) rfl ?_
  intro p e s m args below meth c s₁ B hml hv
  obtain ⟨rfl, hsz, hP, hK, hD0, hN⟩ := hv
  have hx := B.exec
  have hb := B.bytes
  have hr := B.returns
  have hts := atoms_spec (ws := ow_dm_X19_go) B.pre
  have hown : s.vm.findClass RX19 = some m.cls := findClass_of_methodNamed B.named
  have hlocks := B.notSynchronized
  subst hsz
  have hD := hD0.self (sz := s.heap.size)
  generalize hAe : va_A (dw_X19 a ac s0) s.heap.size = A at hD hN ⊢
  have hA : ∀ q : Nat, s.heap.size ≤ q → A q := fun q h => by rw [← hAe]; exact Or.inr h
  have hl := lv_entry ([.ref (a 0), .int v0]) (n := 2) (Nat.le_of_ble_eq_true rfl)
  rw [lg_entry_eq]
  generalize (lg_sl ([.ref (a 0), .int v0]) ++ List.replicate (2 - (lg_sl ([.ref (a 0), .int v0])).length) Slot.unset).toArray = ls at hl ⊢
  have hl : lv_has ls 2 [(0, .ref (a 0)), (1, .int v0)] := hl
  exact db_X19_go_0 (dC := dC) (dI := dI) (a := a) (ac := ac) (n := n) (r := r) ⟨hlt, hx, hb, hml, hown, hts, hN, hA, hK⟩ (fun pc τ H locs ls d er hP hD hS => by subst er; exact W.vret hx hb hr (fun t ht hW => ⟨⟨(), rfl, trivial, by rw [ht]; exact hP, va_K.moved hW.alike hK, hD⟩, hS.F ht⟩) hS.2.2 d) v0 s0 _ _ _ h hP hD va_S.rf (lv_sub hl [0, 1] rfl)
def ow_dm_X19_cut : List Cond := .code yX19_cut cX19_cut 2 (some .int) :: ([.fieldLink RX19 113 "TimeMachineModel" "code" "I", .fieldLink RX19 231 "TimeMachineModel" "booted" "Z", .fieldLink RX19 210 "TimeMachineModel" "end" "I", .fieldLink RX19 234 "TimeMachineModel" "now" "I", .methodLink RX19 266 yX19_come, .instanceMethod yX19_come, .selects RX19 yX19_come yX19_come, .initialized RX19, .fieldLink RX19 192 "TimeMachineModel" "events" "I", .fieldLink RX19 186 "TimeMachineModel" "taken" "I", .fieldLink RX19 212 "TimeMachineModel" "scheduled" "I", .fieldLink RX19 236 "TimeMachineModel" "refused" "Z", .fieldLink RX19 91 "TimeMachineModel" "when" "[I"] ++ (u_ws RX19 TX19 36 ++ (ow_dm_X19_come ++ [])))
theorem gd_dm_X19_cut : ∀ w ∈ ow_dm_X19_cut, (w.onTables && w.keeps) = true ∨ ∃ ty, w = Cond.arrayClass ty := List.forall_mem_cons.mpr ⟨good_of_word rfl, List.forall_mem_append.mpr ⟨fun w h => good_of_word (List.all_eq_true.mp (by decide +kernel) w h), List.forall_mem_append.mpr ⟨gu_X19, List.forall_mem_append.mpr ⟨gd_dm_X19_come, fun _ h => nomatch h⟩⟩⟩⟩
theorem hi_dm_X19_cut_X19 : ∀ w ∈ u_ws RX19 TX19 36, w ∈ ow_dm_X19_cut := fun w h => List.mem_cons_of_mem _ (List.mem_append_right _ (List.mem_append_left _ h))
theorem gi_dm_X19_cut_0 : GoodIn ow_dm_X19_cut (wsV RX19 266 RX19 yX19_come ow_dm_X19_come) := goodIn_app (goodIn_of _ (by decide +kernel)) (fun w h => ⟨List.mem_cons_of_mem _ (List.mem_append_right _ (List.mem_append_right _ (List.mem_append_left _ h))), gd_dm_X19_come w h⟩)
def dj_X19_cut_78 (p : Program) (l : Launch) (e : Env) (s : State) (m : MethodId) (args : Array Value) (below : List Frame) (meth : Method) (c : Code) (Q : State → Prop) (A : Nat → Prop) (dC : Nat → ClassId) (dI : Nat → Nat → Nat) (a : Nat → Nat) (ac : Nat → ClassId) (g : Int32 → (St × (St) × (St × (St × (St))) × (St) × (St)) → Option (Int32 × (St × (St) × (St × (St × (St))) × (St) × (St)))) (r : Int32 × (St × (St) × (St × (St × (St))) × (St) × (St))) : Prop := ∀ (x1 : Int32) (s0 : St × (St) × (St × (St × (St))) × (St) × (St)) (H : Heap) (locs : List Loc) (ls : Array Slot), g x1 s0 = some r → va_P (dC, dI) vwCl (dw_X19 a ac s0) H → va_D A (dw_X19 a ac s0) → va_S A s.heap H locs → lv_has ls 2 [(0, .ref (a 0)), (1, .int x1)] → W p l e (headSpec ow_dm_X19_cut ({ frames := 10, cells := 0, slots := 0, locals := 225 })).room s m args below meth c H locs 0 0 Q (F0 m 78 ls [])
def dj_X19_cut_40 (p : Program) (l : Launch) (e : Env) (s : State) (m : MethodId) (args : Array Value) (below : List Frame) (meth : Method) (c : Code) (Q : State → Prop) (A : Nat → Prop) (dC : Nat → ClassId) (dI : Nat → Nat → Nat) (a : Nat → Nat) (ac : Nat → ClassId) (g : Int32 → (St × (St) × (St × (St × (St))) × (St) × (St)) → Option (Int32 × (St × (St) × (St × (St × (St))) × (St) × (St)))) (r : Int32 × (St × (St) × (St × (St × (St))) × (St) × (St))) : Prop := ∀ (x1 : Int32) (s0 : St × (St) × (St × (St × (St))) × (St) × (St)) (H : Heap) (locs : List Loc) (ls : Array Slot), g x1 s0 = some r → va_P (dC, dI) vwCl (dw_X19 a ac s0) H → va_D A (dw_X19 a ac s0) → va_S A s.heap H locs → lv_has ls 2 [(0, .ref (a 0)), (1, .int x1)] → W p l e (headSpec ow_dm_X19_cut ({ frames := 10, cells := 0, slots := 0, locals := 225 })).room s m args below meth c H locs 0 0 Q (F0 m 40 ls [])
def dj_X19_cut_0 (p : Program) (l : Launch) (e : Env) (s : State) (m : MethodId) (args : Array Value) (below : List Frame) (meth : Method) (c : Code) (Q : State → Prop) (A : Nat → Prop) (dC : Nat → ClassId) (dI : Nat → Nat → Nat) (a : Nat → Nat) (ac : Nat → ClassId) (g : (St × (St) × (St × (St × (St))) × (St) × (St)) → Option (Int32 × (St × (St) × (St × (St × (St))) × (St) × (St)))) (r : Int32 × (St × (St) × (St × (St × (St))) × (St) × (St))) : Prop := ∀ (s0 : St × (St) × (St × (St × (St))) × (St) × (St)) (H : Heap) (locs : List Loc) (ls : Array Slot), g s0 = some r → va_P (dC, dI) vwCl (dw_X19 a ac s0) H → va_D A (dw_X19 a ac s0) → va_S A s.heap H locs → lv_has ls 2 [(0, .ref (a 0))] → W p l e (headSpec ow_dm_X19_cut ({ frames := 10, cells := 0, slots := 0, locals := 225 })).room s m args below meth c H locs 0 0 Q (F0 m 0 ls [])
set_option maxHeartbeats 40000000 in
set_option maxRecDepth 100000 in
theorem db_X19_cut_78 {p : Program} {l : Launch} {e : Env} {s : State} {m : MethodId} {args : Array Value} {below : List Frame} {meth : Method} {c : Code} {Q : State → Prop} {A : Nat → Prop} {dC : Nat → ClassId} {dI : Nat → Nat → Nat} {a : Nat → Nat} {ac : Nat → ClassId} {n : Nat} {r : Int32 × (St × (St) × (St × (St × (St))) × (St) × (St))} (C : nd_C p l s m args c A (dC, dI) cX19_cut 2 RX19 ow_dm_X19_cut (dk_X19 ac)) (K : nd_Ki p l e (headSpec ow_dm_X19_cut ({ frames := 10, cells := 0, slots := 0, locals := 225 })).room s m args below meth c Q A (dC, dI) cX19_cut .int (St × (St) × (St × (St × (St))) × (St) × (St)) (dw_X19 a ac) r) : dj_X19_cut_78 p l e s m args below meth c Q A dC dI a ac (df_X19_cut_78 n) r := by
  obtain ⟨hlt, hx, hb, hml, hown, hts, hN, hA, hK⟩ := id C
  intro x1 s0 H locs ls h hP hD hS hl
  unfold df_X19_cut_78 at h
  refine lv_aload_n hx hb dX19_cut_78 rfl (lv_at hl 0 rfl) ?_
  refine lv_aload_n hx hb dX19_cut_79 rfl (lv_at hl 0 rfl) ?_
  refine va_get (D := (dC, dI)) (ci := 20) (v := .int (sI s0.1 8)) (C := RX19) (T := TX19) (N := 36) hx hb hts hi_dm_X19_cut_X19 hown hK hP 0 rfl rfl 22 (by decide) (hts (.fieldLink RX19 192 "TimeMachineModel" "events" "I") (List.mem_of_getElem? (i := 9) rfl)) (fun _ h9 => h9) rfl dX19_cut_80 ?_
  refine va_put (D := (dC, dI)) (ci := 20) (v := .int (sI s0.1 8)) (ty := .int) (C := RX19) (T := TX19) (N := 36) hx hb hts hi_dm_X19_cut_X19 tyX19 tyX19_ok nmX19 hown hK hP hD hS 0 rfl rfl 24 (by decide) (hts (.fieldLink RX19 186 "TimeMachineModel" "taken" "I") (List.mem_of_getElem? (i := 10) rfl)) (fun _ h9 => h9) rfl (by decide +kernel) rfl rfl (Nat.le_of_ble_eq_true rfl) dX19_cut_83 (fun H locs hP hD hS => ?_)
  obtain ⟨s9, es9, h⟩ := nd_let_e h
  have hP : va_P (dC, dI) vwCl (dw_X19 a ac s9) H := by rw [es9]; exact hP
  have hD : va_D A (dw_X19 a ac s9) := by rw [es9]; exact hD
  refine lv_aload_n hx hb dX19_cut_86 rfl (lv_at hl 0 rfl) ?_
  refine lv_iconst (v := 0) hx hb dX19_cut_87 (by decide) ?_
  refine va_put (D := (dC, dI)) (ci := 20) (v := .int 0) (ty := .int) (C := RX19) (T := TX19) (N := 36) hx hb hts hi_dm_X19_cut_X19 tyX19 tyX19_ok nmX19 hown hK hP hD hS 0 rfl rfl 23 (by decide) (hts (.fieldLink RX19 212 "TimeMachineModel" "scheduled" "I") (List.mem_of_getElem? (i := 11) rfl)) (fun _ h9 => h9) rfl (by decide +kernel) rfl rfl (Nat.le_of_ble_eq_true rfl) dX19_cut_88 (fun H locs hP hD hS => ?_)
  obtain ⟨s10, es10, h⟩ := nd_let_e h
  have hP : va_P (dC, dI) vwCl (dw_X19 a ac s10) H := by rw [es10]; exact hP
  have hD : va_D A (dw_X19 a ac s10) := by rw [es10]; exact hD
  refine lv_aload_n hx hb dX19_cut_91 rfl (lv_at hl 0 rfl) ?_
  refine lv_iconst (v := 0) hx hb dX19_cut_92 (by decide) ?_
  refine va_put (D := (dC, dI)) (ci := 20) (v := .int 0) (ty := .boolean) (C := RX19) (T := TX19) (N := 36) hx hb hts hi_dm_X19_cut_X19 tyX19 tyX19_ok nmX19 hown hK hP hD hS 0 rfl rfl 25 (by decide) (hts (.fieldLink RX19 236 "TimeMachineModel" "refused" "Z") (List.mem_of_getElem? (i := 12) rfl)) (fun _ h9 => h9) rfl (by decide +kernel) (by first | rfl | decide) rfl (Nat.le_of_ble_eq_true rfl) dX19_cut_93 (fun H locs hP hD hS => ?_)
  obtain ⟨s11, es11, h⟩ := nd_let_e h
  have hP : va_P (dC, dI) vwCl (dw_X19 a ac s11) H := by rw [es11]; exact hP
  have hD : va_D A (dw_X19 a ac s11) := by rw [es11]; exact hD
  refine lv_iload_n hx hb dX19_cut_96 rfl (lv_at hl 1 rfl) ?_
  exact K _ _ _ _ _ _ dX19_cut_97 rfl (Option.some.inj h).symm hP hD hS
set_option maxHeartbeats 40000000 in
set_option maxRecDepth 100000 in
theorem dB_X19_cut_40 {p : Program} {l : Launch} {e : Env} {s : State} {m : MethodId} {args : Array Value} {below : List Frame} {meth : Method} {c : Code} {Q : State → Prop} {A : Nat → Prop} {dC : Nat → ClassId} {dI : Nat → Nat → Nat} {a : Nat → Nat} {ac : Nat → ClassId} {n : Nat} {r : Int32 × (St × (St) × (St × (St × (St))) × (St) × (St))} (C : nd_C p l s m args c A (dC, dI) cX19_cut 2 RX19 ow_dm_X19_cut (dk_X19 ac)) (K : nd_Ki p l e (headSpec ow_dm_X19_cut ({ frames := 10, cells := 0, slots := 0, locals := 225 })).room s m args below meth c Q A (dC, dI) cX19_cut .int (St × (St) × (St × (St × (St))) × (St) × (St)) (dw_X19 a ac) r) {g40 : Int32 → (St × (St) × (St × (St × (St))) × (St) × (St)) → Option (Int32 × (St × (St) × (St × (St × (St))) × (St) × (St)))} (J40 : dj_X19_cut_40 p l e s m args below meth c Q A dC dI a ac g40 r) : dj_X19_cut_40 p l e s m args below meth c Q A dC dI a ac (dF_X19_cut_40 n g40) r := by
  obtain ⟨hlt, hx, hb, hml, hown, hts, hN, hA, hK⟩ := id C
  intro x1 s0 H locs ls h hP hD hS hl
  unfold dF_X19_cut_40 at h
  refine lv_aload_n hx hb dX19_cut_40 rfl (lv_at hl 0 rfl) ?_
  refine va_get (D := (dC, dI)) (ci := 20) (v := .int (sI s0.1 8)) (C := RX19) (T := TX19) (N := 36) hx hb hts hi_dm_X19_cut_X19 hown hK hP 0 rfl rfl 22 (by decide) (hts (.fieldLink RX19 192 "TimeMachineModel" "events" "I") (List.mem_of_getElem? (i := 9) rfl)) (fun _ h9 => h9) rfl dX19_cut_41 ?_
  refine lv_if_le (tgt := 78) hx hb dX19_cut_44 (by decide) (fun c8 => ?_) (fun c8 => ?_)
  · have h := nd_pos h c8
    exact (db_X19_cut_78 C K) (x1) s0 _ _ _ h hP hD hS (lv_sub hl [0, 1] rfl)
  · have h := nd_neg h c8
    refine lv_aload_n hx hb dX19_cut_47 rfl (lv_at hl 0 rfl) ?_
    refine va_get (D := (dC, dI)) (ci := 20) (v := .ref (a 8)) (C := RX19) (T := TX19) (N := 36) hx hb hts hi_dm_X19_cut_X19 hown hK hP 0 rfl rfl 28 (by decide) (hts (.fieldLink RX19 91 "TimeMachineModel" "when" "[I") (List.mem_of_getElem? (i := 13) rfl)) (fun _ h9 => h9) rfl dX19_cut_48 ?_
    refine lv_aload_n hx hb dX19_cut_51 rfl (lv_at hl 0 rfl) ?_
    refine va_get (D := (dC, dI)) (ci := 20) (v := .int (sI s0.1 8)) (C := RX19) (T := TX19) (N := 36) hx hb hts hi_dm_X19_cut_X19 hown hK hP 0 rfl rfl 22 (by decide) (hts (.fieldLink RX19 192 "TimeMachineModel" "events" "I") (List.mem_of_getElem? (i := 9) rfl)) (fun _ h9 => h9) rfl dX19_cut_52 ?_
    refine lv_iconst (v := 1) hx hb dX19_cut_55 (by decide) ?_
    refine lv_isub hx hb dX19_cut_56 ?_
    obtain ⟨i12, h⟩ := nd_ck_e h
    refine va_iald (i := ((sI s0.1 8) - 1)) hx hb hK hP 8 7 rfl rfl i12 dX19_cut_57 ?_
    refine lv_aload_n hx hb dX19_cut_58 rfl (lv_at hl 0 rfl) ?_
    refine va_get (D := (dC, dI)) (ci := 20) (v := .int (sI s0.1 5)) (C := RX19) (T := TX19) (N := 36) hx hb hts hi_dm_X19_cut_X19 hown hK hP 0 rfl rfl 19 (by decide) (hts (.fieldLink RX19 234 "TimeMachineModel" "now" "I") (List.mem_of_getElem? (i := 4) rfl)) (fun _ h9 => h9) rfl dX19_cut_59 ?_
    refine lv_icmp_le (tgt := 78) hx hb dX19_cut_62 (by decide) (fun c13 => ?_) (fun c13 => ?_)
    · have h := nd_pos h c13
      exact (db_X19_cut_78 C K) (x1) s0 _ _ _ h hP hD hS (lv_sub hl [0, 1] rfl)
    · have h := nd_neg h c13
      refine lv_aload_n hx hb dX19_cut_65 rfl (lv_at hl 0 rfl) ?_
      refine lv_dup hx hb dX19_cut_66 rfl ?_
      refine va_get (D := (dC, dI)) (ci := 20) (v := .int (sI s0.1 8)) (C := RX19) (T := TX19) (N := 36) hx hb hts hi_dm_X19_cut_X19 hown hK hP 0 rfl rfl 22 (by decide) (hts (.fieldLink RX19 192 "TimeMachineModel" "events" "I") (List.mem_of_getElem? (i := 9) rfl)) (fun _ h9 => h9) rfl dX19_cut_67 ?_
      refine lv_iconst (v := 1) hx hb dX19_cut_70 (by decide) ?_
      refine lv_isub hx hb dX19_cut_71 ?_
      refine va_put (D := (dC, dI)) (ci := 20) (v := .int ((sI s0.1 8) - 1)) (ty := .int) (C := RX19) (T := TX19) (N := 36) hx hb hts hi_dm_X19_cut_X19 tyX19 tyX19_ok nmX19 hown hK hP hD hS 0 rfl rfl 22 (by decide) (hts (.fieldLink RX19 192 "TimeMachineModel" "events" "I") (List.mem_of_getElem? (i := 9) rfl)) (fun _ h9 => h9) rfl (by decide +kernel) rfl rfl (Nat.le_of_ble_eq_true rfl) dX19_cut_72 (fun H locs hP hD hS => ?_)
      obtain ⟨s14, es14, h⟩ := nd_let_e h
      have hP : va_P (dC, dI) vwCl (dw_X19 a ac s14) H := by rw [es14]; exact hP
      have hD : va_D A (dw_X19 a ac s14) := by rw [es14]; exact hD
      refine lv_goto (tgt := 40) hx hb dX19_cut_75 (by decide) ?_
      exact (J40) (x1) s14 _ _ _ h hP hD hS (lv_sub hl [0, 1] rfl)
set_option maxHeartbeats 40000000 in
set_option maxRecDepth 100000 in
theorem db_X19_cut_40 {p : Program} {l : Launch} {e : Env} {s : State} {m : MethodId} {args : Array Value} {below : List Frame} {meth : Method} {c : Code} {Q : State → Prop} {A : Nat → Prop} {dC : Nat → ClassId} {dI : Nat → Nat → Nat} {a : Nat → Nat} {ac : Nat → ClassId} {n : Nat} {r : Int32 × (St × (St) × (St × (St × (St))) × (St) × (St))} (C : nd_C p l s m args c A (dC, dI) cX19_cut 2 RX19 ow_dm_X19_cut (dk_X19 ac)) (K : nd_Ki p l e (headSpec ow_dm_X19_cut ({ frames := 10, cells := 0, slots := 0, locals := 225 })).room s m args below meth c Q A (dC, dI) cX19_cut .int (St × (St) × (St × (St × (St))) × (St) × (St)) (dw_X19 a ac) r) (k : Nat) : dj_X19_cut_40 p l e s m args below meth c Q A dC dI a ac (df_X19_cut_40 n k) r := by
  induction k with
  | zero => intro x1 s0 H locs ls h; exact nomatch (show (none : Option (Int32 × (St × (St) × (St × (St × (St))) × (St) × (St)))) = some r from h)
  | succ k ih => exact dB_X19_cut_40 C K ih
set_option maxHeartbeats 40000000 in
set_option maxRecDepth 100000 in
theorem db_X19_cut_0 {p : Program} {l : Launch} {e : Env} {s : State} {m : MethodId} {args : Array Value} {below : List Frame} {meth : Method} {c : Code} {Q : State → Prop} {A : Nat → Prop} {dC : Nat → ClassId} {dI : Nat → Nat → Nat} {a : Nat → Nat} {ac : Nat → ClassId} {n : Nat} {r : Int32 × (St × (St) × (St × (St × (St))) × (St) × (St))} (C : nd_C p l s m args c A (dC, dI) cX19_cut 2 RX19 ow_dm_X19_cut (dk_X19 ac)) (K : nd_Ki p l e (headSpec ow_dm_X19_cut ({ frames := 10, cells := 0, slots := 0, locals := 225 })).room s m args below meth c Q A (dC, dI) cX19_cut .int (St × (St) × (St × (St × (St))) × (St) × (St)) (dw_X19 a ac) r) : dj_X19_cut_0 p l e s m args below meth c Q A dC dI a ac (df_X19_cut_0 n) r := by
  obtain ⟨hlt, hx, hb, hml, hown, hts, hN, hA, hK⟩ := id C
  intro s0 H locs ls h hP hD hS hl
  unfold df_X19_cut_0 at h
  refine lv_aload_n hx hb dX19_cut_0 rfl (lv_at hl 0 rfl) ?_
  refine lv_iconst (v := 0) hx hb dX19_cut_1 (by decide) ?_
  refine va_put (D := (dC, dI)) (ci := 20) (v := .int 0) (ty := .int) (C := RX19) (T := TX19) (N := 36) hx hb hts hi_dm_X19_cut_X19 tyX19 tyX19_ok nmX19 hown hK hP hD hS 0 rfl rfl 0 (by decide) (hts (.fieldLink RX19 113 "TimeMachineModel" "code" "I") (List.mem_of_getElem? (i := 1) rfl)) (fun _ h9 => h9) rfl (by decide +kernel) rfl rfl (Nat.le_of_ble_eq_true rfl) dX19_cut_2 (fun H locs hP hD hS => ?_)
  obtain ⟨s1, es1, h⟩ := nd_let_e h
  have hP : va_P (dC, dI) vwCl (dw_X19 a ac s1) H := by rw [es1]; exact hP
  have hD : va_D A (dw_X19 a ac s1) := by rw [es1]; exact hD
  refine lv_aload_n hx hb dX19_cut_5 rfl (lv_at hl 0 rfl) ?_
  refine va_get (D := (dC, dI)) (ci := 20) (v := .int (sI s1.1 3)) (C := RX19) (T := TX19) (N := 36) hx hb hts hi_dm_X19_cut_X19 hown hK hP 0 rfl rfl 17 (by decide) (hts (.fieldLink RX19 231 "TimeMachineModel" "booted" "Z") (List.mem_of_getElem? (i := 2) rfl)) (fun _ h9 => h9) rfl dX19_cut_6 ?_
  refine lv_if_ne (tgt := 14) hx hb dX19_cut_9 (by decide) (fun c2 => ?_) (fun c2 => ?_)
  · have h := nd_neg h c2
    refine lv_aload_n hx hb dX19_cut_14 rfl (lv_at hl 0 rfl) ?_
    refine va_get (D := (dC, dI)) (ci := 20) (v := .int (sI s1.1 6)) (C := RX19) (T := TX19) (N := 36) hx hb hts hi_dm_X19_cut_X19 hown hK hP 0 rfl rfl 20 (by decide) (hts (.fieldLink RX19 210 "TimeMachineModel" "end" "I") (List.mem_of_getElem? (i := 3) rfl)) (fun _ h9 => h9) rfl dX19_cut_15 ?_
    refine lv_aload_n hx hb dX19_cut_18 rfl (lv_at hl 0 rfl) ?_
    refine va_get (D := (dC, dI)) (ci := 20) (v := .int (sI s1.1 5)) (C := RX19) (T := TX19) (N := 36) hx hb hts hi_dm_X19_cut_X19 hown hK hP 0 rfl rfl 19 (by decide) (hts (.fieldLink RX19 234 "TimeMachineModel" "now" "I") (List.mem_of_getElem? (i := 4) rfl)) (fun _ h9 => h9) rfl dX19_cut_19 ?_
    refine lv_isub hx hb dX19_cut_22 ?_
    refine lv_topi (fun z3 ez3 => ?_)
    have h := nd_at h ez3
    refine lv_istore_n (lv' := [(1, .int z3), (0, .ref (a 0))]) hx hb dX19_cut_23 rfl hl (by decide) rfl (fun ls hl => ?_)
    refine lv_aload_n hx hb dX19_cut_24 rfl (lv_at hl 1 rfl) ?_
    refine lv_aload_n hx hb dX19_cut_25 rfl (lv_at hl 1 rfl) ?_
    refine va_get (D := (dC, dI)) (ci := 20) (v := .int (sI s1.1 5)) (C := RX19) (T := TX19) (N := 36) hx hb hts hi_dm_X19_cut_X19 hown hK hP 0 rfl rfl 19 (by decide) (hts (.fieldLink RX19 234 "TimeMachineModel" "now" "I") (List.mem_of_getElem? (i := 4) rfl)) (fun _ h9 => h9) rfl dX19_cut_26 ?_
    obtain ⟨s5, hq, h⟩ := nd_b1_e h
    have hPc := hP
    have hDc := hD
    have hKc := hK
    have hFc := nd_rs hD hS hA
    refine nd_cVv (As := [.int (sI s1.1 5)]) (rest := []) (w' := dw_X19 a ac s5) ⟨hx, hb, hml, hown, hts⟩ (fun sz => dm_X19_come l hlt dC dI a ac n ((sI s1.1 5)) s1 hq sz) (cwV 1 hts gi_dm_X19_cut_0 rfl rfl rfl (by decide +kernel) ⟨Nat.le_of_ble_eq_true rfl, Nat.le_of_ble_eq_true rfl⟩) hPc hDc hKc hS hA hN (va_recv hKc hPc (ci := 20) (q0 := 0) rfl rfl) rfl hl.1 rfl (Nat.le_of_ble_eq_true rfl) dX19_cut_29 (fun H locs hP1 hD1 hk1 hS => ?_)
    have hP := hP1
    have hD := hD1.weaken (fun k q _ h => hFc q.1 h)
    refine lv_aload_n hx hb dX19_cut_32 rfl (lv_at hl 1 rfl) ?_
    refine lv_aload_n hx hb dX19_cut_33 rfl (lv_at hl 1 rfl) ?_
    refine va_get (D := (dC, dI)) (ci := 20) (v := .int (sI s5.1 5)) (C := RX19) (T := TX19) (N := 36) hx hb hts hi_dm_X19_cut_X19 hown hK hP 0 rfl rfl 19 (by decide) (hts (.fieldLink RX19 234 "TimeMachineModel" "now" "I") (List.mem_of_getElem? (i := 4) rfl)) (fun _ h9 => h9) rfl dX19_cut_34 ?_
    refine va_put (D := (dC, dI)) (ci := 20) (v := .int (sI s5.1 5)) (ty := .int) (C := RX19) (T := TX19) (N := 36) hx hb hts hi_dm_X19_cut_X19 tyX19 tyX19_ok nmX19 hown hK hP hD hS 0 rfl rfl 20 (by decide) (hts (.fieldLink RX19 210 "TimeMachineModel" "end" "I") (List.mem_of_getElem? (i := 3) rfl)) (fun _ h9 => h9) rfl (by decide +kernel) rfl rfl (Nat.le_of_ble_eq_true rfl) dX19_cut_37 (fun H locs hP hD hS => ?_)
    obtain ⟨s7, es7, h⟩ := nd_let_e h
    have hP : va_P (dC, dI) vwCl (dw_X19 a ac s7) H := by rw [es7]; exact hP
    have hD : va_D A (dw_X19 a ac s7) := by rw [es7]; exact hD
    exact (db_X19_cut_40 C K n) (z3) s7 _ _ _ h hP hD hS (lv_sub hl [1, 0] rfl)
  · have h := nd_pos h c2
    refine lv_iconst (v := 0) hx hb dX19_cut_12 (by decide) ?_
    exact K _ _ _ _ _ _ dX19_cut_13 rfl (Option.some.inj h).symm hP hD hS
set_option maxHeartbeats 40000000 in
set_option maxRecDepth 100000 in
theorem dm_X19_cut (l : Launch) (hlt : l.stackTraces = false) (dC : Nat → ClassId) (dI : Nat → Nat → Nat) (a : Nat → Nat) (ac : Nat → ClassId) (n : Nat) (s0 : St × (St) × (St × (St × (St))) × (St) × (St)) {r : Int32 × (St × (St) × (St × (St × (St))) × (St) × (St))} (h : df_X19_cut n s0 = some r) (sz : Nat) : Met l yX19_cut ow_dm_X19_cut ({ frames := 10, cells := 0, slots := 0, locals := 225 }) (va_Pc [.ref (a 0)] (fun U => U.heap.size = sz ∧ va_P (dC, dI) vwCl (dw_X19 a ac s0) U.heap ∧ va_K (dC, dI) vwCl (dk_X19 ac) U ∧ va_D (fun _ => True) (dw_X19 a ac s0) ∧ nv_E (va_A (dw_X19 a ac s0) sz) U)) (va_Qi (fun x _ => x = r.1) (fun (_ : Unit) t => va_P (dC, dI) vwCl (dw_X19 a ac r.2) t.heap ∧ va_K (dC, dI) vwCl (dk_X19 ac) t ∧ va_D (va_A (dw_X19 a ac s0) sz) (dw_X19 a ac r.2)) (va_A (dw_X19 a ac s0) sz)) 0 0 (va_A (dw_X19 a ac s0) sz) := by
  refine Met.ofW (cc := cX19_cut) (maxL := 2) (ret := (some .int)) (by decide) rfl ?_
  intro p e s m args below meth c s₁ B hml hv
  obtain ⟨rfl, hsz, hP, hK, hD0, hN⟩ := hv
  have hx := B.exec
  have hb := B.bytes
  have hr := B.returns
  have hts := atoms_spec (ws := ow_dm_X19_cut) B.pre
  have hown : s.vm.findClass RX19 = some m.cls := findClass_of_methodNamed B.named
  have hlocks := B.notSynchronized
  subst hsz
  have hD := hD0.self (sz := s.heap.size)
  generalize hAe : va_A (dw_X19 a ac s0) s.heap.size = A at hD hN ⊢
  have hA : ∀ q : Nat, s.heap.size ≤ q → A q := fun q h => by rw [← hAe]; exact Or.inr h
  have hl := lv_entry ([.ref (a 0)]) (n := 2) (Nat.le_of_ble_eq_true rfl)
  rw [lg_entry_eq]
  generalize (lg_sl ([.ref (a 0)]) ++ List.replicate (2 - (lg_sl ([.ref (a 0)])).length) Slot.unset).toArray = ls at hl ⊢
  have hl : lv_has ls 2 [(0, .ref (a 0))] := hl
  exact db_X19_cut_0 (dC := dC) (dI := dI) (a := a) (ac := ac) (n := n) (r := r) ⟨hlt, hx, hb, hml, hown, hts, hN, hA, hK⟩ (fun pc v τ H locs ls d z er hP hD hS => by subst er; exact W.zret (v := v) hx hb hr z (fun t ht hW => ⟨⟨v, (), rfl, rfl, by rw [ht]; exact hP, va_K.moved hW.alike hK, hD⟩, hS.F ht⟩) hS.2.2 d) s0 _ _ _ h hP hD va_S.rf (lv_sub hl [0] rfl)
