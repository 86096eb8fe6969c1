set_option maxHeartbeats 40000000 in
set_option maxRecDepth 100000 in
theorem dm_X13_smalls (l : Launch) (hlt : l.stackTraces = false) (dC : Nat → ClassId) (dI : Nat → Nat → Nat) (a : Nat → Nat) (ac : Nat → ClassId) (n : Nat) (v0 : Int32) (v1 : Int32) (v2 : Int32) (s0 : St) {r : St} (h : df_X13_smalls n v0 v1 v2 s0 = some r) (sz : Nat) : Met l yX13_smalls ow_dm_X13_smalls ({ frames := 9, cells := 0, slots := 0, locals := 206 }) (va_Pc [.ref (a 0), .int v0, .int v1, .int v2] (fun U => U.heap.size = sz ∧ va_P (dC, dI) vwCl (dw_X13 a ac s0) U.heap ∧ va_K (dC, dI) vwCl (dk_X13 ac) U ∧ va_D (fun _ => True) (dw_X13 a ac s0) ∧ nv_E (va_A (dw_X13 a ac s0) sz) U)) (va_Qv (fun _ => True) (fun (_ : Unit) t => va_P (dC, dI) vwCl (dw_X13 a ac r) t.heap ∧ va_K (dC, dI) vwCl (dk_X13 ac) t ∧ va_D (va_A (dw_X13 a ac s0) sz) (dw_X13 a ac r)) (va_A (dw_X13 a ac s0) sz)) 0 0 (va_A (dw_X13 a ac s0) sz) := by
  refine Met.ofW (cc := cX13_smalls) (maxL := 6) (ret := none) (by decide) rfl ?_
  intro p e s m args below meth c s₁ B hml hv
  obtain ⟨rfl, hsz, hP, hK, hD0, hN⟩ := hv
  have hx := B.exec
  have hb := B.bytes
  have hr := B.returns
  have hts := atoms_spec (ws := ow_dm_X13_smalls) B.pre
  have hown : s.vm.findClass RX13 = some m.cls := findClass_of_methodNamed B.named
  have hlocks := B.notSynchronized
  subst hsz
  have hD := hD0.self (sz := s.heap.size)
  generalize hAe : va_A (dw_X13 a ac s0) s.heap.size = A at hD hN ⊢
  have hA : ∀ q : Nat, s.heap.size ≤ q → A q := fun q h => by rw [← hAe]; exact Or.inr h
  have hl := lv_entry ([.ref (a 0), .int v0, .int v1, .int v2]) (n := 6) (Nat.le_of_ble_eq_true rfl)
  rw [lg_entry_eq]
  generalize (lg_sl ([.ref (a 0), .int v0, .int v1, .int v2]) ++ List.replicate (6 - (lg_sl ([.ref (a 0), .int v0, .int v1, .int v2])).length) Slot.unset).toArray = ls at hl ⊢
  have hl : lv_has ls 6 [(0, .ref (a 0)), (1, .int v0), (2, .int v1), (3, .int v2)] := hl
  exact db_X13_smalls_0 (dC := dC) (dI := dI) (a := a) (ac := ac) (n := n) (r := r) ⟨hlt, hx, hb, hml, hown, hts, hN, hA, hK⟩ (fun pc τ H locs ls d er hP hD hS => by subst er; exact W.vret hx hb hr (fun t ht hW => ⟨⟨(), rfl, trivial, by rw [ht]; exact hP, va_K.moved hW.alike hK, hD⟩, hS.F ht⟩) hS.2.2 d) v0 v1 v2 s0 _ _ _ h hP hD va_S.rf (lv_sub hl [0, 1, 2, 3] rfl)
def ow_dm_X13_shorts : List Cond := .code yX13_shorts cX13_shorts 6 none :: ([.methodLink RX13 532 yX13_taken, .instanceMethod yX13_taken, .selects RX13 yX13_taken yX13_taken, .initialized RX13, .methodLink RX13 582 yX13_comma, .instanceMethod yX13_comma, .selects RX13 yX13_comma yX13_comma, .methodLink RX13 624 yX13_plainSix, .instanceMethod yX13_plainSix, .selects RX13 yX13_plainSix yX13_plainSix, .methodLink RX13 628 yX13_stacked, .instanceMethod yX13_stacked, .selects RX13 yX13_stacked yX13_stacked, .methodLink RX13 585 yX13_within, .instanceMethod yX13_within, .selects RX13 yX13_within yX13_within, .methodLink RX13 547 yX13_half, .instanceMethod yX13_half, .selects RX13 yX13_half yX13_half, .methodLink RX13 617 yX13_not, .instanceMethod yX13_not, .selects RX13 yX13_not yX13_not, .methodLink RX13 620 yX13_smalls, .instanceMethod yX13_smalls, .selects RX13 yX13_smalls yX13_smalls, .methodLink RX13 614 yX13_near8, .instanceMethod yX13_near8, .selects RX13 yX13_near8 yX13_near8, .methodLink RX13 611 yX13_notZero, .instanceMethod yX13_notZero, .selects RX13 yX13_notZero yX13_notZero, .methodLink RX13 550 yX13_bits, .static yX13_bits, .methodLink RX13 525 yX13_expression, .instanceMethod yX13_expression, .selects RX13 yX13_expression yX13_expression, .fieldLink RX13 486 "TimeMachineModel$Assembler" "address" "I", .methodLink RX13 528 yX13_fits, .instanceMethod yX13_fits, .selects RX13 yX13_fits yX13_fits, .methodLink RX13 564 yX13_shortJump, .static yX13_shortJump] ++ (u_ws RX13 TX13 37 ++ (ow_dm_X13_taken ++ (ow_dm_X13_comma ++ (ow_dm_X13_plainSix ++ (ow_dm_X13_stacked ++ (ow_dm_X13_within ++ (ow_dm_X13_half ++ (ow_dm_X13_not ++ (ow_dm_X13_smalls ++ (ow_dm_X13_near8 ++ (ow_dm_X13_notZero ++ (ow_dm_X13_bits ++ (ow_dm_X13_expression ++ (ow_dm_X13_fits ++ (ow_dm_X13_shortJump ++ []))))))))))))))))
theorem gd_dm_X13_shorts : ∀ w ∈ ow_dm_X13_shorts, (w.onTables && w.keeps) = true ∨ ∃ ty, w = Cond.arrayClass ty := List.forall_mem_cons.mpr ⟨good_of_word rfl, List.forall_mem_append.mpr ⟨fun w h => good_of_word (List.all_eq_true.mp (by decide +kernel) w h), List.forall_mem_append.mpr ⟨gu_X13, List.forall_mem_append.mpr ⟨gd_dm_X13_taken, List.forall_mem_append.mpr ⟨gd_dm_X13_comma, List.forall_mem_append.mpr ⟨gd_dm_X13_plainSix, List.forall_mem_append.mpr ⟨gd_dm_X13_stacked, List.forall_mem_append.mpr ⟨gd_dm_X13_within, List.forall_mem_append.mpr ⟨gd_dm_X13_half, List.forall_mem_append.mpr ⟨gd_dm_X13_not, List.forall_mem_append.mpr ⟨gd_dm_X13_smalls, List.forall_mem_append.mpr ⟨gd_dm_X13_near8, List.forall_mem_append.mpr ⟨gd_dm_X13_notZero, List.forall_mem_append.mpr ⟨gd_dm_X13_bits, List.forall_mem_append.mpr ⟨gd_dm_X13_expression, List.forall_mem_append.mpr ⟨gd_dm_X13_fits, List.forall_mem_append.mpr ⟨gd_dm_X13_shortJump, fun _ h => nomatch h⟩⟩⟩⟩⟩⟩⟩⟩⟩⟩⟩⟩⟩⟩⟩⟩⟩
theorem hi_dm_X13_shorts_X13 : ∀ w ∈ u_ws RX13 TX13 37, w ∈ ow_dm_X13_shorts := fun w h => List.mem_cons_of_mem _ (List.mem_append_right _ (List.mem_append_left _ h))
theorem gi_dm_X13_shorts_0 : GoodIn ow_dm_X13_shorts (wsV RX13 532 RX13 yX13_taken ow_dm_X13_taken) := goodIn_app (goodIn_of _ (by decide +kernel)) (fun w h => ⟨List.mem_cons_of_mem _ (List.mem_append_right _ (List.mem_append_right _ (List.mem_append_left _ h))), gd_dm_X13_taken w h⟩)
theorem gi_dm_X13_shorts_1 : GoodIn ow_dm_X13_shorts (wsV RX13 582 RX13 yX13_comma ow_dm_X13_comma) := goodIn_app (goodIn_of _ (by decide +kernel)) (fun w h => ⟨List.mem_cons_of_mem _ (List.mem_append_right _ (List.mem_append_right _ (List.mem_append_right _ (List.mem_append_left _ h)))), gd_dm_X13_comma w h⟩)
theorem gi_dm_X13_shorts_2 : GoodIn ow_dm_X13_shorts (wsV RX13 624 RX13 yX13_plainSix ow_dm_X13_plainSix) := goodIn_app (goodIn_of _ (by decide +kernel)) (fun w h => ⟨List.mem_cons_of_mem _ (List.mem_append_right _ (List.mem_append_right _ (List.mem_append_right _ (List.mem_append_right _ (List.mem_append_left _ h))))), gd_dm_X13_plainSix w h⟩)
theorem gi_dm_X13_shorts_3 : GoodIn ow_dm_X13_shorts (wsV RX13 628 RX13 yX13_stacked ow_dm_X13_stacked) := goodIn_app (goodIn_of _ (by decide +kernel)) (fun w h => ⟨List.mem_cons_of_mem _ (List.mem_append_right _ (List.mem_append_right _ (List.mem_append_right _ (List.mem_append_right _ (List.mem_append_right _ (List.mem_append_left _ h)))))), gd_dm_X13_stacked w h⟩)
theorem gi_dm_X13_shorts_4 : GoodIn ow_dm_X13_shorts (wsV RX13 585 RX13 yX13_within ow_dm_X13_within) := goodIn_app (goodIn_of _ (by decide +kernel)) (fun w h => ⟨List.mem_cons_of_mem _ (List.mem_append_right _ (List.mem_append_right _ (List.mem_append_right _ (List.mem_append_right _ (List.mem_append_right _ (List.mem_append_right _ (List.mem_append_left _ h))))))), gd_dm_X13_within w h⟩)
theorem gi_dm_X13_shorts_5 : GoodIn ow_dm_X13_shorts (wsV RX13 547 RX13 yX13_half ow_dm_X13_half) := goodIn_app (goodIn_of _ (by decide +kernel)) (fun w h => ⟨List.mem_cons_of_mem _ (List.mem_append_right _ (List.mem_append_right _ (List.mem_append_right _ (List.mem_append_right _ (List.mem_append_right _ (List.mem_append_right _ (List.mem_append_right _ (List.mem_append_left _ h)))))))), gd_dm_X13_half w h⟩)
theorem gi_dm_X13_shorts_6 : GoodIn ow_dm_X13_shorts (wsV RX13 617 RX13 yX13_not ow_dm_X13_not) := goodIn_app (goodIn_of _ (by decide +kernel)) (fun w h => ⟨List.mem_cons_of_mem _ (List.mem_append_right _ (List.mem_append_right _ (List.mem_append_right _ (List.mem_append_right _ (List.mem_append_right _ (List.mem_append_right _ (List.mem_append_right _ (List.mem_append_right _ (List.mem_append_left _ h))))))))), gd_dm_X13_not w h⟩)
theorem gi_dm_X13_shorts_7 : GoodIn ow_dm_X13_shorts (wsV RX13 620 RX13 yX13_smalls ow_dm_X13_smalls) := goodIn_app (goodIn_of _ (by decide +kernel)) (fun w h => ⟨List.mem_cons_of_mem _ (List.mem_append_right _ (List.mem_append_right _ (List.mem_append_right _ (List.mem_append_right _ (List.mem_append_right _ (List.mem_append_right _ (List.mem_append_right _ (List.mem_append_right _ (List.mem_append_right _ (List.mem_append_left _ h)))))))))), gd_dm_X13_smalls w h⟩)
theorem gi_dm_X13_shorts_8 : GoodIn ow_dm_X13_shorts (wsV RX13 614 RX13 yX13_near8 ow_dm_X13_near8) := goodIn_app (goodIn_of _ (by decide +kernel)) (fun w h => ⟨List.mem_cons_of_mem _ (List.mem_append_right _ (List.mem_append_right _ (List.mem_append_right _ (List.mem_append_right _ (List.mem_append_right _ (List.mem_append_right _ (List.mem_append_right _ (List.mem_append_right _ (List.mem_append_right _ (List.mem_append_right _ (List.mem_append_left _ h))))))))))), gd_dm_X13_near8 w h⟩)
theorem gi_dm_X13_shorts_9 : GoodIn ow_dm_X13_shorts (wsV RX13 611 RX13 yX13_notZero ow_dm_X13_notZero) := goodIn_app (goodIn_of _ (by decide +kernel)) (fun w h => ⟨List.mem_cons_of_mem _ (List.mem_append_right _ (List.mem_append_right _ (List.mem_append_right _ (List.mem_append_right _ (List.mem_append_right _ (List.mem_append_right _ (List.mem_append_right _ (List.mem_append_right _ (List.mem_append_right _ (List.mem_append_right _ (List.mem_append_right _ (List.mem_append_left _ h)))))))))))), gd_dm_X13_notZero w h⟩)
theorem gi_dm_X13_shorts_10 : GoodIn ow_dm_X13_shorts (wsS RX13 550 yX13_bits ow_dm_X13_bits) := goodIn_app (goodIn_of _ (by decide +kernel)) (fun w h => ⟨List.mem_cons_of_mem _ (List.mem_append_right _ (List.mem_append_right _ (List.mem_append_right _ (List.mem_append_right _ (List.mem_append_right _ (List.mem_append_right _ (List.mem_append_right _ (List.mem_append_right _ (List.mem_append_right _ (List.mem_append_right _ (List.mem_append_right _ (List.mem_append_right _ (List.mem_append_left _ h))))))))))))), gd_dm_X13_bits w h⟩)
theorem gi_dm_X13_shorts_11 : GoodIn ow_dm_X13_shorts (wsV RX13 525 RX13 yX13_expression ow_dm_X13_expression) := goodIn_app (goodIn_of _ (by decide +kernel)) (fun w h => ⟨List.mem_cons_of_mem _ (List.mem_append_right _ (List.mem_append_right _ (List.mem_append_right _ (List.mem_append_right _ (List.mem_append_right _ (List.mem_append_right _ (List.mem_append_right _ (List.mem_append_right _ (List.mem_append_right _ (List.mem_append_right _ (List.mem_append_right _ (List.mem_append_right _ (List.mem_append_right _ (List.mem_append_left _ h)))))))))))))), gd_dm_X13_expression w h⟩)
theorem gi_dm_X13_shorts_12 : GoodIn ow_dm_X13_shorts (wsV RX13 528 RX13 yX13_fits ow_dm_X13_fits) := goodIn_app (goodIn_of _ (by decide +kernel)) (fun w h => ⟨List.mem_cons_of_mem _ (List.mem_append_right _ (List.mem_append_right _ (List.mem_append_right _ (List.mem_append_right _ (List.mem_append_right _ (List.mem_append_right _ (List.mem_append_right _ (List.mem_append_right _ (List.mem_append_right _ (List.mem_append_right _ (List.mem_append_right _ (List.mem_append_right _ (List.mem_append_right _ (List.mem_append_right _ (List.mem_append_left _ h))))))))))))))), gd_dm_X13_fits w h⟩)
theorem gi_dm_X13_shorts_13 : GoodIn ow_dm_X13_shorts (wsS RX13 564 yX13_shortJump ow_dm_X13_shortJump) := goodIn_app (goodIn_of _ (by decide +kernel)) (fun w h => ⟨List.mem_cons_of_mem _ (List.mem_append_right _ (List.mem_append_right _ (List.mem_append_right _ (List.mem_append_right _ (List.mem_append_right _ (List.mem_append_right _ (List.mem_append_right _ (List.mem_append_right _ (List.mem_append_right _ (List.mem_append_right _ (List.mem_append_right _ (List.mem_append_right _ (List.mem_append_right _ (List.mem_append_right _ (List.mem_append_right _ (List.mem_append_left _ h)))))))))))))))), gd_dm_X13_shortJump w h⟩)
def dj_X13_shorts_341 (p : Program) (l : Launch) (e : Env) (s : State) (m : MethodId) (args : Array Value) (below : List Frame) (meth : Method) (c : Code) (Q : State → Prop) (A : Nat → Prop) (dC : Nat → ClassId) (dI : Nat → Nat → Nat) (a : Nat → Nat) (ac : Nat → ClassId) (g : (St) → Option (St)) (r : St) : Prop := ∀ (s0 : St) (H : Heap) (locs : List Loc) (ls : Array Slot), g s0 = some r → va_P (dC, dI) vwCl (dw_X13 a ac s0) H → va_D A (dw_X13 a ac s0) → va_S A s.heap H locs → lv_has ls 6 [] → W p l e (headSpec ow_dm_X13_shorts ({ frames := 10, cells := 0, slots := 0, locals := 231 })).room s m args below meth c H locs 0 0 Q (F0 m 341 ls [])
def dj_X13_shorts_287 (p : Program) (l : Launch) (e : Env) (s : State) (m : MethodId) (args : Array Value) (below : List Frame) (meth : Method) (c : Code) (Q : State → Prop) (A : Nat → Prop) (dC : Nat → ClassId) (dI : Nat → Nat → Nat) (a : Nat → Nat) (ac : Nat → ClassId) (g : Int32 → Int32 → Int32 → (St) → Option (St)) (r : St) : Prop := ∀ (x2 : Int32) (x4 : Int32) (x5 : Int32) (s0 : St) (H : Heap) (locs : List Loc) (ls : Array Slot), g x2 x4 x5 s0 = some r → va_P (dC, dI) vwCl (dw_X13 a ac s0) H → va_D A (dw_X13 a ac s0) → va_S A s.heap H locs → lv_has ls 6 [(0, .ref (a 0)), (2, .int x2), (4, .int x4), (5, .int x5)] → W p l e (headSpec ow_dm_X13_shorts ({ frames := 10, cells := 0, slots := 0, locals := 231 })).room s m args below meth c H locs 0 0 Q (F0 m 287 ls [])
def dj_X13_shorts_221 (p : Program) (l : Launch) (e : Env) (s : State) (m : MethodId) (args : Array Value) (below : List Frame) (meth : Method) (c : Code) (Q : State → Prop) (A : Nat → Prop) (dC : Nat → ClassId) (dI : Nat → Nat → Nat) (a : Nat → Nat) (ac : Nat → ClassId) (g : Int32 → Int32 → Int32 → Int32 → Int32 → (St) → Option (St)) (r : St) : Prop := ∀ (x1 : Int32) (x2 : Int32) (x3 : Int32) (x4 : Int32) (x5 : Int32) (s0 : St) (H : Heap) (locs : List Loc) (ls : Array Slot), g x1 x2 x3 x4 x5 s0 = some r → va_P (dC, dI) vwCl (dw_X13 a ac s0) H → va_D A (dw_X13 a ac s0) → va_S A s.heap H locs → lv_has ls 6 [(0, .ref (a 0)), (1, .int x1), (2, .int x2), (3, .int x3), (4, .int x4), (5, .int x5)] → W p l e (headSpec ow_dm_X13_shorts ({ frames := 10, cells := 0, slots := 0, locals := 231 })).room s m args below meth c H locs 0 0 Q (F0 m 221 ls [])
def dj_X13_shorts_206 (p : Program) (l : Launch) (e : Env) (s : State) (m : MethodId) (args : Array Value) (below : List Frame) (meth : Method) (c : Code) (Q : State → Prop) (A : Nat → Prop) (dC : Nat → ClassId) (dI : Nat → Nat → Nat) (a : Nat → Nat) (ac : Nat → ClassId) (g : Int32 → Int32 → Int32 → Int32 → Int32 → (St) → Option (St)) (r : St) : Prop := ∀ (x1 : Int32) (x2 : Int32) (x3 : Int32) (x4 : Int32) (y0 : Int32) (s0 : St) (H : Heap) (locs : List Loc) (ls : Array Slot), g x1 x2 x3 x4 y0 s0 = some r → va_P (dC, dI) vwCl (dw_X13 a ac s0) H → va_D A (dw_X13 a ac s0) → va_S A s.heap H locs → lv_has ls 6 [(0, .ref (a 0)), (1, .int x1), (2, .int x2), (3, .int x3), (4, .int x4)] → W p l e (headSpec ow_dm_X13_shorts ({ frames := 10, cells := 0, slots := 0, locals := 231 })).room s m args below meth c H locs 0 0 Q (F0 m 206 ls [.int y0])
def dj_X13_shorts_195 (p : Program) (l : Launch) (e : Env) (s : State) (m : MethodId) (args : Array Value) (below : List Frame) (meth : Method) (c : Code) (Q : State → Prop) (A : Nat → Prop) (dC : Nat → ClassId) (dI : Nat → Nat → Nat) (a : Nat → Nat) (ac : Nat → ClassId) (g : Int32 → Int32 → Int32 → Int32 → (St) → Option (St)) (r : St) : Prop := ∀ (x1 : Int32) (x2 : Int32) (x3 : Int32) (x4 : Int32) (s0 : St) (H : Heap) (locs : List Loc) (ls : Array Slot), g x1 x2 x3 x4 s0 = some r → va_P (dC, dI) vwCl (dw_X13 a ac s0) H → va_D A (dw_X13 a ac s0) → va_S A s.heap H locs → lv_has ls 6 [(0, .ref (a 0)), (1, .int x1), (2, .int x2), (3, .int x3), (4, .int x4)] → W p l e (headSpec ow_dm_X13_shorts ({ frames := 10, cells := 0, slots := 0, locals := 231 })).room s m args below meth c H locs 0 0 Q (F0 m 195 ls [])
def dj_X13_shorts_156 (p : Program) (l : Launch) (e : Env) (s : State) (m : MethodId) (args : Array Value) (below : List Frame) (meth : Method) (c : Code) (Q : State → Prop) (A : Nat → Prop) (dC : Nat → ClassId) (dI : Nat → Nat → Nat) (a : Nat → Nat) (ac : Nat → ClassId) (g : Int32 → Int32 → Int32 → Int32 → (St) → Option (St)) (r : St) : Prop := ∀ (x1 : Int32) (x2 : Int32) (x3 : Int32) (y0 : Int32) (s0 : St) (H : Heap) (locs : List Loc) (ls : Array Slot), g x1 x2 x3 y0 s0 = some r → va_P (dC, dI) vwCl (dw_X13 a ac s0) H → va_D A (dw_X13 a ac s0) → va_S A s.heap H locs → lv_has ls 6 [(0, .ref (a 0)), (1, .int x1), (2, .int x2), (3, .int x3)] → W p l e (headSpec ow_dm_X13_shorts ({ frames := 10, cells := 0, slots := 0, locals := 231 })).room s m args below meth c H locs 0 0 Q (F0 m 156 ls [.int y0])
def dj_X13_shorts_140 (p : Program) (l : Launch) (e : Env) (s : State) (m : MethodId) (args : Array Value) (below : List Frame) (meth : Method) (c : Code) (Q : State → Prop) (A : Nat → Prop) (dC : Nat → ClassId) (dI : Nat → Nat → Nat) (a : Nat → Nat) (ac : Nat → ClassId) (g : Int32 → Int32 → Int32 → (St) → Option (St)) (r : St) : Prop := ∀ (x1 : Int32) (x2 : Int32) (y0 : Int32) (s0 : St) (H : Heap) (locs : List Loc) (ls : Array Slot), g x1 x2 y0 s0 = some r → va_P (dC, dI) vwCl (dw_X13 a ac s0) H → va_D A (dw_X13 a ac s0) → va_S A s.heap H locs → lv_has ls 6 [(0, .ref (a 0)), (1, .int x1), (2, .int x2)] → W p l e (headSpec ow_dm_X13_shorts ({ frames := 10, cells := 0, slots := 0, locals := 231 })).room s m args below meth c H locs 0 0 Q (F0 m 140 ls [.int y0])
def dj_X13_shorts_135 (p : Program) (l : Launch) (e : Env) (s : State) (m : MethodId) (args : Array Value) (below : List Frame) (meth : Method) (c : Code) (Q : State → Prop) (A : Nat → Prop) (dC : Nat → ClassId) (dI : Nat → Nat → Nat) (a : Nat → Nat) (ac : Nat → ClassId) (g : Int32 → Int32 → (St) → Option (St)) (r : St) : Prop := ∀ (x1 : Int32) (x2 : Int32) (s0 : St) (H : Heap) (locs : List Loc) (ls : Array Slot), g x1 x2 s0 = some r → va_P (dC, dI) vwCl (dw_X13 a ac s0) H → va_D A (dw_X13 a ac s0) → va_S A s.heap H locs → lv_has ls 6 [(0, .ref (a 0)), (1, .int x1), (2, .int x2)] → W p l e (headSpec ow_dm_X13_shorts ({ frames := 10, cells := 0, slots := 0, locals := 231 })).room s m args below meth c H locs 0 0 Q (F0 m 135 ls [])
def dj_X13_shorts_139 (p : Program) (l : Launch) (e : Env) (s : State) (m : MethodId) (args : Array Value) (below : List Frame) (meth : Method) (c : Code) (Q : State → Prop) (A : Nat → Prop) (dC : Nat → ClassId) (dI : Nat → Nat → Nat) (a : Nat → Nat) (ac : Nat → ClassId) (g : Int32 → Int32 → (St) → Option (St)) (r : St) : Prop := ∀ (x1 : Int32) (x2 : Int32) (s0 : St) (H : Heap) (locs : List Loc) (ls : Array Slot), g x1 x2 s0 = some r → va_P (dC, dI) vwCl (dw_X13 a ac s0) H → va_D A (dw_X13 a ac s0) → va_S A s.heap H locs → lv_has ls 6 [(0, .ref (a 0)), (1, .int x1), (2, .int x2)] → W p l e (headSpec ow_dm_X13_shorts ({ frames := 10, cells := 0, slots := 0, locals := 231 })).room s m args below meth c H locs 0 0 Q (F0 m 139 ls [])
def dj_X13_shorts_0 (p : Program) (l : Launch) (e : Env) (s : State) (m : MethodId) (args : Array Value) (below : List Frame) (meth : Method) (c : Code) (Q : State → Prop) (A : Nat → Prop) (dC : Nat → ClassId) (dI : Nat → Nat → Nat) (a : Nat → Nat) (ac : Nat → ClassId) (g : Int32 → Int32 → (St) → Option (St)) (r : St) : Prop := ∀ (v0 : Int32) (v1 : Int32) (s0 : St) (H : Heap) (locs : List Loc) (ls : Array Slot), g v0 v1 s0 = some r → va_P (dC, dI) vwCl (dw_X13 a ac s0) H → va_D A (dw_X13 a ac s0) → va_S A s.heap H locs → lv_has ls 6 [(0, .ref (a 0)), (1, .int v0), (2, .int v1)] → W p l e (headSpec ow_dm_X13_shorts ({ frames := 10, cells := 0, slots := 0, locals := 231 })).room s m args below meth c H locs 0 0 Q (F0 m 0 ls [])
set_option maxHeartbeats 40000000 in
set_option maxRecDepth 100000 in
theorem db_X13_shorts_341 {p : Program} {l : Launch} {e : Env} {s : State} {m : MethodId} {args : Array Value} {below : List Frame} {meth : Method} {c : Code} {Q : State → Prop} {A : Nat → Prop} {dC : Nat → ClassId} {dI : Nat → Nat → Nat} {a : Nat → Nat} {ac : Nat → ClassId} {n : Nat} {r : St} (C : nd_C p l s m args c A (dC, dI) cX13_shorts 6 RX13 ow_dm_X13_shorts (dk_X13 ac)) (K : nd_Kv p l e (headSpec ow_dm_X13_shorts ({ frames := 10, cells := 0, slots := 0, locals := 231 })).room s m args below meth c Q A (dC, dI) cX13_shorts (St) (dw_X13 a ac) r) : dj_X13_shorts_341 p l e s m args below meth c Q A dC dI a ac (df_X13_shorts_341 n) r := by
  obtain ⟨hlt, hx, hb, hml, hown, hts, hN, hA, hK⟩ := id C
  intro s0 H locs ls h hP hD hS hl
  unfold df_X13_shorts_341 at h
  exact K _ _ _ _ _ dX13_shorts_341 (Option.some.inj h).symm hP hD hS
set_option maxHeartbeats 40000000 in
set_option maxRecDepth 100000 in
theorem db_X13_shorts_287 {p : Program} {l : Launch} {e : Env} {s : State} {m : MethodId} {args : Array Value} {below : List Frame} {meth : Method} {c : Code} {Q : State → Prop} {A : Nat → Prop} {dC : Nat → ClassId} {dI : Nat → Nat → Nat} {a : Nat → Nat} {ac : Nat → ClassId} {n : Nat} {r : St} (C : nd_C p l s m args c A (dC, dI) cX13_shorts 6 RX13 ow_dm_X13_shorts (dk_X13 ac)) (K : nd_Kv p l e (headSpec ow_dm_X13_shorts ({ frames := 10, cells := 0, slots := 0, locals := 231 })).room s m args below meth c Q A (dC, dI) cX13_shorts (St) (dw_X13 a ac) r) : dj_X13_shorts_287 p l e s m args below meth c Q A dC dI a ac (df_X13_shorts_287 n) r := by
  obtain ⟨hlt, hx, hb, hml, hown, hts, hN, hA, hK⟩ := id C
  intro x2 x4 x5 s0 H locs ls h hP hD hS hl
  unfold df_X13_shorts_287 at h
  refine lv_aload_n hx hb dX13_shorts_287 rfl (lv_at hl 0 rfl) ?_
  refine lv_iload_n hx hb dX13_shorts_288 rfl (lv_at hl 1 rfl) ?_
  refine lv_iload hx hb dX13_shorts_289 (lv_at hl 2 rfl) ?_
  refine lv_iload hx hb dX13_shorts_291 (lv_at hl 3 rfl) ?_
  obtain ⟨s20, hq, h⟩ := nd_b1_e h
  have hPc := hP
  have hDc := hD
  have hKc := hK
  have hFc := nd_rs hD hS hA
  refine nd_cVv (As := [.int x2, .int x4, .int x5]) (rest := []) (w' := dw_X13 a ac s20) ⟨hx, hb, hml, hown, hts⟩ (fun sz => dm_X13_plainSix l hlt dC dI a ac n (x2) (x4) (x5) s0 hq sz) (cwV 3 hts gi_dm_X13_shorts_2 rfl rfl rfl (by decide +kernel) ⟨Nat.le_of_ble_eq_true rfl, Nat.le_of_ble_eq_true rfl⟩) hPc hDc hKc hS hA hN (va_recv hKc hPc (ci := 14) (q0 := 0) rfl rfl) rfl hl.1 rfl (Nat.le_of_ble_eq_true rfl) dX13_shorts_293 (fun H locs hP1 hD1 hk1 hS => ?_)
  have hP := hP1
  have hD := hD1.weaken (fun k q _ h => hFc q.1 h)
  refine lv_goto (tgt := 341) hx hb dX13_shorts_296 (by decide) ?_
  exact (db_X13_shorts_341 C K)  s20 _ _ _ h hP hD hS (lv_sub hl [] rfl)
set_option maxHeartbeats 40000000 in
set_option maxRecDepth 100000 in
theorem db_X13_shorts_221 {p : Program} {l : Launch} {e : Env} {s : State} {m : MethodId} {args : Array Value} {below : List Frame} {meth : Method} {c : Code} {Q : State → Prop} {A : Nat → Prop} {dC : Nat → ClassId} {dI : Nat → Nat → Nat} {a : Nat → Nat} {ac : Nat → ClassId} {n : Nat} {r : St} (C : nd_C p l s m args c A (dC, dI) cX13_shorts 6 RX13 ow_dm_X13_shorts (dk_X13 ac)) (K : nd_Kv p l e (headSpec ow_dm_X13_shorts ({ frames := 10, cells := 0, slots := 0, locals := 231 })).room s m args below meth c Q A (dC, dI) cX13_shorts (St) (dw_X13 a ac) r) : dj_X13_shorts_221 p l e s m args below meth c Q A dC dI a ac (df_X13_shorts_221 n) r := by
  obtain ⟨hlt, hx, hb, hml, hown, hts, hN, hA, hK⟩ := id C
  intro x1 x2 x3 x4 x5 s0 H locs ls h hP hD hS hl
  unfold df_X13_shorts_221 at h
  refine lv_aload_n hx hb dX13_shorts_221 rfl (lv_at hl 0 rfl) ?_
  obtain ⟨q12, s13, hq, h⟩ := nd_b2_e h
  have hPc := hP
  have hDc := hD
  have hKc := hK
  have hFc := nd_rs hD hS hA
  refine nd_cVi (As := []) (rest := []) (q := q12) (w' := dw_X13 a ac s13) ⟨hx, hb, hml, hown, hts⟩ (fun sz => dm_X13_comma l hlt dC dI a ac n  s0 hq sz) (cwV 0 hts gi_dm_X13_shorts_1 rfl rfl rfl (by decide +kernel) ⟨Nat.le_of_ble_eq_true rfl, Nat.le_of_ble_eq_true rfl⟩) hPc hDc hKc hS hA hN (va_recv hKc hPc (ci := 14) (q0 := 0) rfl rfl) rfl hl.1 rfl (Nat.le_of_ble_eq_true rfl) dX13_shorts_222 (fun H locs hP1 hD1 hk1 hS => ?_)
  have hP := hP1
  have hD := hD1.weaken (fun k q _ h => hFc q.1 h)
  refine lv_if_ne (tgt := 229) hx hb dX13_shorts_225 (by decide) (fun c15 => ?_) (fun c15 => ?_)
  · have h := nd_neg h c15
    refine lv_iload_n hx hb dX13_shorts_229 rfl (lv_at hl 3 rfl) ?_
    refine lv_if_eq (tgt := 244) hx hb dX13_shorts_230 (by decide) (fun c16 => ?_) (fun c16 => ?_)
    · have h := nd_pos h c16
      refine lv_iload_n hx hb dX13_shorts_244 rfl (lv_at hl 1 rfl) ?_
      refine lv_bipush (v := 28) hx hb dX13_shorts_245 (by decide) ?_
      refine lv_icmp_ne (tgt := 276) hx hb dX13_shorts_247 (by decide) (fun c17 => ?_) (fun c17 => ?_)
      · have h := nd_neg h c17
        refine lv_iload_n hx hb dX13_shorts_276 rfl (lv_at hl 1 rfl) ?_
        refine lv_bipush (v := 17) hx hb dX13_shorts_277 (by decide) ?_
        refine lv_icmp_eq (tgt := 287) hx hb dX13_shorts_279 (by decide) (fun c18 => ?_) (fun c18 => ?_)
        · have h := nd_pos h c18
          exact (db_X13_shorts_287 C K) (x2) (x4) (x5) s13 _ _ _ h hP hD hS (lv_sub hl [0, 2, 4, 5] rfl)
        · have h := nd_neg h c18
          refine lv_iload hx hb dX13_shorts_282 (lv_at hl 5 rfl) ?_
          refine lv_if_eq (tgt := 299) hx hb dX13_shorts_284 (by decide) (fun c22 => ?_) (fun c22 => ?_)
          · have h := nd_pos h c22
            refine lv_iload_n hx hb dX13_shorts_299 rfl (lv_at hl 1 rfl) ?_
            refine lv_bipush (v := 25) hx hb dX13_shorts_300 (by decide) ?_
            refine lv_icmp_ne (tgt := 333) hx hb dX13_shorts_302 (by decide) (fun c23 => ?_) (fun c23 => ?_)
            · have h := nd_neg h c23
              refine lv_aload_n hx hb dX13_shorts_333 rfl (lv_at hl 0 rfl) ?_
              refine lv_iload_n hx hb dX13_shorts_334 rfl (lv_at hl 1 rfl) ?_
              refine lv_iload_n hx hb dX13_shorts_335 rfl (lv_at hl 2 rfl) ?_
              refine lv_iload hx hb dX13_shorts_336 (lv_at hl 4 rfl) ?_
              obtain ⟨s25, hq, h⟩ := nd_b1_e h
              have hPc := hP
              have hDc := hD
              have hKc := hK
              have hFc := nd_rs hD hS hA
              refine nd_cVv (As := [.int x1, .int x2, .int x4]) (rest := []) (w' := dw_X13 a ac s25) ⟨hx, hb, hml, hown, hts⟩ (fun sz => dm_X13_stacked l hlt dC dI a ac n (x1) (x2) (x4) s13 hq sz) (cwV 3 hts gi_dm_X13_shorts_3 rfl rfl rfl (by decide +kernel) ⟨Nat.le_of_ble_eq_true rfl, Nat.le_of_ble_eq_true rfl⟩) hPc hDc hKc hS hA hN (va_recv hKc hPc (ci := 14) (q0 := 0) rfl rfl) rfl hl.1 rfl (Nat.le_of_ble_eq_true rfl) dX13_shorts_338 (fun H locs hP1 hD1 hk1 hS => ?_)
              have hP := hP1
              have hD := hD1.weaken (fun k q _ h => hFc q.1 h)
              exact (db_X13_shorts_341 C K)  s25 _ _ _ h hP hD hS (lv_sub hl [] rfl)
            · have h := nd_pos h c23
              refine lv_aload_n hx hb dX13_shorts_305 rfl (lv_at hl 0 rfl) ?_
              refine lv_iload_n hx hb dX13_shorts_306 rfl (lv_at hl 2 rfl) ?_
              refine lv_iload hx hb dX13_shorts_307 (lv_at hl 4 rfl) ?_
              refine lv_bipush (v := 7) hx hb dX13_shorts_309 (by decide) ?_
              refine lv_ishl hx hb dX13_shorts_311 ?_
              refine lv_ior hx hb dX13_shorts_312 ?_
              refine lv_aload_n hx hb dX13_shorts_313 rfl (lv_at hl 0 rfl) ?_
              refine lv_iconst (v := 0) hx hb dX13_shorts_314 (by decide) ?_
              refine lv_bipush (v := 31) hx hb dX13_shorts_315 (by decide) ?_
              refine lv_iconst (v := 1) hx hb dX13_shorts_317 (by decide) ?_
              obtain ⟨q27, s28, hq, h⟩ := nd_b2_e h
              have hPc := hP
              have hDc := hD
              have hKc := hK
              have hFc := nd_rs hD hS hA
              refine nd_cVi (As := [.int 0, .int 31, .int 1]) (rest := [.int (x2 ||| ((x4 : Int32) <<< ((7 : Int32) &&& 31))), .ref (a 0)]) (q := q27) (w' := dw_X13 a ac s28) ⟨hx, hb, hml, hown, hts⟩ (fun sz => dm_X13_within l hlt dC dI a ac n (0) (31) (1) s13 hq sz) (cwV 3 hts gi_dm_X13_shorts_4 rfl rfl rfl (by decide +kernel) ⟨Nat.le_of_ble_eq_true rfl, Nat.le_of_ble_eq_true rfl⟩) hPc hDc hKc hS hA hN (va_recv hKc hPc (ci := 14) (q0 := 0) rfl rfl) rfl hl.1 rfl (Nat.le_of_ble_eq_true rfl) dX13_shorts_318 (fun H locs hP1 hD1 hk1 hS => ?_)
              have hP := hP1
              have hD := hD1.weaken (fun k q _ h => hFc q.1 h)
              refine lv_bipush (v := 31) hx hb dX13_shorts_321 (by decide) ?_
              refine lv_iand hx hb dX13_shorts_323 ?_
              refine lv_iconst (v := 2) hx hb dX13_shorts_324 (by decide) ?_
              refine lv_ishl hx hb dX13_shorts_325 ?_
              refine lv_ior hx hb dX13_shorts_326 ?_
              obtain ⟨s31, hq, h⟩ := nd_b1_e h
              have hPc := hP
              have hDc := hD
              have hKc := hK
              have hFc := nd_rs hD hS hA
              refine nd_cVv (As := [.int ((x2 ||| ((x4 : Int32) <<< ((7 : Int32) &&& 31))) ||| (((q27 &&& 31) : Int32) <<< ((2 : Int32) &&& 31)))]) (rest := []) (w' := dw_X13 a ac s31) ⟨hx, hb, hml, hown, hts⟩ (fun sz => dm_X13_half l hlt dC dI a ac n (((x2 ||| ((x4 : Int32) <<< ((7 : Int32) &&& 31))) ||| (((q27 &&& 31) : Int32) <<< ((2 : Int32) &&& 31)))) s28 hq sz) (cwV 1 hts gi_dm_X13_shorts_5 rfl rfl rfl (by decide +kernel) ⟨Nat.le_of_ble_eq_true rfl, Nat.le_of_ble_eq_true rfl⟩) hPc hDc hKc hS hA hN (va_recv hKc hPc (ci := 14) (q0 := 0) rfl rfl) rfl hl.1 rfl (Nat.le_of_ble_eq_true rfl) dX13_shorts_327 (fun H locs hP1 hD1 hk1 hS => ?_)
              have hP := hP1
              have hD := hD1.weaken (fun k q _ h => hFc q.1 h)
              refine lv_goto (tgt := 341) hx hb dX13_shorts_330 (by decide) ?_
              exact (db_X13_shorts_341 C K)  s31 _ _ _ h hP hD hS (lv_sub hl [] rfl)
          · have h := nd_neg h c22
            exact (db_X13_shorts_287 C K) (x2) (x4) (x5) s13 _ _ _ h hP hD hS (lv_sub hl [0, 2, 4, 5] rfl)
      · have h := nd_pos h c17
        refine lv_aload_n hx hb dX13_shorts_250 rfl (lv_at hl 0 rfl) ?_
        refine lv_iload_n hx hb dX13_shorts_251 rfl (lv_at hl 2 rfl) ?_
        refine lv_iload hx hb dX13_shorts_252 (lv_at hl 4 rfl) ?_
        refine lv_bipush (v := 7) hx hb dX13_shorts_254 (by decide) ?_
        refine lv_ishl hx hb dX13_shorts_256 ?_
        refine lv_ior hx hb dX13_shorts_257 ?_
        refine lv_aload_n hx hb dX13_shorts_258 rfl (lv_at hl 0 rfl) ?_
        refine lv_aload_n hx hb dX13_shorts_259 rfl (lv_at hl 0 rfl) ?_
        obtain ⟨q33, s34, hq, h⟩ := nd_b2_e h
        have hPc := hP
        have hDc := hD
        have hKc := hK
        have hFc := nd_rs hD hS hA
        refine nd_cVi (As := []) (rest := [.ref (a 0), .int (x2 ||| ((x4 : Int32) <<< ((7 : Int32) &&& 31))), .ref (a 0)]) (q := q33) (w' := dw_X13 a ac s34) ⟨hx, hb, hml, hown, hts⟩ (fun sz => dm_X13_taken l hlt dC dI a ac n  s13 hq sz) (cwV 0 hts gi_dm_X13_shorts_0 rfl rfl rfl (by decide +kernel) ⟨Nat.le_of_ble_eq_true rfl, Nat.le_of_ble_eq_true rfl⟩) hPc hDc hKc hS hA hN (va_recv hKc hPc (ci := 14) (q0 := 0) rfl rfl) rfl hl.1 rfl (Nat.le_of_ble_eq_true rfl) dX13_shorts_260 (fun H locs hP1 hD1 hk1 hS => ?_)
        have hP := hP1
        have hD := hD1.weaken (fun k q _ h => hFc q.1 h)
        refine lv_iconst (v := 0) hx hb dX13_shorts_263 (by decide) ?_
        obtain ⟨q36, s37, hq, h⟩ := nd_b2_e h
        have hPc := hP
        have hDc := hD
        have hKc := hK
        have hFc := nd_rs hD hS hA
        refine nd_cVi (As := [.int q33, .int 0]) (rest := [.int (x2 ||| ((x4 : Int32) <<< ((7 : Int32) &&& 31))), .ref (a 0)]) (q := q36) (w' := dw_X13 a ac s37) ⟨hx, hb, hml, hown, hts⟩ (fun sz => dm_X13_not l hlt dC dI a ac n (q33) (0) s34 hq sz) (cwV 2 hts gi_dm_X13_shorts_6 rfl rfl rfl (by decide +kernel) ⟨Nat.le_of_ble_eq_true rfl, Nat.le_of_ble_eq_true rfl⟩) hPc hDc hKc hS hA hN (va_recv hKc hPc (ci := 14) (q0 := 0) rfl rfl) rfl hl.1 rfl (Nat.le_of_ble_eq_true rfl) dX13_shorts_264 (fun H locs hP1 hD1 hk1 hS => ?_)
        have hP := hP1
        have hD := hD1.weaken (fun k q _ h => hFc q.1 h)
        refine lv_iconst (v := 2) hx hb dX13_shorts_267 (by decide) ?_
        refine lv_ishl hx hb dX13_shorts_268 ?_
        refine lv_ior hx hb dX13_shorts_269 ?_
        obtain ⟨s40, hq, h⟩ := nd_b1_e h
        have hPc := hP
        have hDc := hD
        have hKc := hK
        have hFc := nd_rs hD hS hA
        refine nd_cVv (As := [.int ((x2 ||| ((x4 : Int32) <<< ((7 : Int32) &&& 31))) ||| ((q36 : Int32) <<< ((2 : Int32) &&& 31)))]) (rest := []) (w' := dw_X13 a ac s40) ⟨hx, hb, hml, hown, hts⟩ (fun sz => dm_X13_half l hlt dC dI a ac n (((x2 ||| ((x4 : Int32) <<< ((7 : Int32) &&& 31))) ||| ((q36 : Int32) <<< ((2 : Int32) &&& 31)))) s37 hq sz) (cwV 1 hts gi_dm_X13_shorts_5 rfl rfl rfl (by decide +kernel) ⟨Nat.le_of_ble_eq_true rfl, Nat.le_of_ble_eq_true rfl⟩) hPc hDc hKc hS hA hN (va_recv hKc hPc (ci := 14) (q0 := 0) rfl rfl) rfl hl.1 rfl (Nat.le_of_ble_eq_true rfl) dX13_shorts_270 (fun H locs hP1 hD1 hk1 hS => ?_)
        have hP := hP1
        have hD := hD1.weaken (fun k q _ h => hFc q.1 h)
        refine lv_goto (tgt := 341) hx hb dX13_shorts_273 (by decide) ?_
        exact (db_X13_shorts_341 C K)  s40 _ _ _ h hP hD hS (lv_sub hl [] rfl)
    · have h := nd_neg h c16
      refine lv_aload_n hx hb dX13_shorts_233 rfl (lv_at hl 0 rfl) ?_
      refine lv_iload_n hx hb dX13_shorts_234 rfl (lv_at hl 1 rfl) ?_
      refine lv_iload_n hx hb dX13_shorts_235 rfl (lv_at hl 2 rfl) ?_
      refine lv_iload hx hb dX13_shorts_236 (lv_at hl 4 rfl) ?_
      obtain ⟨s43, hq, h⟩ := nd_b1_e h
      have hPc := hP
      have hDc := hD
      have hKc := hK
      have hFc := nd_rs hD hS hA
      refine nd_cVv (As := [.int x1, .int x2, .int x4]) (rest := []) (w' := dw_X13 a ac s43) ⟨hx, hb, hml, hown, hts⟩ (fun sz => dm_X13_smalls l hlt dC dI a ac n (x1) (x2) (x4) s13 hq sz) (cwV 3 hts gi_dm_X13_shorts_7 rfl rfl rfl (by decide +kernel) ⟨Nat.le_of_ble_eq_true rfl, Nat.le_of_ble_eq_true rfl⟩) hPc hDc hKc hS hA hN (va_recv hKc hPc (ci := 14) (q0 := 0) rfl rfl) rfl hl.1 rfl (Nat.le_of_ble_eq_true rfl) dX13_shorts_238 (fun H locs hP1 hD1 hk1 hS => ?_)
      have hP := hP1
      have hD := hD1.weaken (fun k q _ h => hFc q.1 h)
      refine lv_goto (tgt := 341) hx hb dX13_shorts_241 (by decide) ?_
      exact (db_X13_shorts_341 C K)  s43 _ _ _ h hP hD hS (lv_sub hl [] rfl)
  · have h := nd_pos h c15
    exact K _ _ _ _ _ dX13_shorts_228 (Option.some.inj h).symm hP hD hS
set_option maxHeartbeats 40000000 in
set_option maxRecDepth 100000 in
theorem db_X13_shorts_206 {p : Program} {l : Launch} {e : Env} {s : State} {m : MethodId} {args : Array Value} {below : List Frame} {meth : Method} {c : Code} {Q : State → Prop} {A : Nat → Prop} {dC : Nat → ClassId} {dI : Nat → Nat → Nat} {a : Nat → Nat} {ac : Nat → ClassId} {n : Nat} {r : St} (C : nd_C p l s m args c A (dC, dI) cX13_shorts 6 RX13 ow_dm_X13_shorts (dk_X13 ac)) (K : nd_Kv p l e (headSpec ow_dm_X13_shorts ({ frames := 10, cells := 0, slots := 0, locals := 231 })).room s m args below meth c Q A (dC, dI) cX13_shorts (St) (dw_X13 a ac) r) : dj_X13_shorts_206 p l e s m args below meth c Q A dC dI a ac (df_X13_shorts_206 n) r := by
  obtain ⟨hlt, hx, hb, hml, hown, hts, hN, hA, hK⟩ := id C
  intro x1 x2 x3 x4 y0 s0 H locs ls h hP hD hS hl
  unfold df_X13_shorts_206 at h
  refine lv_istore (lv' := [(5, .int y0), (0, .ref (a 0)), (1, .int x1), (2, .int x2), (3, .int x3), (4, .int x4)]) hx hb dX13_shorts_206 hl (by decide) rfl (fun ls hl => ?_)
  refine lv_iload hx hb dX13_shorts_208 (lv_at hl 0 rfl) ?_
  refine lv_if_eq (tgt := 221) hx hb dX13_shorts_210 (by decide) (fun c11 => ?_) (fun c11 => ?_)
  · have h := nd_pos h c11
    exact (db_X13_shorts_221 C K) (x1) (x2) (x3) (x4) (y0) s0 _ _ _ h hP hD hS (lv_sub hl [1, 2, 3, 4, 5, 0] rfl)
  · have h := nd_neg h c11
    refine lv_aload_n hx hb dX13_shorts_213 rfl (lv_at hl 1 rfl) ?_
    refine lv_iload hx hb dX13_shorts_214 (lv_at hl 5 rfl) ?_
    refine lv_iconst (v := 2) hx hb dX13_shorts_216 (by decide) ?_
    obtain ⟨q45, s46, hq, h⟩ := nd_b2_e h
    have hPc := hP
    have hDc := hD
    have hKc := hK
    have hFc := nd_rs hD hS hA
    refine nd_cVi (As := [.int x4, .int 2]) (rest := []) (q := q45) (w' := dw_X13 a ac s46) ⟨hx, hb, hml, hown, hts⟩ (fun sz => dm_X13_not l hlt dC dI a ac n (x4) (2) s0 hq sz) (cwV 2 hts gi_dm_X13_shorts_6 rfl rfl rfl (by decide +kernel) ⟨Nat.le_of_ble_eq_true rfl, Nat.le_of_ble_eq_true rfl⟩) hPc hDc hKc hS hA hN (va_recv hKc hPc (ci := 14) (q0 := 0) rfl rfl) rfl hl.1 rfl (Nat.le_of_ble_eq_true rfl) dX13_shorts_217 (fun H locs hP1 hD1 hk1 hS => ?_)
    have hP := hP1
    have hD := hD1.weaken (fun k q _ h => hFc q.1 h)
    refine lv_pop hx hb dX13_shorts_220 rfl ?_
    exact (db_X13_shorts_221 C K) (x1) (x2) (x3) (x4) (y0) s46 _ _ _ h hP hD hS (lv_sub hl [1, 2, 3, 4, 5, 0] rfl)
set_option maxHeartbeats 40000000 in
set_option maxRecDepth 100000 in
theorem db_X13_shorts_195 {p : Program} {l : Launch} {e : Env} {s : State} {m : MethodId} {args : Array Value} {below : List Frame} {meth : Method} {c : Code} {Q : State → Prop} {A : Nat → Prop} {dC : Nat → ClassId} {dI : Nat → Nat → Nat} {a : Nat → Nat} {ac : Nat → ClassId} {n : Nat} {r : St} (C : nd_C p l s m args c A (dC, dI) cX13_shorts 6 RX13 ow_dm_X13_shorts (dk_X13 ac)) (K : nd_Kv p l e (headSpec ow_dm_X13_shorts ({ frames := 10, cells := 0, slots := 0, locals := 231 })).room s m args below meth c Q A (dC, dI) cX13_shorts (St) (dw_X13 a ac) r) : dj_X13_shorts_195 p l e s m args below meth c Q A dC dI a ac (df_X13_shorts_195 n) r := by
  obtain ⟨hlt, hx, hb, hml, hown, hts, hN, hA, hK⟩ := id C
  intro x1 x2 x3 x4 s0 H locs ls h hP hD hS hl
  unfold df_X13_shorts_195 at h
  refine lv_iload_n hx hb dX13_shorts_195 rfl (lv_at hl 1 rfl) ?_
  refine lv_bipush (v := 18) hx hb dX13_shorts_196 (by decide) ?_
  refine lv_icmp_ne (tgt := 205) hx hb dX13_shorts_198 (by decide) (fun c10 => ?_) (fun c10 => ?_)
  · have h := nd_neg h c10
    refine lv_iconst (v := 0) hx hb dX13_shorts_205 (by decide) ?_
    exact (db_X13_shorts_206 C K) (x1) (x2) (x3) (x4) (0) s0 _ _ _ h hP hD hS (lv_sub hl [0, 1, 2, 3, 4] rfl)
  · have h := nd_pos h c10
    refine lv_iconst (v := 1) hx hb dX13_shorts_201 (by decide) ?_
    refine lv_goto (tgt := 206) hx hb dX13_shorts_202 (by decide) ?_
    exact (db_X13_shorts_206 C K) (x1) (x2) (x3) (x4) (1) s0 _ _ _ h hP hD hS (lv_sub hl [0, 1, 2, 3, 4] rfl)
set_option maxHeartbeats 40000000 in
set_option maxRecDepth 100000 in
theorem db_X13_shorts_156 {p : Program} {l : Launch} {e : Env} {s : State} {m : MethodId} {args : Array Value} {below : List Frame} {meth : Method} {c : Code} {Q : State → Prop} {A : Nat → Prop} {dC : Nat → ClassId} {dI : Nat → Nat → Nat} {a : Nat → Nat} {ac : Nat → ClassId} {n : Nat} {r : St} (C : nd_C p l s m args c A (dC, dI) cX13_shorts 6 RX13 ow_dm_X13_shorts (dk_X13 ac)) (K : nd_Kv p l e (headSpec ow_dm_X13_shorts ({ frames := 10, cells := 0, slots := 0, locals := 231 })).room s m args below meth c Q A (dC, dI) cX13_shorts (St) (dw_X13 a ac) r) : dj_X13_shorts_156 p l e s m args below meth c Q A dC dI a ac (df_X13_shorts_156 n) r := by
  obtain ⟨hlt, hx, hb, hml, hown, hts, hN, hA, hK⟩ := id C
  intro x1 x2 x3 y0 s0 H locs ls h hP hD hS hl
  unfold df_X13_shorts_156 at h
  refine lv_istore (lv' := [(4, .int y0), (0, .ref (a 0)), (1, .int x1), (2, .int x2), (3, .int x3)]) hx hb dX13_shorts_156 hl (by decide) rfl (fun ls hl => ?_)
  refine lv_iload_n hx hb dX13_shorts_158 rfl (lv_at hl 2 rfl) ?_
  refine lv_bipush (v := 27) hx hb dX13_shorts_159 (by decide) ?_
  refine lv_icmp_ne (tgt := 181) hx hb dX13_shorts_161 (by decide) (fun c8 => ?_) (fun c8 => ?_)
  · have h := nd_neg h c8
    refine lv_iload_n hx hb dX13_shorts_181 rfl (lv_at hl 2 rfl) ?_
    refine lv_bipush (v := 26) hx hb dX13_shorts_182 (by decide) ?_
    refine lv_icmp_ne (tgt := 195) hx hb dX13_shorts_184 (by decide) (fun c9 => ?_) (fun c9 => ?_)
    · have h := nd_neg h c9
      exact (db_X13_shorts_195 C K) (x1) (x2) (x3) (y0) s0 _ _ _ h hP hD hS (lv_sub hl [1, 2, 3, 4, 0] rfl)
    · have h := nd_pos h c9
      refine lv_aload_n hx hb dX13_shorts_187 rfl (lv_at hl 1 rfl) ?_
      refine lv_iload hx hb dX13_shorts_188 (lv_at hl 0 rfl) ?_
      refine lv_iconst (v := 0) hx hb dX13_shorts_190 (by decide) ?_
      obtain ⟨q48, s49, hq, h⟩ := nd_b2_e h
      have hPc := hP
      have hDc := hD
      have hKc := hK
      have hFc := nd_rs hD hS hA
      refine nd_cVi (As := [.int y0, .int 0]) (rest := []) (q := q48) (w' := dw_X13 a ac s49) ⟨hx, hb, hml, hown, hts⟩ (fun sz => dm_X13_not l hlt dC dI a ac n (y0) (0) s0 hq sz) (cwV 2 hts gi_dm_X13_shorts_6 rfl rfl rfl (by decide +kernel) ⟨Nat.le_of_ble_eq_true rfl, Nat.le_of_ble_eq_true rfl⟩) hPc hDc hKc hS hA hN (va_recv hKc hPc (ci := 14) (q0 := 0) rfl rfl) rfl hl.1 rfl (Nat.le_of_ble_eq_true rfl) dX13_shorts_191 (fun H locs hP1 hD1 hk1 hS => ?_)
      have hP := hP1
      have hD := hD1.weaken (fun k q _ h => hFc q.1 h)
      refine lv_pop hx hb dX13_shorts_194 rfl ?_
      exact (db_X13_shorts_195 C K) (x1) (x2) (x3) (y0) s49 _ _ _ h hP hD hS (lv_sub hl [1, 2, 3, 4, 0] rfl)
  · have h := nd_pos h c8
    refine lv_aload_n hx hb dX13_shorts_164 rfl (lv_at hl 1 rfl) ?_
    refine lv_iload_n hx hb dX13_shorts_165 rfl (lv_at hl 3 rfl) ?_
    refine lv_aload_n hx hb dX13_shorts_166 rfl (lv_at hl 1 rfl) ?_
    refine lv_iload hx hb dX13_shorts_167 (lv_at hl 0 rfl) ?_
    refine lv_iconst (v := 0) hx hb dX13_shorts_169 (by decide) ?_
    obtain ⟨q51, s52, hq, h⟩ := nd_b2_e h
    have hPc := hP
    have hDc := hD
    have hKc := hK
    have hFc := nd_rs hD hS hA
    refine nd_cVi (As := [.int y0, .int 0]) (rest := [.int x2, .ref (a 0)]) (q := q51) (w' := dw_X13 a ac s52) ⟨hx, hb, hml, hown, hts⟩ (fun sz => dm_X13_not l hlt dC dI a ac n (y0) (0) s0 hq sz) (cwV 2 hts gi_dm_X13_shorts_6 rfl rfl rfl (by decide +kernel) ⟨Nat.le_of_ble_eq_true rfl, Nat.le_of_ble_eq_true rfl⟩) hPc hDc hKc hS hA hN (va_recv hKc hPc (ci := 14) (q0 := 0) rfl rfl) rfl hl.1 rfl (Nat.le_of_ble_eq_true rfl) dX13_shorts_170 (fun H locs hP1 hD1 hk1 hS => ?_)
    have hP := hP1
    have hD := hD1.weaken (fun k q _ h => hFc q.1 h)
    refine lv_bipush (v := 7) hx hb dX13_shorts_173 (by decide) ?_
    refine lv_ishl hx hb dX13_shorts_175 ?_
    refine lv_ior hx hb dX13_shorts_176 ?_
    obtain ⟨s55, hq, h⟩ := nd_b1_e h
    have hPc := hP
    have hDc := hD
    have hKc := hK
    have hFc := nd_rs hD hS hA
    refine nd_cVv (As := [.int (x2 ||| ((q51 : Int32) <<< ((7 : Int32) &&& 31)))]) (rest := []) (w' := dw_X13 a ac s55) ⟨hx, hb, hml, hown, hts⟩ (fun sz => dm_X13_half l hlt dC dI a ac n ((x2 ||| ((q51 : Int32) <<< ((7 : Int32) &&& 31)))) s52 hq sz) (cwV 1 hts gi_dm_X13_shorts_5 rfl rfl rfl (by decide +kernel) ⟨Nat.le_of_ble_eq_true rfl, Nat.le_of_ble_eq_true rfl⟩) hPc hDc hKc hS hA hN (va_recv hKc hPc (ci := 14) (q0 := 0) rfl rfl) rfl hl.1 rfl (Nat.le_of_ble_eq_true rfl) dX13_shorts_177 (fun H locs hP1 hD1 hk1 hS => ?_)
    have hP := hP1
    have hD := hD1.weaken (fun k q _ h => hFc q.1 h)
    exact K _ _ _ _ _ dX13_shorts_180 (Option.some.inj h).symm hP hD hS
set_option maxHeartbeats 40000000 in
set_option maxRecDepth 100000 in
theorem db_X13_shorts_140 {p : Program} {l : Launch} {e : Env} {s : State} {m : MethodId} {args : Array Value} {below : List Frame} {meth : Method} {c : Code} {Q : State → Prop} {A : Nat → Prop} {dC : Nat → ClassId} {dI : Nat → Nat → Nat} {a : Nat → Nat} {ac : Nat → ClassId} {n : Nat} {r : St} (C : nd_C p l s m args c A (dC, dI) cX13_shorts 6 RX13 ow_dm_X13_shorts (dk_X13 ac)) (K : nd_Kv p l e (headSpec ow_dm_X13_shorts ({ frames := 10, cells := 0, slots := 0, locals := 231 })).room s m args below meth c Q A (dC, dI) cX13_shorts (St) (dw_X13 a ac) r) : dj_X13_shorts_140 p l e s m args below meth c Q A dC dI a ac (df_X13_shorts_140 n) r := by
  obtain ⟨hlt, hx, hb, hml, hown, hts, hN, hA, hK⟩ := id C
  intro x1 x2 y0 s0 H locs ls h hP hD hS hl
  unfold df_X13_shorts_140 at h
  refine lv_istore_n (lv' := [(3, .int y0), (0, .ref (a 0)), (1, .int x1), (2, .int x2)]) hx hb dX13_shorts_140 rfl hl (by decide) rfl (fun ls hl => ?_)
  refine lv_iload_n hx hb dX13_shorts_141 rfl (lv_at hl 0 rfl) ?_
  refine lv_if_eq (tgt := 152) hx hb dX13_shorts_142 (by decide) (fun c4 => ?_) (fun c4 => ?_)
  · have h := nd_pos h c4
    refine lv_aload_n hx hb dX13_shorts_152 rfl (lv_at hl 1 rfl) ?_
    obtain ⟨q5, s6, hq, h⟩ := nd_b2_e h
    have hPc := hP
    have hDc := hD
    have hKc := hK
    have hFc := nd_rs hD hS hA
    refine nd_cVi (As := []) (rest := []) (q := q5) (w' := dw_X13 a ac s6) ⟨hx, hb, hml, hown, hts⟩ (fun sz => dm_X13_taken l hlt dC dI a ac n  s0 hq sz) (cwV 0 hts gi_dm_X13_shorts_0 rfl rfl rfl (by decide +kernel) ⟨Nat.le_of_ble_eq_true rfl, Nat.le_of_ble_eq_true rfl⟩) hPc hDc hKc hS hA hN (va_recv hKc hPc (ci := 14) (q0 := 0) rfl rfl) rfl hl.1 rfl (Nat.le_of_ble_eq_true rfl) dX13_shorts_153 (fun H locs hP1 hD1 hk1 hS => ?_)
    have hP := hP1
    have hD := hD1.weaken (fun k q _ h => hFc q.1 h)
    exact (db_X13_shorts_156 C K) (x1) (x2) (y0) (q5) s6 _ _ _ h hP hD hS (lv_sub hl [1, 2, 3, 0] rfl)
  · have h := nd_neg h c4
    refine lv_aload_n hx hb dX13_shorts_145 rfl (lv_at hl 1 rfl) ?_
    obtain ⟨q57, s58, hq, h⟩ := nd_b2_e h
    have hPc := hP
    have hDc := hD
    have hKc := hK
    have hFc := nd_rs hD hS hA
    refine nd_cVi (As := []) (rest := []) (q := q57) (w' := dw_X13 a ac s58) ⟨hx, hb, hml, hown, hts⟩ (fun sz => dm_X13_near8 l hlt dC dI a ac n  s0 hq sz) (cwV 0 hts gi_dm_X13_shorts_8 rfl rfl rfl (by decide +kernel) ⟨Nat.le_of_ble_eq_true rfl, Nat.le_of_ble_eq_true rfl⟩) hPc hDc hKc hS hA hN (va_recv hKc hPc (ci := 14) (q0 := 0) rfl rfl) rfl hl.1 rfl (Nat.le_of_ble_eq_true rfl) dX13_shorts_146 (fun H locs hP1 hD1 hk1 hS => ?_)
    have hP := hP1
    have hD := hD1.weaken (fun k q _ h => hFc q.1 h)
    refine lv_goto (tgt := 156) hx hb dX13_shorts_149 (by decide) ?_
    exact (db_X13_shorts_156 C K) (x1) (x2) (y0) (q57) s58 _ _ _ h hP hD hS (lv_sub hl [1, 2, 3, 0] rfl)
set_option maxHeartbeats 40000000 in
set_option maxRecDepth 100000 in
theorem db_X13_shorts_135 {p : Program} {l : Launch} {e : Env} {s : State} {m : MethodId} {args : Array Value} {below : List Frame} {meth : Method} {c : Code} {Q : State → Prop} {A : Nat → Prop} {dC : Nat → ClassId} {dI : Nat → Nat → Nat} {a : Nat → Nat} {ac : Nat → ClassId} {n : Nat} {r : St} (C : nd_C p l s m args c A (dC, dI) cX13_shorts 6 RX13 ow_dm_X13_shorts (dk_X13 ac)) (K : nd_Kv p l e (headSpec ow_dm_X13_shorts ({ frames := 10, cells := 0, slots := 0, locals := 231 })).room s m args below meth c Q A (dC, dI) cX13_shorts (St) (dw_X13 a ac) r) : dj_X13_shorts_135 p l e s m args below meth c Q A dC dI a ac (df_X13_shorts_135 n) r := by
  obtain ⟨hlt, hx, hb, hml, hown, hts, hN, hA, hK⟩ := id C
  intro x1 x2 s0 H locs ls h hP hD hS hl
  unfold df_X13_shorts_135 at h
  refine lv_iconst (v := 1) hx hb dX13_shorts_135 (by decide) ?_
  refine lv_goto (tgt := 140) hx hb dX13_shorts_136 (by decide) ?_
  exact (db_X13_shorts_140 C K) (x1) (x2) (1) s0 _ _ _ h hP hD hS (lv_sub hl [0, 1, 2] rfl)
set_option maxHeartbeats 40000000 in
set_option maxRecDepth 100000 in
theorem db_X13_shorts_139 {p : Program} {l : Launch} {e : Env} {s : State} {m : MethodId} {args : Array Value} {below : List Frame} {meth : Method} {c : Code} {Q : State → Prop} {A : Nat → Prop} {dC : Nat → ClassId} {dI : Nat → Nat → Nat} {a : Nat → Nat} {ac : Nat → ClassId} {n : Nat} {r : St} (C : nd_C p l s m args c A (dC, dI) cX13_shorts 6 RX13 ow_dm_X13_shorts (dk_X13 ac)) (K : nd_Kv p l e (headSpec ow_dm_X13_shorts ({ frames := 10, cells := 0, slots := 0, locals := 231 })).room s m args below meth c Q A (dC, dI) cX13_shorts (St) (dw_X13 a ac) r) : dj_X13_shorts_139 p l e s m args below meth c Q A dC dI a ac (df_X13_shorts_139 n) r := by
  obtain ⟨hlt, hx, hb, hml, hown, hts, hN, hA, hK⟩ := id C
  intro x1 x2 s0 H locs ls h hP hD hS hl
  unfold df_X13_shorts_139 at h
  refine lv_iconst (v := 0) hx hb dX13_shorts_139 (by decide) ?_
  exact (db_X13_shorts_140 C K) (x1) (x2) (0) s0 _ _ _ h hP hD hS (lv_sub hl [0, 1, 2] rfl)
set_option maxHeartbeats 40000000 in
set_option maxRecDepth 100000 in
theorem db_X13_shorts_0 {p : Program} {l : Launch} {e : Env} {s : State} {m : MethodId} {args : Array Value} {below : List Frame} {meth : Method} {c : Code} {Q : State → Prop} {A : Nat → Prop} {dC : Nat → ClassId} {dI : Nat → Nat → Nat} {a : Nat → Nat} {ac : Nat → ClassId} {n : Nat} {r : St} (C : nd_C p l s m args c A (dC, dI) cX13_shorts 6 RX13 ow_dm_X13_shorts (dk_X13 ac)) (K : nd_Kv p l e (headSpec ow_dm_X13_shorts ({ frames := 10, cells := 0, slots := 0, locals := 231 })).room s m args below meth c Q A (dC, dI) cX13_shorts (St) (dw_X13 a ac) r) : dj_X13_shorts_0 p l e s m args below meth c Q A dC dI a ac (df_X13_shorts_0 n) r := by
  obtain ⟨hlt, hx, hb, hml, hown, hts, hN, hA, hK⟩ := id C
  intro v0 v1 s0 H locs ls h hP hD hS hl
  unfold df_X13_shorts_0 at h
  refine lv_iload_n hx hb dX13_shorts_0 rfl (lv_at hl 1 rfl) ?_
  refine lv_bipush (v := 19) hx hb dX13_shorts_1 (by decide) ?_
  refine lv_icmp_ne (tgt := 39) hx hb dX13_shorts_3 (by decide) (fun c1 => ?_) (fun c1 => ?_)
  · have h := nd_neg h c1
    refine lv_iload_n hx hb dX13_shorts_39 rfl (lv_at hl 1 rfl) ?_
    refine lv_bipush (v := 20) hx hb dX13_shorts_40 (by decide) ?_
    refine lv_icmp_ne (tgt := 117) hx hb dX13_shorts_42 (by decide) (fun c2 => ?_) (fun c2 => ?_)
    · have h := nd_neg h c2
      refine lv_iload_n hx hb dX13_shorts_117 rfl (lv_at hl 1 rfl) ?_
      refine lv_bipush (v := 16) hx hb dX13_shorts_118 (by decide) ?_
      refine lv_icmp_lt (tgt := 135) hx hb dX13_shorts_120 (by decide) (fun c3 => ?_) (fun c3 => ?_)
      · have h := nd_pos h c3
        exact (db_X13_shorts_135 C K) (v0) (v1) s0 _ _ _ h hP hD hS (lv_sub hl [0, 1, 2] rfl)
      · have h := nd_neg h c3
        refine lv_iload_n hx hb dX13_shorts_123 rfl (lv_at hl 1 rfl) ?_
        refine lv_bipush (v := 20) hx hb dX13_shorts_124 (by decide) ?_
        refine lv_icmp_le (tgt := 139) hx hb dX13_shorts_126 (by decide) (fun c60 => ?_) (fun c60 => ?_)
        · have h := nd_pos h c60
          exact (db_X13_shorts_139 C K) (v0) (v1) s0 _ _ _ h hP hD hS (lv_sub hl [0, 1, 2] rfl)
        · have h := nd_neg h c60
          refine lv_iload_n hx hb dX13_shorts_129 rfl (lv_at hl 1 rfl) ?_
          refine lv_bipush (v := 25) hx hb dX13_shorts_130 (by decide) ?_
          refine lv_icmp_ge (tgt := 139) hx hb dX13_shorts_132 (by decide) (fun c61 => ?_) (fun c61 => ?_)
          · have h := nd_pos h c61
            exact (db_X13_shorts_139 C K) (v0) (v1) s0 _ _ _ h hP hD hS (lv_sub hl [0, 1, 2] rfl)
          · have h := nd_neg h c61
            exact (db_X13_shorts_135 C K) (v0) (v1) s0 _ _ _ h hP hD hS (lv_sub hl [0, 1, 2] rfl)
    · have h := nd_pos h c2
      refine lv_aload_n hx hb dX13_shorts_45 rfl (lv_at hl 0 rfl) ?_
      refine lv_sipush (v := (-512)) hx hb dX13_shorts_46 (by decide) ?_
      refine lv_sipush (v := 496) hx hb dX13_shorts_49 (by decide) ?_
      refine lv_bipush (v := 16) hx hb dX13_shorts_52 (by decide) ?_
      obtain ⟨q62, s63, hq, h⟩ := nd_b2_e h
      have hPc := hP
      have hDc := hD
      have hKc := hK
      have hFc := nd_rs hD hS hA
      refine nd_cVi (As := [.int (-512), .int 496, .int 16]) (rest := []) (q := q62) (w' := dw_X13 a ac s63) ⟨hx, hb, hml, hown, hts⟩ (fun sz => dm_X13_within l hlt dC dI a ac n ((-512)) (496) (16) s0 hq sz) (cwV 3 hts gi_dm_X13_shorts_4 rfl rfl rfl (by decide +kernel) ⟨Nat.le_of_ble_eq_true rfl, Nat.le_of_ble_eq_true rfl⟩) hPc hDc hKc hS hA hN (va_recv hKc hPc (ci := 14) (q0 := 0) rfl rfl) rfl hl.1 rfl (Nat.le_of_ble_eq_true rfl) dX13_shorts_54 (fun H locs hP1 hD1 hk1 hS => ?_)
      have hP := hP1
      have hD := hD1.weaken (fun k q _ h => hFc q.1 h)
      refine lv_istore_n (lv' := [(3, .int q62), (0, .ref (a 0)), (1, .int v0), (2, .int v1)]) hx hb dX13_shorts_57 rfl hl (by decide) rfl (fun ls hl => ?_)
      refine lv_aload_n hx hb dX13_shorts_58 rfl (lv_at hl 1 rfl) ?_
      refine lv_iload_n hx hb dX13_shorts_59 rfl (lv_at hl 0 rfl) ?_
      obtain ⟨s66, hq, h⟩ := nd_b1_e h
      have hPc := hP
      have hDc := hD
      have hKc := hK
      have hFc := nd_rs hD hS hA
      refine nd_cVv (As := [.int q62]) (rest := []) (w' := dw_X13 a ac s66) ⟨hx, hb, hml, hown, hts⟩ (fun sz => dm_X13_notZero l hlt dC dI a ac n (q62) s63 hq sz) (cwV 1 hts gi_dm_X13_shorts_9 rfl rfl rfl (by decide +kernel) ⟨Nat.le_of_ble_eq_true rfl, Nat.le_of_ble_eq_true rfl⟩) hPc hDc hKc hS hA hN (va_recv hKc hPc (ci := 14) (q0 := 0) rfl rfl) rfl hl.1 rfl (Nat.le_of_ble_eq_true rfl) dX13_shorts_60 (fun H locs hP1 hD1 hk1 hS => ?_)
      have hP := hP1
      have hD := hD1.weaken (fun k q _ h => hFc q.1 h)
      refine lv_aload_n hx hb dX13_shorts_63 rfl (lv_at hl 1 rfl) ?_
      refine lv_iload_n hx hb dX13_shorts_64 rfl (lv_at hl 3 rfl) ?_
      refine lv_iload_n hx hb dX13_shorts_65 rfl (lv_at hl 0 rfl) ?_
      refine lv_bipush (v := 9) hx hb dX13_shorts_66 (by decide) ?_
      refine lv_bipush (v := 9) hx hb dX13_shorts_68 (by decide) ?_
      refine lv_bipush (v := 12) hx hb dX13_shorts_70 (by decide) ?_
      obtain ⟨q68, s69, hq, h⟩ := nd_b2_e h
      have hPc : va_P (dC, dI) vwCl (dw_P a ac ()) H := nd_p0
      have hDc : va_D A (dw_P a ac ()) := nd_d0
      have hKc : va_K (dC, dI) vwCl (dk_P ac) s := nd_y0 hK
      have hFc : ∀ q, va_A (dw_P a ac ()) H.size q → A q := nd_r0 hS hA
      refine nd_cSi (As := [.int q62, .int 9, .int 9, .int 12]) (rest := [.int v1, .ref (a 0)]) (q := q68) (w' := dw_P a ac s69) ⟨hx, hb, hml, hown, hts⟩ (fun sz => dm_X13_bits l hlt dC dI a ac n (q62) (9) (9) (12) () hq sz) (cwS 4 hts gi_dm_X13_shorts_10 rfl rfl rfl (by decide +kernel) ⟨Nat.le_of_ble_eq_true rfl, Nat.le_of_ble_eq_true rfl⟩) hPc hDc hKc hS hA hN rfl hl.1 rfl (Nat.le_of_ble_eq_true rfl) dX13_shorts_72 (fun H locs hP1 hD1 hk1 hS => ?_)
      have hP := nd_n0 hP hk1
      refine lv_ior hx hb dX13_shorts_75 ?_
      refine lv_iload_n hx hb dX13_shorts_76 rfl (lv_at hl 0 rfl) ?_
      refine lv_iconst (v := 4) hx hb dX13_shorts_77 (by decide) ?_
      refine lv_iconst (v := 4) hx hb dX13_shorts_78 (by decide) ?_
      refine lv_bipush (v := 6) hx hb dX13_shorts_79 (by decide) ?_
      obtain ⟨q71, s72, hq, h⟩ := nd_b2_e h
      have hPc : va_P (dC, dI) vwCl (dw_P a ac ()) H := nd_p0
      have hDc : va_D A (dw_P a ac ()) := nd_d0
      have hKc : va_K (dC, dI) vwCl (dk_P ac) s := nd_y0 hK
      have hFc : ∀ q, va_A (dw_P a ac ()) H.size q → A q := nd_r0 hS hA
      refine nd_cSi (As := [.int q62, .int 4, .int 4, .int 6]) (rest := [.int (v1 ||| q68), .ref (a 0)]) (q := q71) (w' := dw_P a ac s72) ⟨hx, hb, hml, hown, hts⟩ (fun sz => dm_X13_bits l hlt dC dI a ac n (q62) (4) (4) (6) () hq sz) (cwS 4 hts gi_dm_X13_shorts_10 rfl rfl rfl (by decide +kernel) ⟨Nat.le_of_ble_eq_true rfl, Nat.le_of_ble_eq_true rfl⟩) hPc hDc hKc hS hA hN rfl hl.1 rfl (Nat.le_of_ble_eq_true rfl) dX13_shorts_81 (fun H locs hP1 hD1 hk1 hS => ?_)
      have hP := nd_n0 hP hk1
      refine lv_ior hx hb dX13_shorts_84 ?_
      refine lv_iload_n hx hb dX13_shorts_85 rfl (lv_at hl 0 rfl) ?_
      refine lv_bipush (v := 6) hx hb dX13_shorts_86 (by decide) ?_
      refine lv_bipush (v := 6) hx hb dX13_shorts_88 (by decide) ?_
      refine lv_iconst (v := 5) hx hb dX13_shorts_90 (by decide) ?_
      obtain ⟨q74, s75, hq, h⟩ := nd_b2_e h
      have hPc : va_P (dC, dI) vwCl (dw_P a ac ()) H := nd_p0
      have hDc : va_D A (dw_P a ac ()) := nd_d0
      have hKc : va_K (dC, dI) vwCl (dk_P ac) s := nd_y0 hK
      have hFc : ∀ q, va_A (dw_P a ac ()) H.size q → A q := nd_r0 hS hA
      refine nd_cSi (As := [.int q62, .int 6, .int 6, .int 5]) (rest := [.int ((v1 ||| q68) ||| q71), .ref (a 0)]) (q := q74) (w' := dw_P a ac s75) ⟨hx, hb, hml, hown, hts⟩ (fun sz => dm_X13_bits l hlt dC dI a ac n (q62) (6) (6) (5) () hq sz) (cwS 4 hts gi_dm_X13_shorts_10 rfl rfl rfl (by decide +kernel) ⟨Nat.le_of_ble_eq_true rfl, Nat.le_of_ble_eq_true rfl⟩) hPc hDc hKc hS hA hN rfl hl.1 rfl (Nat.le_of_ble_eq_true rfl) dX13_shorts_91 (fun H locs hP1 hD1 hk1 hS => ?_)
      have hP := nd_n0 hP hk1
      refine lv_ior hx hb dX13_shorts_94 ?_
      refine lv_iload_n hx hb dX13_shorts_95 rfl (lv_at hl 0 rfl) ?_
      refine lv_bipush (v := 8) hx hb dX13_shorts_96 (by decide) ?_
      refine lv_bipush (v := 7) hx hb dX13_shorts_98 (by decide) ?_
      refine lv_iconst (v := 3) hx hb dX13_shorts_100 (by decide) ?_
      obtain ⟨q77, s78, hq, h⟩ := nd_b2_e h
      have hPc : va_P (dC, dI) vwCl (dw_P a ac ()) H := nd_p0
      have hDc : va_D A (dw_P a ac ()) := nd_d0
      have hKc : va_K (dC, dI) vwCl (dk_P ac) s := nd_y0 hK
      have hFc : ∀ q, va_A (dw_P a ac ()) H.size q → A q := nd_r0 hS hA
      refine nd_cSi (As := [.int q62, .int 8, .int 7, .int 3]) (rest := [.int (((v1 ||| q68) ||| q71) ||| q74), .ref (a 0)]) (q := q77) (w' := dw_P a ac s78) ⟨hx, hb, hml, hown, hts⟩ (fun sz => dm_X13_bits l hlt dC dI a ac n (q62) (8) (7) (3) () hq sz) (cwS 4 hts gi_dm_X13_shorts_10 rfl rfl rfl (by decide +kernel) ⟨Nat.le_of_ble_eq_true rfl, Nat.le_of_ble_eq_true rfl⟩) hPc hDc hKc hS hA hN rfl hl.1 rfl (Nat.le_of_ble_eq_true rfl) dX13_shorts_101 (fun H locs hP1 hD1 hk1 hS => ?_)
      have hP := nd_n0 hP hk1
      refine lv_ior hx hb dX13_shorts_104 ?_
      refine lv_iload_n hx hb dX13_shorts_105 rfl (lv_at hl 0 rfl) ?_
      refine lv_iconst (v := 5) hx hb dX13_shorts_106 (by decide) ?_
      refine lv_iconst (v := 5) hx hb dX13_shorts_107 (by decide) ?_
      refine lv_iconst (v := 2) hx hb dX13_shorts_108 (by decide) ?_
      obtain ⟨q80, s81, hq, h⟩ := nd_b2_e h
      have hPc : va_P (dC, dI) vwCl (dw_P a ac ()) H := nd_p0
      have hDc : va_D A (dw_P a ac ()) := nd_d0
      have hKc : va_K (dC, dI) vwCl (dk_P ac) s := nd_y0 hK
      have hFc : ∀ q, va_A (dw_P a ac ()) H.size q → A q := nd_r0 hS hA
      refine nd_cSi (As := [.int q62, .int 5, .int 5, .int 2]) (rest := [.int ((((v1 ||| q68) ||| q71) ||| q74) ||| q77), .ref (a 0)]) (q := q80) (w' := dw_P a ac s81) ⟨hx, hb, hml, hown, hts⟩ (fun sz => dm_X13_bits l hlt dC dI a ac n (q62) (5) (5) (2) () hq sz) (cwS 4 hts gi_dm_X13_shorts_10 rfl rfl rfl (by decide +kernel) ⟨Nat.le_of_ble_eq_true rfl, Nat.le_of_ble_eq_true rfl⟩) hPc hDc hKc hS hA hN rfl hl.1 rfl (Nat.le_of_ble_eq_true rfl) dX13_shorts_109 (fun H locs hP1 hD1 hk1 hS => ?_)
      have hP := nd_n0 hP hk1
      refine lv_ior hx hb dX13_shorts_112 ?_
      obtain ⟨s84, hq, h⟩ := nd_b1_e h
      have hPc := hP
      have hDc := hD
      have hKc := hK
      have hFc := nd_rs hD hS hA
      refine nd_cVv (As := [.int (((((v1 ||| q68) ||| q71) ||| q74) ||| q77) ||| q80)]) (rest := []) (w' := dw_X13 a ac s84) ⟨hx, hb, hml, hown, hts⟩ (fun sz => dm_X13_half l hlt dC dI a ac n ((((((v1 ||| q68) ||| q71) ||| q74) ||| q77) ||| q80)) s66 hq sz) (cwV 1 hts gi_dm_X13_shorts_5 rfl rfl rfl (by decide +kernel) ⟨Nat.le_of_ble_eq_true rfl, Nat.le_of_ble_eq_true rfl⟩) hPc hDc hKc hS hA hN (va_recv hKc hPc (ci := 14) (q0 := 0) rfl rfl) rfl hl.1 rfl (Nat.le_of_ble_eq_true rfl) dX13_shorts_113 (fun H locs hP1 hD1 hk1 hS => ?_)
      have hP := hP1
      have hD := hD1.weaken (fun k q _ h => hFc q.1 h)
      exact K _ _ _ _ _ dX13_shorts_116 (Option.some.inj h).symm hP hD hS
  · have h := nd_pos h c1
    refine lv_aload_n hx hb dX13_shorts_6 rfl (lv_at hl 0 rfl) ?_
    obtain ⟨q86, s87, hq, h⟩ := nd_b2_e h
    have hPc := hP
    have hDc := hD
    have hKc := hK
    have hFc := nd_rs hD hS hA
    refine nd_cVi (As := []) (rest := []) (q := q86) (w' := dw_X13 a ac s87) ⟨hx, hb, hml, hown, hts⟩ (fun sz => dm_X13_expression l hlt dC dI a ac n  s0 hq sz) (cwV 0 hts gi_dm_X13_shorts_11 rfl rfl rfl (by decide +kernel) ⟨Nat.le_of_ble_eq_true rfl, Nat.le_of_ble_eq_true rfl⟩) hPc hDc hKc hS hA hN (va_recv hKc hPc (ci := 14) (q0 := 0) rfl rfl) rfl hl.1 rfl (Nat.le_of_ble_eq_true rfl) dX13_shorts_7 (fun H locs hP1 hD1 hk1 hS => ?_)
    have hP := hP1
    have hD := hD1.weaken (fun k q _ h => hFc q.1 h)
    refine lv_aload_n hx hb dX13_shorts_10 rfl (lv_at hl 0 rfl) ?_
    refine va_get (D := (dC, dI)) (ci := 14) (v := .int (sI s87 17)) (C := RX13) (T := TX13) (N := 37) hx hb hts hi_dm_X13_shorts_X13 hown hK hP 0 rfl rfl 26 (by decide) (hts (.fieldLink RX13 486 "TimeMachineModel$Assembler" "address" "I") (List.mem_of_getElem? (i := 37) rfl)) (fun _ h9 => h9) rfl dX13_shorts_11 ?_
    refine lv_isub hx hb dX13_shorts_14 ?_
    refine lv_topi (fun z89 ez89 => ?_)
    have h := nd_at h ez89
    refine lv_istore_n (lv' := [(3, .int z89), (0, .ref (a 0)), (1, .int v0), (2, .int v1)]) hx hb dX13_shorts_15 rfl hl (by decide) rfl (fun ls hl => ?_)
    refine lv_aload_n hx hb dX13_shorts_16 rfl (lv_at hl 1 rfl) ?_
    refine lv_iload_n hx hb dX13_shorts_17 rfl (lv_at hl 0 rfl) ?_
    refine lv_sipush (v := (-2048)) hx hb dX13_shorts_18 (by decide) ?_
    refine lv_sipush (v := 2046) hx hb dX13_shorts_21 (by decide) ?_
    refine lv_iconst (v := 2) hx hb dX13_shorts_24 (by decide) ?_
    obtain ⟨s91, hq, h⟩ := nd_b1_e h
    have hPc := hP
    have hDc := hD
    have hKc := hK
    have hFc := nd_rs hD hS hA
    refine nd_cVv (As := [.int z89, .int (-2048), .int 2046, .int 2]) (rest := []) (w' := dw_X13 a ac s91) ⟨hx, hb, hml, hown, hts⟩ (fun sz => dm_X13_fits l hlt dC dI a ac n (z89) ((-2048)) (2046) (2) s87 hq sz) (cwV 4 hts gi_dm_X13_shorts_12 rfl rfl rfl (by decide +kernel) ⟨Nat.le_of_ble_eq_true rfl, Nat.le_of_ble_eq_true rfl⟩) hPc hDc hKc hS hA hN (va_recv hKc hPc (ci := 14) (q0 := 0) rfl rfl) rfl hl.1 rfl (Nat.le_of_ble_eq_true rfl) dX13_shorts_25 (fun H locs hP1 hD1 hk1 hS => ?_)
    have hP := hP1
    have hD := hD1.weaken (fun k q _ h => hFc q.1 h)
    refine lv_aload_n hx hb dX13_shorts_28 rfl (lv_at hl 1 rfl) ?_
    refine lv_iload_n hx hb dX13_shorts_29 rfl (lv_at hl 3 rfl) ?_
    refine lv_iload_n hx hb dX13_shorts_30 rfl (lv_at hl 0 rfl) ?_
    obtain ⟨q93, s94, hq, h⟩ := nd_b2_e h
    have hPc : va_P (dC, dI) vwCl (dw_P a ac ()) H := nd_p0
    have hDc : va_D A (dw_P a ac ()) := nd_d0
    have hKc : va_K (dC, dI) vwCl (dk_P ac) s := nd_y0 hK
    have hFc : ∀ q, va_A (dw_P a ac ()) H.size q → A q := nd_r0 hS hA
    refine nd_cSi (As := [.int z89]) (rest := [.int v1, .ref (a 0)]) (q := q93) (w' := dw_P a ac s94) ⟨hx, hb, hml, hown, hts⟩ (fun sz => dm_X13_shortJump l hlt dC dI a ac n (z89) () hq sz) (cwS 1 hts gi_dm_X13_shorts_13 rfl rfl rfl (by decide +kernel) ⟨Nat.le_of_ble_eq_true rfl, Nat.le_of_ble_eq_true rfl⟩) hPc hDc hKc hS hA hN rfl hl.1 rfl (Nat.le_of_ble_eq_true rfl) dX13_shorts_31 (fun H locs hP1 hD1 hk1 hS => ?_)
    have hP := nd_n0 hP hk1
    refine lv_ior hx hb dX13_shorts_34 ?_
    obtain ⟨s97, hq, h⟩ := nd_b1_e h
    have hPc := hP
    have hDc := hD
    have hKc := hK
    have hFc := nd_rs hD hS hA
    refine nd_cVv (As := [.int (v1 ||| q93)]) (rest := []) (w' := dw_X13 a ac s97) ⟨hx, hb, hml, hown, hts⟩ (fun sz => dm_X13_half l hlt dC dI a ac n ((v1 ||| q93)) s91 hq sz) (cwV 1 hts gi_dm_X13_shorts_5 rfl rfl rfl (by decide +kernel) ⟨Nat.le_of_ble_eq_true rfl, Nat.le_of_ble_eq_true rfl⟩) hPc hDc hKc hS hA hN (va_recv hKc hPc (ci := 14) (q0 := 0) rfl rfl) rfl hl.1 rfl (Nat.le_of_ble_eq_true rfl) dX13_shorts_35 (fun H locs hP1 hD1 hk1 hS => ?_)
    have hP := hP1
    have hD := hD1.weaken (fun k q _ h => hFc q.1 h)
    exact K _ _ _ _ _ dX13_shorts_38 (Option.some.inj h).symm hP hD hS
set_option maxHeartbeats 40000000 in
set_option maxRecDepth 100000 in
theorem dm_X13_shorts (l : Launch) (hlt : l.stackTraces = false) (dC : Nat → ClassId) (dI : Nat → Nat → Nat) (a : Nat → Nat) (ac : Nat → ClassId) (n : Nat) (v0 : Int32) (v1 : Int32) (s0 : St) {r : St} (h : df_X13_shorts n v0 v1 s0 = some r) (sz : Nat) : Met l yX13_shorts ow_dm_X13_shorts ({ frames := 10, cells := 0, slots := 0, locals := 231 }) (va_Pc [.ref (a 0), .int v0, .int v1] (fun U => U.heap.size = sz ∧ va_P (dC, dI) vwCl (dw_X13 a ac s0) U.heap ∧ va_K (dC, dI) vwCl (dk_X13 ac) U ∧ va_D (fun _ => True) (dw_X13 a ac s0) ∧ nv_E (va_A (dw_X13 a ac s0) sz) U)) (va_Qv (fun _ => True) (fun (_ : Unit) t => va_P (dC, dI) vwCl (dw_X13 a ac r) t.heap ∧ va_K (dC, dI) vwCl (dk_X13 ac) t ∧ va_D (va_A (dw_X13 a ac s0) sz) (dw_X13 a ac r)) (va_A (dw_X13 a ac s0) sz)) 0 0 (va_A (dw_X13 a ac s0) sz) := by
  refine Met.ofW (cc := cX13_shorts) (maxL := 6) (ret := none) (by decide) rfl ?_
  intro p e s m args below meth c s₁ B hml hv
  obtain ⟨rfl, hsz, hP, hK, hD0, hN⟩ := hv
  have hx := B.exec
  have hb := B.bytes
  have hr := B.returns
  have hts := atoms_spec (ws := ow_dm_X13_shorts) B.pre
  have hown : s.vm.findClass RX13 = some m.cls := findClass_of_methodNamed B.named
  have hlocks := B.notSynchronized
  subst hsz
  have hD := hD0.self (sz := s.heap.size)
  generalize hAe : va_A (dw_X13 a ac s0) s.heap.size = A at hD hN ⊢
  have hA : ∀ q : Nat, s.heap.size ≤ q → A q := fun q h => by rw [← hAe]; exact Or.inr h
  have hl := lv_entry ([.ref (a 0), .int v0, .int v1]) (n := 6) (Nat.le_of_ble_eq_true rfl)
  rw [lg_entry_eq]
  generalize (lg_sl ([.ref (a 0), .int v0, .int v1]) ++ List.replicate (6 - (lg_sl ([.ref (a 0), .int v0, .int v1])).length) Slot.unset).toArray = ls at hl ⊢
  have hl : lv_has ls 6 [(0, .ref (a 0)), (1, .int v0), (2, .int v1)] := hl
  exact db_X13_shorts_0 (dC := dC) (dI := dI) (a := a) (ac := ac) (n := n) (r := r) ⟨hlt, hx, hb, hml, hown, hts, hN, hA, hK⟩ (fun pc τ H locs ls d er hP hD hS => by subst er; exact W.vret hx hb hr (fun t ht hW => ⟨⟨(), rfl, trivial, by rw [ht]; exact hP, va_K.moved hW.alike hK, hD⟩, hS.F ht⟩) hS.2.2 d) v0 v1 s0 _ _ _ h hP hD va_S.rf (lv_sub hl [0, 1, 2] rfl)
def ow_dm_X13_constant : List Cond := .code yX13_constant cX13_constant 4 none :: ([.methodLink RX13 506 yX13_needs, .instanceMethod yX13_needs, .selects RX13 yX13_needs yX13_needs, .initialized RX13, .fieldLink RX13 368 "TimeMachineModel$Assembler" "from" "I", .fieldLink RX13 371 "TimeMachineModel$Assembler" "to" "I", .fieldLink RX13 522 "TimeMachineModel$Assembler" "mode" "I", .methodLink RX13 582 yX13_comma, .instanceMethod yX13_comma, .selects RX13 yX13_comma yX13_comma, .constant RX13 603 (-2147483648), .constant RX13 604 (2147483647), .methodLink RX13 605 yX13_fixed, .instanceMethod yX13_fixed, .selects RX13 yX13_fixed yX13_fixed, .fieldLink RX13 410 "TimeMachineModel$Assembler" "fault" "I", .methodLink RX13 631 yX13_define, .instanceMethod yX13_define, .selects RX13 yX13_define yX13_define, .methodLink RX13 477 yX13_register, .instanceMethod yX13_register, .selects RX13 yX13_register yX13_register, .methodLink RX13 419 yX13_blame, .instanceMethod yX13_blame, .selects RX13 yX13_blame yX13_blame, .methodLink RX13 480 yX13_find, .instanceMethod yX13_find, .selects RX13 yX13_find yX13_find] ++ (u_ws RX13 TX13 37 ++ (ow_dm_X13_needs ++ (ow_dm_X13_comma ++ (ow_dm_X13_fixed ++ (ow_dm_X13_define ++ (ow_dm_X13_register ++ (ow_dm_X13_blame ++ (ow_dm_X13_find ++ [])))))))))
theorem gd_dm_X13_constant : ∀ w ∈ ow_dm_X13_constant, (w.onTables && w.keeps) = true ∨ ∃ ty, w = Cond.arrayClass ty := List.forall_mem_cons.mpr ⟨good_of_word rfl, List.forall_mem_append.mpr ⟨fun w h => good_of_word (List.all_eq_true.mp (by decide +kernel) w h), List.forall_mem_append.mpr ⟨gu_X13, List.forall_mem_append.mpr ⟨gd_dm_X13_needs, List.forall_mem_append.mpr ⟨gd_dm_X13_comma, List.forall_mem_append.mpr ⟨gd_dm_X13_fixed, List.forall_mem_append.mpr ⟨gd_dm_X13_define, List.forall_mem_append.mpr ⟨gd_dm_X13_register, List.forall_mem_append.mpr ⟨gd_dm_X13_blame, List.forall_mem_append.mpr ⟨gd_dm_X13_find, fun _ h => nomatch h⟩⟩⟩⟩⟩⟩⟩⟩⟩⟩
theorem hi_dm_X13_constant_X13 : ∀ w ∈ u_ws RX13 TX13 37, w ∈ ow_dm_X13_constant := fun w h => List.mem_cons_of_mem _ (List.mem_append_right _ (List.mem_append_left _ h))
theorem gi_dm_X13_constant_0 : GoodIn ow_dm_X13_constant (wsV RX13 506 RX13 yX13_needs ow_dm_X13_needs) := goodIn_app (goodIn_of _ (by decide +kernel)) (fun w h => ⟨List.mem_cons_of_mem _ (List.mem_append_right _ (List.mem_append_right _ (List.mem_append_left _ h))), gd_dm_X13_needs w h⟩)
theorem gi_dm_X13_constant_1 : GoodIn ow_dm_X13_constant (wsV RX13 582 RX13 yX13_comma ow_dm_X13_comma) := goodIn_app (goodIn_of _ (by decide +kernel)) (fun w h => ⟨List.mem_cons_of_mem _ (List.mem_append_right _ (List.mem_append_right _ (List.mem_append_right _ (List.mem_append_left _ h)))), gd_dm_X13_comma w h⟩)
theorem gi_dm_X13_constant_2 : GoodIn ow_dm_X13_constant (wsV RX13 605 RX13 yX13_fixed ow_dm_X13_fixed) := goodIn_app (goodIn_of _ (by decide +kernel)) (fun w h => ⟨List.mem_cons_of_mem _ (List.mem_append_right _ (List.mem_append_right _ (List.mem_append_right _ (List.mem_append_right _ (List.mem_append_left _ h))))), gd_dm_X13_fixed w h⟩)
theorem gi_dm_X13_constant_3 : GoodIn ow_dm_X13_constant (wsV RX13 631 RX13 yX13_define ow_dm_X13_define) := goodIn_app (goodIn_of _ (by decide +kernel)) (fun w h => ⟨List.mem_cons_of_mem _ (List.mem_append_right _ (List.mem_append_right _ (List.mem_append_right _ (List.mem_append_right _ (List.mem_append_right _ (List.mem_append_left _ h)))))), gd_dm_X13_define w h⟩)
theorem gi_dm_X13_constant_4 : GoodIn ow_dm_X13_constant (wsV RX13 477 RX13 yX13_register ow_dm_X13_register) := goodIn_app (goodIn_of _ (by decide +kernel)) (fun w h => ⟨List.mem_cons_of_mem _ (List.mem_append_right _ (List.mem_append_right _ (List.mem_append_right _ (List.mem_append_right _ (List.mem_append_right _ (List.mem_append_right _ (List.mem_append_left _ h))))))), gd_dm_X13_register w h⟩)
theorem gi_dm_X13_constant_5 : GoodIn ow_dm_X13_constant (wsV RX13 419 RX13 yX13_blame ow_dm_X13_blame) := goodIn_app (goodIn_of _ (by decide +kernel)) (fun w h => ⟨List.mem_cons_of_mem _ (List.mem_append_right _ (List.mem_append_right _ (List.mem_append_right _ (List.mem_append_right _ (List.mem_append_right _ (List.mem_append_right _ (List.mem_append_right _ (List.mem_append_left _ h)))))))), gd_dm_X13_blame w h⟩)
theorem gi_dm_X13_constant_6 : GoodIn ow_dm_X13_constant (wsV RX13 480 RX13 yX13_find ow_dm_X13_find) := goodIn_app (goodIn_of _ (by decide +kernel)) (fun w h => ⟨List.mem_cons_of_mem _ (List.mem_append_right _ (List.mem_append_right _ (List.mem_append_right _ (List.mem_append_right _ (List.mem_append_right _ (List.mem_append_right _ (List.mem_append_right _ (List.mem_append_right _ (List.mem_append_left _ h))))))))), gd_dm_X13_find w h⟩)
def dj_X13_constant_90 (p : Program) (l : Launch) (e : Env) (s : State) (m : MethodId) (args : Array Value) (below : List Frame) (meth : Method) (c : Code) (Q : State → Prop) (A : Nat → Prop) (dC : Nat → ClassId) (dI : Nat → Nat → Nat) (a : Nat → Nat) (ac : Nat → ClassId) (g : (St) → Option (St)) (r : St) : Prop := ∀ (s0 : St) (H : Heap) (locs : List Loc) (ls : Array Slot), g s0 = some r → va_P (dC, dI) vwCl (dw_X13 a ac s0) H → va_D A (dw_X13 a ac s0) → va_S A s.heap H locs → lv_has ls 4 [] → W p l e (headSpec ow_dm_X13_constant ({ frames := 9, cells := 0, slots := 0, locals := 205 })).room s m args below meth c H locs 0 0 Q (F0 m 90 ls [])
def dj_X13_constant_49 (p : Program) (l : Launch) (e : Env) (s : State) (m : MethodId) (args : Array Value) (below : List Frame) (meth : Method) (c : Code) (Q : State → Prop) (A : Nat → Prop) (dC : Nat → ClassId) (dI : Nat → Nat → Nat) (a : Nat → Nat) (ac : Nat → ClassId) (g : Int32 → Int32 → (St) → Option (St)) (r : St) : Prop := ∀ (x1 : Int32) (x2 : Int32) (s0 : St) (H : Heap) (locs : List Loc) (ls : Array Slot), g x1 x2 s0 = some r → va_P (dC, dI) vwCl (dw_X13 a ac s0) H → va_D A (dw_X13 a ac s0) → va_S A s.heap H locs → lv_has ls 4 [(0, .ref (a 0)), (1, .int x1), (2, .int x2)] → W p l e (headSpec ow_dm_X13_constant ({ frames := 9, cells := 0, slots := 0, locals := 205 })).room s m args below meth c H locs 0 0 Q (F0 m 49 ls [])
def dj_X13_constant_44 (p : Program) (l : Launch) (e : Env) (s : State) (m : MethodId) (args : Array Value) (below : List Frame) (meth : Method) (c : Code) (Q : State → Prop) (A : Nat → Prop) (dC : Nat → ClassId) (dI : Nat → Nat → Nat) (a : Nat → Nat) (ac : Nat → ClassId) (g : Int32 → Int32 → (St) → Option (St)) (r : St) : Prop := ∀ (x1 : Int32) (x2 : Int32) (s0 : St) (H : Heap) (locs : List Loc) (ls : Array Slot), g x1 x2 s0 = some r → va_P (dC, dI) vwCl (dw_X13 a ac s0) H → va_D A (dw_X13 a ac s0) → va_S A s.heap H locs → lv_has ls 4 [(0, .ref (a 0)), (1, .int x1), (2, .int x2)] → W p l e (headSpec ow_dm_X13_constant ({ frames := 9, cells := 0, slots := 0, locals := 205 })).room s m args below meth c H locs 0 0 Q (F0 m 44 ls [])
def dj_X13_constant_0 (p : Program) (l : Launch) (e : Env) (s : State) (m : MethodId) (args : Array Value) (below : List Frame) (meth : Method) (c : Code) (Q : State → Prop) (A : Nat → Prop) (dC : Nat → ClassId) (dI : Nat → Nat → Nat) (a : Nat → Nat) (ac : Nat → ClassId) (g : (St) → Option (St)) (r : St) : Prop := ∀ (s0 : St) (H : Heap) (locs : List Loc) (ls : Array Slot), g s0 = some r → va_P (dC, dI) vwCl (dw_X13 a ac s0) H → va_D A (dw_X13 a ac s0) → va_S A s.heap H locs → lv_has ls 4 [(0, .ref (a 0))] → W p l e (headSpec ow_dm_X13_constant ({ frames := 9, cells := 0, slots := 0, locals := 205 })).room s m args below meth c H locs 0 0 Q (F0 m 0 ls [])
set_option maxHeartbeats 40000000 in
set_option maxRecDepth 100000 in
theorem db_X13_constant_90 {p : Program} {l : Launch} {e : Env} {s : State} {m : MethodId} {args : Array Value} {below : List Frame} {meth : Method} {c : Code} {Q : State → Prop} {A : Nat → Prop} {dC : Nat → ClassId} {dI : Nat → Nat → Nat} {a : Nat → Nat} {ac : Nat → ClassId} {n : Nat} {r : St} (C : nd_C p l s m args c A (dC, dI) cX13_constant 4 RX13 ow_dm_X13_constant (dk_X13 ac)) (K : nd_Kv p l e (headSpec ow_dm_X13_constant ({ frames := 9, cells := 0, slots := 0, locals := 205 })).room s m args below meth c Q A (dC, dI) cX13_constant (St) (dw_X13 a ac) r) : dj_X13_constant_90 p l e s m args below meth c Q A dC dI a ac (df_X13_constant_90 n) r := by
  obtain ⟨hlt, hx, hb, hml, hown, hts, hN, hA, hK⟩ := id C
  intro s0 H locs ls h hP hD hS hl
  unfold df_X13_constant_90 at h
  exact K _ _ _ _ _ dX13_constant_90 (Option.some.inj h).symm hP hD hS
set_option maxHeartbeats 40000000 in
set_option maxRecDepth 100000 in
theorem db_X13_constant_49 {p : Program} {l : Launch} {e : Env} {s : State} {m : MethodId} {args : Array Value} {below : List Frame} {meth : Method} {c : Code} {Q : State → Prop} {A : Nat → Prop} {dC : Nat → ClassId} {dI : Nat → Nat → Nat} {a : Nat → Nat} {ac : Nat → ClassId} {n : Nat} {r : St} (C : nd_C p l s m args c A (dC, dI) cX13_constant 4 RX13 ow_dm_X13_constant (dk_X13 ac)) (K : nd_Kv p l e (headSpec ow_dm_X13_constant ({ frames := 9, cells := 0, slots := 0, locals := 205 })).room s m args below meth c Q A (dC, dI) cX13_constant (St) (dw_X13 a ac) r) : dj_X13_constant_49 p l e s m args below meth c Q A dC dI a ac (df_X13_constant_49 n) r := by
  obtain ⟨hlt, hx, hb, hml, hown, hts, hN, hA, hK⟩ := id C
  intro x1 x2 s0 H locs ls h hP hD hS hl
  unfold df_X13_constant_49 at h
  refine lv_aload_n hx hb dX13_constant_49 rfl (lv_at hl 0 rfl) ?_
  obtain ⟨q8, s9, hq, h⟩ := nd_b2_e h
  have hPc := hP
  have hDc := hD
  have hKc := hK
  have hFc := nd_rs hD hS hA
  refine nd_cVi (As := []) (rest := []) (q := q8) (w' := dw_X13 a ac s9) ⟨hx, hb, hml, hown, hts⟩ (fun sz => dm_X13_comma l hlt dC dI a ac n  s0 hq sz) (cwV 0 hts gi_dm_X13_constant_1 rfl rfl rfl (by decide +kernel) ⟨Nat.le_of_ble_eq_true rfl, Nat.le_of_ble_eq_true rfl⟩) hPc hDc hKc hS hA hN (va_recv hKc hPc (ci := 14) (q0 := 0) rfl rfl) rfl hl.1 rfl (Nat.le_of_ble_eq_true rfl) dX13_constant_50 (fun H locs hP1 hD1 hk1 hS => ?_)
  have hP := hP1
  have hD := hD1.weaken (fun k q _ h => hFc q.1 h)
  refine lv_if_ne (tgt := 57) hx hb dX13_constant_53 (by decide) (fun c11 => ?_) (fun c11 => ?_)
  · have h := nd_neg h c11
    refine lv_aload_n hx hb dX13_constant_57 rfl (lv_at hl 0 rfl) ?_
    refine lv_ldcw hx hb hown (hts (.constant RX13 603 (-2147483648)) (List.mem_of_getElem? (i := 11) rfl)) dX13_constant_58 ?_
    refine lv_ldcw hx hb hown (hts (.constant RX13 604 (2147483647)) (List.mem_of_getElem? (i := 12) rfl)) dX13_constant_61 ?_
    obtain ⟨q12, s13, hq, h⟩ := nd_b2_e h
    have hPc := hP
    have hDc := hD
    have hKc := hK
    have hFc := nd_rs hD hS hA
    refine nd_cVi (As := [.int (-2147483648), .int 2147483647]) (rest := []) (q := q12) (w' := dw_X13 a ac s13) ⟨hx, hb, hml, hown, hts⟩ (fun sz => dm_X13_fixed l hlt dC dI a ac n ((-2147483648)) (2147483647) s9 hq sz) (cwV 2 hts gi_dm_X13_constant_2 rfl rfl rfl (by decide +kernel) ⟨Nat.le_of_ble_eq_true rfl, Nat.le_of_ble_eq_true rfl⟩) hPc hDc hKc hS hA hN (va_recv hKc hPc (ci := 14) (q0 := 0) rfl rfl) rfl hl.1 rfl (Nat.le_of_ble_eq_true rfl) dX13_constant_64 (fun H locs hP1 hD1 hk1 hS => ?_)
    have hP := hP1
    have hD := hD1.weaken (fun k q _ h => hFc q.1 h)
    refine lv_istore_n (lv' := [(3, .int q12), (0, .ref (a 0)), (1, .int x1), (2, .int x2)]) hx hb dX13_constant_67 rfl hl (by decide) rfl (fun ls hl => ?_)
    refine lv_aload_n hx hb dX13_constant_68 rfl (lv_at hl 1 rfl) ?_
    refine va_get (D := (dC, dI)) (ci := 14) (v := .int (sI s13 15)) (C := RX13) (T := TX13) (N := 37) hx hb hts hi_dm_X13_constant_X13 hown hK hP 0 rfl rfl 24 (by decide) (hts (.fieldLink RX13 522 "TimeMachineModel$Assembler" "mode" "I") (List.mem_of_getElem? (i := 7) rfl)) (fun _ h9 => h9) rfl dX13_constant_69 ?_
    refine lv_if_ne (tgt := 90) hx hb dX13_constant_72 (by decide) (fun c15 => ?_) (fun c15 => ?_)
    · have h := nd_neg h c15
      exact (db_X13_constant_90 C K)  s13 _ _ _ h hP hD hS (lv_sub hl [] rfl)
    · have h := nd_pos h c15
      refine lv_aload_n hx hb dX13_constant_75 rfl (lv_at hl 1 rfl) ?_
      refine va_get (D := (dC, dI)) (ci := 14) (v := .int (sI s13 12)) (C := RX13) (T := TX13) (N := 37) hx hb hts hi_dm_X13_constant_X13 hown hK hP 0 rfl rfl 21 (by decide) (hts (.fieldLink RX13 410 "TimeMachineModel$Assembler" "fault" "I") (List.mem_of_getElem? (i := 16) rfl)) (fun _ h9 => h9) rfl dX13_constant_76 ?_
      refine lv_if_ne (tgt := 90) hx hb dX13_constant_79 (by decide) (fun c16 => ?_) (fun c16 => ?_)
      · have h := nd_neg h c16
        exact (db_X13_constant_90 C K)  s13 _ _ _ h hP hD hS (lv_sub hl [] rfl)
      · have h := nd_pos h c16
        refine lv_aload_n hx hb dX13_constant_82 rfl (lv_at hl 1 rfl) ?_
        refine lv_iload_n hx hb dX13_constant_83 rfl (lv_at hl 2 rfl) ?_
        refine lv_iload_n hx hb dX13_constant_84 rfl (lv_at hl 3 rfl) ?_
        refine lv_iconst (v := 2) hx hb dX13_constant_85 (by decide) ?_
        refine lv_iload_n hx hb dX13_constant_86 rfl (lv_at hl 0 rfl) ?_
        obtain ⟨s18, hq, h⟩ := nd_b1_e h
        have hPc := hP
        have hDc := hD
        have hKc := hK
        have hFc := nd_rs hD hS hA
        refine nd_cVv (As := [.int x1, .int x2, .int 2, .int q12]) (rest := []) (w' := dw_X13 a ac s18) ⟨hx, hb, hml, hown, hts⟩ (fun sz => dm_X13_define l hlt dC dI a ac n (x1) (x2) (2) (q12) s13 hq sz) (cwV 4 hts gi_dm_X13_constant_3 rfl rfl rfl (by decide +kernel) ⟨Nat.le_of_ble_eq_true rfl, Nat.le_of_ble_eq_true rfl⟩) hPc hDc hKc hS hA hN (va_recv hKc hPc (ci := 14) (q0 := 0) rfl rfl) rfl hl.1 rfl (Nat.le_of_ble_eq_true rfl) dX13_constant_87 (fun H locs hP1 hD1 hk1 hS => ?_)
        have hP := hP1
        have hD := hD1.weaken (fun k q _ h => hFc q.1 h)
        exact (db_X13_constant_90 C K)  s18 _ _ _ h hP hD hS (lv_sub hl [] rfl)
  · have h := nd_pos h c11
    exact K _ _ _ _ _ dX13_constant_56 (Option.some.inj h).symm hP hD hS
set_option maxHeartbeats 40000000 in
set_option maxRecDepth 100000 in
theorem db_X13_constant_44 {p : Program} {l : Launch} {e : Env} {s : State} {m : MethodId} {args : Array Value} {below : List Frame} {meth : Method} {c : Code} {Q : State → Prop} {A : Nat → Prop} {dC : Nat → ClassId} {dI : Nat → Nat → Nat} {a : Nat → Nat} {ac : Nat → ClassId} {n : Nat} {r : St} (C : nd_C p l s m args c A (dC, dI) cX13_constant 4 RX13 ow_dm_X13_constant (dk_X13 ac)) (K : nd_Kv p l e (headSpec ow_dm_X13_constant ({ frames := 9, cells := 0, slots := 0, locals := 205 })).room s m args below meth c Q A (dC, dI) cX13_constant (St) (dw_X13 a ac) r) : dj_X13_constant_44 p l e s m args below meth c Q A dC dI a ac (df_X13_constant_44 n) r := by
  obtain ⟨hlt, hx, hb, hml, hown, hts, hN, hA, hK⟩ := id C
  intro x1 x2 s0 H locs ls h hP hD hS hl
  unfold df_X13_constant_44 at h
  refine lv_aload_n hx hb dX13_constant_44 rfl (lv_at hl 0 rfl) ?_
  refine lv_iconst (v := 4) hx hb dX13_constant_45 (by decide) ?_
  obtain ⟨s25, hq, h⟩ := nd_b1_e h
  have hPc := hP
  have hDc := hD
  have hKc := hK
  have hFc := nd_rs hD hS hA
  refine nd_cVv (As := [.int 4]) (rest := []) (w' := dw_X13 a ac s25) ⟨hx, hb, hml, hown, hts⟩ (fun sz => dm_X13_blame l hlt dC dI a ac n (4) s0 hq sz) (cwV 1 hts gi_dm_X13_constant_5 rfl rfl rfl (by decide +kernel) ⟨Nat.le_of_ble_eq_true rfl, Nat.le_of_ble_eq_true rfl⟩) hPc hDc hKc hS hA hN (va_recv hKc hPc (ci := 14) (q0 := 0) rfl rfl) rfl hl.1 rfl (Nat.le_of_ble_eq_true rfl) dX13_constant_46 (fun H locs hP1 hD1 hk1 hS => ?_)
  have hP := hP1
  have hD := hD1.weaken (fun k q _ h => hFc q.1 h)
  exact (db_X13_constant_49 C K) (x1) (x2) s25 _ _ _ h hP hD hS (lv_sub hl [0, 1, 2] rfl)
set_option maxHeartbeats 40000000 in
set_option maxRecDepth 100000 in
theorem db_X13_constant_0 {p : Program} {l : Launch} {e : Env} {s : State} {m : MethodId} {args : Array Value} {below : List Frame} {meth : Method} {c : Code} {Q : State → Prop} {A : Nat → Prop} {dC : Nat → ClassId} {dI : Nat → Nat → Nat} {a : Nat → Nat} {ac : Nat → ClassId} {n : Nat} {r : St} (C : nd_C p l s m args c A (dC, dI) cX13_constant 4 RX13 ow_dm_X13_constant (dk_X13 ac)) (K : nd_Kv p l e (headSpec ow_dm_X13_constant ({ frames := 9, cells := 0, slots := 0, locals := 205 })).room s m args below meth c Q A (dC, dI) cX13_constant (St) (dw_X13 a ac) r) : dj_X13_constant_0 p l e s m args below meth c Q A dC dI a ac (df_X13_constant_0 n) r := by
  obtain ⟨hlt, hx, hb, hml, hown, hts, hN, hA, hK⟩ := id C
  intro s0 H locs ls h hP hD hS hl
  unfold df_X13_constant_0 at h
  refine lv_aload_n hx hb dX13_constant_0 rfl (lv_at hl 0 rfl) ?_
  refine lv_iconst (v := 1) hx hb dX13_constant_1 (by decide) ?_
  obtain ⟨q1, s2, hq, h⟩ := nd_b2_e h
  have hPc := hP
  have hDc := hD
  have hKc := hK
  have hFc := nd_rs hD hS hA
  refine nd_cVi (As := [.int 1]) (rest := []) (q := q1) (w' := dw_X13 a ac s2) ⟨hx, hb, hml, hown, hts⟩ (fun sz => dm_X13_needs l hlt dC dI a ac n (1) s0 hq sz) (cwV 1 hts gi_dm_X13_constant_0 rfl rfl rfl (by decide +kernel) ⟨Nat.le_of_ble_eq_true rfl, Nat.le_of_ble_eq_true rfl⟩) hPc hDc hKc hS hA hN (va_recv hKc hPc (ci := 14) (q0 := 0) rfl rfl) rfl hl.1 rfl (Nat.le_of_ble_eq_true rfl) dX13_constant_2 (fun H locs hP1 hD1 hk1 hS => ?_)
  have hP := hP1
  have hD := hD1.weaken (fun k q _ h => hFc q.1 h)
  refine lv_if_ne (tgt := 9) hx hb dX13_constant_5 (by decide) (fun c4 => ?_) (fun c4 => ?_)
  · have h := nd_neg h c4
    refine lv_aload_n hx hb dX13_constant_9 rfl (lv_at hl 0 rfl) ?_
    refine va_get (D := (dC, dI)) (ci := 14) (v := .int (sI s2 9)) (C := RX13) (T := TX13) (N := 37) hx hb hts hi_dm_X13_constant_X13 hown hK hP 0 rfl rfl 18 (by decide) (hts (.fieldLink RX13 368 "TimeMachineModel$Assembler" "from" "I") (List.mem_of_getElem? (i := 5) rfl)) (fun _ h9 => h9) rfl dX13_constant_10 ?_
    refine lv_topi (fun z5 ez5 => ?_)
    have h := nd_at h ez5
    refine lv_istore_n (lv' := [(1, .int z5), (0, .ref (a 0))]) hx hb dX13_constant_13 rfl hl (by decide) rfl (fun ls hl => ?_)
    refine lv_aload_n hx hb dX13_constant_14 rfl (lv_at hl 1 rfl) ?_
    refine va_get (D := (dC, dI)) (ci := 14) (v := .int (sI s2 10)) (C := RX13) (T := TX13) (N := 37) hx hb hts hi_dm_X13_constant_X13 hown hK hP 0 rfl rfl 19 (by decide) (hts (.fieldLink RX13 371 "TimeMachineModel$Assembler" "to" "I") (List.mem_of_getElem? (i := 6) rfl)) (fun _ h9 => h9) rfl dX13_constant_15 ?_
    refine lv_topi (fun z6 ez6 => ?_)
    have h := nd_at h ez6
    refine lv_istore_n (lv' := [(2, .int z6), (1, .int z5), (0, .ref (a 0))]) hx hb dX13_constant_18 rfl hl (by decide) rfl (fun ls hl => ?_)
    refine lv_aload_n hx hb dX13_constant_19 rfl (lv_at hl 2 rfl) ?_
    refine va_get (D := (dC, dI)) (ci := 14) (v := .int (sI s2 15)) (C := RX13) (T := TX13) (N := 37) hx hb hts hi_dm_X13_constant_X13 hown hK hP 0 rfl rfl 24 (by decide) (hts (.fieldLink RX13 522 "TimeMachineModel$Assembler" "mode" "I") (List.mem_of_getElem? (i := 7) rfl)) (fun _ h9 => h9) rfl dX13_constant_20 ?_
    refine lv_if_ne (tgt := 49) hx hb dX13_constant_23 (by decide) (fun c7 => ?_) (fun c7 => ?_)
    · have h := nd_neg h c7
      exact (db_X13_constant_49 C K) (z5) (z6) s2 _ _ _ h hP hD hS (lv_sub hl [2, 1, 0] rfl)
    · have h := nd_pos h c7
      refine lv_aload_n hx hb dX13_constant_26 rfl (lv_at hl 2 rfl) ?_
      refine lv_iload_n hx hb dX13_constant_27 rfl (lv_at hl 1 rfl) ?_
      refine lv_iload_n hx hb dX13_constant_28 rfl (lv_at hl 0 rfl) ?_
      obtain ⟨q20, s21, hq, h⟩ := nd_b2_e h
      have hPc := hP
      have hDc := hD
      have hKc := hK
      have hFc := nd_rs hD hS hA
      refine nd_cVi (As := [.int z5, .int z6]) (rest := []) (q := q20) (w' := dw_X13 a ac s21) ⟨hx, hb, hml, hown, hts⟩ (fun sz => dm_X13_register l hlt dC dI a ac n (z5) (z6) s2 hq sz) (cwV 2 hts gi_dm_X13_constant_4 rfl rfl rfl (by decide +kernel) ⟨Nat.le_of_ble_eq_true rfl, Nat.le_of_ble_eq_true rfl⟩) hPc hDc hKc hS hA hN (va_recv hKc hPc (ci := 14) (q0 := 0) rfl rfl) rfl hl.1 rfl (Nat.le_of_ble_eq_true rfl) dX13_constant_29 (fun H locs hP1 hD1 hk1 hS => ?_)
      have hP := hP1
      have hD := hD1.weaken (fun k q _ h => hFc q.1 h)
      refine lv_if_ge (tgt := 44) hx hb dX13_constant_32 (by decide) (fun c23 => ?_) (fun c23 => ?_)
      · have h := nd_pos h c23
        exact (db_X13_constant_44 C K) (z5) (z6) s21 _ _ _ h hP hD hS (lv_sub hl [2, 1, 0] rfl)
      · have h := nd_neg h c23
        refine lv_aload_n hx hb dX13_constant_35 rfl (lv_at hl 2 rfl) ?_
        refine lv_iload_n hx hb dX13_constant_36 rfl (lv_at hl 1 rfl) ?_
        refine lv_iload_n hx hb dX13_constant_37 rfl (lv_at hl 0 rfl) ?_
        obtain ⟨q27, s28, hq, h⟩ := nd_b2_e h
        have hPc := hP
        have hDc := hD
        have hKc := hK
        have hFc := nd_rs hD hS hA
        refine nd_cVi (As := [.int z5, .int z6]) (rest := []) (q := q27) (w' := dw_X13 a ac s28) ⟨hx, hb, hml, hown, hts⟩ (fun sz => dm_X13_find l hlt dC dI a ac n (z5) (z6) s21 hq sz) (cwV 2 hts gi_dm_X13_constant_6 rfl rfl rfl (by decide +kernel) ⟨Nat.le_of_ble_eq_true rfl, Nat.le_of_ble_eq_true rfl⟩) hPc hDc hKc hS hA hN (va_recv hKc hPc (ci := 14) (q0 := 0) rfl rfl) rfl hl.1 rfl (Nat.le_of_ble_eq_true rfl) dX13_constant_38 (fun H locs hP1 hD1 hk1 hS => ?_)
        have hP := hP1
        have hD := hD1.weaken (fun k q _ h => hFc q.1 h)
        refine lv_if_lt (tgt := 49) hx hb dX13_constant_41 (by decide) (fun c30 => ?_) (fun c30 => ?_)
        · have h := nd_pos h c30
          exact (db_X13_constant_49 C K) (z5) (z6) s28 _ _ _ h hP hD hS (lv_sub hl [2, 1, 0] rfl)
        · have h := nd_neg h c30
          exact (db_X13_constant_44 C K) (z5) (z6) s28 _ _ _ h hP hD hS (lv_sub hl [2, 1, 0] rfl)
  · have h := nd_pos h c4
    exact K _ _ _ _ _ dX13_constant_8 (Option.some.inj h).symm hP hD hS
set_option maxHeartbeats 40000000 in
set_option maxRecDepth 100000 in
theorem dm_X13_constant (l : Launch) (hlt : l.stackTraces = false) (dC : Nat → ClassId) (dI : Nat → Nat → Nat) (a : Nat → Nat) (ac : Nat → ClassId) (n : Nat) (s0 : St) {r : St} (h : df_X13_constant n s0 = some r) (sz : Nat) : Met l yX13_constant ow_dm_X13_constant ({ frames := 9, cells := 0, slots := 0, locals := 205 }) (va_Pc [.ref (a 0)] (fun U => U.heap.size = sz ∧ va_P (dC, dI) vwCl (dw_X13 a ac s0) U.heap ∧ va_K (dC, dI) vwCl (dk_X13 ac) U ∧ va_D (fun _ => True) (dw_X13 a ac s0) ∧ nv_E (va_A (dw_X13 a ac s0) sz) U)) (va_Qv (fun _ => True) (fun (_ : Unit) t => va_P (dC, dI) vwCl (dw_X13 a ac r) t.heap ∧ va_K (dC, dI) vwCl (dk_X13 ac) t ∧ va_D (va_A (dw_X13 a ac s0) sz) (dw_X13 a ac r)) (va_A (dw_X13 a ac s0) sz)) 0 0 (va_A (dw_X13 a ac s0) sz) := by
  refine Met.ofW (cc := cX13_constant) (maxL := 4) (ret := none) (by decide) rfl ?_
  intro p e s m args below meth c s₁ B hml hv
  obtain ⟨rfl, hsz, hP, hK, hD0, hN⟩ := hv
  have hx := B.exec
  have hb := B.bytes
  have hr := B.returns
  have hts := atoms_spec (ws := ow_dm_X13_constant) B.pre
  have hown : s.vm.findClass RX13 = some m.cls := findClass_of_methodNamed B.named
  have hlocks := B.notSynchronized
  subst hsz
  have hD := hD0.self (sz := s.heap.size)
  generalize hAe : va_A (dw_X13 a ac s0) s.heap.size = A at hD hN ⊢
  have hA : ∀ q : Nat, s.heap.size ≤ q → A q := fun q h => by rw [← hAe]; exact Or.inr h
  have hl := lv_entry ([.ref (a 0)]) (n := 4) (Nat.le_of_ble_eq_true rfl)
  rw [lg_entry_eq]
  generalize (lg_sl ([.ref (a 0)]) ++ List.replicate (4 - (lg_sl ([.ref (a 0)])).length) Slot.unset).toArray = ls at hl ⊢
  have hl : lv_has ls 4 [(0, .ref (a 0))] := hl
  exact db_X13_constant_0 (dC := dC) (dI := dI) (a := a) (ac := ac) (n := n) (r := r) ⟨hlt, hx, hb, hml, hown, hts, hN, hA, hK⟩ (fun pc τ H locs ls d er hP hD hS => by subst er; exact W.vret hx hb hr (fun t ht hW => ⟨⟨(), rfl, trivial, by rw [ht]; exact hP, va_K.moved hW.alike hK, hD⟩, hS.F ht⟩) hS.2.2 d) s0 _ _ _ h hP hD va_S.rf (lv_sub hl [0] rfl)
def ow_dm_X13_quoted : List Cond := .code yX13_quoted cX13_quoted 4 none :: ([.methodLink RX13 506 yX13_needs, .instanceMethod yX13_needs, .selects RX13 yX13_needs yX13_needs, .initialized RX13, .fieldLink RX13 371 "TimeMachineModel$Assembler" "to" "I", .fieldLink RX13 368 "TimeMachineModel$Assembler" "from" "I", .fieldLink RX13 374 "TimeMachineModel$Assembler" "at" "I", .methodLink RX13 544 yX13_put, .instanceMethod yX13_put, .selects RX13 yX13_put yX13_put, .methodLink RX13 406 yX13_shown, .instanceMethod yX13_shown, .selects RX13 yX13_shown yX13_shown] ++ (u_ws RX13 TX13 37 ++ (ow_dm_X13_needs ++ (ow_dm_X13_put ++ (ow_dm_X13_shown ++ [])))))
theorem gd_dm_X13_quoted : ∀ w ∈ ow_dm_X13_quoted, (w.onTables && w.keeps) = true ∨ ∃ ty, w = Cond.arrayClass ty := List.forall_mem_cons.mpr ⟨good_of_word rfl, List.forall_mem_append.mpr ⟨fun w h => good_of_word (List.all_eq_true.mp (by decide +kernel) w h), List.forall_mem_append.mpr ⟨gu_X13, List.forall_mem_append.mpr ⟨gd_dm_X13_needs, List.forall_mem_append.mpr ⟨gd_dm_X13_put, List.forall_mem_append.mpr ⟨gd_dm_X13_shown, fun _ h => nomatch h⟩⟩⟩⟩⟩⟩
theorem hi_dm_X13_quoted_X13 : ∀ w ∈ u_ws RX13 TX13 37, w ∈ ow_dm_X13_quoted := fun w h => List.mem_cons_of_mem _ (List.mem_append_right _ (List.mem_append_left _ h))
theorem gi_dm_X13_quoted_0 : GoodIn ow_dm_X13_quoted (wsV RX13 506 RX13 yX13_needs ow_dm_X13_needs) := goodIn_app (goodIn_of _ (by decide +kernel)) (fun w h => ⟨List.mem_cons_of_mem _ (List.mem_append_right _ (List.mem_append_right _ (List.mem_append_left _ h))), gd_dm_X13_needs w h⟩)
theorem gi_dm_X13_quoted_1 : GoodIn ow_dm_X13_quoted (wsV RX13 544 RX13 yX13_put ow_dm_X13_put) := goodIn_app (goodIn_of _ (by decide +kernel)) (fun w h => ⟨List.mem_cons_of_mem _ (List.mem_append_right _ (List.mem_append_right _ (List.mem_append_right _ (List.mem_append_left _ h)))), gd_dm_X13_put w h⟩)
theorem gi_dm_X13_quoted_2 : GoodIn ow_dm_X13_quoted (wsV RX13 406 RX13 yX13_shown ow_dm_X13_shown) := goodIn_app (goodIn_of _ (by decide +kernel)) (fun w h => ⟨List.mem_cons_of_mem _ (List.mem_append_right _ (List.mem_append_right _ (List.mem_append_right _ (List.mem_append_right _ (List.mem_append_left _ h))))), gd_dm_X13_shown w h⟩)
def dj_X13_quoted_61 (p : Program) (l : Launch) (e : Env) (s : State) (m : MethodId) (args : Array Value) (below : List Frame) (meth : Method) (c : Code) (Q : State → Prop) (A : Nat → Prop) (dC : Nat → ClassId) (dI : Nat → Nat → Nat) (a : Nat → Nat) (ac : Nat → ClassId) (g : (St) → Option (St)) (r : St) : Prop := ∀ (s0 : St) (H : Heap) (locs : List Loc) (ls : Array Slot), g s0 = some r → va_P (dC, dI) vwCl (dw_X13 a ac s0) H → va_D A (dw_X13 a ac s0) → va_S A s.heap H locs → lv_has ls 4 [] → W p l e (headSpec ow_dm_X13_quoted ({ frames := 6, cells := 0, slots := 0, locals := 135 })).room s m args below meth c H locs 0 0 Q (F0 m 61 ls [])
def dj_X13_quoted_21 (p : Program) (l : Launch) (e : Env) (s : State) (m : MethodId) (args : Array Value) (below : List Frame) (meth : Method) (c : Code) (Q : State → Prop) (A : Nat → Prop) (dC : Nat → ClassId) (dI : Nat → Nat → Nat) (a : Nat → Nat) (ac : Nat → ClassId) (g : Int32 → Int32 → Int32 → (St) → Option (St)) (r : St) : Prop := ∀ (x1 : Int32) (x2 : Int32) (x3 : Int32) (s0 : St) (H : Heap) (locs : List Loc) (ls : Array Slot), g x1 x2 x3 s0 = some r → va_P (dC, dI) vwCl (dw_X13 a ac s0) H → va_D A (dw_X13 a ac s0) → va_S A s.heap H locs → lv_has ls 4 [(0, .ref (a 0)), (1, .int x1), (2, .int x2), (3, .int x3)] → W p l e (headSpec ow_dm_X13_quoted ({ frames := 6, cells := 0, slots := 0, locals := 135 })).room s m args below meth c H locs 0 0 Q (F0 m 21 ls [])
def dj_X13_quoted_0 (p : Program) (l : Launch) (e : Env) (s : State) (m : MethodId) (args : Array Value) (below : List Frame) (meth : Method) (c : Code) (Q : State → Prop) (A : Nat → Prop) (dC : Nat → ClassId) (dI : Nat → Nat → Nat) (a : Nat → Nat) (ac : Nat → ClassId) (g : Int32 → (St) → Option (St)) (r : St) : Prop := ∀ (v0 : Int32) (s0 : St) (H : Heap) (locs : List Loc) (ls : Array Slot), g v0 s0 = some r → va_P (dC, dI) vwCl (dw_X13 a ac s0) H → va_D A (dw_X13 a ac s0) → va_S A s.heap H locs → lv_has ls 4 [(0, .ref (a 0)), (1, .int v0)] → W p l e (headSpec ow_dm_X13_quoted ({ frames := 6, cells := 0, slots := 0, locals := 135 })).room s m args below meth c H locs 0 0 Q (F0 m 0 ls [])
set_option maxHeartbeats 40000000 in
set_option maxRecDepth 100000 in
theorem db_X13_quoted_61 {p : Program} {l : Launch} {e : Env} {s : State} {m : MethodId} {args : Array Value} {below : List Frame} {meth : Method} {c : Code} {Q : State → Prop} {A : Nat → Prop} {dC : Nat → ClassId} {dI : Nat → Nat → Nat} {a : Nat → Nat} {ac : Nat → ClassId} {n : Nat} {r : St} (C : nd_C p l s m args c A (dC, dI) cX13_quoted 4 RX13 ow_dm_X13_quoted (dk_X13 ac)) (K : nd_Kv p l e (headSpec ow_dm_X13_quoted ({ frames := 6, cells := 0, slots := 0, locals := 135 })).room s m args below meth c Q A (dC, dI) cX13_quoted (St) (dw_X13 a ac) r) : dj_X13_quoted_61 p l e s m args below meth c Q A dC dI a ac (df_X13_quoted_61 n) r := by
  obtain ⟨hlt, hx, hb, hml, hown, hts, hN, hA, hK⟩ := id C
  intro s0 H locs ls h hP hD hS hl
  unfold df_X13_quoted_61 at h
  exact K _ _ _ _ _ dX13_quoted_61 (Option.some.inj h).symm hP hD hS
set_option maxHeartbeats 40000000 in
set_option maxRecDepth 100000 in
theorem dB_X13_quoted_21 {p : Program} {l : Launch} {e : Env} {s : State} {m : MethodId} {args : Array Value} {below : List Frame} {meth : Method} {c : Code} {Q : State → Prop} {A : Nat → Prop} {dC : Nat → ClassId} {dI : Nat → Nat → Nat} {a : Nat → Nat} {ac : Nat → ClassId} {n : Nat} {r : St} (C : nd_C p l s m args c A (dC, dI) cX13_quoted 4 RX13 ow_dm_X13_quoted (dk_X13 ac)) (K : nd_Kv p l e (headSpec ow_dm_X13_quoted ({ frames := 6, cells := 0, slots := 0, locals := 135 })).room s m args below meth c Q A (dC, dI) cX13_quoted (St) (dw_X13 a ac) r) {g21 : Int32 → Int32 → Int32 → (St) → Option (St)} (J21 : dj_X13_quoted_21 p l e s m args below meth c Q A dC dI a ac g21 r) : dj_X13_quoted_21 p l e s m args below meth c Q A dC dI a ac (dF_X13_quoted_21 n g21) r := by
  obtain ⟨hlt, hx, hb, hml, hown, hts, hN, hA, hK⟩ := id C
  intro x1 x2 x3 s0 H locs ls h hP hD hS hl
  unfold dF_X13_quoted_21 at h
  refine lv_iload_n hx hb dX13_quoted_21 rfl (lv_at hl 3 rfl) ?_
  refine lv_iload_n hx hb dX13_quoted_22 rfl (lv_at hl 2 rfl) ?_
  refine lv_iconst (v := 1) hx hb dX13_quoted_23 (by decide) ?_
  refine lv_isub hx hb dX13_quoted_24 ?_
  refine lv_icmp_ge (tgt := 47) hx hb dX13_quoted_25 (by decide) (fun c7 => ?_) (fun c7 => ?_)
  · have h := nd_pos h c7
    refine lv_aload_n hx hb dX13_quoted_47 rfl (lv_at hl 0 rfl) ?_
    refine lv_iload_n hx hb dX13_quoted_48 rfl (lv_at hl 2 rfl) ?_
    refine va_put (D := (dC, dI)) (ci := 14) (v := .int x2) (ty := .int) (C := RX13) (T := TX13) (N := 37) hx hb hts hi_dm_X13_quoted_X13 tyX13 tyX13_ok nmX13 hown hK hP hD hS 0 rfl rfl 16 (by decide) (hts (.fieldLink RX13 374 "TimeMachineModel$Assembler" "at" "I") (List.mem_of_getElem? (i := 7) rfl)) (fun _ h9 => h9) rfl (by decide +kernel) rfl rfl (Nat.le_of_ble_eq_true rfl) dX13_quoted_49 (fun H locs hP hD hS => ?_)
    obtain ⟨s8, es8, h⟩ := nd_let_e h
    have hP : va_P (dC, dI) vwCl (dw_X13 a ac s8) H := by rw [es8]; exact hP
    have hD : va_D A (dw_X13 a ac s8) := by rw [es8]; exact hD
    refine lv_iload_n hx hb dX13_quoted_52 rfl (lv_at hl 1 rfl) ?_
    refine lv_if_eq (tgt := 61) hx hb dX13_quoted_53 (by decide) (fun c9 => ?_) (fun c9 => ?_)
    · have h := nd_pos h c9
      exact (db_X13_quoted_61 C K)  s8 _ _ _ h hP hD hS (lv_sub hl [] rfl)
    · have h := nd_neg h c9
      refine lv_aload_n hx hb dX13_quoted_56 rfl (lv_at hl 0 rfl) ?_
      refine lv_iconst (v := 0) hx hb dX13_quoted_57 (by decide) ?_
      obtain ⟨s11, hq, h⟩ := nd_b1_e h
      have hPc := hP
      have hDc := hD
      have hKc := hK
      have hFc := nd_rs hD hS hA
      refine nd_cVv (As := [.int 0]) (rest := []) (w' := dw_X13 a ac s11) ⟨hx, hb, hml, hown, hts⟩ (fun sz => dm_X13_put l hlt dC dI a ac n (0) s8 hq sz) (cwV 1 hts gi_dm_X13_quoted_1 rfl rfl rfl (by decide +kernel) ⟨Nat.le_of_ble_eq_true rfl, Nat.le_of_ble_eq_true rfl⟩) hPc hDc hKc hS hA hN (va_recv hKc hPc (ci := 14) (q0 := 0) rfl rfl) rfl hl.1 rfl (Nat.le_of_ble_eq_true rfl) dX13_quoted_58 (fun H locs hP1 hD1 hk1 hS => ?_)
      have hP := hP1
      have hD := hD1.weaken (fun k q _ h => hFc q.1 h)
      exact (db_X13_quoted_61 C K)  s11 _ _ _ h hP hD hS (lv_sub hl [] rfl)
  · have h := nd_neg h c7
    refine lv_aload_n hx hb dX13_quoted_28 rfl (lv_at hl 0 rfl) ?_
    refine lv_aload_n hx hb dX13_quoted_29 rfl (lv_at hl 0 rfl) ?_
    refine lv_iload_n hx hb dX13_quoted_30 rfl (lv_at hl 3 rfl) ?_
    refine lv_bipush (v := 34) hx hb dX13_quoted_31 (by decide) ?_
    obtain ⟨q13, s14, hq, h⟩ := nd_b2_e h
    have hPc := hP
    have hDc := hD
    have hKc := hK
    have hFc := nd_rs hD hS hA
    refine nd_cVi (As := [.int x3, .int 34]) (rest := [.ref (a 0)]) (q := q13) (w' := dw_X13 a ac s14) ⟨hx, hb, hml, hown, hts⟩ (fun sz => dm_X13_shown l hlt dC dI a ac n (x3) (34) s0 hq sz) (cwV 2 hts gi_dm_X13_quoted_2 rfl rfl rfl (by decide +kernel) ⟨Nat.le_of_ble_eq_true rfl, Nat.le_of_ble_eq_true rfl⟩) hPc hDc hKc hS hA hN (va_recv hKc hPc (ci := 14) (q0 := 0) rfl rfl) rfl hl.1 rfl (Nat.le_of_ble_eq_true rfl) dX13_quoted_33 (fun H locs hP1 hD1 hk1 hS => ?_)
    have hP := hP1
    have hD := hD1.weaken (fun k q _ h => hFc q.1 h)
    obtain ⟨s17, hq, h⟩ := nd_b1_e h
    have hPc := hP
    have hDc := hD
    have hKc := hK
    have hFc := nd_rs hD hS hA
    refine nd_cVv (As := [.int q13]) (rest := []) (w' := dw_X13 a ac s17) ⟨hx, hb, hml, hown, hts⟩ (fun sz => dm_X13_put l hlt dC dI a ac n (q13) s14 hq sz) (cwV 1 hts gi_dm_X13_quoted_1 rfl rfl rfl (by decide +kernel) ⟨Nat.le_of_ble_eq_true rfl, Nat.le_of_ble_eq_true rfl⟩) hPc hDc hKc hS hA hN (va_recv hKc hPc (ci := 14) (q0 := 0) rfl rfl) rfl hl.1 rfl (Nat.le_of_ble_eq_true rfl) dX13_quoted_36 (fun H locs hP1 hD1 hk1 hS => ?_)
    have hP := hP1
    have hD := hD1.weaken (fun k q _ h => hFc q.1 h)
    refine lv_aload_n hx hb dX13_quoted_39 rfl (lv_at hl 0 rfl) ?_
    refine va_get (D := (dC, dI)) (ci := 14) (v := .int (sI s17 10)) (C := RX13) (T := TX13) (N := 37) hx hb hts hi_dm_X13_quoted_X13 hown hK hP 0 rfl rfl 19 (by decide) (hts (.fieldLink RX13 371 "TimeMachineModel$Assembler" "to" "I") (List.mem_of_getElem? (i := 5) rfl)) (fun _ h9 => h9) rfl dX13_quoted_40 ?_
    refine lv_topi (fun z19 ez19 => ?_)
    have h := nd_at h ez19
    refine lv_istore_n (lv' := [(3, .int z19), (0, .ref (a 0)), (1, .int x1), (2, .int x2)]) hx hb dX13_quoted_43 rfl hl (by decide) rfl (fun ls hl => ?_)
    refine lv_goto (tgt := 21) hx hb dX13_quoted_44 (by decide) ?_
    exact (J21) (x1) (x2) (z19) s17 _ _ _ h hP hD hS (lv_sub hl [1, 2, 3, 0] rfl)
set_option maxHeartbeats 40000000 in
set_option maxRecDepth 100000 in
theorem db_X13_quoted_21 {p : Program} {l : Launch} {e : Env} {s : State} {m : MethodId} {args : Array Value} {below : List Frame} {meth : Method} {c : Code} {Q : State → Prop} {A : Nat → Prop} {dC : Nat → ClassId} {dI : Nat → Nat → Nat} {a : Nat → Nat} {ac : Nat → ClassId} {n : Nat} {r : St} (C : nd_C p l s m args c A (dC, dI) cX13_quoted 4 RX13 ow_dm_X13_quoted (dk_X13 ac)) (K : nd_Kv p l e (headSpec ow_dm_X13_quoted ({ frames := 6, cells := 0, slots := 0, locals := 135 })).room s m args below meth c Q A (dC, dI) cX13_quoted (St) (dw_X13 a ac) r) (k : Nat) : dj_X13_quoted_21 p l e s m args below meth c Q A dC dI a ac (df_X13_quoted_21 n k) r := by
  induction k with
  | zero => intro x1 x2 x3 s0 H locs ls h; exact nomatch (show (none : Option (St)) = some r from h)
  | succ k ih => exact dB_X13_quoted_21 C K ih
set_option maxHeartbeats 40000000 in
set_option maxRecDepth 100000 in
theorem db_X13_quoted_0 {p : Program} {l : Launch} {e : Env} {s : State} {m : MethodId} {args : Array Value} {below : List Frame} {meth : Method} {c : Code} {Q : State → Prop} {A : Nat → Prop} {dC : Nat → ClassId} {dI : Nat → Nat → Nat} {a : Nat → Nat} {ac : Nat → ClassId} {n : Nat} {r : St} (C : nd_C p l s m args c A (dC, dI) cX13_quoted 4 RX13 ow_dm_X13_quoted (dk_X13 ac)) (K : nd_Kv p l e (headSpec ow_dm_X13_quoted ({ frames := 6, cells := 0, slots := 0, locals := 135 })).room s m args below meth c Q A (dC, dI) cX13_quoted (St) (dw_X13 a ac) r) : dj_X13_quoted_0 p l e s m args below meth c Q A dC dI a ac (df_X13_quoted_0 n) r := by
  obtain ⟨hlt, hx, hb, hml, hown, hts, hN, hA, hK⟩ := id C
  intro v0 s0 H locs ls h hP hD hS hl
  unfold df_X13_quoted_0 at h
  refine lv_aload_n hx hb dX13_quoted_0 rfl (lv_at hl 0 rfl) ?_
  refine lv_iconst (v := 4) hx hb dX13_quoted_1 (by decide) ?_
  obtain ⟨q1, s2, hq, h⟩ := nd_b2_e h
  have hPc := hP
  have hDc := hD
  have hKc := hK
  have hFc := nd_rs hD hS hA
  refine nd_cVi (As := [.int 4]) (rest := []) (q := q1) (w' := dw_X13 a ac s2) ⟨hx, hb, hml, hown, hts⟩ (fun sz => dm_X13_needs l hlt dC dI a ac n (4) s0 hq sz) (cwV 1 hts gi_dm_X13_quoted_0 rfl rfl rfl (by decide +kernel) ⟨Nat.le_of_ble_eq_true rfl, Nat.le_of_ble_eq_true rfl⟩) hPc hDc hKc hS hA hN (va_recv hKc hPc (ci := 14) (q0 := 0) rfl rfl) rfl hl.1 rfl (Nat.le_of_ble_eq_true rfl) dX13_quoted_2 (fun H locs hP1 hD1 hk1 hS => ?_)
  have hP := hP1
  have hD := hD1.weaken (fun k q _ h => hFc q.1 h)
  refine lv_if_ne (tgt := 9) hx hb dX13_quoted_5 (by decide) (fun c4 => ?_) (fun c4 => ?_)
  · have h := nd_neg h c4
    refine lv_aload_n hx hb dX13_quoted_9 rfl (lv_at hl 0 rfl) ?_
    refine va_get (D := (dC, dI)) (ci := 14) (v := .int (sI s2 10)) (C := RX13) (T := TX13) (N := 37) hx hb hts hi_dm_X13_quoted_X13 hown hK hP 0 rfl rfl 19 (by decide) (hts (.fieldLink RX13 371 "TimeMachineModel$Assembler" "to" "I") (List.mem_of_getElem? (i := 5) rfl)) (fun _ h9 => h9) rfl dX13_quoted_10 ?_
    refine lv_topi (fun z5 ez5 => ?_)
    have h := nd_at h ez5
    refine lv_istore_n (lv' := [(2, .int z5), (0, .ref (a 0)), (1, .int v0)]) hx hb dX13_quoted_13 rfl hl (by decide) rfl (fun ls hl => ?_)
    refine lv_aload_n hx hb dX13_quoted_14 rfl (lv_at hl 1 rfl) ?_
    refine va_get (D := (dC, dI)) (ci := 14) (v := .int (sI s2 9)) (C := RX13) (T := TX13) (N := 37) hx hb hts hi_dm_X13_quoted_X13 hown hK hP 0 rfl rfl 18 (by decide) (hts (.fieldLink RX13 368 "TimeMachineModel$Assembler" "from" "I") (List.mem_of_getElem? (i := 6) rfl)) (fun _ h9 => h9) rfl dX13_quoted_15 ?_
    refine lv_iconst (v := 1) hx hb dX13_quoted_18 (by decide) ?_
    refine lv_iadd hx hb dX13_quoted_19 ?_
    refine lv_topi (fun z6 ez6 => ?_)
    have h := nd_at h ez6
    refine lv_istore_n (lv' := [(3, .int z6), (2, .int z5), (0, .ref (a 0)), (1, .int v0)]) hx hb dX13_quoted_20 rfl hl (by decide) rfl (fun ls hl => ?_)
    exact (db_X13_quoted_21 C K n) (v0) (z5) (z6) s2 _ _ _ h hP hD hS (lv_sub hl [2, 3, 1, 0] rfl)
  · have h := nd_pos h c4
    exact K _ _ _ _ _ dX13_quoted_8 (Option.some.inj h).symm hP hD hS
set_option maxHeartbeats 40000000 in
set_option maxRecDepth 100000 in
theorem dm_X13_quoted (l : Launch) (hlt : l.stackTraces = false) (dC : Nat → ClassId) (dI : Nat → Nat → Nat) (a : Nat → Nat) (ac : Nat → ClassId) (n : Nat) (v0 : Int32) (s0 : St) {r : St} (h : df_X13_quoted n v0 s0 = some r) (sz : Nat) : Met l yX13_quoted ow_dm_X13_quoted ({ frames := 6, cells := 0, slots := 0, locals := 135 }) (va_Pc [.ref (a 0), .int v0] (fun U => U.heap.size = sz ∧ va_P (dC, dI) vwCl (dw_X13 a ac s0) U.heap ∧ va_K (dC, dI) vwCl (dk_X13 ac) U ∧ va_D (fun _ => True) (dw_X13 a ac s0) ∧ nv_E (va_A (dw_X13 a ac s0) sz) U)) (va_Qv (fun _ => True) (fun (_ : Unit) t => va_P (dC, dI) vwCl (dw_X13 a ac r) t.heap ∧ va_K (dC, dI) vwCl (dk_X13 ac) t ∧ va_D (va_A (dw_X13 a ac s0) sz) (dw_X13 a ac r)) (va_A (dw_X13 a ac s0) sz)) 0 0 (va_A (dw_X13 a ac s0) sz) := by
  refine Met.ofW (cc := cX13_quoted) (maxL := 4) (ret := none) (by decide) rfl ?_
  intro p e s m args below meth c s₁ B hml hv
  obtain ⟨rfl, hsz, hP, hK, hD0, hN⟩ := hv
  have hx := B.exec
  have hb := B.bytes
  have hr := B.returns
  have hts := atoms_spec (ws := ow_dm_X13_quoted) B.pre
  have hown : s.vm.findClass RX13 = some m.cls := findClass_of_methodNamed B.named
  have hlocks := B.notSynchronized
  subst hsz
  have hD := hD0.self (sz := s.heap.size)
  generalize hAe : va_A (dw_X13 a ac s0) s.heap.size = A at hD hN ⊢
  have hA : ∀ q : Nat, s.heap.size ≤ q → A q := fun q h => by rw [← hAe]; exact Or.inr h
  have hl := lv_entry ([.ref (a 0), .int v0]) (n := 4) (Nat.le_of_ble_eq_true rfl)
  rw [lg_entry_eq]
  generalize (lg_sl ([.ref (a 0), .int v0]) ++ List.replicate (4 - (lg_sl ([.ref (a 0), .int v0])).length) Slot.unset).toArray = ls at hl ⊢
  have hl : lv_has ls 4 [(0, .ref (a 0)), (1, .int v0)] := hl
  exact db_X13_quoted_0 (dC := dC) (dI := dI) (a := a) (ac := ac) (n := n) (r := r) ⟨hlt, hx, hb, hml, hown, hts, hN, hA, hK⟩ (fun pc τ H locs ls d er hP hD hS => by subst er; exact W.vret hx hb hr (fun t ht hW => ⟨⟨(), rfl, trivial, by rw [ht]; exact hP, va_K.moved hW.alike hK, hD⟩, hS.F ht⟩) hS.2.2 d) v0 s0 _ _ _ h hP hD va_S.rf (lv_sub hl [0, 1] rfl)
def ow_dm_X13_directive : List Cond := .code yX13_directive cX13_directive 6 none :: ([.fieldLink RX13 410 "TimeMachineModel$Assembler" "fault" "I", .methodLink RX13 525 yX13_expression, .instanceMethod yX13_expression, .selects RX13 yX13_expression yX13_expression, .initialized RX13, .methodLink RX13 579 yX13_isEnd, .instanceMethod yX13_isEnd, .selects RX13 yX13_isEnd yX13_isEnd, .methodLink RX13 506 yX13_needs, .instanceMethod yX13_needs, .selects RX13 yX13_needs yX13_needs, .methodLink RX13 544 yX13_put, .instanceMethod yX13_put, .selects RX13 yX13_put yX13_put, .methodLink RX13 641 yX13_quoted, .instanceMethod yX13_quoted, .selects RX13 yX13_quoted yX13_quoted, .methodLink RX13 605 yX13_fixed, .instanceMethod yX13_fixed, .selects RX13 yX13_fixed yX13_fixed, .fieldLink RX13 334 "TimeMachineModel$Assembler" "bytes" "[I", .fieldLink RX13 454 "TimeMachineModel$Assembler" "current" "I", .fieldLink RX13 541 "TimeMachineModel$Assembler" "count" "I", .constant RX13 640 (32768), .methodLink RX13 637 yX13_constant, .instanceMethod yX13_constant, .selects RX13 yX13_constant yX13_constant, .fieldLink RX13 634 "TimeMachineModel$Assembler" "section" "I"] ++ (u_ws RX13 TX13 37 ++ (ow_dm_X13_expression ++ (ow_dm_X13_isEnd ++ (ow_dm_X13_needs ++ (ow_dm_X13_put ++ (ow_dm_X13_quoted ++ (ow_dm_X13_fixed ++ (ow_dm_X13_constant ++ [])))))))))
theorem gd_dm_X13_directive : ∀ w ∈ ow_dm_X13_directive, (w.onTables && w.keeps) = true ∨ ∃ ty, w = Cond.arrayClass ty := List.forall_mem_cons.mpr ⟨good_of_word rfl, List.forall_mem_append.mpr ⟨fun w h => good_of_word (List.all_eq_true.mp (by decide +kernel) w h), List.forall_mem_append.mpr ⟨gu_X13, List.forall_mem_append.mpr ⟨gd_dm_X13_expression, List.forall_mem_append.mpr ⟨gd_dm_X13_isEnd, List.forall_mem_append.mpr ⟨gd_dm_X13_needs, List.forall_mem_append.mpr ⟨gd_dm_X13_put, List.forall_mem_append.mpr ⟨gd_dm_X13_quoted, List.forall_mem_append.mpr ⟨gd_dm_X13_fixed, List.forall_mem_append.mpr ⟨gd_dm_X13_constant, fun _ h => nomatch h⟩⟩⟩⟩⟩⟩⟩⟩⟩⟩
theorem hi_dm_X13_directive_X13 : ∀ w ∈ u_ws RX13 TX13 37, w ∈ ow_dm_X13_directive := fun w h => List.mem_cons_of_mem _ (List.mem_append_right _ (List.mem_append_left _ h))
theorem gi_dm_X13_directive_0 : GoodIn ow_dm_X13_directive (wsV RX13 525 RX13 yX13_expression ow_dm_X13_expression) := goodIn_app (goodIn_of _ (by decide +kernel)) (fun w h => ⟨List.mem_cons_of_mem _ (List.mem_append_right _ (List.mem_append_right _ (List.mem_append_left _ h))), gd_dm_X13_expression w h⟩)
theorem gi_dm_X13_directive_1 : GoodIn ow_dm_X13_directive (wsV RX13 579 RX13 yX13_isEnd ow_dm_X13_isEnd) := goodIn_app (goodIn_of _ (by decide +kernel)) (fun w h => ⟨List.mem_cons_of_mem _ (List.mem_append_right _ (List.mem_append_right _ (List.mem_append_right _ (List.mem_append_left _ h)))), gd_dm_X13_isEnd w h⟩)
theorem gi_dm_X13_directive_2 : GoodIn ow_dm_X13_directive (wsV RX13 506 RX13 yX13_needs ow_dm_X13_needs) := goodIn_app (goodIn_of _ (by decide +kernel)) (fun w h => ⟨List.mem_cons_of_mem _ (List.mem_append_right _ (List.mem_append_right _ (List.mem_append_right _ (List.mem_append_right _ (List.mem_append_left _ h))))), gd_dm_X13_needs w h⟩)
theorem gi_dm_X13_directive_3 : GoodIn ow_dm_X13_directive (wsV RX13 544 RX13 yX13_put ow_dm_X13_put) := goodIn_app (goodIn_of _ (by decide +kernel)) (fun w h => ⟨List.mem_cons_of_mem _ (List.mem_append_right _ (List.mem_append_right _ (List.mem_append_right _ (List.mem_append_right _ (List.mem_append_right _ (List.mem_append_left _ h)))))), gd_dm_X13_put w h⟩)
theorem gi_dm_X13_directive_4 : GoodIn ow_dm_X13_directive (wsV RX13 641 RX13 yX13_quoted ow_dm_X13_quoted) := goodIn_app (goodIn_of _ (by decide +kernel)) (fun w h => ⟨List.mem_cons_of_mem _ (List.mem_append_right _ (List.mem_append_right _ (List.mem_append_right _ (List.mem_append_right _ (List.mem_append_right _ (List.mem_append_right _ (List.mem_append_left _ h))))))), gd_dm_X13_quoted w h⟩)
theorem gi_dm_X13_directive_5 : GoodIn ow_dm_X13_directive (wsV RX13 605 RX13 yX13_fixed ow_dm_X13_fixed) := goodIn_app (goodIn_of _ (by decide +kernel)) (fun w h => ⟨List.mem_cons_of_mem _ (List.mem_append_right _ (List.mem_append_right _ (List.mem_append_right _ (List.mem_append_right _ (List.mem_append_right _ (List.mem_append_right _ (List.mem_append_right _ (List.mem_append_left _ h)))))))), gd_dm_X13_fixed w h⟩)
theorem gi_dm_X13_directive_6 : GoodIn ow_dm_X13_directive (wsV RX13 637 RX13 yX13_constant ow_dm_X13_constant) := goodIn_app (goodIn_of _ (by decide +kernel)) (fun w h => ⟨List.mem_cons_of_mem _ (List.mem_append_right _ (List.mem_append_right _ (List.mem_append_right _ (List.mem_append_right _ (List.mem_append_right _ (List.mem_append_right _ (List.mem_append_right _ (List.mem_append_right _ (List.mem_append_left _ h))))))))), gd_dm_X13_constant w h⟩)
def dj_X13_directive_185 (p : Program) (l : Launch) (e : Env) (s : State) (m : MethodId) (args : Array Value) (below : List Frame) (meth : Method) (c : Code) (Q : State → Prop) (A : Nat → Prop) (dC : Nat → ClassId) (dI : Nat → Nat → Nat) (a : Nat → Nat) (ac : Nat → ClassId) (g : (St) → Option (St)) (r : St) : Prop := ∀ (s0 : St) (H : Heap) (locs : List Loc) (ls : Array Slot), g s0 = some r → va_P (dC, dI) vwCl (dw_X13 a ac s0) H → va_D A (dw_X13 a ac s0) → va_S A s.heap H locs → lv_has ls 6 [] → W p l e (headSpec ow_dm_X13_directive ({ frames := 10, cells := 0, slots := 0, locals := 228 })).room s m args below meth c H locs 0 0 Q (F0 m 185 ls [])
def dj_X13_directive_181 (p : Program) (l : Launch) (e : Env) (s : State) (m : MethodId) (args : Array Value) (below : List Frame) (meth : Method) (c : Code) (Q : State → Prop) (A : Nat → Prop) (dC : Nat → ClassId) (dI : Nat → Nat → Nat) (a : Nat → Nat) (ac : Nat → ClassId) (g : Int32 → Int32 → Int32 → (St) → Option (St)) (r : St) : Prop := ∀ (x1 : Int32) (x2 : Int32) (y0 : Int32) (s0 : St) (H : Heap) (locs : List Loc) (ls : Array Slot), g x1 x2 y0 s0 = some r → va_P (dC, dI) vwCl (dw_X13 a ac s0) H → va_D A (dw_X13 a ac s0) → va_S A s.heap H locs → lv_has ls 6 [(0, .ref (a 0)), (1, .int x1), (2, .int x2)] → W p l e (headSpec ow_dm_X13_directive ({ frames := 10, cells := 0, slots := 0, locals := 228 })).room s m args below meth c H locs 0 0 Q (F0 m 181 ls [.int y0])
def dj_X13_directive_180 (p : Program) (l : Launch) (e : Env) (s : State) (m : MethodId) (args : Array Value) (below : List Frame) (meth : Method) (c : Code) (Q : State → Prop) (A : Nat → Prop) (dC : Nat → ClassId) (dI : Nat → Nat → Nat) (a : Nat → Nat) (ac : Nat → ClassId) (g : Int32 → Int32 → (St) → Option (St)) (r : St) : Prop := ∀ (x1 : Int32) (x2 : Int32) (s0 : St) (H : Heap) (locs : List Loc) (ls : Array Slot), g x1 x2 s0 = some r → va_P (dC, dI) vwCl (dw_X13 a ac s0) H → va_D A (dw_X13 a ac s0) → va_S A s.heap H locs → lv_has ls 6 [(0, .ref (a 0)), (1, .int x1), (2, .int x2)] → W p l e (headSpec ow_dm_X13_directive ({ frames := 10, cells := 0, slots := 0, locals := 228 })).room s m args below meth c H locs 0 0 Q (F0 m 180 ls [])
def dj_X13_directive_153 (p : Program) (l : Launch) (e : Env) (s : State) (m : MethodId) (args : Array Value) (below : List Frame) (meth : Method) (c : Code) (Q : State → Prop) (A : Nat → Prop) (dC : Nat → ClassId) (dI : Nat → Nat → Nat) (a : Nat → Nat) (ac : Nat → ClassId) (g : Int32 → Int32 → (St) → Option (St)) (r : St) : Prop := ∀ (x1 : Int32) (x2 : Int32) (s0 : St) (H : Heap) (locs : List Loc) (ls : Array Slot), g x1 x2 s0 = some r → va_P (dC, dI) vwCl (dw_X13 a ac s0) H → va_D A (dw_X13 a ac s0) → va_S A s.heap H locs → lv_has ls 6 [(0, .ref (a 0)), (1, .int x1), (2, .int x2)] → W p l e (headSpec ow_dm_X13_directive ({ frames := 10, cells := 0, slots := 0, locals := 228 })).room s m args below meth c H locs 0 0 Q (F0 m 153 ls [])
def dj_X13_directive_129 (p : Program) (l : Launch) (e : Env) (s : State) (m : MethodId) (args : Array Value) (below : List Frame) (meth : Method) (c : Code) (Q : State → Prop) (A : Nat → Prop) (dC : Nat → ClassId) (dI : Nat → Nat → Nat) (a : Nat → Nat) (ac : Nat → ClassId) (g : Int32 → Int32 → Int32 → Int32 → (St) → Option (St)) (r : St) : Prop := ∀ (x1 : Int32) (x2 : Int32) (x4 : Int32) (x5 : Int32) (s0 : St) (H : Heap) (locs : List Loc) (ls : Array Slot), g x1 x2 x4 x5 s0 = some r → va_P (dC, dI) vwCl (dw_X13 a ac s0) H → va_D A (dw_X13 a ac s0) → va_S A s.heap H locs → lv_has ls 6 [(0, .ref (a 0)), (1, .int x1), (2, .int x2), (4, .int x4), (5, .int x5)] → W p l e (headSpec ow_dm_X13_directive ({ frames := 10, cells := 0, slots := 0, locals := 228 })).room s m args below meth c H locs 0 0 Q (F0 m 129 ls [])
def dj_X13_directive_114 (p : Program) (l : Launch) (e : Env) (s : State) (m : MethodId) (args : Array Value) (below : List Frame) (meth : Method) (c : Code) (Q : State → Prop) (A : Nat → Prop) (dC : Nat → ClassId) (dI : Nat → Nat → Nat) (a : Nat → Nat) (ac : Nat → ClassId) (g : Int32 → Int32 → Int32 → (St) → Option (St)) (r : St) : Prop := ∀ (x1 : Int32) (x2 : Int32) (y1 : Int32) (s0 : St) (H : Heap) (locs : List Loc) (ls : Array Slot), g x1 x2 y1 s0 = some r → va_P (dC, dI) vwCl (dw_X13 a ac s0) H → va_D A (dw_X13 a ac s0) → va_S A s.heap H locs → lv_has ls 6 [(0, .ref (a 0)), (1, .int x1), (2, .int x2)] → W p l e (headSpec ow_dm_X13_directive ({ frames := 10, cells := 0, slots := 0, locals := 228 })).room s m args below meth c H locs 0 0 Q (F0 m 114 ls [.int y1, .ref (a 0)])
def dj_X13_directive_87 (p : Program) (l : Launch) (e : Env) (s : State) (m : MethodId) (args : Array Value) (below : List Frame) (meth : Method) (c : Code) (Q : State → Prop) (A : Nat → Prop) (dC : Nat → ClassId) (dI : Nat → Nat → Nat) (a : Nat → Nat) (ac : Nat → ClassId) (g : Int32 → Int32 → Int32 → (St) → Option (St)) (r : St) : Prop := ∀ (x1 : Int32) (x2 : Int32) (x3 : Int32) (s0 : St) (H : Heap) (locs : List Loc) (ls : Array Slot), g x1 x2 x3 s0 = some r → va_P (dC, dI) vwCl (dw_X13 a ac s0) H → va_D A (dw_X13 a ac s0) → va_S A s.heap H locs → lv_has ls 6 [(0, .ref (a 0)), (1, .int x1), (2, .int x2), (3, .int x3)] → W p l e (headSpec ow_dm_X13_directive ({ frames := 10, cells := 0, slots := 0, locals := 228 })).room s m args below meth c H locs 0 0 Q (F0 m 87 ls [])
def dj_X13_directive_0 (p : Program) (l : Launch) (e : Env) (s : State) (m : MethodId) (args : Array Value) (below : List Frame) (meth : Method) (c : Code) (Q : State → Prop) (A : Nat → Prop) (dC : Nat → ClassId) (dI : Nat → Nat → Nat) (a : Nat → Nat) (ac : Nat → ClassId) (g : Int32 → Int32 → (St) → Option (St)) (r : St) : Prop := ∀ (v0 : Int32) (v1 : Int32) (s0 : St) (H : Heap) (locs : List Loc) (ls : Array Slot), g v0 v1 s0 = some r → va_P (dC, dI) vwCl (dw_X13 a ac s0) H → va_D A (dw_X13 a ac s0) → va_S A s.heap H locs → lv_has ls 6 [(0, .ref (a 0)), (1, .int v0), (2, .int v1)] → W p l e (headSpec ow_dm_X13_directive ({ frames := 10, cells := 0, slots := 0, locals := 228 })).room s m args below meth c H locs 0 0 Q (F0 m 0 ls [])
set_option maxHeartbeats 40000000 in
set_option maxRecDepth 100000 in
theorem db_X13_directive_185 {p : Program} {l : Launch} {e : Env} {s : State} {m : MethodId} {args : Array Value} {below : List Frame} {meth : Method} {c : Code} {Q : State → Prop} {A : Nat → Prop} {dC : Nat → ClassId} {dI : Nat → Nat → Nat} {a : Nat → Nat} {ac : Nat → ClassId} {n : Nat} {r : St} (C : nd_C p l s m args c A (dC, dI) cX13_directive 6 RX13 ow_dm_X13_directive (dk_X13 ac)) (K : nd_Kv p l e (headSpec ow_dm_X13_directive ({ frames := 10, cells := 0, slots := 0, locals := 228 })).room s m args below meth c Q A (dC, dI) cX13_directive (St) (dw_X13 a ac) r) : dj_X13_directive_185 p l e s m args below meth c Q A dC dI a ac (df_X13_directive_185 n) r := by
  obtain ⟨hlt, hx, hb, hml, hown, hts, hN, hA, hK⟩ := id C
  intro s0 H locs ls h hP hD hS hl
  unfold df_X13_directive_185 at h
  exact K _ _ _ _ _ dX13_directive_185 (Option.some.inj h).symm hP hD hS
set_option maxHeartbeats 40000000 in
set_option maxRecDepth 100000 in
theorem db_X13_directive_181 {p : Program} {l : Launch} {e : Env} {s : State} {m : MethodId} {args : Array Value} {below : List Frame} {meth : Method} {c : Code} {Q : State → Prop} {A : Nat → Prop} {dC : Nat → ClassId} {dI : Nat → Nat → Nat} {a : Nat → Nat} {ac : Nat → ClassId} {n : Nat} {r : St} (C : nd_C p l s m args c A (dC, dI) cX13_directive 6 RX13 ow_dm_X13_directive (dk_X13 ac)) (K : nd_Kv p l e (headSpec ow_dm_X13_directive ({ frames := 10, cells := 0, slots := 0, locals := 228 })).room s m args below meth c Q A (dC, dI) cX13_directive (St) (dw_X13 a ac) r) {g87 : Int32 → Int32 → Int32 → (St) → Option (St)} (J87 : dj_X13_directive_87 p l e s m args below meth c Q A dC dI a ac g87 r) : dj_X13_directive_181 p l e s m args below meth c Q A dC dI a ac (df_X13_directive_181 n g87) r := by
  obtain ⟨hlt, hx, hb, hml, hown, hts, hN, hA, hK⟩ := id C
  intro x1 x2 y0 s0 H locs ls h hP hD hS hl
  unfold df_X13_directive_181 at h
  refine lv_istore_n (lv' := [(3, .int y0), (0, .ref (a 0)), (1, .int x1), (2, .int x2)]) hx hb dX13_directive_181 rfl hl (by decide) rfl (fun ls hl => ?_)
  refine lv_goto (tgt := 87) hx hb dX13_directive_182 (by decide) ?_
  exact (J87) (x1) (x2) (y0) s0 _ _ _ h hP hD hS (lv_sub hl [1, 2, 3, 0] rfl)
set_option maxHeartbeats 40000000 in
set_option maxRecDepth 100000 in
theorem db_X13_directive_180 {p : Program} {l : Launch} {e : Env} {s : State} {m : MethodId} {args : Array Value} {below : List Frame} {meth : Method} {c : Code} {Q : State → Prop} {A : Nat → Prop} {dC : Nat → ClassId} {dI : Nat → Nat → Nat} {a : Nat → Nat} {ac : Nat → ClassId} {n : Nat} {r : St} (C : nd_C p l s m args c A (dC, dI) cX13_directive 6 RX13 ow_dm_X13_directive (dk_X13 ac)) (K : nd_Kv p l e (headSpec ow_dm_X13_directive ({ frames := 10, cells := 0, slots := 0, locals := 228 })).room s m args below meth c Q A (dC, dI) cX13_directive (St) (dw_X13 a ac) r) {g87 : Int32 → Int32 → Int32 → (St) → Option (St)} (J87 : dj_X13_directive_87 p l e s m args below meth c Q A dC dI a ac g87 r) : dj_X13_directive_180 p l e s m args below meth c Q A dC dI a ac (df_X13_directive_180 n g87) r := by
  obtain ⟨hlt, hx, hb, hml, hown, hts, hN, hA, hK⟩ := id C
  intro x1 x2 s0 H locs ls h hP hD hS hl
  unfold df_X13_directive_180 at h
  refine lv_iconst (v := 0) hx hb dX13_directive_180 (by decide) ?_
  exact (db_X13_directive_181 C K J87) (x1) (x2) (0) s0 _ _ _ h hP hD hS (lv_sub hl [0, 1, 2] rfl)
set_option maxHeartbeats 40000000 in
set_option maxRecDepth 100000 in
theorem db_X13_directive_153 {p : Program} {l : Launch} {e : Env} {s : State} {m : MethodId} {args : Array Value} {below : List Frame} {meth : Method} {c : Code} {Q : State → Prop} {A : Nat → Prop} {dC : Nat → ClassId} {dI : Nat → Nat → Nat} {a : Nat → Nat} {ac : Nat → ClassId} {n : Nat} {r : St} (C : nd_C p l s m args c A (dC, dI) cX13_directive 6 RX13 ow_dm_X13_directive (dk_X13 ac)) (K : nd_Kv p l e (headSpec ow_dm_X13_directive ({ frames := 10, cells := 0, slots := 0, locals := 228 })).room s m args below meth c Q A (dC, dI) cX13_directive (St) (dw_X13 a ac) r) {g87 : Int32 → Int32 → Int32 → (St) → Option (St)} (J87 : dj_X13_directive_87 p l e s m args below meth c Q A dC dI a ac g87 r) : dj_X13_directive_153 p l e s m args below meth c Q A dC dI a ac (df_X13_directive_153 n g87) r := by
  obtain ⟨hlt, hx, hb, hml, hown, hts, hN, hA, hK⟩ := id C
  intro x1 x2 s0 H locs ls h hP hD hS hl
  unfold df_X13_directive_153 at h
  refine lv_aload_n hx hb dX13_directive_153 rfl (lv_at hl 0 rfl) ?_
  refine va_get (D := (dC, dI)) (ci := 14) (v := .int (sI s0 12)) (C := RX13) (T := TX13) (N := 37) hx hb hts hi_dm_X13_directive_X13 hown hK hP 0 rfl rfl 21 (by decide) (hts (.fieldLink RX13 410 "TimeMachineModel$Assembler" "fault" "I") (List.mem_of_getElem? (i := 1) rfl)) (fun _ h9 => h9) rfl dX13_directive_154 ?_
  refine lv_if_ne (tgt := 180) hx hb dX13_directive_157 (by decide) (fun c12 => ?_) (fun c12 => ?_)
  · have h := nd_neg h c12
    exact (db_X13_directive_180 C K J87) (x1) (x2) s0 _ _ _ h hP hD hS (lv_sub hl [0, 1, 2] rfl)
  · have h := nd_pos h c12
    refine lv_aload_n hx hb dX13_directive_160 rfl (lv_at hl 0 rfl) ?_
    obtain ⟨q13, s14, hq, h⟩ := nd_b2_e h
    have hPc := hP
    have hDc := hD
    have hKc := hK
    have hFc := nd_rs hD hS hA
    refine nd_cVi (As := []) (rest := []) (q := q13) (w' := dw_X13 a ac s14) ⟨hx, hb, hml, hown, hts⟩ (fun sz => dm_X13_isEnd l hlt dC dI a ac n  s0 hq sz) (cwV 0 hts gi_dm_X13_directive_1 rfl rfl rfl (by decide +kernel) ⟨Nat.le_of_ble_eq_true rfl, Nat.le_of_ble_eq_true rfl⟩) hPc hDc hKc hS hA hN (va_recv hKc hPc (ci := 14) (q0 := 0) rfl rfl) rfl hl.1 rfl (Nat.le_of_ble_eq_true rfl) dX13_directive_161 (fun H locs hP1 hD1 hk1 hS => ?_)
    have hP := hP1
    have hD := hD1.weaken (fun k q _ h => hFc q.1 h)
    refine lv_if_ne (tgt := 180) hx hb dX13_directive_164 (by decide) (fun c16 => ?_) (fun c16 => ?_)
    · have h := nd_neg h c16
      exact (db_X13_directive_180 C K J87) (x1) (x2) s14 _ _ _ h hP hD hS (lv_sub hl [0, 1, 2] rfl)
    · have h := nd_pos h c16
      refine lv_aload_n hx hb dX13_directive_167 rfl (lv_at hl 0 rfl) ?_
      refine lv_bipush (v := 44) hx hb dX13_directive_168 (by decide) ?_
      obtain ⟨q17, s18, hq, h⟩ := nd_b2_e h
      have hPc := hP
      have hDc := hD
      have hKc := hK
      have hFc := nd_rs hD hS hA
      refine nd_cVi (As := [.int 44]) (rest := []) (q := q17) (w' := dw_X13 a ac s18) ⟨hx, hb, hml, hown, hts⟩ (fun sz => dm_X13_needs l hlt dC dI a ac n (44) s14 hq sz) (cwV 1 hts gi_dm_X13_directive_2 rfl rfl rfl (by decide +kernel) ⟨Nat.le_of_ble_eq_true rfl, Nat.le_of_ble_eq_true rfl⟩) hPc hDc hKc hS hA hN (va_recv hKc hPc (ci := 14) (q0 := 0) rfl rfl) rfl hl.1 rfl (Nat.le_of_ble_eq_true rfl) dX13_directive_170 (fun H locs hP1 hD1 hk1 hS => ?_)
      have hP := hP1
      have hD := hD1.weaken (fun k q _ h => hFc q.1 h)
      refine lv_if_eq (tgt := 180) hx hb dX13_directive_173 (by decide) (fun c20 => ?_) (fun c20 => ?_)
      · have h := nd_pos h c20
        exact (db_X13_directive_180 C K J87) (x1) (x2) s18 _ _ _ h hP hD hS (lv_sub hl [0, 1, 2] rfl)
      · have h := nd_neg h c20
        refine lv_iconst (v := 1) hx hb dX13_directive_176 (by decide) ?_
        refine lv_goto (tgt := 181) hx hb dX13_directive_177 (by decide) ?_
        exact (db_X13_directive_181 C K J87) (x1) (x2) (1) s18 _ _ _ h hP hD hS (lv_sub hl [0, 1, 2] rfl)
set_option maxHeartbeats 40000000 in
set_option maxRecDepth 100000 in
theorem dB_X13_directive_129 {p : Program} {l : Launch} {e : Env} {s : State} {m : MethodId} {args : Array Value} {below : List Frame} {meth : Method} {c : Code} {Q : State → Prop} {A : Nat → Prop} {dC : Nat → ClassId} {dI : Nat → Nat → Nat} {a : Nat → Nat} {ac : Nat → ClassId} {n : Nat} {r : St} (C : nd_C p l s m args c A (dC, dI) cX13_directive 6 RX13 ow_dm_X13_directive (dk_X13 ac)) (K : nd_Kv p l e (headSpec ow_dm_X13_directive ({ frames := 10, cells := 0, slots := 0, locals := 228 })).room s m args below meth c Q A (dC, dI) cX13_directive (St) (dw_X13 a ac) r) {g87 : Int32 → Int32 → Int32 → (St) → Option (St)} (J87 : dj_X13_directive_87 p l e s m args below meth c Q A dC dI a ac g87 r) {g129 : Int32 → Int32 → Int32 → Int32 → (St) → Option (St)} (J129 : dj_X13_directive_129 p l e s m args below meth c Q A dC dI a ac g129 r) : dj_X13_directive_129 p l e s m args below meth c Q A dC dI a ac (dF_X13_directive_129 n g87 g129) r := by
  obtain ⟨hlt, hx, hb, hml, hown, hts, hN, hA, hK⟩ := id C
  intro x1 x2 x4 x5 s0 H locs ls h hP hD hS hl
  unfold dF_X13_directive_129 at h
  refine lv_iload hx hb dX13_directive_129 (lv_at hl 4 rfl) ?_
  refine lv_iload_n hx hb dX13_directive_131 rfl (lv_at hl 2 rfl) ?_
  refine lv_icmp_ge (tgt := 153) hx hb dX13_directive_132 (by decide) (fun c11 => ?_) (fun c11 => ?_)
  · have h := nd_pos h c11
    exact (db_X13_directive_153 C K J87) (x1) (x2) s0 _ _ _ h hP hD hS (lv_sub hl [0, 1, 2] rfl)
  · have h := nd_neg h c11
    refine lv_aload_n hx hb dX13_directive_135 rfl (lv_at hl 0 rfl) ?_
    refine lv_iload hx hb dX13_directive_136 (lv_at hl 3 rfl) ?_
    refine lv_bipush (v := 8) hx hb dX13_directive_138 (by decide) ?_
    refine lv_iload hx hb dX13_directive_140 (lv_at hl 4 rfl) ?_
    refine lv_imul hx hb dX13_directive_142 ?_
    refine lv_ishr hx hb dX13_directive_143 ?_
    obtain ⟨s22, hq, h⟩ := nd_b1_e h
    have hPc := hP
    have hDc := hD
    have hKc := hK
    have hFc := nd_rs hD hS hA
    refine nd_cVv (As := [.int ((x4 : Int32) >>> (((8 * x5) : Int32) &&& 31))]) (rest := []) (w' := dw_X13 a ac s22) ⟨hx, hb, hml, hown, hts⟩ (fun sz => dm_X13_put l hlt dC dI a ac n (((x4 : Int32) >>> (((8 * x5) : Int32) &&& 31))) s0 hq sz) (cwV 1 hts gi_dm_X13_directive_3 rfl rfl rfl (by decide +kernel) ⟨Nat.le_of_ble_eq_true rfl, Nat.le_of_ble_eq_true rfl⟩) hPc hDc hKc hS hA hN (va_recv hKc hPc (ci := 14) (q0 := 0) rfl rfl) rfl hl.1 rfl (Nat.le_of_ble_eq_true rfl) dX13_directive_144 (fun H locs hP1 hD1 hk1 hS => ?_)
    have hP := hP1
    have hD := hD1.weaken (fun k q _ h => hFc q.1 h)
    obtain ⟨z24, ez24, h⟩ := nd_let_e h
    refine lv_iinc (v := z24) (lv' := [(5, .int z24), (0, .ref (a 0)), (1, .int x1), (2, .int x2), (4, .int x4)]) hx hb dX13_directive_147 hl (k := 4) rfl (by rw [ez24]) (by decide) rfl (fun ls hl => ?_)
    refine lv_goto (tgt := 129) hx hb dX13_directive_150 (by decide) ?_
    exact (J129) (x1) (x2) (x4) (z24) s22 _ _ _ h hP hD hS (lv_sub hl [1, 2, 3, 4, 0] rfl)
set_option maxHeartbeats 40000000 in
set_option maxRecDepth 100000 in
theorem db_X13_directive_129 {p : Program} {l : Launch} {e : Env} {s : State} {m : MethodId} {args : Array Value} {below : List Frame} {meth : Method} {c : Code} {Q : State → Prop} {A : Nat → Prop} {dC : Nat → ClassId} {dI : Nat → Nat → Nat} {a : Nat → Nat} {ac : Nat → ClassId} {n : Nat} {r : St} (C : nd_C p l s m args c A (dC, dI) cX13_directive 6 RX13 ow_dm_X13_directive (dk_X13 ac)) (K : nd_Kv p l e (headSpec ow_dm_X13_directive ({ frames := 10, cells := 0, slots := 0, locals := 228 })).room s m args below meth c Q A (dC, dI) cX13_directive (St) (dw_X13 a ac) r) {g87 : Int32 → Int32 → Int32 → (St) → Option (St)} (J87 : dj_X13_directive_87 p l e s m args below meth c Q A dC dI a ac g87 r) (k : Nat) : dj_X13_directive_129 p l e s m args below meth c Q A dC dI a ac (df_X13_directive_129 n g87 k) r := by
  induction k with
  | zero => intro x1 x2 x4 x5 s0 H locs ls h; exact nomatch (show (none : Option (St)) = some r from h)
  | succ k ih => exact dB_X13_directive_129 C K J87 ih
set_option maxHeartbeats 40000000 in
set_option maxRecDepth 100000 in
theorem db_X13_directive_114 {p : Program} {l : Launch} {e : Env} {s : State} {m : MethodId} {args : Array Value} {below : List Frame} {meth : Method} {c : Code} {Q : State → Prop} {A : Nat → Prop} {dC : Nat → ClassId} {dI : Nat → Nat → Nat} {a : Nat → Nat} {ac : Nat → ClassId} {n : Nat} {r : St} (C : nd_C p l s m args c A (dC, dI) cX13_directive 6 RX13 ow_dm_X13_directive (dk_X13 ac)) (K : nd_Kv p l e (headSpec ow_dm_X13_directive ({ frames := 10, cells := 0, slots := 0, locals := 228 })).room s m args below meth c Q A (dC, dI) cX13_directive (St) (dw_X13 a ac) r) {g87 : Int32 → Int32 → Int32 → (St) → Option (St)} (J87 : dj_X13_directive_87 p l e s m args below meth c Q A dC dI a ac g87 r) : dj_X13_directive_114 p l e s m args below meth c Q A dC dI a ac (df_X13_directive_114 n g87) r := by
  obtain ⟨hlt, hx, hb, hml, hown, hts, hN, hA, hK⟩ := id C
  intro x1 x2 y1 s0 H locs ls h hP hD hS hl
  unfold df_X13_directive_114 at h
  obtain ⟨s27, hq, h⟩ := nd_b1_e h
  have hPc := hP
  have hDc := hD
  have hKc := hK
  have hFc := nd_rs hD hS hA
  refine nd_cVv (As := [.int y1]) (rest := []) (w' := dw_X13 a ac s27) ⟨hx, hb, hml, hown, hts⟩ (fun sz => dm_X13_quoted l hlt dC dI a ac n (y1) s0 hq sz) (cwV 1 hts gi_dm_X13_directive_4 rfl rfl rfl (by decide +kernel) ⟨Nat.le_of_ble_eq_true rfl, Nat.le_of_ble_eq_true rfl⟩) hPc hDc hKc hS hA hN (va_recv hKc hPc (ci := 14) (q0 := 0) rfl rfl) rfl hl.1 rfl (Nat.le_of_ble_eq_true rfl) dX13_directive_114 (fun H locs hP1 hD1 hk1 hS => ?_)
  have hP := hP1
  have hD := hD1.weaken (fun k q _ h => hFc q.1 h)
  refine lv_goto (tgt := 153) hx hb dX13_directive_117 (by decide) ?_
  exact (db_X13_directive_153 C K J87) (x1) (x2) s27 _ _ _ h hP hD hS (lv_sub hl [0, 1, 2] rfl)
set_option maxHeartbeats 40000000 in
set_option maxRecDepth 100000 in
theorem dB_X13_directive_87 {p : Program} {l : Launch} {e : Env} {s : State} {m : MethodId} {args : Array Value} {below : List Frame} {meth : Method} {c : Code} {Q : State → Prop} {A : Nat → Prop} {dC : Nat → ClassId} {dI : Nat → Nat → Nat} {a : Nat → Nat} {ac : Nat → ClassId} {n : Nat} {r : St} (C : nd_C p l s m args c A (dC, dI) cX13_directive 6 RX13 ow_dm_X13_directive (dk_X13 ac)) (K : nd_Kv p l e (headSpec ow_dm_X13_directive ({ frames := 10, cells := 0, slots := 0, locals := 228 })).room s m args below meth c Q A (dC, dI) cX13_directive (St) (dw_X13 a ac) r) {g87 : Int32 → Int32 → Int32 → (St) → Option (St)} (J87 : dj_X13_directive_87 p l e s m args below meth c Q A dC dI a ac g87 r) : dj_X13_directive_87 p l e s m args below meth c Q A dC dI a ac (dF_X13_directive_87 n g87) r := by
  obtain ⟨hlt, hx, hb, hml, hown, hts, hN, hA, hK⟩ := id C
  intro x1 x2 x3 s0 H locs ls h hP hD hS hl
  unfold dF_X13_directive_87 at h
  refine lv_iload_n hx hb dX13_directive_87 rfl (lv_at hl 3 rfl) ?_
  refine lv_if_eq (tgt := 185) hx hb dX13_directive_88 (by decide) (fun c5 => ?_) (fun c5 => ?_)
  · have h := nd_pos h c5
    exact (db_X13_directive_185 C K)  s0 _ _ _ h hP hD hS (lv_sub hl [] rfl)
  · have h := nd_neg h c5
    refine lv_aload_n hx hb dX13_directive_91 rfl (lv_at hl 0 rfl) ?_
    refine va_get (D := (dC, dI)) (ci := 14) (v := .int (sI s0 12)) (C := RX13) (T := TX13) (N := 37) hx hb hts hi_dm_X13_directive_X13 hown hK hP 0 rfl rfl 21 (by decide) (hts (.fieldLink RX13 410 "TimeMachineModel$Assembler" "fault" "I") (List.mem_of_getElem? (i := 1) rfl)) (fun _ h9 => h9) rfl dX13_directive_92 ?_
    refine lv_if_ne (tgt := 185) hx hb dX13_directive_95 (by decide) (fun c6 => ?_) (fun c6 => ?_)
    · have h := nd_neg h c6
      exact (db_X13_directive_185 C K)  s0 _ _ _ h hP hD hS (lv_sub hl [] rfl)
    · have h := nd_pos h c6
      refine lv_iload_n hx hb dX13_directive_98 rfl (lv_at hl 2 rfl) ?_
      refine lv_if_ne (tgt := 120) hx hb dX13_directive_99 (by decide) (fun c7 => ?_) (fun c7 => ?_)
      · have h := nd_neg h c7
        refine lv_aload_n hx hb dX13_directive_120 rfl (lv_at hl 0 rfl) ?_
        obtain ⟨q8, s9, hq, h⟩ := nd_b2_e h
        have hPc := hP
        have hDc := hD
        have hKc := hK
        have hFc := nd_rs hD hS hA
        refine nd_cVi (As := []) (rest := []) (q := q8) (w' := dw_X13 a ac s9) ⟨hx, hb, hml, hown, hts⟩ (fun sz => dm_X13_expression l hlt dC dI a ac n  s0 hq sz) (cwV 0 hts gi_dm_X13_directive_0 rfl rfl rfl (by decide +kernel) ⟨Nat.le_of_ble_eq_true rfl, Nat.le_of_ble_eq_true rfl⟩) hPc hDc hKc hS hA hN (va_recv hKc hPc (ci := 14) (q0 := 0) rfl rfl) rfl hl.1 rfl (Nat.le_of_ble_eq_true rfl) dX13_directive_121 (fun H locs hP1 hD1 hk1 hS => ?_)
        have hP := hP1
        have hD := hD1.weaken (fun k q _ h => hFc q.1 h)
        refine lv_istore (lv' := [(4, .int q8), (0, .ref (a 0)), (1, .int x1), (2, .int x2), (3, .int x3)]) hx hb dX13_directive_124 hl (by decide) rfl (fun ls hl => ?_)
        refine lv_iconst (v := 0) hx hb dX13_directive_126 (by decide) ?_
        refine lv_istore (lv' := [(5, .int 0), (4, .int q8), (0, .ref (a 0)), (1, .int x1), (2, .int x2), (3, .int x3)]) hx hb dX13_directive_127 hl (by decide) rfl (fun ls hl => ?_)
        exact (db_X13_directive_129 C K J87 n) (x1) (x2) (q8) (0) s9 _ _ _ h hP hD hS (lv_sub hl [2, 3, 4, 1, 0] rfl)
      · have h := nd_pos h c7
        refine lv_aload_n hx hb dX13_directive_102 rfl (lv_at hl 0 rfl) ?_
        refine lv_iload_n hx hb dX13_directive_103 rfl (lv_at hl 1 rfl) ?_
        refine lv_bipush (v := 47) hx hb dX13_directive_104 (by decide) ?_
        refine lv_icmp_ne (tgt := 113) hx hb dX13_directive_106 (by decide) (fun c25 => ?_) (fun c25 => ?_)
        · have h := nd_neg h c25
          refine lv_iconst (v := 0) hx hb dX13_directive_113 (by decide) ?_
          exact (db_X13_directive_114 C K J87) (x1) (x2) (0) s0 _ _ _ h hP hD hS (lv_sub hl [0, 1, 2] rfl)
        · have h := nd_pos h c25
          refine lv_iconst (v := 1) hx hb dX13_directive_109 (by decide) ?_
          refine lv_goto (tgt := 114) hx hb dX13_directive_110 (by decide) ?_
          exact (db_X13_directive_114 C K J87) (x1) (x2) (1) s0 _ _ _ h hP hD hS (lv_sub hl [0, 1, 2] rfl)
set_option maxHeartbeats 40000000 in
set_option maxRecDepth 100000 in
theorem db_X13_directive_87 {p : Program} {l : Launch} {e : Env} {s : State} {m : MethodId} {args : Array Value} {below : List Frame} {meth : Method} {c : Code} {Q : State → Prop} {A : Nat → Prop} {dC : Nat → ClassId} {dI : Nat → Nat → Nat} {a : Nat → Nat} {ac : Nat → ClassId} {n : Nat} {r : St} (C : nd_C p l s m args c A (dC, dI) cX13_directive 6 RX13 ow_dm_X13_directive (dk_X13 ac)) (K : nd_Kv p l e (headSpec ow_dm_X13_directive ({ frames := 10, cells := 0, slots := 0, locals := 228 })).room s m args below meth c Q A (dC, dI) cX13_directive (St) (dw_X13 a ac) r) (k : Nat) : dj_X13_directive_87 p l e s m args below meth c Q A dC dI a ac (df_X13_directive_87 n k) r := by
  induction k with
  | zero => intro x1 x2 x3 s0 H locs ls h; exact nomatch (show (none : Option (St)) = some r from h)
  | succ k ih => exact dB_X13_directive_87 C K ih
set_option maxHeartbeats 40000000 in
set_option maxRecDepth 100000 in
theorem db_X13_directive_0 {p : Program} {l : Launch} {e : Env} {s : State} {m : MethodId} {args : Array Value} {below : List Frame} {meth : Method} {c : Code} {Q : State → Prop} {A : Nat → Prop} {dC : Nat → ClassId} {dI : Nat → Nat → Nat} {a : Nat → Nat} {ac : Nat → ClassId} {n : Nat} {r : St} (C : nd_C p l s m args c A (dC, dI) cX13_directive 6 RX13 ow_dm_X13_directive (dk_X13 ac)) (K : nd_Kv p l e (headSpec ow_dm_X13_directive ({ frames := 10, cells := 0, slots := 0, locals := 228 })).room s m args below meth c Q A (dC, dI) cX13_directive (St) (dw_X13 a ac) r) : dj_X13_directive_0 p l e s m args below meth c Q A dC dI a ac (df_X13_directive_0 n) r := by
  obtain ⟨hlt, hx, hb, hml, hown, hts, hN, hA, hK⟩ := id C
  intro v0 v1 s0 H locs ls h hP hD hS hl
  unfold df_X13_directive_0 at h
  refine lv_iload_n hx hb dX13_directive_0 rfl (lv_at hl 1 rfl) ?_
  refine lv_bipush (v := 42) hx hb dX13_directive_1 (by decide) ?_
  refine lv_icmp_ge (tgt := 17) hx hb dX13_directive_3 (by decide) (fun c1 => ?_) (fun c1 => ?_)
  · have h := nd_pos h c1
    refine lv_iload_n hx hb dX13_directive_17 rfl (lv_at hl 1 rfl) ?_
    refine lv_bipush (v := 42) hx hb dX13_directive_18 (by decide) ?_
    refine lv_icmp_ne (tgt := 30) hx hb dX13_directive_20 (by decide) (fun c2 => ?_) (fun c2 => ?_)
    · have h := nd_neg h c2
      refine lv_iload_n hx hb dX13_directive_30 rfl (lv_at hl 1 rfl) ?_
      refine lv_bipush (v := 48) hx hb dX13_directive_31 (by decide) ?_
      refine lv_icmp_ne (tgt := 56) hx hb dX13_directive_33 (by decide) (fun c3 => ?_) (fun c3 => ?_)
      · have h := nd_neg h c3
        refine lv_iload_n hx hb dX13_directive_56 rfl (lv_at hl 1 rfl) ?_
        refine lv_bipush (v := 49) hx hb dX13_directive_57 (by decide) ?_
        refine lv_icmp_ne (tgt := 85) hx hb dX13_directive_59 (by decide) (fun c4 => ?_) (fun c4 => ?_)
        · have h := nd_neg h c4
          refine lv_iconst (v := 1) hx hb dX13_directive_85 (by decide) ?_
          refine lv_istore_n (lv' := [(3, .int 1), (0, .ref (a 0)), (1, .int v0), (2, .int v1)]) hx hb dX13_directive_86 rfl hl (by decide) rfl (fun ls hl => ?_)
          exact (db_X13_directive_87 C K n) (v0) (v1) (1) s0 _ _ _ h hP hD hS (lv_sub hl [1, 2, 3, 0] rfl)
        · have h := nd_pos h c4
          refine lv_aload_n hx hb dX13_directive_62 rfl (lv_at hl 0 rfl) ?_
          refine lv_iconst (v := 0) hx hb dX13_directive_63 (by decide) ?_
          refine lv_bipush (v := 10) hx hb dX13_directive_64 (by decide) ?_
          obtain ⟨q29, s30, hq, h⟩ := nd_b2_e h
          have hPc := hP
          have hDc := hD
          have hKc := hK
          have hFc := nd_rs hD hS hA
          refine nd_cVi (As := [.int 0, .int 10]) (rest := []) (q := q29) (w' := dw_X13 a ac s30) ⟨hx, hb, hml, hown, hts⟩ (fun sz => dm_X13_fixed l hlt dC dI a ac n (0) (10) s0 hq sz) (cwV 2 hts gi_dm_X13_directive_5 rfl rfl rfl (by decide +kernel) ⟨Nat.le_of_ble_eq_true rfl, Nat.le_of_ble_eq_true rfl⟩) hPc hDc hKc hS hA hN (va_recv hKc hPc (ci := 14) (q0 := 0) rfl rfl) rfl hl.1 rfl (Nat.le_of_ble_eq_true rfl) dX13_directive_66 (fun H locs hP1 hD1 hk1 hS => ?_)
          have hP := hP1
          have hD := hD1.weaken (fun k q _ h => hFc q.1 h)
          refine lv_istore_n (lv' := [(3, .int q29), (0, .ref (a 0)), (1, .int v0), (2, .int v1)]) hx hb dX13_directive_69 rfl hl (by decide) rfl (fun ls hl => ?_)
          refine lv_aload_n hx hb dX13_directive_70 rfl (lv_at hl 1 rfl) ?_
          refine va_get (D := (dC, dI)) (ci := 14) (v := .ref (a 7)) (C := RX13) (T := TX13) (N := 37) hx hb hts hi_dm_X13_directive_X13 hown hK hP 0 rfl rfl 9 (by decide) (hts (.fieldLink RX13 334 "TimeMachineModel$Assembler" "bytes" "[I") (List.mem_of_getElem? (i := 21) rfl)) (fun _ h9 => h9) rfl dX13_directive_71 ?_
          refine lv_aload_n hx hb dX13_directive_74 rfl (lv_at hl 1 rfl) ?_
          refine va_get (D := (dC, dI)) (ci := 14) (v := .int (sI s30 16)) (C := RX13) (T := TX13) (N := 37) hx hb hts hi_dm_X13_directive_X13 hown hK hP 0 rfl rfl 25 (by decide) (hts (.fieldLink RX13 454 "TimeMachineModel$Assembler" "current" "I") (List.mem_of_getElem? (i := 22) rfl)) (fun _ h9 => h9) rfl dX13_directive_75 ?_
          refine lv_iconst (v := (-1)) hx hb dX13_directive_78 (by decide) ?_
          refine lv_iload_n hx hb dX13_directive_79 rfl (lv_at hl 0 rfl) ?_
          refine lv_isub hx hb dX13_directive_80 ?_
          obtain ⟨i32, h⟩ := nd_ck_e h
          refine va_iast (i := (sI s30 16)) (x := ((-1) - q29)) hx hb hK hP hD hS 7 6 rfl rfl i32 dX13_directive_81 (fun H locs hP hD hS => ?_)
          obtain ⟨s33, es33, h⟩ := nd_let_e h
          have hP : va_P (dC, dI) vwCl (dw_X13 a ac s33) H := by rw [es33]; exact hP
          have hD : va_D A (dw_X13 a ac s33) := by rw [es33]; exact hD
          refine lv_goto (tgt := 185) hx hb dX13_directive_82 (by decide) ?_
          exact (db_X13_directive_185 C K)  s33 _ _ _ h hP hD hS (lv_sub hl [] rfl)
      · have h := nd_pos h c3
        refine lv_aload_n hx hb dX13_directive_36 rfl (lv_at hl 0 rfl) ?_
        refine lv_dup hx hb dX13_directive_37 rfl ?_
        refine va_get (D := (dC, dI)) (ci := 14) (v := .int (sI s0 18)) (C := RX13) (T := TX13) (N := 37) hx hb hts hi_dm_X13_directive_X13 hown hK hP 0 rfl rfl 27 (by decide) (hts (.fieldLink RX13 541 "TimeMachineModel$Assembler" "count" "I") (List.mem_of_getElem? (i := 23) rfl)) (fun _ h9 => h9) rfl dX13_directive_38 ?_
        refine lv_aload_n hx hb dX13_directive_41 rfl (lv_at hl 0 rfl) ?_
        refine lv_iconst (v := 0) hx hb dX13_directive_42 (by decide) ?_
        refine lv_ldcw hx hb hown (hts (.constant RX13 640 (32768)) (List.mem_of_getElem? (i := 24) rfl)) dX13_directive_43 ?_
        obtain ⟨q34, s35, hq, h⟩ := nd_b2_e h
        have hPc := hP
        have hDc := hD
        have hKc := hK
        have hFc := nd_rs hD hS hA
        refine nd_cVi (As := [.int 0, .int 32768]) (rest := [.int (sI s0 18), .ref (a 0)]) (q := q34) (w' := dw_X13 a ac s35) ⟨hx, hb, hml, hown, hts⟩ (fun sz => dm_X13_fixed l hlt dC dI a ac n (0) (32768) s0 hq sz) (cwV 2 hts gi_dm_X13_directive_5 rfl rfl rfl (by decide +kernel) ⟨Nat.le_of_ble_eq_true rfl, Nat.le_of_ble_eq_true rfl⟩) hPc hDc hKc hS hA hN (va_recv hKc hPc (ci := 14) (q0 := 0) rfl rfl) rfl hl.1 rfl (Nat.le_of_ble_eq_true rfl) dX13_directive_46 (fun H locs hP1 hD1 hk1 hS => ?_)
        have hP := hP1
        have hD := hD1.weaken (fun k q _ h => hFc q.1 h)
        refine lv_iadd hx hb dX13_directive_49 ?_
        refine va_put (D := (dC, dI)) (ci := 14) (v := .int ((sI s0 18) + q34)) (ty := .int) (C := RX13) (T := TX13) (N := 37) hx hb hts hi_dm_X13_directive_X13 tyX13 tyX13_ok nmX13 hown hK hP hD hS 0 rfl rfl 27 (by decide) (hts (.fieldLink RX13 541 "TimeMachineModel$Assembler" "count" "I") (List.mem_of_getElem? (i := 23) rfl)) (fun _ h9 => h9) rfl (by decide +kernel) rfl rfl (Nat.le_of_ble_eq_true rfl) dX13_directive_50 (fun H locs hP hD hS => ?_)
        obtain ⟨s37, es37, h⟩ := nd_let_e h
        have hP : va_P (dC, dI) vwCl (dw_X13 a ac s37) H := by rw [es37]; exact hP
        have hD : va_D A (dw_X13 a ac s37) := by rw [es37]; exact hD
        refine lv_goto (tgt := 185) hx hb dX13_directive_53 (by decide) ?_
        exact (db_X13_directive_185 C K)  s37 _ _ _ h hP hD hS (lv_sub hl [] rfl)
    · have h := nd_pos h c2
      refine lv_aload_n hx hb dX13_directive_23 rfl (lv_at hl 0 rfl) ?_
      obtain ⟨s39, hq, h⟩ := nd_b1_e h
      have hPc := hP
      have hDc := hD
      have hKc := hK
      have hFc := nd_rs hD hS hA
      refine nd_cVv (As := []) (rest := []) (w' := dw_X13 a ac s39) ⟨hx, hb, hml, hown, hts⟩ (fun sz => dm_X13_constant l hlt dC dI a ac n  s0 hq sz) (cwV 0 hts gi_dm_X13_directive_6 rfl rfl rfl (by decide +kernel) ⟨Nat.le_of_ble_eq_true rfl, Nat.le_of_ble_eq_true rfl⟩) hPc hDc hKc hS hA hN (va_recv hKc hPc (ci := 14) (q0 := 0) rfl rfl) rfl hl.1 rfl (Nat.le_of_ble_eq_true rfl) dX13_directive_24 (fun H locs hP1 hD1 hk1 hS => ?_)
      have hP := hP1
      have hD := hD1.weaken (fun k q _ h => hFc q.1 h)
      refine lv_goto (tgt := 185) hx hb dX13_directive_27 (by decide) ?_
      exact (db_X13_directive_185 C K)  s39 _ _ _ h hP hD hS (lv_sub hl [] rfl)
  · have h := nd_neg h c1
    refine lv_aload_n hx hb dX13_directive_6 rfl (lv_at hl 0 rfl) ?_
    refine lv_iload_n hx hb dX13_directive_7 rfl (lv_at hl 1 rfl) ?_
    refine lv_bipush (v := 40) hx hb dX13_directive_8 (by decide) ?_
    refine lv_isub hx hb dX13_directive_10 ?_
    refine va_put (D := (dC, dI)) (ci := 14) (v := .int (v0 - 40)) (ty := .int) (C := RX13) (T := TX13) (N := 37) hx hb hts hi_dm_X13_directive_X13 tyX13 tyX13_ok nmX13 hown hK hP hD hS 0 rfl rfl 23 (by decide) (hts (.fieldLink RX13 634 "TimeMachineModel$Assembler" "section" "I") (List.mem_of_getElem? (i := 28) rfl)) (fun _ h9 => h9) rfl (by decide +kernel) rfl rfl (Nat.le_of_ble_eq_true rfl) dX13_directive_11 (fun H locs hP hD hS => ?_)
    obtain ⟨s41, es41, h⟩ := nd_let_e h
    have hP : va_P (dC, dI) vwCl (dw_X13 a ac s41) H := by rw [es41]; exact hP
    have hD : va_D A (dw_X13 a ac s41) := by rw [es41]; exact hD
    refine lv_goto (tgt := 185) hx hb dX13_directive_14 (by decide) ?_
    exact (db_X13_directive_185 C K)  s41 _ _ _ h hP hD hS (lv_sub hl [] rfl)
set_option maxHeartbeats 40000000 in
set_option maxRecDepth 100000 in
theorem dm_X13_directive (l : Launch) (hlt : l.stackTraces = false) (dC : Nat → ClassId) (dI : Nat → Nat → Nat) (a : Nat → Nat) (ac : Nat → ClassId) (n : Nat) (v0 : Int32) (v1 : Int32) (s0 : St) {r : St} (h : df_X13_directive n v0 v1 s0 = some r) (sz : Nat) : Met l yX13_directive ow_dm_X13_directive ({ frames := 10, cells := 0, slots := 0, locals := 228 }) (va_Pc [.ref (a 0), .int v0, .int v1] (fun U => U.heap.size = sz ∧ va_P (dC, dI) vwCl (dw_X13 a ac s0) U.heap ∧ va_K (dC, dI) vwCl (dk_X13 ac) U ∧ va_D (fun _ => True) (dw_X13 a ac s0) ∧ nv_E (va_A (dw_X13 a ac s0) sz) U)) (va_Qv (fun _ => True) (fun (_ : Unit) t => va_P (dC, dI) vwCl (dw_X13 a ac r) t.heap ∧ va_K (dC, dI) vwCl (dk_X13 ac) t ∧ va_D (va_A (dw_X13 a ac s0) sz) (dw_X13 a ac r)) (va_A (dw_X13 a ac s0) sz)) 0 0 (va_A (dw_X13 a ac s0) sz) := by
  refine Met.ofW (cc := cX13_directive) (maxL := 6) (ret := none) (by decide) rfl ?_
  intro p e s m args below meth c s₁ B hml hv
  obtain ⟨rfl, hsz, hP, hK, hD0, hN⟩ := hv
  have hx := B.exec
  have hb := B.bytes
  have hr := B.returns
  have hts := atoms_spec (ws := ow_dm_X13_directive) B.pre
  have hown : s.vm.findClass RX13 = some m.cls := findClass_of_methodNamed B.named
  have hlocks := B.notSynchronized
  subst hsz
  have hD := hD0.self (sz := s.heap.size)
  generalize hAe : va_A (dw_X13 a ac s0) s.heap.size = A at hD hN ⊢
  have hA : ∀ q : Nat, s.heap.size ≤ q → A q := fun q h => by rw [← hAe]; exact Or.inr h
  have hl := lv_entry ([.ref (a 0), .int v0, .int v1]) (n := 6) (Nat.le_of_ble_eq_true rfl)
  rw [lg_entry_eq]
  generalize (lg_sl ([.ref (a 0), .int v0, .int v1]) ++ List.replicate (6 - (lg_sl ([.ref (a 0), .int v0, .int v1])).length) Slot.unset).toArray = ls at hl ⊢
  have hl : lv_has ls 6 [(0, .ref (a 0)), (1, .int v0), (2, .int v1)] := hl
  exact db_X13_directive_0 (dC := dC) (dI := dI) (a := a) (ac := ac) (n := n) (r := r) ⟨hlt, hx, hb, hml, hown, hts, hN, hA, hK⟩ (fun pc τ H locs ls d er hP hD hS => by subst er; exact W.vret hx hb hr (fun t ht hW => ⟨⟨(), rfl, trivial, by rw [ht]; exact hP, va_K.moved hW.alike hK, hD⟩, hS.F ht⟩) hS.2.2 d) v0 v1 s0 _ _ _ h hP hD va_S.rf (lv_sub hl [0, 1, 2] rfl)
def ow_dm_X13_named : List Cond := .code yX13_named cX13_named 6 (some .int) :: ([.methodLink RX13 423 yX13_packed, .instanceMethod yX13_packed, .selects RX13 yX13_packed yX13_packed, .initialized RX13, .fieldLink RX13 263 "TimeMachineModel$Assembler" "names" "[J"] ++ (u_ws RX13 TX13 37 ++ (ow_dm_X13_packed ++ [])))
theorem gd_dm_X13_named : ∀ w ∈ ow_dm_X13_named, (w.onTables && w.keeps) = true ∨ ∃ ty, w = Cond.arrayClass ty := List.forall_mem_cons.mpr ⟨good_of_word rfl, List.forall_mem_append.mpr ⟨fun w h => good_of_word (List.all_eq_true.mp (by decide +kernel) w h), List.forall_mem_append.mpr ⟨gu_X13, List.forall_mem_append.mpr ⟨gd_dm_X13_packed, fun _ h => nomatch h⟩⟩⟩⟩
theorem hi_dm_X13_named_X13 : ∀ w ∈ u_ws RX13 TX13 37, w ∈ ow_dm_X13_named := fun w h => List.mem_cons_of_mem _ (List.mem_append_right _ (List.mem_append_left _ h))
theorem gi_dm_X13_named_0 : GoodIn ow_dm_X13_named (wsV RX13 423 RX13 yX13_packed ow_dm_X13_packed) := goodIn_app (goodIn_of _ (by decide +kernel)) (fun w h => ⟨List.mem_cons_of_mem _ (List.mem_append_right _ (List.mem_append_right _ (List.mem_append_left _ h))), gd_dm_X13_packed w h⟩)
def dj_X13_named_10 (p : Program) (l : Launch) (e : Env) (s : State) (m : MethodId) (args : Array Value) (below : List Frame) (meth : Method) (c : Code) (Q : State → Prop) (A : Nat → Prop) (dC : Nat → ClassId) (dI : Nat → Nat → Nat) (a : Nat → Nat) (ac : Nat → ClassId) (g : Int64 → Int32 → (St) → Option (Int32 × (St))) (r : Int32 × (St)) : Prop := ∀ (x3 : Int64) (x5 : Int32) (s0 : St) (H : Heap) (locs : List Loc) (ls : Array Slot), g x3 x5 s0 = some r → va_P (dC, dI) vwCl (dw_X13 a ac s0) H → va_D A (dw_X13 a ac s0) → va_S A s.heap H locs → lv_has ls 6 [(0, .ref (a 0)), (3, .long x3), (5, .int x5)] → W p l e (headSpec ow_dm_X13_named ({ frames := 2, cells := 0, slots := 0, locals := 46 })).room s m args below meth c H locs 0 0 Q (F0 m 10 ls [])
def dj_X13_named_0 (p : Program) (l : Launch) (e : Env) (s : State) (m : MethodId) (args : Array Value) (below : List Frame) (meth : Method) (c : Code) (Q : State → Prop) (A : Nat → Prop) (dC : Nat → ClassId) (dI : Nat → Nat → Nat) (a : Nat → Nat) (ac : Nat → ClassId) (g : Int32 → Int32 → (St) → Option (Int32 × (St))) (r : Int32 × (St)) : Prop := ∀ (v0 : Int32) (v1 : Int32) (s0 : St) (H : Heap) (locs : List Loc) (ls : Array Slot), g v0 v1 s0 = some r → va_P (dC, dI) vwCl (dw_X13 a ac s0) H → va_D A (dw_X13 a ac s0) → va_S A s.heap H locs → lv_has ls 6 [(0, .ref (a 0)), (1, .int v0), (2, .int v1)] → W p l e (headSpec ow_dm_X13_named ({ frames := 2, cells := 0, slots := 0, locals := 46 })).room s m args below meth c H locs 0 0 Q (F0 m 0 ls [])
set_option maxHeartbeats 40000000 in
set_option maxRecDepth 100000 in
theorem dB_X13_named_10 {p : Program} {l : Launch} {e : Env} {s : State} {m : MethodId} {args : Array Value} {below : List Frame} {meth : Method} {c : Code} {Q : State → Prop} {A : Nat → Prop} {dC : Nat → ClassId} {dI : Nat → Nat → Nat} {a : Nat → Nat} {ac : Nat → ClassId} {n : Nat} {r : Int32 × (St)} (C : nd_C p l s m args c A (dC, dI) cX13_named 6 RX13 ow_dm_X13_named (dk_X13 ac)) (K : nd_Ki p l e (headSpec ow_dm_X13_named ({ frames := 2, cells := 0, slots := 0, locals := 46 })).room s m args below meth c Q A (dC, dI) cX13_named .int (St) (dw_X13 a ac) r) {g10 : Int64 → Int32 → (St) → Option (Int32 × (St))} (J10 : dj_X13_named_10 p l e s m args below meth c Q A dC dI a ac g10 r) : dj_X13_named_10 p l e s m args below meth c Q A dC dI a ac (dF_X13_named_10 n g10) r := by
  obtain ⟨hlt, hx, hb, hml, hown, hts, hN, hA, hK⟩ := id C
  intro x3 x5 s0 H locs ls h hP hD hS hl
  unfold dF_X13_named_10 at h
  refine lv_iload hx hb dX13_named_10 (lv_at hl 2 rfl) ?_
  refine lv_aload_n hx hb dX13_named_12 rfl (lv_at hl 0 rfl) ?_
  refine va_get (D := (dC, dI)) (ci := 14) (v := .ref (a 1)) (C := RX13) (T := TX13) (N := 37) hx hb hts hi_dm_X13_named_X13 hown hK hP 0 rfl rfl 0 (by decide) (hts (.fieldLink RX13 263 "TimeMachineModel$Assembler" "names" "[J") (List.mem_of_getElem? (i := 5) rfl)) (fun _ h9 => h9) rfl dX13_named_13 ?_
  refine va_alen (v := 128) hx hb hK hP 1 0 rfl rfl (show Int32.ofNat 128 = 128 by decide) dX13_named_16 ?_
  refine lv_icmp_ge (tgt := 41) hx hb dX13_named_17 (by decide) (fun c4 => ?_) (fun c4 => ?_)
  · have h := nd_pos h c4
    refine lv_iconst (v := (-1)) hx hb dX13_named_41 (by decide) ?_
    exact K _ _ _ _ _ _ dX13_named_42 rfl (Option.some.inj h).symm hP hD hS
  · have h := nd_neg h c4
    refine lv_aload_n hx hb dX13_named_20 rfl (lv_at hl 0 rfl) ?_
    refine va_get (D := (dC, dI)) (ci := 14) (v := .ref (a 1)) (C := RX13) (T := TX13) (N := 37) hx hb hts hi_dm_X13_named_X13 hown hK hP 0 rfl rfl 0 (by decide) (hts (.fieldLink RX13 263 "TimeMachineModel$Assembler" "names" "[J") (List.mem_of_getElem? (i := 5) rfl)) (fun _ h9 => h9) rfl dX13_named_21 ?_
    refine lv_iload hx hb dX13_named_24 (lv_at hl 2 rfl) ?_
    obtain ⟨i5, h⟩ := nd_ck_e h
    refine va_lald (i := x5) hx hb hK hP 1 0 rfl rfl i5 dX13_named_26 ?_
    refine lv_lload_n hx hb dX13_named_27 rfl (lv_at hl 1 rfl) ?_
    refine W.lcmp hx hb dX13_named_28 ?_
    refine lv_if_ne (tgt := 35) hx hb dX13_named_29 (by decide) (fun c6 => ?_) (fun c6 => ?_)
    · have h := nd_neg h c6
      obtain ⟨z7, ez7, h⟩ := nd_let_e h
      refine lv_iinc (v := z7) (lv' := [(5, .int z7), (0, .ref (a 0)), (3, .long x3)]) hx hb dX13_named_35 hl (k := 2) rfl (by rw [ez7]) (by decide) rfl (fun ls hl => ?_)
      refine lv_goto (tgt := 10) hx hb dX13_named_38 (by decide) ?_
      exact (J10) (x3) (z7) s0 _ _ _ h hP hD hS (lv_sub hl [1, 2, 0] rfl)
    · have h := nd_pos h c6
      refine lv_iload hx hb dX13_named_32 (lv_at hl 2 rfl) ?_
      exact K _ _ _ _ _ _ dX13_named_34 rfl (Option.some.inj h).symm hP hD hS
set_option maxHeartbeats 40000000 in
set_option maxRecDepth 100000 in
theorem db_X13_named_10 {p : Program} {l : Launch} {e : Env} {s : State} {m : MethodId} {args : Array Value} {below : List Frame} {meth : Method} {c : Code} {Q : State → Prop} {A : Nat → Prop} {dC : Nat → ClassId} {dI : Nat → Nat → Nat} {a : Nat → Nat} {ac : Nat → ClassId} {n : Nat} {r : Int32 × (St)} (C : nd_C p l s m args c A (dC, dI) cX13_named 6 RX13 ow_dm_X13_named (dk_X13 ac)) (K : nd_Ki p l e (headSpec ow_dm_X13_named ({ frames := 2, cells := 0, slots := 0, locals := 46 })).room s m args below meth c Q A (dC, dI) cX13_named .int (St) (dw_X13 a ac) r) (k : Nat) : dj_X13_named_10 p l e s m args below meth c Q A dC dI a ac (df_X13_named_10 n k) r := by
  induction k with
  | zero => intro x3 x5 s0 H locs ls h; exact nomatch (show (none : Option (Int32 × (St))) = some r from h)
  | succ k ih => exact dB_X13_named_10 C K ih
set_option maxHeartbeats 40000000 in
set_option maxRecDepth 100000 in
theorem db_X13_named_0 {p : Program} {l : Launch} {e : Env} {s : State} {m : MethodId} {args : Array Value} {below : List Frame} {meth : Method} {c : Code} {Q : State → Prop} {A : Nat → Prop} {dC : Nat → ClassId} {dI : Nat → Nat → Nat} {a : Nat → Nat} {ac : Nat → ClassId} {n : Nat} {r : Int32 × (St)} (C : nd_C p l s m args c A (dC, dI) cX13_named 6 RX13 ow_dm_X13_named (dk_X13 ac)) (K : nd_Ki p l e (headSpec ow_dm_X13_named ({ frames := 2, cells := 0, slots := 0, locals := 46 })).room s m args below meth c Q A (dC, dI) cX13_named .int (St) (dw_X13 a ac) r) : dj_X13_named_0 p l e s m args below meth c Q A dC dI a ac (df_X13_named_0 n) r := by
  obtain ⟨hlt, hx, hb, hml, hown, hts, hN, hA, hK⟩ := id C
  intro v0 v1 s0 H locs ls h hP hD hS hl
  unfold df_X13_named_0 at h
  refine lv_aload_n hx hb dX13_named_0 rfl (lv_at hl 0 rfl) ?_
  refine lv_iload_n hx hb dX13_named_1 rfl (lv_at hl 1 rfl) ?_
  refine lv_iload_n hx hb dX13_named_2 rfl (lv_at hl 2 rfl) ?_
  obtain ⟨q1, s2, hq, h⟩ := nd_b2_e h
  have hPc := hP
  have hDc := hD
  have hKc := hK
  have hFc := nd_rs hD hS hA
  refine nd_cVl (As := [.int v0, .int v1]) (rest := []) (q := q1) (w' := dw_X13 a ac s2) ⟨hx, hb, hml, hown, hts⟩ (fun sz => dm_X13_packed l hlt dC dI a ac n (v0) (v1) s0 hq sz) (cwV 2 hts gi_dm_X13_named_0 rfl rfl rfl (by decide +kernel) ⟨Nat.le_of_ble_eq_true rfl, Nat.le_of_ble_eq_true rfl⟩) hPc hDc hKc hS hA hN (va_recv hKc hPc (ci := 14) (q0 := 0) rfl rfl) rfl hl.1 rfl (Nat.le_of_ble_eq_true rfl) dX13_named_3 (fun H locs hP1 hD1 hk1 hS => ?_)
  have hP := hP1
  have hD := hD1.weaken (fun k q _ h => hFc q.1 h)
  refine lv_lstore_n (lv' := [(3, .long q1), (0, .ref (a 0)), (1, .int v0), (2, .int v1)]) hx hb dX13_named_6 rfl hl (by decide) rfl (fun ls hl => ?_)
  refine lv_iconst (v := 0) hx hb dX13_named_7 (by decide) ?_
  refine lv_istore (lv' := [(5, .int 0), (3, .long q1), (0, .ref (a 0)), (1, .int v0), (2, .int v1)]) hx hb dX13_named_8 hl (by decide) rfl (fun ls hl => ?_)
  exact (db_X13_named_10 C K n) (q1) (0) s2 _ _ _ h hP hD hS (lv_sub hl [2, 1, 0] rfl)
set_option maxHeartbeats 40000000 in
set_option maxRecDepth 100000 in
theorem dm_X13_named (l : Launch) (hlt : l.stackTraces = false) (dC : Nat → ClassId) (dI : Nat → Nat → Nat) (a : Nat → Nat) (ac : Nat → ClassId) (n : Nat) (v0 : Int32) (v1 : Int32) (s0 : St) {r : Int32 × (St)} (h : df_X13_named n v0 v1 s0 = some r) (sz : Nat) : Met l yX13_named ow_dm_X13_named ({ frames := 2, cells := 0, slots := 0, locals := 46 }) (va_Pc [.ref (a 0), .int v0, .int v1] (fun U => U.heap.size = sz ∧ va_P (dC, dI) vwCl (dw_X13 a ac s0) U.heap ∧ va_K (dC, dI) vwCl (dk_X13 ac) U ∧ va_D (fun _ => True) (dw_X13 a ac s0) ∧ nv_E (va_A (dw_X13 a ac s0) sz) U)) (va_Qi (fun x _ => x = r.1) (fun (_ : Unit) t => va_P (dC, dI) vwCl (dw_X13 a ac r.2) t.heap ∧ va_K (dC, dI) vwCl (dk_X13 ac) t ∧ va_D (va_A (dw_X13 a ac s0) sz) (dw_X13 a ac r.2)) (va_A (dw_X13 a ac s0) sz)) 0 0 (va_A (dw_X13 a ac s0) sz) := by
  refine Met.ofW (cc := cX13_named) (maxL := 6) (ret := (some .int)) (by decide) rfl ?_
  intro p e s m args below meth c s₁ B hml hv
  obtain ⟨rfl, hsz, hP, hK, hD0, hN⟩ := hv
  have hx := B.exec
  have hb := B.bytes
  have hr := B.returns
  have hts := atoms_spec (ws := ow_dm_X13_named) B.pre
  have hown : s.vm.findClass RX13 = some m.cls := findClass_of_methodNamed B.named
  have hlocks := B.notSynchronized
  subst hsz
  have hD := hD0.self (sz := s.heap.size)
  generalize hAe : va_A (dw_X13 a ac s0) s.heap.size = A at hD hN ⊢
  have hA : ∀ q : Nat, s.heap.size ≤ q → A q := fun q h => by rw [← hAe]; exact Or.inr h
  have hl := lv_entry ([.ref (a 0), .int v0, .int v1]) (n := 6) (Nat.le_of_ble_eq_true rfl)
  rw [lg_entry_eq]
  generalize (lg_sl ([.ref (a 0), .int v0, .int v1]) ++ List.replicate (6 - (lg_sl ([.ref (a 0), .int v0, .int v1])).length) Slot.unset).toArray = ls at hl ⊢
  have hl : lv_has ls 6 [(0, .ref (a 0)), (1, .int v0), (2, .int v1)] := hl
  exact db_X13_named_0 (dC := dC) (dI := dI) (a := a) (ac := ac) (n := n) (r := r) ⟨hlt, hx, hb, hml, hown, hts, hN, hA, hK⟩ (fun pc v τ H locs ls d z er hP hD hS => by subst er; exact W.zret (v := v) hx hb hr z (fun t ht hW => ⟨⟨v, (), rfl, rfl, by rw [ht]; exact hP, va_K.moved hW.alike hK, hD⟩, hS.F ht⟩) hS.2.2 d) v0 v1 s0 _ _ _ h hP hD va_S.rf (lv_sub hl [0, 1, 2] rfl)
def ow_dm_X13_suffix : List Cond := .code yX13_suffix cX13_suffix 4 (some .int) :: ([.fieldLink RX13 371 "TimeMachineModel$Assembler" "to" "I", .fieldLink RX13 368 "TimeMachineModel$Assembler" "from" "I", .fieldLink RX13 324 "TimeMachineModel$Assembler" "text" "[C"] ++ (u_ws RX13 TX13 37 ++ []))
theorem gd_dm_X13_suffix : ∀ w ∈ ow_dm_X13_suffix, (w.onTables && w.keeps) = true ∨ ∃ ty, w = Cond.arrayClass ty := List.forall_mem_cons.mpr ⟨good_of_word rfl, List.forall_mem_append.mpr ⟨fun w h => good_of_word (List.all_eq_true.mp (by decide +kernel) w h), List.forall_mem_append.mpr ⟨gu_X13, fun _ h => nomatch h⟩⟩⟩
theorem hi_dm_X13_suffix_X13 : ∀ w ∈ u_ws RX13 TX13 37, w ∈ ow_dm_X13_suffix := fun w h => List.mem_cons_of_mem _ (List.mem_append_right _ (List.mem_append_left _ h))
def dj_X13_suffix_212 (p : Program) (l : Launch) (e : Env) (s : State) (m : MethodId) (args : Array Value) (below : List Frame) (meth : Method) (c : Code) (Q : State → Prop) (A : Nat → Prop) (dC : Nat → ClassId) (dI : Nat → Nat → Nat) (a : Nat → Nat) (ac : Nat → ClassId) (g : Int32 → (St) → Option (Int32 × (St))) (r : Int32 × (St)) : Prop := ∀ (y0 : Int32) (s0 : St) (H : Heap) (locs : List Loc) (ls : Array Slot), g y0 s0 = some r → va_P (dC, dI) vwCl (dw_X13 a ac s0) H → va_D A (dw_X13 a ac s0) → va_S A s.heap H locs → lv_has ls 4 [] → W p l e (headSpec ow_dm_X13_suffix ({ frames := 0, cells := 0, slots := 0, locals := 0 })).room s m args below meth c H locs 0 0 Q (F0 m 212 ls [.int y0])
def dj_X13_suffix_211 (p : Program) (l : Launch) (e : Env) (s : State) (m : MethodId) (args : Array Value) (below : List Frame) (meth : Method) (c : Code) (Q : State → Prop) (A : Nat → Prop) (dC : Nat → ClassId) (dI : Nat → Nat → Nat) (a : Nat → Nat) (ac : Nat → ClassId) (g : (St) → Option (Int32 × (St))) (r : Int32 × (St)) : Prop := ∀ (s0 : St) (H : Heap) (locs : List Loc) (ls : Array Slot), g s0 = some r → va_P (dC, dI) vwCl (dw_X13 a ac s0) H → va_D A (dw_X13 a ac s0) → va_S A s.heap H locs → lv_has ls 4 [] → W p l e (headSpec ow_dm_X13_suffix ({ frames := 0, cells := 0, slots := 0, locals := 0 })).room s m args below meth c H locs 0 0 Q (F0 m 211 ls [])
def dj_X13_suffix_191 (p : Program) (l : Launch) (e : Env) (s : State) (m : MethodId) (args : Array Value) (below : List Frame) (meth : Method) (c : Code) (Q : State → Prop) (A : Nat → Prop) (dC : Nat → ClassId) (dI : Nat → Nat → Nat) (a : Nat → Nat) (ac : Nat → ClassId) (g : (St) → Option (Int32 × (St))) (r : Int32 × (St)) : Prop := ∀ (s0 : St) (H : Heap) (locs : List Loc) (ls : Array Slot), g s0 = some r → va_P (dC, dI) vwCl (dw_X13 a ac s0) H → va_D A (dw_X13 a ac s0) → va_S A s.heap H locs → lv_has ls 4 [(0, .ref (a 0))] → W p l e (headSpec ow_dm_X13_suffix ({ frames := 0, cells := 0, slots := 0, locals := 0 })).room s m args below meth c H locs 0 0 Q (F0 m 191 ls [])
def dj_X13_suffix_182 (p : Program) (l : Launch) (e : Env) (s : State) (m : MethodId) (args : Array Value) (below : List Frame) (meth : Method) (c : Code) (Q : State → Prop) (A : Nat → Prop) (dC : Nat → ClassId) (dI : Nat → Nat → Nat) (a : Nat → Nat) (ac : Nat → ClassId) (g : Int32 → Int32 → (St) → Option (Int32 × (St))) (r : Int32 × (St)) : Prop := ∀ (x2 : Int32) (y0 : Int32) (s0 : St) (H : Heap) (locs : List Loc) (ls : Array Slot), g x2 y0 s0 = some r → va_P (dC, dI) vwCl (dw_X13 a ac s0) H → va_D A (dw_X13 a ac s0) → va_S A s.heap H locs → lv_has ls 4 [(0, .ref (a 0)), (2, .int x2)] → W p l e (headSpec ow_dm_X13_suffix ({ frames := 0, cells := 0, slots := 0, locals := 0 })).room s m args below meth c H locs 0 0 Q (F0 m 182 ls [.int y0])
def dj_X13_suffix_181 (p : Program) (l : Launch) (e : Env) (s : State) (m : MethodId) (args : Array Value) (below : List Frame) (meth : Method) (c : Code) (Q : State → Prop) (A : Nat → Prop) (dC : Nat → ClassId) (dI : Nat → Nat → Nat) (a : Nat → Nat) (ac : Nat → ClassId) (g : Int32 → (St) → Option (Int32 × (St))) (r : Int32 × (St)) : Prop := ∀ (x2 : Int32) (s0 : St) (H : Heap) (locs : List Loc) (ls : Array Slot), g x2 s0 = some r → va_P (dC, dI) vwCl (dw_X13 a ac s0) H → va_D A (dw_X13 a ac s0) → va_S A s.heap H locs → lv_has ls 4 [(0, .ref (a 0)), (2, .int x2)] → W p l e (headSpec ow_dm_X13_suffix ({ frames := 0, cells := 0, slots := 0, locals := 0 })).room s m args below meth c H locs 0 0 Q (F0 m 181 ls [])
def dj_X13_suffix_139 (p : Program) (l : Launch) (e : Env) (s : State) (m : MethodId) (args : Array Value) (below : List Frame) (meth : Method) (c : Code) (Q : State → Prop) (A : Nat → Prop) (dC : Nat → ClassId) (dI : Nat → Nat → Nat) (a : Nat → Nat) (ac : Nat → ClassId) (g : Int32 → Int32 → (St) → Option (Int32 × (St))) (r : Int32 × (St)) : Prop := ∀ (x1 : Int32) (y0 : Int32) (s0 : St) (H : Heap) (locs : List Loc) (ls : Array Slot), g x1 y0 s0 = some r → va_P (dC, dI) vwCl (dw_X13 a ac s0) H → va_D A (dw_X13 a ac s0) → va_S A s.heap H locs → lv_has ls 4 [(0, .ref (a 0)), (1, .int x1)] → W p l e (headSpec ow_dm_X13_suffix ({ frames := 0, cells := 0, slots := 0, locals := 0 })).room s m args below meth c H locs 0 0 Q (F0 m 139 ls [.int y0])
def dj_X13_suffix_138 (p : Program) (l : Launch) (e : Env) (s : State) (m : MethodId) (args : Array Value) (below : List Frame) (meth : Method) (c : Code) (Q : State → Prop) (A : Nat → Prop) (dC : Nat → ClassId) (dI : Nat → Nat → Nat) (a : Nat → Nat) (ac : Nat → ClassId) (g : Int32 → (St) → Option (Int32 × (St))) (r : Int32 × (St)) : Prop := ∀ (x1 : Int32) (s0 : St) (H : Heap) (locs : List Loc) (ls : Array Slot), g x1 s0 = some r → va_P (dC, dI) vwCl (dw_X13 a ac s0) H → va_D A (dw_X13 a ac s0) → va_S A s.heap H locs → lv_has ls 4 [(0, .ref (a 0)), (1, .int x1)] → W p l e (headSpec ow_dm_X13_suffix ({ frames := 0, cells := 0, slots := 0, locals := 0 })).room s m args below meth c H locs 0 0 Q (F0 m 138 ls [])
def dj_X13_suffix_97 (p : Program) (l : Launch) (e : Env) (s : State) (m : MethodId) (args : Array Value) (below : List Frame) (meth : Method) (c : Code) (Q : State → Prop) (A : Nat → Prop) (dC : Nat → ClassId) (dI : Nat → Nat → Nat) (a : Nat → Nat) (ac : Nat → ClassId) (g : Int32 → (St) → Option (Int32 × (St))) (r : Int32 × (St)) : Prop := ∀ (x1 : Int32) (s0 : St) (H : Heap) (locs : List Loc) (ls : Array Slot), g x1 s0 = some r → va_P (dC, dI) vwCl (dw_X13 a ac s0) H → va_D A (dw_X13 a ac s0) → va_S A s.heap H locs → lv_has ls 4 [(0, .ref (a 0)), (1, .int x1)] → W p l e (headSpec ow_dm_X13_suffix ({ frames := 0, cells := 0, slots := 0, locals := 0 })).room s m args below meth c H locs 0 0 Q (F0 m 97 ls [])
def dj_X13_suffix_0 (p : Program) (l : Launch) (e : Env) (s : State) (m : MethodId) (args : Array Value) (below : List Frame) (meth : Method) (c : Code) (Q : State → Prop) (A : Nat → Prop) (dC : Nat → ClassId) (dI : Nat → Nat → Nat) (a : Nat → Nat) (ac : Nat → ClassId) (g : (St) → Option (Int32 × (St))) (r : Int32 × (St)) : Prop := ∀ (s0 : St) (H : Heap) (locs : List Loc) (ls : Array Slot), g s0 = some r → va_P (dC, dI) vwCl (dw_X13 a ac s0) H → va_D A (dw_X13 a ac s0) → va_S A s.heap H locs → lv_has ls 4 [(0, .ref (a 0))] → W p l e (headSpec ow_dm_X13_suffix ({ frames := 0, cells := 0, slots := 0, locals := 0 })).room s m args below meth c H locs 0 0 Q (F0 m 0 ls [])
set_option maxHeartbeats 40000000 in
set_option maxRecDepth 100000 in
theorem db_X13_suffix_212 {p : Program} {l : Launch} {e : Env} {s : State} {m : MethodId} {args : Array Value} {below : List Frame} {meth : Method} {c : Code} {Q : State → Prop} {A : Nat → Prop} {dC : Nat → ClassId} {dI : Nat → Nat → Nat} {a : Nat → Nat} {ac : Nat → ClassId} {n : Nat} {r : Int32 × (St)} (C : nd_C p l s m args c A (dC, dI) cX13_suffix 4 RX13 ow_dm_X13_suffix (dk_X13 ac)) (K : nd_Ki p l e (headSpec ow_dm_X13_suffix ({ frames := 0, cells := 0, slots := 0, locals := 0 })).room s m args below meth c Q A (dC, dI) cX13_suffix .int (St) (dw_X13 a ac) r) : dj_X13_suffix_212 p l e s m args below meth c Q A dC dI a ac (df_X13_suffix_212 n) r := by
  obtain ⟨hlt, hx, hb, hml, hown, hts, hN, hA, hK⟩ := id C
  intro y0 s0 H locs ls h hP hD hS hl
  unfold df_X13_suffix_212 at h
  exact K _ _ _ _ _ _ dX13_suffix_212 rfl (Option.some.inj h).symm hP hD hS
set_option maxHeartbeats 40000000 in
set_option maxRecDepth 100000 in
theorem db_X13_suffix_211 {p : Program} {l : Launch} {e : Env} {s : State} {m : MethodId} {args : Array Value} {below : List Frame} {meth : Method} {c : Code} {Q : State → Prop} {A : Nat → Prop} {dC : Nat → ClassId} {dI : Nat → Nat → Nat} {a : Nat → Nat} {ac : Nat → ClassId} {n : Nat} {r : Int32 × (St)} (C : nd_C p l s m args c A (dC, dI) cX13_suffix 4 RX13 ow_dm_X13_suffix (dk_X13 ac)) (K : nd_Ki p l e (headSpec ow_dm_X13_suffix ({ frames := 0, cells := 0, slots := 0, locals := 0 })).room s m args below meth c Q A (dC, dI) cX13_suffix .int (St) (dw_X13 a ac) r) : dj_X13_suffix_211 p l e s m args below meth c Q A dC dI a ac (df_X13_suffix_211 n) r := by
  obtain ⟨hlt, hx, hb, hml, hown, hts, hN, hA, hK⟩ := id C
  intro s0 H locs ls h hP hD hS hl
  unfold df_X13_suffix_211 at h
  refine lv_iconst (v := 0) hx hb dX13_suffix_211 (by decide) ?_
  exact (db_X13_suffix_212 C K) (0) s0 _ _ _ h hP hD hS (lv_sub hl [] rfl)
set_option maxHeartbeats 40000000 in
set_option maxRecDepth 100000 in
theorem db_X13_suffix_191 {p : Program} {l : Launch} {e : Env} {s : State} {m : MethodId} {args : Array Value} {below : List Frame} {meth : Method} {c : Code} {Q : State → Prop} {A : Nat → Prop} {dC : Nat → ClassId} {dI : Nat → Nat → Nat} {a : Nat → Nat} {ac : Nat → ClassId} {n : Nat} {r : Int32 × (St)} (C : nd_C p l s m args c A (dC, dI) cX13_suffix 4 RX13 ow_dm_X13_suffix (dk_X13 ac)) (K : nd_Ki p l e (headSpec ow_dm_X13_suffix ({ frames := 0, cells := 0, slots := 0, locals := 0 })).room s m args below meth c Q A (dC, dI) cX13_suffix .int (St) (dw_X13 a ac) r) : dj_X13_suffix_191 p l e s m args below meth c Q A dC dI a ac (df_X13_suffix_191 n) r := by
  obtain ⟨hlt, hx, hb, hml, hown, hts, hN, hA, hK⟩ := id C
  intro s0 H locs ls h hP hD hS hl
  unfold df_X13_suffix_191 at h
  refine lv_aload_n hx hb dX13_suffix_191 rfl (lv_at hl 0 rfl) ?_
  refine va_get (D := (dC, dI)) (ci := 14) (v := .ref (a 4)) (C := RX13) (T := TX13) (N := 37) hx hb hts hi_dm_X13_suffix_X13 hown hK hP 0 rfl rfl 3 (by decide) (hts (.fieldLink RX13 324 "TimeMachineModel$Assembler" "text" "[C") (List.mem_of_getElem? (i := 3) rfl)) (fun _ h9 => h9) rfl dX13_suffix_192 ?_
  refine lv_aload_n hx hb dX13_suffix_195 rfl (lv_at hl 0 rfl) ?_
  refine va_get (D := (dC, dI)) (ci := 14) (v := .int (sI s0 10)) (C := RX13) (T := TX13) (N := 37) hx hb hts hi_dm_X13_suffix_X13 hown hK hP 0 rfl rfl 19 (by decide) (hts (.fieldLink RX13 371 "TimeMachineModel$Assembler" "to" "I") (List.mem_of_getElem? (i := 1) rfl)) (fun _ h9 => h9) rfl dX13_suffix_196 ?_
  refine lv_iconst (v := 3) hx hb dX13_suffix_199 (by decide) ?_
  refine lv_isub hx hb dX13_suffix_200 ?_
  obtain ⟨i6, h⟩ := nd_ck_e h
  refine va_cald (i := ((sI s0 10) - 3)) hx hb hK hP 4 3 rfl rfl i6 dX13_suffix_201 ?_
  refine lv_bipush (v := 46) hx hb dX13_suffix_202 (by decide) ?_
  refine lv_icmp_ne (tgt := 211) hx hb dX13_suffix_204 (by decide) (fun c7 => ?_) (fun c7 => ?_)
  · have h := nd_neg h c7
    exact (db_X13_suffix_211 C K)  s0 _ _ _ h hP hD hS (lv_sub hl [] rfl)
  · have h := nd_pos h c7
    refine lv_iconst (v := 3) hx hb dX13_suffix_207 (by decide) ?_
    refine lv_goto (tgt := 212) hx hb dX13_suffix_208 (by decide) ?_
    exact (db_X13_suffix_212 C K) (3) s0 _ _ _ h hP hD hS (lv_sub hl [] rfl)
