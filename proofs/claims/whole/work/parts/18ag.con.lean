set_option maxHeartbeats 40000000 in
set_option maxRecDepth 100000 in
theorem db_X13_branches_17 {p : Program} {l : Launch} {e : Env} {s : State} {m : MethodId} {args : Array Value} {below : List Frame} {meth : Method} {c : Code} {Q : State → Prop} {A : Nat → Prop} {dC : Nat → ClassId} {dI : Nat → Nat → Nat} {a : Nat → Nat} {ac : Nat → ClassId} {n : Nat} {r : St} (C : nd_C p l s m args c A (dC, dI) cX13_branches 6 RX13 ow_dm_X13_branches (dk_X13 ac)) (K : nd_Kv p l e (headSpec ow_dm_X13_branches ({ frames := 10, cells := 0, slots := 0, locals := 235 })).room s m args below meth c Q A (dC, dI) cX13_branches (St) (dw_X13 a ac) r) : dj_X13_branches_17 p l e s m args below meth c Q A dC dI a ac (df_X13_branches_17 n) r := by
  obtain ⟨hlt, hx, hb, hml, hown, hts, hN, hA, hK⟩ := id C
  intro x1 x2 x3 s0 H locs ls h hP hD hS hl
  unfold df_X13_branches_17 at h
  refine lv_aload_n hx hb dX13_branches_17 rfl (lv_at hl 0 rfl) ?_
  obtain ⟨q5, s6, hq, h⟩ := nd_b2_e h
  have hPc := hP
  have hDc := hD
  have hKc := hK
  have hFc := nd_rs hD hS hA
  refine nd_cVi (As := []) (rest := []) (q := q5) (w' := dw_X13 a ac s6) ⟨hx, hb, hml, hown, hts⟩ (fun sz => dm_X13_behind l hlt dC dI a ac n  s0 hq sz) (cwV 0 hts gi_dm_X13_branches_1 rfl rfl rfl (by decide +kernel) ⟨Nat.le_of_ble_eq_true rfl, Nat.le_of_ble_eq_true rfl⟩) hPc hDc hKc hS hA hN (va_recv hKc hPc (ci := 14) (q0 := 0) rfl rfl) rfl hl.1 rfl (Nat.le_of_ble_eq_true rfl) dX13_branches_18 (fun H locs hP1 hD1 hk1 hS => ?_)
  have hP := hP1
  have hD := hD1.weaken (fun k q _ h => hFc q.1 h)
  refine lv_goto (tgt := 25) hx hb dX13_branches_21 (by decide) ?_
  exact (db_X13_branches_25 C K) (x1) (x2) (x3) (q5) s6 _ _ _ h hP hD hS (lv_sub hl [0, 1, 2, 3] rfl)
set_option maxHeartbeats 40000000 in
set_option maxRecDepth 100000 in
theorem db_X13_branches_0 {p : Program} {l : Launch} {e : Env} {s : State} {m : MethodId} {args : Array Value} {below : List Frame} {meth : Method} {c : Code} {Q : State → Prop} {A : Nat → Prop} {dC : Nat → ClassId} {dI : Nat → Nat → Nat} {a : Nat → Nat} {ac : Nat → ClassId} {n : Nat} {r : St} (C : nd_C p l s m args c A (dC, dI) cX13_branches 6 RX13 ow_dm_X13_branches (dk_X13 ac)) (K : nd_Kv p l e (headSpec ow_dm_X13_branches ({ frames := 10, cells := 0, slots := 0, locals := 235 })).room s m args below meth c Q A (dC, dI) cX13_branches (St) (dw_X13 a ac) r) : dj_X13_branches_0 p l e s m args below meth c Q A dC dI a ac (df_X13_branches_0 n) r := by
  obtain ⟨hlt, hx, hb, hml, hown, hts, hN, hA, hK⟩ := id C
  intro v0 v1 s0 H locs ls h hP hD hS hl
  unfold df_X13_branches_0 at h
  refine lv_aload_n hx hb dX13_branches_0 rfl (lv_at hl 0 rfl) ?_
  obtain ⟨q1, s2, hq, h⟩ := nd_b2_e h
  have hPc := hP
  have hDc := hD
  have hKc := hK
  have hFc := nd_rs hD hS hA
  refine nd_cVi (As := []) (rest := []) (q := q1) (w' := dw_X13 a ac s2) ⟨hx, hb, hml, hown, hts⟩ (fun sz => dm_X13_taken l hlt dC dI a ac n  s0 hq sz) (cwV 0 hts gi_dm_X13_branches_0 rfl rfl rfl (by decide +kernel) ⟨Nat.le_of_ble_eq_true rfl, Nat.le_of_ble_eq_true rfl⟩) hPc hDc hKc hS hA hN (va_recv hKc hPc (ci := 14) (q0 := 0) rfl rfl) rfl hl.1 rfl (Nat.le_of_ble_eq_true rfl) dX13_branches_1 (fun H locs hP1 hD1 hk1 hS => ?_)
  have hP := hP1
  have hD := hD1.weaken (fun k q _ h => hFc q.1 h)
  refine lv_istore_n (lv' := [(3, .int q1), (0, .ref (a 0)), (1, .int v0), (2, .int v1)]) hx hb dX13_branches_4 rfl hl (by decide) rfl (fun ls hl => ?_)
  refine lv_iload_n hx hb dX13_branches_5 rfl (lv_at hl 2 rfl) ?_
  refine lv_bipush (v := 7) hx hb dX13_branches_6 (by decide) ?_
  refine lv_icmp_eq (tgt := 17) hx hb dX13_branches_8 (by decide) (fun c4 => ?_) (fun c4 => ?_)
  · have h := nd_pos h c4
    exact (db_X13_branches_17 C K) (v0) (v1) (q1) s2 _ _ _ h hP hD hS (lv_sub hl [1, 2, 3, 0] rfl)
  · have h := nd_neg h c4
    refine lv_iload_n hx hb dX13_branches_11 rfl (lv_at hl 2 rfl) ?_
    refine lv_bipush (v := 37) hx hb dX13_branches_12 (by decide) ?_
    refine lv_icmp_ne (tgt := 24) hx hb dX13_branches_14 (by decide) (fun c24 => ?_) (fun c24 => ?_)
    · have h := nd_neg h c24
      refine lv_iconst (v := 0) hx hb dX13_branches_24 (by decide) ?_
      exact (db_X13_branches_25 C K) (v0) (v1) (q1) (0) s2 _ _ _ h hP hD hS (lv_sub hl [1, 2, 3, 0] rfl)
    · have h := nd_pos h c24
      exact (db_X13_branches_17 C K) (v0) (v1) (q1) s2 _ _ _ h hP hD hS (lv_sub hl [1, 2, 3, 0] rfl)
set_option maxHeartbeats 40000000 in
set_option maxRecDepth 100000 in
theorem dm_X13_branches (l : Launch) (hlt : l.stackTraces = false) (dC : Nat → ClassId) (dI : Nat → Nat → Nat) (a : Nat → Nat) (ac : Nat → ClassId) (n : Nat) (v0 : Int32) (v1 : Int32) (s0 : St) {r : St} (h : df_X13_branches n v0 v1 s0 = some r) (sz : Nat) : Met l yX13_branches ow_dm_X13_branches ({ frames := 10, cells := 0, slots := 0, locals := 235 }) (va_Pc [.ref (a 0), .int v0, .int v1] (fun U => U.heap.size = sz ∧ va_P (dC, dI) vwCl (dw_X13 a ac s0) U.heap ∧ va_K (dC, dI) vwCl (dk_X13 ac) U ∧ va_D (fun _ => True) (dw_X13 a ac s0) ∧ nv_E (va_A (dw_X13 a ac s0) sz) U)) (va_Qv (fun _ => True) (fun (_ : Unit) t => va_P (dC, dI) vwCl (dw_X13 a ac r) t.heap ∧ va_K (dC, dI) vwCl (dk_X13 ac) t ∧ va_D (va_A (dw_X13 a ac s0) sz) (dw_X13 a ac r)) (va_A (dw_X13 a ac s0) sz)) 0 0 (va_A (dw_X13 a ac s0) sz) := by
  refine Met.ofW (cc := cX13_branches) (maxL := 6) (ret := none) (by decide) rfl ?_
  intro p e s m args below meth c s₁ B hml hv
  obtain ⟨rfl, hsz, hP, hK, hD0, hN⟩ := hv
  have hx := B.exec
  have hb := B.bytes
  have hr := B.returns
  have hts := atoms_spec (ws := ow_dm_X13_branches) B.pre
  have hown : s.vm.findClass RX13 = some m.cls := findClass_of_methodNamed B.named
  have hlocks := B.notSynchronized
  subst hsz
  have hD := hD0.self (sz := s.heap.size)
  generalize hAe : va_A (dw_X13 a ac s0) s.heap.size = A at hD hN ⊢
  have hA : ∀ q : Nat, s.heap.size ≤ q → A q := fun q h => by rw [← hAe]; exact Or.inr h
  have hl := lv_entry ([.ref (a 0), .int v0, .int v1]) (n := 6) (Nat.le_of_ble_eq_true rfl)
  rw [lg_entry_eq]
  generalize (lg_sl ([.ref (a 0), .int v0, .int v1]) ++ List.replicate (6 - (lg_sl ([.ref (a 0), .int v0, .int v1])).length) Slot.unset).toArray = ls at hl ⊢
  have hl : lv_has ls 6 [(0, .ref (a 0)), (1, .int v0), (2, .int v1)] := hl
  exact db_X13_branches_0 (dC := dC) (dI := dI) (a := a) (ac := ac) (n := n) (r := r) ⟨hlt, hx, hb, hml, hown, hts, hN, hA, hK⟩ (fun pc τ H locs ls d er hP hD hS => by subst er; exact W.vret hx hb hr (fun t ht hW => ⟨⟨(), rfl, trivial, by rw [ht]; exact hP, va_K.moved hW.alike hK, hD⟩, hS.F ht⟩) hS.2.2 d) v0 v1 s0 _ _ _ h hP hD va_S.rf (lv_sub hl [0, 1, 2] rfl)
def ow_dm_X13_jumps : List Cond := .code yX13_jumps cX13_jumps 7 none :: ([.fieldLink RX13 374 "TimeMachineModel$Assembler" "at" "I", .methodLink RX13 416 yX13_scan, .instanceMethod yX13_scan, .selects RX13 yX13_scan yX13_scan, .initialized RX13, .fieldLink RX13 365 "TimeMachineModel$Assembler" "token" "I", .methodLink RX13 599 yX13_jump, .instanceMethod yX13_jump, .selects RX13 yX13_jump yX13_jump, .methodLink RX13 532 yX13_taken, .instanceMethod yX13_taken, .selects RX13 yX13_taken yX13_taken, .methodLink RX13 582 yX13_comma, .instanceMethod yX13_comma, .selects RX13 yX13_comma yX13_comma, .methodLink RX13 525 yX13_expression, .instanceMethod yX13_expression, .selects RX13 yX13_expression yX13_expression, .fieldLink RX13 486 "TimeMachineModel$Assembler" "address" "I", .constant RX13 602 (-1048576), .constant RX13 557 (1048574), .methodLink RX13 528 yX13_fits, .instanceMethod yX13_fits, .selects RX13 yX13_fits yX13_fits, .methodLink RX13 567 yX13_jumpBits, .static yX13_jumpBits, .methodLink RX13 570 yX13_word, .instanceMethod yX13_word, .selects RX13 yX13_word yX13_word, .fieldLink RX13 368 "TimeMachineModel$Assembler" "from" "I", .fieldLink RX13 371 "TimeMachineModel$Assembler" "to" "I", .methodLink RX13 477 yX13_register, .instanceMethod yX13_register, .selects RX13 yX13_register yX13_register] ++ (u_ws RX13 TX13 37 ++ (ow_dm_X13_scan ++ (ow_dm_X13_jump ++ (ow_dm_X13_taken ++ (ow_dm_X13_comma ++ (ow_dm_X13_expression ++ (ow_dm_X13_fits ++ (ow_dm_X13_jumpBits ++ (ow_dm_X13_word ++ (ow_dm_X13_register ++ [])))))))))))
theorem gd_dm_X13_jumps : ∀ w ∈ ow_dm_X13_jumps, (w.onTables && w.keeps) = true ∨ ∃ ty, w = Cond.arrayClass ty := List.forall_mem_cons.mpr ⟨good_of_word rfl, List.forall_mem_append.mpr ⟨fun w h => good_of_word (List.all_eq_true.mp (by decide +kernel) w h), List.forall_mem_append.mpr ⟨gu_X13, List.forall_mem_append.mpr ⟨gd_dm_X13_scan, List.forall_mem_append.mpr ⟨gd_dm_X13_jump, List.forall_mem_append.mpr ⟨gd_dm_X13_taken, List.forall_mem_append.mpr ⟨gd_dm_X13_comma, List.forall_mem_append.mpr ⟨gd_dm_X13_expression, List.forall_mem_append.mpr ⟨gd_dm_X13_fits, List.forall_mem_append.mpr ⟨gd_dm_X13_jumpBits, List.forall_mem_append.mpr ⟨gd_dm_X13_word, List.forall_mem_append.mpr ⟨gd_dm_X13_register, fun _ h => nomatch h⟩⟩⟩⟩⟩⟩⟩⟩⟩⟩⟩⟩
theorem hi_dm_X13_jumps_X13 : ∀ w ∈ u_ws RX13 TX13 37, w ∈ ow_dm_X13_jumps := fun w h => List.mem_cons_of_mem _ (List.mem_append_right _ (List.mem_append_left _ h))
theorem gi_dm_X13_jumps_0 : GoodIn ow_dm_X13_jumps (wsV RX13 416 RX13 yX13_scan ow_dm_X13_scan) := goodIn_app (goodIn_of _ (by decide +kernel)) (fun w h => ⟨List.mem_cons_of_mem _ (List.mem_append_right _ (List.mem_append_right _ (List.mem_append_left _ h))), gd_dm_X13_scan w h⟩)
theorem gi_dm_X13_jumps_1 : GoodIn ow_dm_X13_jumps (wsV RX13 599 RX13 yX13_jump ow_dm_X13_jump) := goodIn_app (goodIn_of _ (by decide +kernel)) (fun w h => ⟨List.mem_cons_of_mem _ (List.mem_append_right _ (List.mem_append_right _ (List.mem_append_right _ (List.mem_append_left _ h)))), gd_dm_X13_jump w h⟩)
theorem gi_dm_X13_jumps_2 : GoodIn ow_dm_X13_jumps (wsV RX13 532 RX13 yX13_taken ow_dm_X13_taken) := goodIn_app (goodIn_of _ (by decide +kernel)) (fun w h => ⟨List.mem_cons_of_mem _ (List.mem_append_right _ (List.mem_append_right _ (List.mem_append_right _ (List.mem_append_right _ (List.mem_append_left _ h))))), gd_dm_X13_taken w h⟩)
theorem gi_dm_X13_jumps_3 : GoodIn ow_dm_X13_jumps (wsV RX13 582 RX13 yX13_comma ow_dm_X13_comma) := goodIn_app (goodIn_of _ (by decide +kernel)) (fun w h => ⟨List.mem_cons_of_mem _ (List.mem_append_right _ (List.mem_append_right _ (List.mem_append_right _ (List.mem_append_right _ (List.mem_append_right _ (List.mem_append_left _ h)))))), gd_dm_X13_comma w h⟩)
theorem gi_dm_X13_jumps_4 : GoodIn ow_dm_X13_jumps (wsV RX13 525 RX13 yX13_expression ow_dm_X13_expression) := goodIn_app (goodIn_of _ (by decide +kernel)) (fun w h => ⟨List.mem_cons_of_mem _ (List.mem_append_right _ (List.mem_append_right _ (List.mem_append_right _ (List.mem_append_right _ (List.mem_append_right _ (List.mem_append_right _ (List.mem_append_left _ h))))))), gd_dm_X13_expression w h⟩)
theorem gi_dm_X13_jumps_5 : GoodIn ow_dm_X13_jumps (wsV RX13 528 RX13 yX13_fits ow_dm_X13_fits) := goodIn_app (goodIn_of _ (by decide +kernel)) (fun w h => ⟨List.mem_cons_of_mem _ (List.mem_append_right _ (List.mem_append_right _ (List.mem_append_right _ (List.mem_append_right _ (List.mem_append_right _ (List.mem_append_right _ (List.mem_append_right _ (List.mem_append_left _ h)))))))), gd_dm_X13_fits w h⟩)
theorem gi_dm_X13_jumps_6 : GoodIn ow_dm_X13_jumps (wsS RX13 567 yX13_jumpBits ow_dm_X13_jumpBits) := goodIn_app (goodIn_of _ (by decide +kernel)) (fun w h => ⟨List.mem_cons_of_mem _ (List.mem_append_right _ (List.mem_append_right _ (List.mem_append_right _ (List.mem_append_right _ (List.mem_append_right _ (List.mem_append_right _ (List.mem_append_right _ (List.mem_append_right _ (List.mem_append_left _ h))))))))), gd_dm_X13_jumpBits w h⟩)
theorem gi_dm_X13_jumps_7 : GoodIn ow_dm_X13_jumps (wsV RX13 570 RX13 yX13_word ow_dm_X13_word) := goodIn_app (goodIn_of _ (by decide +kernel)) (fun w h => ⟨List.mem_cons_of_mem _ (List.mem_append_right _ (List.mem_append_right _ (List.mem_append_right _ (List.mem_append_right _ (List.mem_append_right _ (List.mem_append_right _ (List.mem_append_right _ (List.mem_append_right _ (List.mem_append_right _ (List.mem_append_left _ h)))))))))), gd_dm_X13_word w h⟩)
theorem gi_dm_X13_jumps_8 : GoodIn ow_dm_X13_jumps (wsV RX13 477 RX13 yX13_register ow_dm_X13_register) := goodIn_app (goodIn_of _ (by decide +kernel)) (fun w h => ⟨List.mem_cons_of_mem _ (List.mem_append_right _ (List.mem_append_right _ (List.mem_append_right _ (List.mem_append_right _ (List.mem_append_right _ (List.mem_append_right _ (List.mem_append_right _ (List.mem_append_right _ (List.mem_append_right _ (List.mem_append_right _ (List.mem_append_left _ h))))))))))), gd_dm_X13_register w h⟩)
def dj_X13_jumps_67 (p : Program) (l : Launch) (e : Env) (s : State) (m : MethodId) (args : Array Value) (below : List Frame) (meth : Method) (c : Code) (Q : State → Prop) (A : Nat → Prop) (dC : Nat → ClassId) (dI : Nat → Nat → Nat) (a : Nat → Nat) (ac : Nat → ClassId) (g : Int32 → (St) → Option (St)) (r : St) : Prop := ∀ (y1 : Int32) (s0 : St) (H : Heap) (locs : List Loc) (ls : Array Slot), g y1 s0 = some r → va_P (dC, dI) vwCl (dw_X13 a ac s0) H → va_D A (dw_X13 a ac s0) → va_S A s.heap H locs → lv_has ls 7 [] → W p l e (headSpec ow_dm_X13_jumps ({ frames := 10, cells := 0, slots := 0, locals := 230 })).room s m args below meth c H locs 0 0 Q (F0 m 67 ls [.int y1, .ref (a 0)])
def dj_X13_jumps_55 (p : Program) (l : Launch) (e : Env) (s : State) (m : MethodId) (args : Array Value) (below : List Frame) (meth : Method) (c : Code) (Q : State → Prop) (A : Nat → Prop) (dC : Nat → ClassId) (dI : Nat → Nat → Nat) (a : Nat → Nat) (ac : Nat → ClassId) (g : Int32 → Int32 → (St) → Option (St)) (r : St) : Prop := ∀ (x1 : Int32) (x2 : Int32) (s0 : St) (H : Heap) (locs : List Loc) (ls : Array Slot), g x1 x2 s0 = some r → va_P (dC, dI) vwCl (dw_X13 a ac s0) H → va_D A (dw_X13 a ac s0) → va_S A s.heap H locs → lv_has ls 7 [(0, .ref (a 0)), (1, .int x1), (2, .int x2)] → W p l e (headSpec ow_dm_X13_jumps ({ frames := 10, cells := 0, slots := 0, locals := 230 })).room s m args below meth c H locs 0 0 Q (F0 m 55 ls [])
def dj_X13_jumps_37 (p : Program) (l : Launch) (e : Env) (s : State) (m : MethodId) (args : Array Value) (below : List Frame) (meth : Method) (c : Code) (Q : State → Prop) (A : Nat → Prop) (dC : Nat → ClassId) (dI : Nat → Nat → Nat) (a : Nat → Nat) (ac : Nat → ClassId) (g : Int32 → Int32 → Int32 → Int32 → (St) → Option (St)) (r : St) : Prop := ∀ (x1 : Int32) (x2 : Int32) (x3 : Int32) (y0 : Int32) (s0 : St) (H : Heap) (locs : List Loc) (ls : Array Slot), g x1 x2 x3 y0 s0 = some r → va_P (dC, dI) vwCl (dw_X13 a ac s0) H → va_D A (dw_X13 a ac s0) → va_S A s.heap H locs → lv_has ls 7 [(0, .ref (a 0)), (1, .int x1), (2, .int x2), (3, .int x3)] → W p l e (headSpec ow_dm_X13_jumps ({ frames := 10, cells := 0, slots := 0, locals := 230 })).room s m args below meth c H locs 0 0 Q (F0 m 37 ls [.int y0])
def dj_X13_jumps_36 (p : Program) (l : Launch) (e : Env) (s : State) (m : MethodId) (args : Array Value) (below : List Frame) (meth : Method) (c : Code) (Q : State → Prop) (A : Nat → Prop) (dC : Nat → ClassId) (dI : Nat → Nat → Nat) (a : Nat → Nat) (ac : Nat → ClassId) (g : Int32 → Int32 → Int32 → (St) → Option (St)) (r : St) : Prop := ∀ (x1 : Int32) (x2 : Int32) (x3 : Int32) (s0 : St) (H : Heap) (locs : List Loc) (ls : Array Slot), g x1 x2 x3 s0 = some r → va_P (dC, dI) vwCl (dw_X13 a ac s0) H → va_D A (dw_X13 a ac s0) → va_S A s.heap H locs → lv_has ls 7 [(0, .ref (a 0)), (1, .int x1), (2, .int x2), (3, .int x3)] → W p l e (headSpec ow_dm_X13_jumps ({ frames := 10, cells := 0, slots := 0, locals := 230 })).room s m args below meth c H locs 0 0 Q (F0 m 36 ls [])
def dj_X13_jumps_0 (p : Program) (l : Launch) (e : Env) (s : State) (m : MethodId) (args : Array Value) (below : List Frame) (meth : Method) (c : Code) (Q : State → Prop) (A : Nat → Prop) (dC : Nat → ClassId) (dI : Nat → Nat → Nat) (a : Nat → Nat) (ac : Nat → ClassId) (g : Int32 → Int32 → (St) → Option (St)) (r : St) : Prop := ∀ (v0 : Int32) (v1 : Int32) (s0 : St) (H : Heap) (locs : List Loc) (ls : Array Slot), g v0 v1 s0 = some r → va_P (dC, dI) vwCl (dw_X13 a ac s0) H → va_D A (dw_X13 a ac s0) → va_S A s.heap H locs → lv_has ls 7 [(0, .ref (a 0)), (1, .int v0), (2, .int v1)] → W p l e (headSpec ow_dm_X13_jumps ({ frames := 10, cells := 0, slots := 0, locals := 230 })).room s m args below meth c H locs 0 0 Q (F0 m 0 ls [])
set_option maxHeartbeats 40000000 in
set_option maxRecDepth 100000 in
theorem db_X13_jumps_67 {p : Program} {l : Launch} {e : Env} {s : State} {m : MethodId} {args : Array Value} {below : List Frame} {meth : Method} {c : Code} {Q : State → Prop} {A : Nat → Prop} {dC : Nat → ClassId} {dI : Nat → Nat → Nat} {a : Nat → Nat} {ac : Nat → ClassId} {n : Nat} {r : St} (C : nd_C p l s m args c A (dC, dI) cX13_jumps 7 RX13 ow_dm_X13_jumps (dk_X13 ac)) (K : nd_Kv p l e (headSpec ow_dm_X13_jumps ({ frames := 10, cells := 0, slots := 0, locals := 230 })).room s m args below meth c Q A (dC, dI) cX13_jumps (St) (dw_X13 a ac) r) : dj_X13_jumps_67 p l e s m args below meth c Q A dC dI a ac (df_X13_jumps_67 n) r := by
  obtain ⟨hlt, hx, hb, hml, hown, hts, hN, hA, hK⟩ := id C
  intro y1 s0 H locs ls h hP hD hS hl
  unfold df_X13_jumps_67 at h
  obtain ⟨s10, hq, h⟩ := nd_b1_e h
  have hPc := hP
  have hDc := hD
  have hKc := hK
  have hFc := nd_rs hD hS hA
  refine nd_cVv (As := [.int y1]) (rest := []) (w' := dw_X13 a ac s10) ⟨hx, hb, hml, hown, hts⟩ (fun sz => dm_X13_jump l hlt dC dI a ac n (y1) s0 hq sz) (cwV 1 hts gi_dm_X13_jumps_1 rfl rfl rfl (by decide +kernel) ⟨Nat.le_of_ble_eq_true rfl, Nat.le_of_ble_eq_true rfl⟩) hPc hDc hKc hS hA hN (va_recv hKc hPc (ci := 14) (q0 := 0) rfl rfl) rfl hl.1 rfl (Nat.le_of_ble_eq_true rfl) dX13_jumps_67 (fun H locs hP1 hD1 hk1 hS => ?_)
  have hP := hP1
  have hD := hD1.weaken (fun k q _ h => hFc q.1 h)
  exact K _ _ _ _ _ dX13_jumps_70 (Option.some.inj h).symm hP hD hS
set_option maxHeartbeats 40000000 in
set_option maxRecDepth 100000 in
theorem db_X13_jumps_55 {p : Program} {l : Launch} {e : Env} {s : State} {m : MethodId} {args : Array Value} {below : List Frame} {meth : Method} {c : Code} {Q : State → Prop} {A : Nat → Prop} {dC : Nat → ClassId} {dI : Nat → Nat → Nat} {a : Nat → Nat} {ac : Nat → ClassId} {n : Nat} {r : St} (C : nd_C p l s m args c A (dC, dI) cX13_jumps 7 RX13 ow_dm_X13_jumps (dk_X13 ac)) (K : nd_Kv p l e (headSpec ow_dm_X13_jumps ({ frames := 10, cells := 0, slots := 0, locals := 230 })).room s m args below meth c Q A (dC, dI) cX13_jumps (St) (dw_X13 a ac) r) : dj_X13_jumps_55 p l e s m args below meth c Q A dC dI a ac (df_X13_jumps_55 n) r := by
  obtain ⟨hlt, hx, hb, hml, hown, hts, hN, hA, hK⟩ := id C
  intro x1 x2 s0 H locs ls h hP hD hS hl
  unfold df_X13_jumps_55 at h
  refine lv_aload_n hx hb dX13_jumps_55 rfl (lv_at hl 0 rfl) ?_
  refine lv_iload_n hx hb dX13_jumps_56 rfl (lv_at hl 1 rfl) ?_
  refine lv_bipush (v := 34) hx hb dX13_jumps_57 (by decide) ?_
  refine lv_icmp_ne (tgt := 66) hx hb dX13_jumps_59 (by decide) (fun c8 => ?_) (fun c8 => ?_)
  · have h := nd_neg h c8
    refine lv_iconst (v := 1) hx hb dX13_jumps_66 (by decide) ?_
    exact (db_X13_jumps_67 C K) (1) s0 _ _ _ h hP hD hS (lv_sub hl [] rfl)
  · have h := nd_pos h c8
    refine lv_iload_n hx hb dX13_jumps_62 rfl (lv_at hl 2 rfl) ?_
    refine lv_goto (tgt := 67) hx hb dX13_jumps_63 (by decide) ?_
    exact (db_X13_jumps_67 C K) (x2) s0 _ _ _ h hP hD hS (lv_sub hl [] rfl)
set_option maxHeartbeats 40000000 in
set_option maxRecDepth 100000 in
theorem db_X13_jumps_37 {p : Program} {l : Launch} {e : Env} {s : State} {m : MethodId} {args : Array Value} {below : List Frame} {meth : Method} {c : Code} {Q : State → Prop} {A : Nat → Prop} {dC : Nat → ClassId} {dI : Nat → Nat → Nat} {a : Nat → Nat} {ac : Nat → ClassId} {n : Nat} {r : St} (C : nd_C p l s m args c A (dC, dI) cX13_jumps 7 RX13 ow_dm_X13_jumps (dk_X13 ac)) (K : nd_Kv p l e (headSpec ow_dm_X13_jumps ({ frames := 10, cells := 0, slots := 0, locals := 230 })).room s m args below meth c Q A (dC, dI) cX13_jumps (St) (dw_X13 a ac) r) : dj_X13_jumps_37 p l e s m args below meth c Q A dC dI a ac (df_X13_jumps_37 n) r := by
  obtain ⟨hlt, hx, hb, hml, hown, hts, hN, hA, hK⟩ := id C
  intro x1 x2 x3 y0 s0 H locs ls h hP hD hS hl
  unfold df_X13_jumps_37 at h
  refine lv_istore (lv' := [(4, .int y0), (0, .ref (a 0)), (1, .int x1), (2, .int x2), (3, .int x3)]) hx hb dX13_jumps_37 hl (by decide) rfl (fun ls hl => ?_)
  refine lv_aload_n hx hb dX13_jumps_39 rfl (lv_at hl 1 rfl) ?_
  refine lv_iload_n hx hb dX13_jumps_40 rfl (lv_at hl 4 rfl) ?_
  refine va_put (D := (dC, dI)) (ci := 14) (v := .int x3) (ty := .int) (C := RX13) (T := TX13) (N := 37) hx hb hts hi_dm_X13_jumps_X13 tyX13 tyX13_ok nmX13 hown hK hP hD hS 0 rfl rfl 16 (by decide) (hts (.fieldLink RX13 374 "TimeMachineModel$Assembler" "at" "I") (List.mem_of_getElem? (i := 1) rfl)) (fun _ h9 => h9) rfl (by decide +kernel) rfl rfl (Nat.le_of_ble_eq_true rfl) dX13_jumps_41 (fun H locs hP hD hS => ?_)
  obtain ⟨s6, es6, h⟩ := nd_let_e h
  have hP : va_P (dC, dI) vwCl (dw_X13 a ac s6) H := by rw [es6]; exact hP
  have hD : va_D A (dw_X13 a ac s6) := by rw [es6]; exact hD
  refine lv_iload_n hx hb dX13_jumps_44 rfl (lv_at hl 2 rfl) ?_
  refine lv_bipush (v := 34) hx hb dX13_jumps_45 (by decide) ?_
  refine lv_icmp_eq (tgt := 55) hx hb dX13_jumps_47 (by decide) (fun c7 => ?_) (fun c7 => ?_)
  · have h := nd_pos h c7
    exact (db_X13_jumps_55 C K) (x1) (x2) s6 _ _ _ h hP hD hS (lv_sub hl [1, 2, 3] rfl)
  · have h := nd_neg h c7
    refine lv_iload hx hb dX13_jumps_50 (lv_at hl 0 rfl) ?_
    refine lv_if_ne (tgt := 71) hx hb dX13_jumps_52 (by decide) (fun c12 => ?_) (fun c12 => ?_)
    · have h := nd_neg h c12
      refine lv_aload_n hx hb dX13_jumps_71 rfl (lv_at hl 1 rfl) ?_
      obtain ⟨q13, s14, hq, h⟩ := nd_b2_e h
      have hPc := hP
      have hDc := hD
      have hKc := hK
      have hFc := nd_rs hD hS hA
      refine nd_cVi (As := []) (rest := []) (q := q13) (w' := dw_X13 a ac s14) ⟨hx, hb, hml, hown, hts⟩ (fun sz => dm_X13_taken l hlt dC dI a ac n  s6 hq sz) (cwV 0 hts gi_dm_X13_jumps_2 rfl rfl rfl (by decide +kernel) ⟨Nat.le_of_ble_eq_true rfl, Nat.le_of_ble_eq_true rfl⟩) hPc hDc hKc hS hA hN (va_recv hKc hPc (ci := 14) (q0 := 0) rfl rfl) rfl hl.1 rfl (Nat.le_of_ble_eq_true rfl) dX13_jumps_72 (fun H locs hP1 hD1 hk1 hS => ?_)
      have hP := hP1
      have hD := hD1.weaken (fun k q _ h => hFc q.1 h)
      refine lv_istore (lv' := [(5, .int q13), (4, .int y0), (0, .ref (a 0)), (1, .int x1), (2, .int x2), (3, .int x3)]) hx hb dX13_jumps_75 hl (by decide) rfl (fun ls hl => ?_)
      refine lv_aload_n hx hb dX13_jumps_77 rfl (lv_at hl 2 rfl) ?_
      obtain ⟨q16, s17, hq, h⟩ := nd_b2_e h
      have hPc := hP
      have hDc := hD
      have hKc := hK
      have hFc := nd_rs hD hS hA
      refine nd_cVi (As := []) (rest := []) (q := q16) (w' := dw_X13 a ac s17) ⟨hx, hb, hml, hown, hts⟩ (fun sz => dm_X13_comma l hlt dC dI a ac n  s14 hq sz) (cwV 0 hts gi_dm_X13_jumps_3 rfl rfl rfl (by decide +kernel) ⟨Nat.le_of_ble_eq_true rfl, Nat.le_of_ble_eq_true rfl⟩) hPc hDc hKc hS hA hN (va_recv hKc hPc (ci := 14) (q0 := 0) rfl rfl) rfl hl.1 rfl (Nat.le_of_ble_eq_true rfl) dX13_jumps_78 (fun H locs hP1 hD1 hk1 hS => ?_)
      have hP := hP1
      have hD := hD1.weaken (fun k q _ h => hFc q.1 h)
      refine lv_if_ne (tgt := 85) hx hb dX13_jumps_81 (by decide) (fun c19 => ?_) (fun c19 => ?_)
      · have h := nd_neg h c19
        refine lv_aload_n hx hb dX13_jumps_85 rfl (lv_at hl 2 rfl) ?_
        obtain ⟨q20, s21, hq, h⟩ := nd_b2_e h
        have hPc := hP
        have hDc := hD
        have hKc := hK
        have hFc := nd_rs hD hS hA
        refine nd_cVi (As := []) (rest := []) (q := q20) (w' := dw_X13 a ac s21) ⟨hx, hb, hml, hown, hts⟩ (fun sz => dm_X13_expression l hlt dC dI a ac n  s17 hq sz) (cwV 0 hts gi_dm_X13_jumps_4 rfl rfl rfl (by decide +kernel) ⟨Nat.le_of_ble_eq_true rfl, Nat.le_of_ble_eq_true rfl⟩) hPc hDc hKc hS hA hN (va_recv hKc hPc (ci := 14) (q0 := 0) rfl rfl) rfl hl.1 rfl (Nat.le_of_ble_eq_true rfl) dX13_jumps_86 (fun H locs hP1 hD1 hk1 hS => ?_)
        have hP := hP1
        have hD := hD1.weaken (fun k q _ h => hFc q.1 h)
        refine lv_aload_n hx hb dX13_jumps_89 rfl (lv_at hl 2 rfl) ?_
        refine va_get (D := (dC, dI)) (ci := 14) (v := .int (sI s21 17)) (C := RX13) (T := TX13) (N := 37) hx hb hts hi_dm_X13_jumps_X13 hown hK hP 0 rfl rfl 26 (by decide) (hts (.fieldLink RX13 486 "TimeMachineModel$Assembler" "address" "I") (List.mem_of_getElem? (i := 19) rfl)) (fun _ h9 => h9) rfl dX13_jumps_90 ?_
        refine lv_isub hx hb dX13_jumps_93 ?_
        refine lv_topi (fun z23 ez23 => ?_)
        have h := nd_at h ez23
        refine lv_istore (lv' := [(6, .int z23), (5, .int q13), (4, .int y0), (0, .ref (a 0)), (1, .int x1), (2, .int x2), (3, .int x3)]) hx hb dX13_jumps_94 hl (by decide) rfl (fun ls hl => ?_)
        refine lv_aload_n hx hb dX13_jumps_96 rfl (lv_at hl 3 rfl) ?_
        refine lv_iload hx hb dX13_jumps_97 (lv_at hl 0 rfl) ?_
        refine lv_ldcw hx hb hown (hts (.constant RX13 602 (-1048576)) (List.mem_of_getElem? (i := 20) rfl)) dX13_jumps_99 ?_
        refine lv_ldcw hx hb hown (hts (.constant RX13 557 (1048574)) (List.mem_of_getElem? (i := 21) rfl)) dX13_jumps_102 ?_
        refine lv_iconst (v := 2) hx hb dX13_jumps_105 (by decide) ?_
        obtain ⟨s25, hq, h⟩ := nd_b1_e h
        have hPc := hP
        have hDc := hD
        have hKc := hK
        have hFc := nd_rs hD hS hA
        refine nd_cVv (As := [.int z23, .int (-1048576), .int 1048574, .int 2]) (rest := []) (w' := dw_X13 a ac s25) ⟨hx, hb, hml, hown, hts⟩ (fun sz => dm_X13_fits l hlt dC dI a ac n (z23) ((-1048576)) (1048574) (2) s21 hq sz) (cwV 4 hts gi_dm_X13_jumps_5 rfl rfl rfl (by decide +kernel) ⟨Nat.le_of_ble_eq_true rfl, Nat.le_of_ble_eq_true rfl⟩) hPc hDc hKc hS hA hN (va_recv hKc hPc (ci := 14) (q0 := 0) rfl rfl) rfl hl.1 rfl (Nat.le_of_ble_eq_true rfl) dX13_jumps_106 (fun H locs hP1 hD1 hk1 hS => ?_)
        have hP := hP1
        have hD := hD1.weaken (fun k q _ h => hFc q.1 h)
        refine lv_aload_n hx hb dX13_jumps_109 rfl (lv_at hl 3 rfl) ?_
        refine lv_iload_n hx hb dX13_jumps_110 rfl (lv_at hl 5 rfl) ?_
        refine lv_iload hx hb dX13_jumps_111 (lv_at hl 1 rfl) ?_
        refine lv_bipush (v := 7) hx hb dX13_jumps_113 (by decide) ?_
        refine lv_ishl hx hb dX13_jumps_115 ?_
        refine lv_ior hx hb dX13_jumps_116 ?_
        refine lv_iload hx hb dX13_jumps_117 (lv_at hl 0 rfl) ?_
        obtain ⟨q27, s28, hq, h⟩ := nd_b2_e h
        have hPc : va_P (dC, dI) vwCl (dw_P a ac ()) H := nd_p0
        have hDc : va_D A (dw_P a ac ()) := nd_d0
        have hKc : va_K (dC, dI) vwCl (dk_P ac) s := nd_y0 hK
        have hFc : ∀ q, va_A (dw_P a ac ()) H.size q → A q := nd_r0 hS hA
        refine nd_cSi (As := [.int z23]) (rest := [.int (x2 ||| ((q13 : Int32) <<< ((7 : Int32) &&& 31))), .ref (a 0)]) (q := q27) (w' := dw_P a ac s28) ⟨hx, hb, hml, hown, hts⟩ (fun sz => dm_X13_jumpBits l hlt dC dI a ac n (z23) () hq sz) (cwS 1 hts gi_dm_X13_jumps_6 rfl rfl rfl (by decide +kernel) ⟨Nat.le_of_ble_eq_true rfl, Nat.le_of_ble_eq_true rfl⟩) hPc hDc hKc hS hA hN rfl hl.1 rfl (Nat.le_of_ble_eq_true rfl) dX13_jumps_119 (fun H locs hP1 hD1 hk1 hS => ?_)
        have hP := nd_n0 hP hk1
        refine lv_ior hx hb dX13_jumps_122 ?_
        obtain ⟨s31, hq, h⟩ := nd_b1_e h
        have hPc := hP
        have hDc := hD
        have hKc := hK
        have hFc := nd_rs hD hS hA
        refine nd_cVv (As := [.int ((x2 ||| ((q13 : Int32) <<< ((7 : Int32) &&& 31))) ||| q27)]) (rest := []) (w' := dw_X13 a ac s31) ⟨hx, hb, hml, hown, hts⟩ (fun sz => dm_X13_word l hlt dC dI a ac n (((x2 ||| ((q13 : Int32) <<< ((7 : Int32) &&& 31))) ||| q27)) s25 hq sz) (cwV 1 hts gi_dm_X13_jumps_7 rfl rfl rfl (by decide +kernel) ⟨Nat.le_of_ble_eq_true rfl, Nat.le_of_ble_eq_true rfl⟩) hPc hDc hKc hS hA hN (va_recv hKc hPc (ci := 14) (q0 := 0) rfl rfl) rfl hl.1 rfl (Nat.le_of_ble_eq_true rfl) dX13_jumps_123 (fun H locs hP1 hD1 hk1 hS => ?_)
        have hP := hP1
        have hD := hD1.weaken (fun k q _ h => hFc q.1 h)
        exact K _ _ _ _ _ dX13_jumps_126 (Option.some.inj h).symm hP hD hS
      · have h := nd_pos h c19
        exact K _ _ _ _ _ dX13_jumps_84 (Option.some.inj h).symm hP hD hS
    · have h := nd_pos h c12
      exact (db_X13_jumps_55 C K) (x1) (x2) s6 _ _ _ h hP hD hS (lv_sub hl [1, 2, 3] rfl)
set_option maxHeartbeats 40000000 in
set_option maxRecDepth 100000 in
theorem db_X13_jumps_36 {p : Program} {l : Launch} {e : Env} {s : State} {m : MethodId} {args : Array Value} {below : List Frame} {meth : Method} {c : Code} {Q : State → Prop} {A : Nat → Prop} {dC : Nat → ClassId} {dI : Nat → Nat → Nat} {a : Nat → Nat} {ac : Nat → ClassId} {n : Nat} {r : St} (C : nd_C p l s m args c A (dC, dI) cX13_jumps 7 RX13 ow_dm_X13_jumps (dk_X13 ac)) (K : nd_Kv p l e (headSpec ow_dm_X13_jumps ({ frames := 10, cells := 0, slots := 0, locals := 230 })).room s m args below meth c Q A (dC, dI) cX13_jumps (St) (dw_X13 a ac) r) : dj_X13_jumps_36 p l e s m args below meth c Q A dC dI a ac (df_X13_jumps_36 n) r := by
  obtain ⟨hlt, hx, hb, hml, hown, hts, hN, hA, hK⟩ := id C
  intro x1 x2 x3 s0 H locs ls h hP hD hS hl
  unfold df_X13_jumps_36 at h
  refine lv_iconst (v := 0) hx hb dX13_jumps_36 (by decide) ?_
  exact (db_X13_jumps_37 C K) (x1) (x2) (x3) (0) s0 _ _ _ h hP hD hS (lv_sub hl [0, 1, 2, 3] rfl)
set_option maxHeartbeats 40000000 in
set_option maxRecDepth 100000 in
theorem db_X13_jumps_0 {p : Program} {l : Launch} {e : Env} {s : State} {m : MethodId} {args : Array Value} {below : List Frame} {meth : Method} {c : Code} {Q : State → Prop} {A : Nat → Prop} {dC : Nat → ClassId} {dI : Nat → Nat → Nat} {a : Nat → Nat} {ac : Nat → ClassId} {n : Nat} {r : St} (C : nd_C p l s m args c A (dC, dI) cX13_jumps 7 RX13 ow_dm_X13_jumps (dk_X13 ac)) (K : nd_Kv p l e (headSpec ow_dm_X13_jumps ({ frames := 10, cells := 0, slots := 0, locals := 230 })).room s m args below meth c Q A (dC, dI) cX13_jumps (St) (dw_X13 a ac) r) : dj_X13_jumps_0 p l e s m args below meth c Q A dC dI a ac (df_X13_jumps_0 n) r := by
  obtain ⟨hlt, hx, hb, hml, hown, hts, hN, hA, hK⟩ := id C
  intro v0 v1 s0 H locs ls h hP hD hS hl
  unfold df_X13_jumps_0 at h
  refine lv_aload_n hx hb dX13_jumps_0 rfl (lv_at hl 0 rfl) ?_
  refine va_get (D := (dC, dI)) (ci := 14) (v := .int (sI s0 7)) (C := RX13) (T := TX13) (N := 37) hx hb hts hi_dm_X13_jumps_X13 hown hK hP 0 rfl rfl 16 (by decide) (hts (.fieldLink RX13 374 "TimeMachineModel$Assembler" "at" "I") (List.mem_of_getElem? (i := 1) rfl)) (fun _ h9 => h9) rfl dX13_jumps_1 ?_
  refine lv_topi (fun z1 ez1 => ?_)
  have h := nd_at h ez1
  refine lv_istore_n (lv' := [(3, .int z1), (0, .ref (a 0)), (1, .int v0), (2, .int v1)]) hx hb dX13_jumps_4 rfl hl (by decide) rfl (fun ls hl => ?_)
  refine lv_aload_n hx hb dX13_jumps_5 rfl (lv_at hl 1 rfl) ?_
  obtain ⟨s3, hq, h⟩ := nd_b1_e h
  have hPc := hP
  have hDc := hD
  have hKc := hK
  have hFc := nd_rs hD hS hA
  refine nd_cVv (As := []) (rest := []) (w' := dw_X13 a ac s3) ⟨hx, hb, hml, hown, hts⟩ (fun sz => dm_X13_scan l hlt dC dI a ac n  s0 hq sz) (cwV 0 hts gi_dm_X13_jumps_0 rfl rfl rfl (by decide +kernel) ⟨Nat.le_of_ble_eq_true rfl, Nat.le_of_ble_eq_true rfl⟩) hPc hDc hKc hS hA hN (va_recv hKc hPc (ci := 14) (q0 := 0) rfl rfl) rfl hl.1 rfl (Nat.le_of_ble_eq_true rfl) dX13_jumps_6 (fun H locs hP1 hD1 hk1 hS => ?_)
  have hP := hP1
  have hD := hD1.weaken (fun k q _ h => hFc q.1 h)
  refine lv_aload_n hx hb dX13_jumps_9 rfl (lv_at hl 1 rfl) ?_
  refine va_get (D := (dC, dI)) (ci := 14) (v := .int (sI s3 8)) (C := RX13) (T := TX13) (N := 37) hx hb hts hi_dm_X13_jumps_X13 hown hK hP 0 rfl rfl 17 (by decide) (hts (.fieldLink RX13 365 "TimeMachineModel$Assembler" "token" "I") (List.mem_of_getElem? (i := 6) rfl)) (fun _ h9 => h9) rfl dX13_jumps_10 ?_
  refine lv_iconst (v := 1) hx hb dX13_jumps_13 (by decide) ?_
  refine lv_icmp_ne (tgt := 36) hx hb dX13_jumps_14 (by decide) (fun c5 => ?_) (fun c5 => ?_)
  · have h := nd_neg h c5
    exact (db_X13_jumps_36 C K) (v0) (v1) (z1) s3 _ _ _ h hP hD hS (lv_sub hl [1, 2, 3, 0] rfl)
  · have h := nd_pos h c5
    refine lv_aload_n hx hb dX13_jumps_17 rfl (lv_at hl 1 rfl) ?_
    refine lv_aload_n hx hb dX13_jumps_18 rfl (lv_at hl 1 rfl) ?_
    refine va_get (D := (dC, dI)) (ci := 14) (v := .int (sI s3 9)) (C := RX13) (T := TX13) (N := 37) hx hb hts hi_dm_X13_jumps_X13 hown hK hP 0 rfl rfl 18 (by decide) (hts (.fieldLink RX13 368 "TimeMachineModel$Assembler" "from" "I") (List.mem_of_getElem? (i := 30) rfl)) (fun _ h9 => h9) rfl dX13_jumps_19 ?_
    refine lv_aload_n hx hb dX13_jumps_22 rfl (lv_at hl 1 rfl) ?_
    refine va_get (D := (dC, dI)) (ci := 14) (v := .int (sI s3 10)) (C := RX13) (T := TX13) (N := 37) hx hb hts hi_dm_X13_jumps_X13 hown hK hP 0 rfl rfl 19 (by decide) (hts (.fieldLink RX13 371 "TimeMachineModel$Assembler" "to" "I") (List.mem_of_getElem? (i := 31) rfl)) (fun _ h9 => h9) rfl dX13_jumps_23 ?_
    obtain ⟨q33, s34, hq, h⟩ := nd_b2_e h
    have hPc := hP
    have hDc := hD
    have hKc := hK
    have hFc := nd_rs hD hS hA
    refine nd_cVi (As := [.int (sI s3 9), .int (sI s3 10)]) (rest := []) (q := q33) (w' := dw_X13 a ac s34) ⟨hx, hb, hml, hown, hts⟩ (fun sz => dm_X13_register l hlt dC dI a ac n ((sI s3 9)) ((sI s3 10)) s3 hq sz) (cwV 2 hts gi_dm_X13_jumps_8 rfl rfl rfl (by decide +kernel) ⟨Nat.le_of_ble_eq_true rfl, Nat.le_of_ble_eq_true rfl⟩) hPc hDc hKc hS hA hN (va_recv hKc hPc (ci := 14) (q0 := 0) rfl rfl) rfl hl.1 rfl (Nat.le_of_ble_eq_true rfl) dX13_jumps_26 (fun H locs hP1 hD1 hk1 hS => ?_)
    have hP := hP1
    have hD := hD1.weaken (fun k q _ h => hFc q.1 h)
    refine lv_if_lt (tgt := 36) hx hb dX13_jumps_29 (by decide) (fun c36 => ?_) (fun c36 => ?_)
    · have h := nd_pos h c36
      exact (db_X13_jumps_36 C K) (v0) (v1) (z1) s34 _ _ _ h hP hD hS (lv_sub hl [1, 2, 3, 0] rfl)
    · have h := nd_neg h c36
      refine lv_iconst (v := 1) hx hb dX13_jumps_32 (by decide) ?_
      refine lv_goto (tgt := 37) hx hb dX13_jumps_33 (by decide) ?_
      exact (db_X13_jumps_37 C K) (v0) (v1) (z1) (1) s34 _ _ _ h hP hD hS (lv_sub hl [1, 2, 3, 0] rfl)
set_option maxHeartbeats 40000000 in
set_option maxRecDepth 100000 in
theorem dm_X13_jumps (l : Launch) (hlt : l.stackTraces = false) (dC : Nat → ClassId) (dI : Nat → Nat → Nat) (a : Nat → Nat) (ac : Nat → ClassId) (n : Nat) (v0 : Int32) (v1 : Int32) (s0 : St) {r : St} (h : df_X13_jumps n v0 v1 s0 = some r) (sz : Nat) : Met l yX13_jumps ow_dm_X13_jumps ({ frames := 10, cells := 0, slots := 0, locals := 230 }) (va_Pc [.ref (a 0), .int v0, .int v1] (fun U => U.heap.size = sz ∧ va_P (dC, dI) vwCl (dw_X13 a ac s0) U.heap ∧ va_K (dC, dI) vwCl (dk_X13 ac) U ∧ va_D (fun _ => True) (dw_X13 a ac s0) ∧ nv_E (va_A (dw_X13 a ac s0) sz) U)) (va_Qv (fun _ => True) (fun (_ : Unit) t => va_P (dC, dI) vwCl (dw_X13 a ac r) t.heap ∧ va_K (dC, dI) vwCl (dk_X13 ac) t ∧ va_D (va_A (dw_X13 a ac s0) sz) (dw_X13 a ac r)) (va_A (dw_X13 a ac s0) sz)) 0 0 (va_A (dw_X13 a ac s0) sz) := by
  refine Met.ofW (cc := cX13_jumps) (maxL := 7) (ret := none) (by decide) rfl ?_
  intro p e s m args below meth c s₁ B hml hv
  obtain ⟨rfl, hsz, hP, hK, hD0, hN⟩ := hv
  have hx := B.exec
  have hb := B.bytes
  have hr := B.returns
  have hts := atoms_spec (ws := ow_dm_X13_jumps) B.pre
  have hown : s.vm.findClass RX13 = some m.cls := findClass_of_methodNamed B.named
  have hlocks := B.notSynchronized
  subst hsz
  have hD := hD0.self (sz := s.heap.size)
  generalize hAe : va_A (dw_X13 a ac s0) s.heap.size = A at hD hN ⊢
  have hA : ∀ q : Nat, s.heap.size ≤ q → A q := fun q h => by rw [← hAe]; exact Or.inr h
  have hl := lv_entry ([.ref (a 0), .int v0, .int v1]) (n := 7) (Nat.le_of_ble_eq_true rfl)
  rw [lg_entry_eq]
  generalize (lg_sl ([.ref (a 0), .int v0, .int v1]) ++ List.replicate (7 - (lg_sl ([.ref (a 0), .int v0, .int v1])).length) Slot.unset).toArray = ls at hl ⊢
  have hl : lv_has ls 7 [(0, .ref (a 0)), (1, .int v0), (2, .int v1)] := hl
  exact db_X13_jumps_0 (dC := dC) (dI := dI) (a := a) (ac := ac) (n := n) (r := r) ⟨hlt, hx, hb, hml, hown, hts, hN, hA, hK⟩ (fun pc τ H locs ls d er hP hD hS => by subst er; exact W.vret hx hb hr (fun t ht hW => ⟨⟨(), rfl, trivial, by rw [ht]; exact hP, va_K.moved hW.alike hK, hD⟩, hS.F ht⟩) hS.2.2 d) v0 v1 s0 _ _ _ h hP hD va_S.rf (lv_sub hl [0, 1, 2] rfl)
def ow_dm_X13_others : List Cond := .code yX13_others cX13_others 7 none :: ([.methodLink RX13 532 yX13_taken, .instanceMethod yX13_taken, .selects RX13 yX13_taken yX13_taken, .initialized RX13, .methodLink RX13 582 yX13_comma, .instanceMethod yX13_comma, .selects RX13 yX13_comma yX13_comma, .methodLink RX13 525 yX13_expression, .instanceMethod yX13_expression, .selects RX13 yX13_expression yX13_expression, .fieldLink RX13 486 "TimeMachineModel$Assembler" "address" "I", .methodLink RX13 570 yX13_word, .instanceMethod yX13_word, .selects RX13 yX13_word yX13_word, .methodLink RX13 608 yX13_six, .static yX13_six, .methodLink RX13 547 yX13_half, .instanceMethod yX13_half, .selects RX13 yX13_half yX13_half, .constant RX13 603 (-2147483648), .constant RX13 604 (2147483647), .methodLink RX13 605 yX13_fixed, .instanceMethod yX13_fixed, .selects RX13 yX13_fixed yX13_fixed] ++ (u_ws RX13 TX13 37 ++ (ow_dm_X13_taken ++ (ow_dm_X13_comma ++ (ow_dm_X13_expression ++ (ow_dm_X13_word ++ (ow_dm_X13_six ++ (ow_dm_X13_half ++ (ow_dm_X13_fixed ++ [])))))))))
theorem gd_dm_X13_others : ∀ w ∈ ow_dm_X13_others, (w.onTables && w.keeps) = true ∨ ∃ ty, w = Cond.arrayClass ty := List.forall_mem_cons.mpr ⟨good_of_word rfl, List.forall_mem_append.mpr ⟨fun w h => good_of_word (List.all_eq_true.mp (by decide +kernel) w h), List.forall_mem_append.mpr ⟨gu_X13, List.forall_mem_append.mpr ⟨gd_dm_X13_taken, List.forall_mem_append.mpr ⟨gd_dm_X13_comma, List.forall_mem_append.mpr ⟨gd_dm_X13_expression, List.forall_mem_append.mpr ⟨gd_dm_X13_word, List.forall_mem_append.mpr ⟨gd_dm_X13_six, List.forall_mem_append.mpr ⟨gd_dm_X13_half, List.forall_mem_append.mpr ⟨gd_dm_X13_fixed, fun _ h => nomatch h⟩⟩⟩⟩⟩⟩⟩⟩⟩⟩
theorem hi_dm_X13_others_X13 : ∀ w ∈ u_ws RX13 TX13 37, w ∈ ow_dm_X13_others := fun w h => List.mem_cons_of_mem _ (List.mem_append_right _ (List.mem_append_left _ h))
theorem gi_dm_X13_others_0 : GoodIn ow_dm_X13_others (wsV RX13 532 RX13 yX13_taken ow_dm_X13_taken) := goodIn_app (goodIn_of _ (by decide +kernel)) (fun w h => ⟨List.mem_cons_of_mem _ (List.mem_append_right _ (List.mem_append_right _ (List.mem_append_left _ h))), gd_dm_X13_taken w h⟩)
theorem gi_dm_X13_others_1 : GoodIn ow_dm_X13_others (wsV RX13 582 RX13 yX13_comma ow_dm_X13_comma) := goodIn_app (goodIn_of _ (by decide +kernel)) (fun w h => ⟨List.mem_cons_of_mem _ (List.mem_append_right _ (List.mem_append_right _ (List.mem_append_right _ (List.mem_append_left _ h)))), gd_dm_X13_comma w h⟩)
theorem gi_dm_X13_others_2 : GoodIn ow_dm_X13_others (wsV RX13 525 RX13 yX13_expression ow_dm_X13_expression) := goodIn_app (goodIn_of _ (by decide +kernel)) (fun w h => ⟨List.mem_cons_of_mem _ (List.mem_append_right _ (List.mem_append_right _ (List.mem_append_right _ (List.mem_append_right _ (List.mem_append_left _ h))))), gd_dm_X13_expression w h⟩)
theorem gi_dm_X13_others_3 : GoodIn ow_dm_X13_others (wsV RX13 570 RX13 yX13_word ow_dm_X13_word) := goodIn_app (goodIn_of _ (by decide +kernel)) (fun w h => ⟨List.mem_cons_of_mem _ (List.mem_append_right _ (List.mem_append_right _ (List.mem_append_right _ (List.mem_append_right _ (List.mem_append_right _ (List.mem_append_left _ h)))))), gd_dm_X13_word w h⟩)
theorem gi_dm_X13_others_4 : GoodIn ow_dm_X13_others (wsS RX13 608 yX13_six ow_dm_X13_six) := goodIn_app (goodIn_of _ (by decide +kernel)) (fun w h => ⟨List.mem_cons_of_mem _ (List.mem_append_right _ (List.mem_append_right _ (List.mem_append_right _ (List.mem_append_right _ (List.mem_append_right _ (List.mem_append_right _ (List.mem_append_left _ h))))))), gd_dm_X13_six w h⟩)
theorem gi_dm_X13_others_5 : GoodIn ow_dm_X13_others (wsV RX13 547 RX13 yX13_half ow_dm_X13_half) := goodIn_app (goodIn_of _ (by decide +kernel)) (fun w h => ⟨List.mem_cons_of_mem _ (List.mem_append_right _ (List.mem_append_right _ (List.mem_append_right _ (List.mem_append_right _ (List.mem_append_right _ (List.mem_append_right _ (List.mem_append_right _ (List.mem_append_left _ h)))))))), gd_dm_X13_half w h⟩)
theorem gi_dm_X13_others_6 : GoodIn ow_dm_X13_others (wsV RX13 605 RX13 yX13_fixed ow_dm_X13_fixed) := goodIn_app (goodIn_of _ (by decide +kernel)) (fun w h => ⟨List.mem_cons_of_mem _ (List.mem_append_right _ (List.mem_append_right _ (List.mem_append_right _ (List.mem_append_right _ (List.mem_append_right _ (List.mem_append_right _ (List.mem_append_right _ (List.mem_append_right _ (List.mem_append_left _ h))))))))), gd_dm_X13_fixed w h⟩)
def dj_X13_others_321 (p : Program) (l : Launch) (e : Env) (s : State) (m : MethodId) (args : Array Value) (below : List Frame) (meth : Method) (c : Code) (Q : State → Prop) (A : Nat → Prop) (dC : Nat → ClassId) (dI : Nat → Nat → Nat) (a : Nat → Nat) (ac : Nat → ClassId) (g : (St) → Option (St)) (r : St) : Prop := ∀ (s0 : St) (H : Heap) (locs : List Loc) (ls : Array Slot), g s0 = some r → va_P (dC, dI) vwCl (dw_X13 a ac s0) H → va_D A (dw_X13 a ac s0) → va_S A s.heap H locs → lv_has ls 7 [] → W p l e (headSpec ow_dm_X13_others ({ frames := 9, cells := 0, slots := 0, locals := 205 })).room s m args below meth c H locs 0 0 Q (F0 m 321 ls [])
def dj_X13_others_304 (p : Program) (l : Launch) (e : Env) (s : State) (m : MethodId) (args : Array Value) (below : List Frame) (meth : Method) (c : Code) (Q : State → Prop) (A : Nat → Prop) (dC : Nat → ClassId) (dI : Nat → Nat → Nat) (a : Nat → Nat) (ac : Nat → ClassId) (g : Int32 → Int32 → (St) → Option (St)) (r : St) : Prop := ∀ (x3 : Int32) (x4 : Int32) (s0 : St) (H : Heap) (locs : List Loc) (ls : Array Slot), g x3 x4 s0 = some r → va_P (dC, dI) vwCl (dw_X13 a ac s0) H → va_D A (dw_X13 a ac s0) → va_S A s.heap H locs → lv_has ls 7 [(0, .ref (a 0)), (3, .int x3), (4, .int x4)] → W p l e (headSpec ow_dm_X13_others ({ frames := 9, cells := 0, slots := 0, locals := 205 })).room s m args below meth c H locs 0 0 Q (F0 m 304 ls [])
def dj_X13_others_264 (p : Program) (l : Launch) (e : Env) (s : State) (m : MethodId) (args : Array Value) (below : List Frame) (meth : Method) (c : Code) (Q : State → Prop) (A : Nat → Prop) (dC : Nat → ClassId) (dI : Nat → Nat → Nat) (a : Nat → Nat) (ac : Nat → ClassId) (g : Int32 → Int32 → Int32 → (St) → Option (St)) (r : St) : Prop := ∀ (x1 : Int32) (x3 : Int32) (x4 : Int32) (s0 : St) (H : Heap) (locs : List Loc) (ls : Array Slot), g x1 x3 x4 s0 = some r → va_P (dC, dI) vwCl (dw_X13 a ac s0) H → va_D A (dw_X13 a ac s0) → va_S A s.heap H locs → lv_has ls 7 [(0, .ref (a 0)), (1, .int x1), (3, .int x3), (4, .int x4)] → W p l e (headSpec ow_dm_X13_others ({ frames := 9, cells := 0, slots := 0, locals := 205 })).room s m args below meth c H locs 0 0 Q (F0 m 264 ls [])
def dj_X13_others_242 (p : Program) (l : Launch) (e : Env) (s : State) (m : MethodId) (args : Array Value) (below : List Frame) (meth : Method) (c : Code) (Q : State → Prop) (A : Nat → Prop) (dC : Nat → ClassId) (dI : Nat → Nat → Nat) (a : Nat → Nat) (ac : Nat → ClassId) (g : Int32 → Int32 → Int32 → Int32 → (St) → Option (St)) (r : St) : Prop := ∀ (x1 : Int32) (x3 : Int32) (x4 : Int32) (x6 : Int32) (s0 : St) (H : Heap) (locs : List Loc) (ls : Array Slot), g x1 x3 x4 x6 s0 = some r → va_P (dC, dI) vwCl (dw_X13 a ac s0) H → va_D A (dw_X13 a ac s0) → va_S A s.heap H locs → lv_has ls 7 [(0, .ref (a 0)), (1, .int x1), (3, .int x3), (4, .int x4), (6, .int x6)] → W p l e (headSpec ow_dm_X13_others ({ frames := 9, cells := 0, slots := 0, locals := 205 })).room s m args below meth c H locs 0 0 Q (F0 m 242 ls [])
def dj_X13_others_237 (p : Program) (l : Launch) (e : Env) (s : State) (m : MethodId) (args : Array Value) (below : List Frame) (meth : Method) (c : Code) (Q : State → Prop) (A : Nat → Prop) (dC : Nat → ClassId) (dI : Nat → Nat → Nat) (a : Nat → Nat) (ac : Nat → ClassId) (g : Int32 → Int32 → Int32 → Int32 → (St) → Option (St)) (r : St) : Prop := ∀ (x1 : Int32) (x3 : Int32) (x4 : Int32) (x6 : Int32) (s0 : St) (H : Heap) (locs : List Loc) (ls : Array Slot), g x1 x3 x4 x6 s0 = some r → va_P (dC, dI) vwCl (dw_X13 a ac s0) H → va_D A (dw_X13 a ac s0) → va_S A s.heap H locs → lv_has ls 7 [(0, .ref (a 0)), (1, .int x1), (3, .int x3), (4, .int x4), (6, .int x6)] → W p l e (headSpec ow_dm_X13_others ({ frames := 9, cells := 0, slots := 0, locals := 205 })).room s m args below meth c H locs 0 0 Q (F0 m 237 ls [])
def dj_X13_others_215 (p : Program) (l : Launch) (e : Env) (s : State) (m : MethodId) (args : Array Value) (below : List Frame) (meth : Method) (c : Code) (Q : State → Prop) (A : Nat → Prop) (dC : Nat → ClassId) (dI : Nat → Nat → Nat) (a : Nat → Nat) (ac : Nat → ClassId) (g : Int32 → Int32 → Int32 → Int32 → (St) → Option (St)) (r : St) : Prop := ∀ (x1 : Int32) (x3 : Int32) (x4 : Int32) (x6 : Int32) (s0 : St) (H : Heap) (locs : List Loc) (ls : Array Slot), g x1 x3 x4 x6 s0 = some r → va_P (dC, dI) vwCl (dw_X13 a ac s0) H → va_D A (dw_X13 a ac s0) → va_S A s.heap H locs → lv_has ls 7 [(0, .ref (a 0)), (1, .int x1), (3, .int x3), (4, .int x4), (6, .int x6)] → W p l e (headSpec ow_dm_X13_others ({ frames := 9, cells := 0, slots := 0, locals := 205 })).room s m args below meth c H locs 0 0 Q (F0 m 215 ls [])
def dj_X13_others_198 (p : Program) (l : Launch) (e : Env) (s : State) (m : MethodId) (args : Array Value) (below : List Frame) (meth : Method) (c : Code) (Q : State → Prop) (A : Nat → Prop) (dC : Nat → ClassId) (dI : Nat → Nat → Nat) (a : Nat → Nat) (ac : Nat → ClassId) (g : Int32 → Int32 → Int32 → Int32 → Int32 → (St) → Option (St)) (r : St) : Prop := ∀ (x1 : Int32) (x3 : Int32) (x4 : Int32) (x5 : Int32) (x6 : Int32) (s0 : St) (H : Heap) (locs : List Loc) (ls : Array Slot), g x1 x3 x4 x5 x6 s0 = some r → va_P (dC, dI) vwCl (dw_X13 a ac s0) H → va_D A (dw_X13 a ac s0) → va_S A s.heap H locs → lv_has ls 7 [(0, .ref (a 0)), (1, .int x1), (3, .int x3), (4, .int x4), (5, .int x5), (6, .int x6)] → W p l e (headSpec ow_dm_X13_others ({ frames := 9, cells := 0, slots := 0, locals := 205 })).room s m args below meth c H locs 0 0 Q (F0 m 198 ls [])
def dj_X13_others_182 (p : Program) (l : Launch) (e : Env) (s : State) (m : MethodId) (args : Array Value) (below : List Frame) (meth : Method) (c : Code) (Q : State → Prop) (A : Nat → Prop) (dC : Nat → ClassId) (dI : Nat → Nat → Nat) (a : Nat → Nat) (ac : Nat → ClassId) (g : Int32 → Int32 → Int32 → Int32 → Int32 → (St) → Option (St)) (r : St) : Prop := ∀ (x1 : Int32) (x3 : Int32) (x4 : Int32) (x5 : Int32) (x6 : Int32) (s0 : St) (H : Heap) (locs : List Loc) (ls : Array Slot), g x1 x3 x4 x5 x6 s0 = some r → va_P (dC, dI) vwCl (dw_X13 a ac s0) H → va_D A (dw_X13 a ac s0) → va_S A s.heap H locs → lv_has ls 7 [(0, .ref (a 0)), (1, .int x1), (3, .int x3), (4, .int x4), (5, .int x5), (6, .int x6)] → W p l e (headSpec ow_dm_X13_others ({ frames := 9, cells := 0, slots := 0, locals := 205 })).room s m args below meth c H locs 0 0 Q (F0 m 182 ls [])
def dj_X13_others_94 (p : Program) (l : Launch) (e : Env) (s : State) (m : MethodId) (args : Array Value) (below : List Frame) (meth : Method) (c : Code) (Q : State → Prop) (A : Nat → Prop) (dC : Nat → ClassId) (dI : Nat → Nat → Nat) (a : Nat → Nat) (ac : Nat → ClassId) (g : Int32 → Int32 → Int32 → (St) → Option (St)) (r : St) : Prop := ∀ (x1 : Int32) (x3 : Int32) (y0 : Int32) (s0 : St) (H : Heap) (locs : List Loc) (ls : Array Slot), g x1 x3 y0 s0 = some r → va_P (dC, dI) vwCl (dw_X13 a ac s0) H → va_D A (dw_X13 a ac s0) → va_S A s.heap H locs → lv_has ls 7 [(0, .ref (a 0)), (1, .int x1), (3, .int x3)] → W p l e (headSpec ow_dm_X13_others ({ frames := 9, cells := 0, slots := 0, locals := 205 })).room s m args below meth c H locs 0 0 Q (F0 m 94 ls [.int y0])
def dj_X13_others_60 (p : Program) (l : Launch) (e : Env) (s : State) (m : MethodId) (args : Array Value) (below : List Frame) (meth : Method) (c : Code) (Q : State → Prop) (A : Nat → Prop) (dC : Nat → ClassId) (dI : Nat → Nat → Nat) (a : Nat → Nat) (ac : Nat → ClassId) (g : Int32 → Int32 → Int32 → (St) → Option (St)) (r : St) : Prop := ∀ (y1 : Int32) (y2 : Int32) (y3 : Int32) (s0 : St) (H : Heap) (locs : List Loc) (ls : Array Slot), g y1 y2 y3 s0 = some r → va_P (dC, dI) vwCl (dw_X13 a ac s0) H → va_D A (dw_X13 a ac s0) → va_S A s.heap H locs → lv_has ls 7 [] → W p l e (headSpec ow_dm_X13_others ({ frames := 9, cells := 0, slots := 0, locals := 205 })).room s m args below meth c H locs 0 0 Q (F0 m 60 ls [.int y3, .int y2, .int y1, .ref (a 0)])
def dj_X13_others_0 (p : Program) (l : Launch) (e : Env) (s : State) (m : MethodId) (args : Array Value) (below : List Frame) (meth : Method) (c : Code) (Q : State → Prop) (A : Nat → Prop) (dC : Nat → ClassId) (dI : Nat → Nat → Nat) (a : Nat → Nat) (ac : Nat → ClassId) (g : Int32 → Int32 → (St) → Option (St)) (r : St) : Prop := ∀ (v0 : Int32) (v1 : Int32) (s0 : St) (H : Heap) (locs : List Loc) (ls : Array Slot), g v0 v1 s0 = some r → va_P (dC, dI) vwCl (dw_X13 a ac s0) H → va_D A (dw_X13 a ac s0) → va_S A s.heap H locs → lv_has ls 7 [(0, .ref (a 0)), (1, .int v0), (2, .int v1)] → W p l e (headSpec ow_dm_X13_others ({ frames := 9, cells := 0, slots := 0, locals := 205 })).room s m args below meth c H locs 0 0 Q (F0 m 0 ls [])
set_option maxHeartbeats 40000000 in
set_option maxRecDepth 100000 in
theorem db_X13_others_321 {p : Program} {l : Launch} {e : Env} {s : State} {m : MethodId} {args : Array Value} {below : List Frame} {meth : Method} {c : Code} {Q : State → Prop} {A : Nat → Prop} {dC : Nat → ClassId} {dI : Nat → Nat → Nat} {a : Nat → Nat} {ac : Nat → ClassId} {n : Nat} {r : St} (C : nd_C p l s m args c A (dC, dI) cX13_others 7 RX13 ow_dm_X13_others (dk_X13 ac)) (K : nd_Kv p l e (headSpec ow_dm_X13_others ({ frames := 9, cells := 0, slots := 0, locals := 205 })).room s m args below meth c Q A (dC, dI) cX13_others (St) (dw_X13 a ac) r) : dj_X13_others_321 p l e s m args below meth c Q A dC dI a ac (df_X13_others_321 n) r := by
  obtain ⟨hlt, hx, hb, hml, hown, hts, hN, hA, hK⟩ := id C
  intro s0 H locs ls h hP hD hS hl
  unfold df_X13_others_321 at h
  exact K _ _ _ _ _ dX13_others_321 (Option.some.inj h).symm hP hD hS
set_option maxHeartbeats 40000000 in
set_option maxRecDepth 100000 in
theorem db_X13_others_304 {p : Program} {l : Launch} {e : Env} {s : State} {m : MethodId} {args : Array Value} {below : List Frame} {meth : Method} {c : Code} {Q : State → Prop} {A : Nat → Prop} {dC : Nat → ClassId} {dI : Nat → Nat → Nat} {a : Nat → Nat} {ac : Nat → ClassId} {n : Nat} {r : St} (C : nd_C p l s m args c A (dC, dI) cX13_others 7 RX13 ow_dm_X13_others (dk_X13 ac)) (K : nd_Kv p l e (headSpec ow_dm_X13_others ({ frames := 9, cells := 0, slots := 0, locals := 205 })).room s m args below meth c Q A (dC, dI) cX13_others (St) (dw_X13 a ac) r) : dj_X13_others_304 p l e s m args below meth c Q A dC dI a ac (df_X13_others_304 n) r := by
  obtain ⟨hlt, hx, hb, hml, hown, hts, hN, hA, hK⟩ := id C
  intro x3 x4 s0 H locs ls h hP hD hS hl
  unfold df_X13_others_304 at h
  refine lv_aload_n hx hb dX13_others_304 rfl (lv_at hl 0 rfl) ?_
  refine lv_bipush (v := 19) hx hb dX13_others_305 (by decide) ?_
  refine lv_iload_n hx hb dX13_others_307 rfl (lv_at hl 1 rfl) ?_
  refine lv_bipush (v := 7) hx hb dX13_others_308 (by decide) ?_
  refine lv_ishl hx hb dX13_others_310 ?_
  refine lv_ior hx hb dX13_others_311 ?_
  refine lv_iload hx hb dX13_others_312 (lv_at hl 2 rfl) ?_
  refine lv_bipush (v := 20) hx hb dX13_others_314 (by decide) ?_
  refine lv_ishl hx hb dX13_others_316 ?_
  refine lv_ior hx hb dX13_others_317 ?_
  obtain ⟨s31, hq, h⟩ := nd_b1_e h
  have hPc := hP
  have hDc := hD
  have hKc := hK
  have hFc := nd_rs hD hS hA
  refine nd_cVv (As := [.int ((19 ||| ((x3 : Int32) <<< ((7 : Int32) &&& 31))) ||| ((x4 : Int32) <<< ((20 : Int32) &&& 31)))]) (rest := []) (w' := dw_X13 a ac s31) ⟨hx, hb, hml, hown, hts⟩ (fun sz => dm_X13_word l hlt dC dI a ac n (((19 ||| ((x3 : Int32) <<< ((7 : Int32) &&& 31))) ||| ((x4 : Int32) <<< ((20 : Int32) &&& 31)))) s0 hq sz) (cwV 1 hts gi_dm_X13_others_3 rfl rfl rfl (by decide +kernel) ⟨Nat.le_of_ble_eq_true rfl, Nat.le_of_ble_eq_true rfl⟩) hPc hDc hKc hS hA hN (va_recv hKc hPc (ci := 14) (q0 := 0) rfl rfl) rfl hl.1 rfl (Nat.le_of_ble_eq_true rfl) dX13_others_318 (fun H locs hP1 hD1 hk1 hS => ?_)
  have hP := hP1
  have hD := hD1.weaken (fun k q _ h => hFc q.1 h)
  exact (db_X13_others_321 C K)  s31 _ _ _ h hP hD hS (lv_sub hl [] rfl)
set_option maxHeartbeats 40000000 in
set_option maxRecDepth 100000 in
theorem db_X13_others_264 {p : Program} {l : Launch} {e : Env} {s : State} {m : MethodId} {args : Array Value} {below : List Frame} {meth : Method} {c : Code} {Q : State → Prop} {A : Nat → Prop} {dC : Nat → ClassId} {dI : Nat → Nat → Nat} {a : Nat → Nat} {ac : Nat → ClassId} {n : Nat} {r : St} (C : nd_C p l s m args c A (dC, dI) cX13_others 7 RX13 ow_dm_X13_others (dk_X13 ac)) (K : nd_Kv p l e (headSpec ow_dm_X13_others ({ frames := 9, cells := 0, slots := 0, locals := 205 })).room s m args below meth c Q A (dC, dI) cX13_others (St) (dw_X13 a ac) r) : dj_X13_others_264 p l e s m args below meth c Q A dC dI a ac (df_X13_others_264 n) r := by
  obtain ⟨hlt, hx, hb, hml, hown, hts, hN, hA, hK⟩ := id C
  intro x1 x3 x4 s0 H locs ls h hP hD hS hl
  unfold df_X13_others_264 at h
  refine lv_iload_n hx hb dX13_others_264 rfl (lv_at hl 1 rfl) ?_
  refine lv_bipush (v := 39) hx hb dX13_others_265 (by decide) ?_
  refine lv_icmp_ne (tgt := 321) hx hb dX13_others_267 (by decide) (fun c26 => ?_) (fun c26 => ?_)
  · have h := nd_neg h c26
    exact (db_X13_others_321 C K)  s0 _ _ _ h hP hD hS (lv_sub hl [] rfl)
  · have h := nd_pos h c26
    refine lv_iload hx hb dX13_others_270 (lv_at hl 3 rfl) ?_
    refine lv_sipush (v := (-2049)) hx hb dX13_others_272 (by decide) ?_
    refine lv_icmp_le (tgt := 321) hx hb dX13_others_275 (by decide) (fun c27 => ?_) (fun c27 => ?_)
    · have h := nd_pos h c27
      exact (db_X13_others_321 C K)  s0 _ _ _ h hP hD hS (lv_sub hl [] rfl)
    · have h := nd_neg h c27
      refine lv_iload hx hb dX13_others_278 (lv_at hl 3 rfl) ?_
      refine lv_sipush (v := 2048) hx hb dX13_others_280 (by decide) ?_
      refine lv_icmp_ge (tgt := 321) hx hb dX13_others_283 (by decide) (fun c28 => ?_) (fun c28 => ?_)
      · have h := nd_pos h c28
        exact (db_X13_others_321 C K)  s0 _ _ _ h hP hD hS (lv_sub hl [] rfl)
      · have h := nd_neg h c28
        refine lv_iload_n hx hb dX13_others_286 rfl (lv_at hl 2 rfl) ?_
        refine lv_if_eq (tgt := 304) hx hb dX13_others_287 (by decide) (fun c29 => ?_) (fun c29 => ?_)
        · have h := nd_pos h c29
          exact (db_X13_others_304 C K) (x3) (x4) s0 _ _ _ h hP hD hS (lv_sub hl [0, 2, 3] rfl)
        · have h := nd_neg h c29
          refine lv_iload hx hb dX13_others_290 (lv_at hl 3 rfl) ?_
          refine lv_bipush (v := (-32)) hx hb dX13_others_292 (by decide) ?_
          refine lv_icmp_lt (tgt := 304) hx hb dX13_others_294 (by decide) (fun c33 => ?_) (fun c33 => ?_)
          · have h := nd_pos h c33
            exact (db_X13_others_304 C K) (x3) (x4) s0 _ _ _ h hP hD hS (lv_sub hl [0, 2, 3] rfl)
          · have h := nd_neg h c33
            refine lv_iload hx hb dX13_others_297 (lv_at hl 3 rfl) ?_
            refine lv_bipush (v := 31) hx hb dX13_others_299 (by decide) ?_
            refine lv_icmp_le (tgt := 321) hx hb dX13_others_301 (by decide) (fun c34 => ?_) (fun c34 => ?_)
            · have h := nd_pos h c34
              exact (db_X13_others_321 C K)  s0 _ _ _ h hP hD hS (lv_sub hl [] rfl)
            · have h := nd_neg h c34
              exact (db_X13_others_304 C K) (x3) (x4) s0 _ _ _ h hP hD hS (lv_sub hl [0, 2, 3] rfl)
set_option maxHeartbeats 40000000 in
set_option maxRecDepth 100000 in
theorem db_X13_others_242 {p : Program} {l : Launch} {e : Env} {s : State} {m : MethodId} {args : Array Value} {below : List Frame} {meth : Method} {c : Code} {Q : State → Prop} {A : Nat → Prop} {dC : Nat → ClassId} {dI : Nat → Nat → Nat} {a : Nat → Nat} {ac : Nat → ClassId} {n : Nat} {r : St} (C : nd_C p l s m args c A (dC, dI) cX13_others 7 RX13 ow_dm_X13_others (dk_X13 ac)) (K : nd_Kv p l e (headSpec ow_dm_X13_others ({ frames := 9, cells := 0, slots := 0, locals := 205 })).room s m args below meth c Q A (dC, dI) cX13_others (St) (dw_X13 a ac) r) : dj_X13_others_242 p l e s m args below meth c Q A dC dI a ac (df_X13_others_242 n) r := by
  obtain ⟨hlt, hx, hb, hml, hown, hts, hN, hA, hK⟩ := id C
  intro x1 x3 x4 x6 s0 H locs ls h hP hD hS hl
  unfold df_X13_others_242 at h
  refine lv_aload_n hx hb dX13_others_242 rfl (lv_at hl 0 rfl) ?_
  refine lv_bipush (v := 19) hx hb dX13_others_243 (by decide) ?_
  refine lv_iload_n hx hb dX13_others_245 rfl (lv_at hl 2 rfl) ?_
  refine lv_bipush (v := 7) hx hb dX13_others_246 (by decide) ?_
  refine lv_ishl hx hb dX13_others_248 ?_
  refine lv_ior hx hb dX13_others_249 ?_
  refine lv_iload_n hx hb dX13_others_250 rfl (lv_at hl 2 rfl) ?_
  refine lv_bipush (v := 15) hx hb dX13_others_251 (by decide) ?_
  refine lv_ishl hx hb dX13_others_253 ?_
  refine lv_ior hx hb dX13_others_254 ?_
  refine lv_iload hx hb dX13_others_255 (lv_at hl 4 rfl) ?_
  refine lv_bipush (v := 20) hx hb dX13_others_257 (by decide) ?_
  refine lv_ishl hx hb dX13_others_259 ?_
  refine lv_ior hx hb dX13_others_260 ?_
  obtain ⟨s24, hq, h⟩ := nd_b1_e h
  have hPc := hP
  have hDc := hD
  have hKc := hK
  have hFc := nd_rs hD hS hA
  refine nd_cVv (As := [.int (((19 ||| ((x3 : Int32) <<< ((7 : Int32) &&& 31))) ||| ((x3 : Int32) <<< ((15 : Int32) &&& 31))) ||| ((x6 : Int32) <<< ((20 : Int32) &&& 31)))]) (rest := []) (w' := dw_X13 a ac s24) ⟨hx, hb, hml, hown, hts⟩ (fun sz => dm_X13_word l hlt dC dI a ac n ((((19 ||| ((x3 : Int32) <<< ((7 : Int32) &&& 31))) ||| ((x3 : Int32) <<< ((15 : Int32) &&& 31))) ||| ((x6 : Int32) <<< ((20 : Int32) &&& 31)))) s0 hq sz) (cwV 1 hts gi_dm_X13_others_3 rfl rfl rfl (by decide +kernel) ⟨Nat.le_of_ble_eq_true rfl, Nat.le_of_ble_eq_true rfl⟩) hPc hDc hKc hS hA hN (va_recv hKc hPc (ci := 14) (q0 := 0) rfl rfl) rfl hl.1 rfl (Nat.le_of_ble_eq_true rfl) dX13_others_261 (fun H locs hP1 hD1 hk1 hS => ?_)
  have hP := hP1
  have hD := hD1.weaken (fun k q _ h => hFc q.1 h)
  exact (db_X13_others_264 C K) (x1) (x3) (x4) s24 _ _ _ h hP hD hS (lv_sub hl [0, 1, 2, 3] rfl)
set_option maxHeartbeats 40000000 in
set_option maxRecDepth 100000 in
theorem db_X13_others_237 {p : Program} {l : Launch} {e : Env} {s : State} {m : MethodId} {args : Array Value} {below : List Frame} {meth : Method} {c : Code} {Q : State → Prop} {A : Nat → Prop} {dC : Nat → ClassId} {dI : Nat → Nat → Nat} {a : Nat → Nat} {ac : Nat → ClassId} {n : Nat} {r : St} (C : nd_C p l s m args c A (dC, dI) cX13_others 7 RX13 ow_dm_X13_others (dk_X13 ac)) (K : nd_Kv p l e (headSpec ow_dm_X13_others ({ frames := 9, cells := 0, slots := 0, locals := 205 })).room s m args below meth c Q A (dC, dI) cX13_others (St) (dw_X13 a ac) r) : dj_X13_others_237 p l e s m args below meth c Q A dC dI a ac (df_X13_others_237 n) r := by
  obtain ⟨hlt, hx, hb, hml, hown, hts, hN, hA, hK⟩ := id C
  intro x1 x3 x4 x6 s0 H locs ls h hP hD hS hl
  unfold df_X13_others_237 at h
  refine lv_iload hx hb dX13_others_237 (lv_at hl 4 rfl) ?_
  refine lv_if_eq (tgt := 264) hx hb dX13_others_239 (by decide) (fun c36 => ?_) (fun c36 => ?_)
  · have h := nd_pos h c36
    exact (db_X13_others_264 C K) (x1) (x3) (x4) s0 _ _ _ h hP hD hS (lv_sub hl [0, 1, 2, 3] rfl)
  · have h := nd_neg h c36
    exact (db_X13_others_242 C K) (x1) (x3) (x4) (x6) s0 _ _ _ h hP hD hS (lv_sub hl [0, 1, 2, 3, 4] rfl)
set_option maxHeartbeats 40000000 in
set_option maxRecDepth 100000 in
theorem db_X13_others_215 {p : Program} {l : Launch} {e : Env} {s : State} {m : MethodId} {args : Array Value} {below : List Frame} {meth : Method} {c : Code} {Q : State → Prop} {A : Nat → Prop} {dC : Nat → ClassId} {dI : Nat → Nat → Nat} {a : Nat → Nat} {ac : Nat → ClassId} {n : Nat} {r : St} (C : nd_C p l s m args c A (dC, dI) cX13_others 7 RX13 ow_dm_X13_others (dk_X13 ac)) (K : nd_Kv p l e (headSpec ow_dm_X13_others ({ frames := 9, cells := 0, slots := 0, locals := 205 })).room s m args below meth c Q A (dC, dI) cX13_others (St) (dw_X13 a ac) r) : dj_X13_others_215 p l e s m args below meth c Q A dC dI a ac (df_X13_others_215 n) r := by
  obtain ⟨hlt, hx, hb, hml, hown, hts, hN, hA, hK⟩ := id C
  intro x1 x3 x4 x6 s0 H locs ls h hP hD hS hl
  unfold df_X13_others_215 at h
  refine lv_iload_n hx hb dX13_others_215 rfl (lv_at hl 1 rfl) ?_
  refine lv_bipush (v := 38) hx hb dX13_others_216 (by decide) ?_
  refine lv_icmp_eq (tgt := 242) hx hb dX13_others_218 (by decide) (fun c22 => ?_) (fun c22 => ?_)
  · have h := nd_pos h c22
    exact (db_X13_others_242 C K) (x1) (x3) (x4) (x6) s0 _ _ _ h hP hD hS (lv_sub hl [0, 1, 2, 3, 4] rfl)
  · have h := nd_neg h c22
    refine lv_iload hx hb dX13_others_221 (lv_at hl 3 rfl) ?_
    refine lv_sipush (v := (-2048)) hx hb dX13_others_223 (by decide) ?_
    refine lv_icmp_lt (tgt := 237) hx hb dX13_others_226 (by decide) (fun c35 => ?_) (fun c35 => ?_)
    · have h := nd_pos h c35
      exact (db_X13_others_237 C K) (x1) (x3) (x4) (x6) s0 _ _ _ h hP hD hS (lv_sub hl [0, 1, 2, 3, 4] rfl)
    · have h := nd_neg h c35
      refine lv_iload hx hb dX13_others_229 (lv_at hl 3 rfl) ?_
      refine lv_sipush (v := 2047) hx hb dX13_others_231 (by decide) ?_
      refine lv_icmp_le (tgt := 264) hx hb dX13_others_234 (by decide) (fun c37 => ?_) (fun c37 => ?_)
      · have h := nd_pos h c37
        exact (db_X13_others_264 C K) (x1) (x3) (x4) s0 _ _ _ h hP hD hS (lv_sub hl [0, 1, 2, 3] rfl)
      · have h := nd_neg h c37
        exact (db_X13_others_237 C K) (x1) (x3) (x4) (x6) s0 _ _ _ h hP hD hS (lv_sub hl [0, 1, 2, 3, 4] rfl)
set_option maxHeartbeats 40000000 in
set_option maxRecDepth 100000 in
theorem db_X13_others_198 {p : Program} {l : Launch} {e : Env} {s : State} {m : MethodId} {args : Array Value} {below : List Frame} {meth : Method} {c : Code} {Q : State → Prop} {A : Nat → Prop} {dC : Nat → ClassId} {dI : Nat → Nat → Nat} {a : Nat → Nat} {ac : Nat → ClassId} {n : Nat} {r : St} (C : nd_C p l s m args c A (dC, dI) cX13_others 7 RX13 ow_dm_X13_others (dk_X13 ac)) (K : nd_Kv p l e (headSpec ow_dm_X13_others ({ frames := 9, cells := 0, slots := 0, locals := 205 })).room s m args below meth c Q A (dC, dI) cX13_others (St) (dw_X13 a ac) r) : dj_X13_others_198 p l e s m args below meth c Q A dC dI a ac (df_X13_others_198 n) r := by
  obtain ⟨hlt, hx, hb, hml, hown, hts, hN, hA, hK⟩ := id C
  intro x1 x3 x4 x5 x6 s0 H locs ls h hP hD hS hl
  unfold df_X13_others_198 at h
  refine lv_aload_n hx hb dX13_others_198 rfl (lv_at hl 0 rfl) ?_
  refine lv_bipush (v := 55) hx hb dX13_others_199 (by decide) ?_
  refine lv_iload_n hx hb dX13_others_201 rfl (lv_at hl 2 rfl) ?_
  refine lv_bipush (v := 7) hx hb dX13_others_202 (by decide) ?_
  refine lv_ishl hx hb dX13_others_204 ?_
  refine lv_ior hx hb dX13_others_205 ?_
  refine lv_iload hx hb dX13_others_206 (lv_at hl 4 rfl) ?_
  refine lv_bipush (v := 12) hx hb dX13_others_208 (by decide) ?_
  refine lv_ishl hx hb dX13_others_210 ?_
  refine lv_ior hx hb dX13_others_211 ?_
  obtain ⟨s20, hq, h⟩ := nd_b1_e h
  have hPc := hP
  have hDc := hD
  have hKc := hK
  have hFc := nd_rs hD hS hA
  refine nd_cVv (As := [.int ((55 ||| ((x3 : Int32) <<< ((7 : Int32) &&& 31))) ||| ((x5 : Int32) <<< ((12 : Int32) &&& 31)))]) (rest := []) (w' := dw_X13 a ac s20) ⟨hx, hb, hml, hown, hts⟩ (fun sz => dm_X13_word l hlt dC dI a ac n (((55 ||| ((x3 : Int32) <<< ((7 : Int32) &&& 31))) ||| ((x5 : Int32) <<< ((12 : Int32) &&& 31)))) s0 hq sz) (cwV 1 hts gi_dm_X13_others_3 rfl rfl rfl (by decide +kernel) ⟨Nat.le_of_ble_eq_true rfl, Nat.le_of_ble_eq_true rfl⟩) hPc hDc hKc hS hA hN (va_recv hKc hPc (ci := 14) (q0 := 0) rfl rfl) rfl hl.1 rfl (Nat.le_of_ble_eq_true rfl) dX13_others_212 (fun H locs hP1 hD1 hk1 hS => ?_)
  have hP := hP1
  have hD := hD1.weaken (fun k q _ h => hFc q.1 h)
  exact (db_X13_others_215 C K) (x1) (x3) (x4) (x6) s20 _ _ _ h hP hD hS (lv_sub hl [0, 1, 2, 3, 5] rfl)
set_option maxHeartbeats 40000000 in
set_option maxRecDepth 100000 in
theorem db_X13_others_182 {p : Program} {l : Launch} {e : Env} {s : State} {m : MethodId} {args : Array Value} {below : List Frame} {meth : Method} {c : Code} {Q : State → Prop} {A : Nat → Prop} {dC : Nat → ClassId} {dI : Nat → Nat → Nat} {a : Nat → Nat} {ac : Nat → ClassId} {n : Nat} {r : St} (C : nd_C p l s m args c A (dC, dI) cX13_others 7 RX13 ow_dm_X13_others (dk_X13 ac)) (K : nd_Kv p l e (headSpec ow_dm_X13_others ({ frames := 9, cells := 0, slots := 0, locals := 205 })).room s m args below meth c Q A (dC, dI) cX13_others (St) (dw_X13 a ac) r) : dj_X13_others_182 p l e s m args below meth c Q A dC dI a ac (df_X13_others_182 n) r := by
  obtain ⟨hlt, hx, hb, hml, hown, hts, hN, hA, hK⟩ := id C
  intro x1 x3 x4 x5 x6 s0 H locs ls h hP hD hS hl
  unfold df_X13_others_182 at h
  refine lv_iload hx hb dX13_others_182 (lv_at hl 3 rfl) ?_
  refine lv_sipush (v := (-2048)) hx hb dX13_others_184 (by decide) ?_
  refine lv_icmp_lt (tgt := 198) hx hb dX13_others_187 (by decide) (fun c18 => ?_) (fun c18 => ?_)
  · have h := nd_pos h c18
    exact (db_X13_others_198 C K) (x1) (x3) (x4) (x5) (x6) s0 _ _ _ h hP hD hS (lv_sub hl [0, 1, 2, 3, 4, 5] rfl)
  · have h := nd_neg h c18
    refine lv_iload hx hb dX13_others_190 (lv_at hl 3 rfl) ?_
    refine lv_sipush (v := 2047) hx hb dX13_others_192 (by decide) ?_
    refine lv_icmp_le (tgt := 215) hx hb dX13_others_195 (by decide) (fun c38 => ?_) (fun c38 => ?_)
    · have h := nd_pos h c38
      exact (db_X13_others_215 C K) (x1) (x3) (x4) (x6) s0 _ _ _ h hP hD hS (lv_sub hl [0, 1, 2, 3, 5] rfl)
    · have h := nd_neg h c38
      exact (db_X13_others_198 C K) (x1) (x3) (x4) (x5) (x6) s0 _ _ _ h hP hD hS (lv_sub hl [0, 1, 2, 3, 4, 5] rfl)
set_option maxHeartbeats 40000000 in
set_option maxRecDepth 100000 in
theorem db_X13_others_94 {p : Program} {l : Launch} {e : Env} {s : State} {m : MethodId} {args : Array Value} {below : List Frame} {meth : Method} {c : Code} {Q : State → Prop} {A : Nat → Prop} {dC : Nat → ClassId} {dI : Nat → Nat → Nat} {a : Nat → Nat} {ac : Nat → ClassId} {n : Nat} {r : St} (C : nd_C p l s m args c A (dC, dI) cX13_others 7 RX13 ow_dm_X13_others (dk_X13 ac)) (K : nd_Kv p l e (headSpec ow_dm_X13_others ({ frames := 9, cells := 0, slots := 0, locals := 205 })).room s m args below meth c Q A (dC, dI) cX13_others (St) (dw_X13 a ac) r) : dj_X13_others_94 p l e s m args below meth c Q A dC dI a ac (df_X13_others_94 n) r := by
  obtain ⟨hlt, hx, hb, hml, hown, hts, hN, hA, hK⟩ := id C
  intro x1 x3 y0 s0 H locs ls h hP hD hS hl
  unfold df_X13_others_94 at h
  refine lv_istore (lv' := [(4, .int y0), (0, .ref (a 0)), (1, .int x1), (3, .int x3)]) hx hb dX13_others_94 hl (by decide) rfl (fun ls hl => ?_)
  refine lv_iload hx hb dX13_others_96 (lv_at hl 0 rfl) ?_
  refine lv_sipush (v := 2048) hx hb dX13_others_98 (by decide) ?_
  refine lv_iadd hx hb dX13_others_101 ?_
  refine lv_bipush (v := 12) hx hb dX13_others_102 (by decide) ?_
  refine lv_iushr hx hb dX13_others_104 rfl ?_
  refine lv_topi (fun z14 ez14 => ?_)
  have h := nd_at h ez14
  refine lv_istore (lv' := [(5, .int z14), (4, .int y0), (0, .ref (a 0)), (1, .int x1), (3, .int x3)]) hx hb dX13_others_105 hl (by decide) rfl (fun ls hl => ?_)
  refine lv_iload hx hb dX13_others_107 (lv_at hl 1 rfl) ?_
  refine lv_bipush (v := 20) hx hb dX13_others_109 (by decide) ?_
  refine lv_ishl hx hb dX13_others_111 ?_
  refine lv_bipush (v := 20) hx hb dX13_others_112 (by decide) ?_
  refine lv_ishr hx hb dX13_others_114 ?_
  refine lv_topi (fun z15 ez15 => ?_)
  have h := nd_at h ez15
  refine lv_istore (lv' := [(6, .int z15), (5, .int z14), (4, .int y0), (0, .ref (a 0)), (1, .int x1), (3, .int x3)]) hx hb dX13_others_115 hl (by decide) rfl (fun ls hl => ?_)
  refine lv_iload_n hx hb dX13_others_117 rfl (lv_at hl 4 rfl) ?_
  refine lv_bipush (v := 38) hx hb dX13_others_118 (by decide) ?_
  refine lv_icmp_ne (tgt := 143) hx hb dX13_others_120 (by decide) (fun c16 => ?_) (fun c16 => ?_)
  · have h := nd_neg h c16
    refine lv_iload hx hb dX13_others_143 (lv_at hl 2 rfl) ?_
    refine lv_bipush (v := (-33)) hx hb dX13_others_145 (by decide) ?_
    refine lv_icmp_le (tgt := 182) hx hb dX13_others_147 (by decide) (fun c17 => ?_) (fun c17 => ?_)
    · have h := nd_pos h c17
      exact (db_X13_others_182 C K) (x1) (x3) (y0) (z14) (z15) s0 _ _ _ h hP hD hS (lv_sub hl [3, 4, 5, 2, 1, 0] rfl)
    · have h := nd_neg h c17
      refine lv_iload hx hb dX13_others_150 (lv_at hl 2 rfl) ?_
      refine lv_bipush (v := 32) hx hb dX13_others_152 (by decide) ?_
      refine lv_icmp_ge (tgt := 182) hx hb dX13_others_154 (by decide) (fun c39 => ?_) (fun c39 => ?_)
      · have h := nd_pos h c39
        exact (db_X13_others_182 C K) (x1) (x3) (y0) (z14) (z15) s0 _ _ _ h hP hD hS (lv_sub hl [3, 4, 5, 2, 1, 0] rfl)
      · have h := nd_neg h c39
        refine lv_iload_n hx hb dX13_others_157 rfl (lv_at hl 5 rfl) ?_
        refine lv_if_eq (tgt := 182) hx hb dX13_others_158 (by decide) (fun c40 => ?_) (fun c40 => ?_)
        · have h := nd_pos h c40
          exact (db_X13_others_182 C K) (x1) (x3) (y0) (z14) (z15) s0 _ _ _ h hP hD hS (lv_sub hl [3, 4, 5, 2, 1, 0] rfl)
        · have h := nd_neg h c40
          refine lv_aload_n hx hb dX13_others_161 rfl (lv_at hl 3 rfl) ?_
          refine lv_sipush (v := 16385) hx hb dX13_others_162 (by decide) ?_
          refine lv_iload_n hx hb dX13_others_165 rfl (lv_at hl 5 rfl) ?_
          refine lv_bipush (v := 7) hx hb dX13_others_166 (by decide) ?_
          refine lv_ishl hx hb dX13_others_168 ?_
          refine lv_ior hx hb dX13_others_169 ?_
          refine lv_iload hx hb dX13_others_170 (lv_at hl 2 rfl) ?_
          obtain ⟨q41, s42, hq, h⟩ := nd_b2_e h
          have hPc : va_P (dC, dI) vwCl (dw_P a ac ()) H := nd_p0
          have hDc : va_D A (dw_P a ac ()) := nd_d0
          have hKc : va_K (dC, dI) vwCl (dk_P ac) s := nd_y0 hK
          have hFc : ∀ q, va_A (dw_P a ac ()) H.size q → A q := nd_r0 hS hA
          refine nd_cSi (As := [.int y0]) (rest := [.int (16385 ||| ((x3 : Int32) <<< ((7 : Int32) &&& 31))), .ref (a 0)]) (q := q41) (w' := dw_P a ac s42) ⟨hx, hb, hml, hown, hts⟩ (fun sz => dm_X13_six l hlt dC dI a ac n (y0) () hq sz) (cwS 1 hts gi_dm_X13_others_4 rfl rfl rfl (by decide +kernel) ⟨Nat.le_of_ble_eq_true rfl, Nat.le_of_ble_eq_true rfl⟩) hPc hDc hKc hS hA hN rfl hl.1 rfl (Nat.le_of_ble_eq_true rfl) dX13_others_172 (fun H locs hP1 hD1 hk1 hS => ?_)
          have hP := nd_n0 hP hk1
          refine lv_ior hx hb dX13_others_175 ?_
          obtain ⟨s45, hq, h⟩ := nd_b1_e h
          have hPc := hP
          have hDc := hD
          have hKc := hK
          have hFc := nd_rs hD hS hA
          refine nd_cVv (As := [.int ((16385 ||| ((x3 : Int32) <<< ((7 : Int32) &&& 31))) ||| q41)]) (rest := []) (w' := dw_X13 a ac s45) ⟨hx, hb, hml, hown, hts⟩ (fun sz => dm_X13_half l hlt dC dI a ac n (((16385 ||| ((x3 : Int32) <<< ((7 : Int32) &&& 31))) ||| q41)) s0 hq sz) (cwV 1 hts gi_dm_X13_others_5 rfl rfl rfl (by decide +kernel) ⟨Nat.le_of_ble_eq_true rfl, Nat.le_of_ble_eq_true rfl⟩) hPc hDc hKc hS hA hN (va_recv hKc hPc (ci := 14) (q0 := 0) rfl rfl) rfl hl.1 rfl (Nat.le_of_ble_eq_true rfl) dX13_others_176 (fun H locs hP1 hD1 hk1 hS => ?_)
          have hP := hP1
          have hD := hD1.weaken (fun k q _ h => hFc q.1 h)
          refine lv_goto (tgt := 215) hx hb dX13_others_179 (by decide) ?_
          exact (db_X13_others_215 C K) (x1) (x3) (y0) (z15) s45 _ _ _ h hP hD hS (lv_sub hl [3, 4, 5, 2, 0] rfl)
  · have h := nd_pos h c16
    refine lv_aload_n hx hb dX13_others_123 rfl (lv_at hl 3 rfl) ?_
    refine lv_bipush (v := 23) hx hb dX13_others_124 (by decide) ?_
    refine lv_iload_n hx hb dX13_others_126 rfl (lv_at hl 5 rfl) ?_
    refine lv_bipush (v := 7) hx hb dX13_others_127 (by decide) ?_
    refine lv_ishl hx hb dX13_others_129 ?_
    refine lv_ior hx hb dX13_others_130 ?_
    refine lv_iload hx hb dX13_others_131 (lv_at hl 1 rfl) ?_
    refine lv_bipush (v := 12) hx hb dX13_others_133 (by decide) ?_
    refine lv_ishl hx hb dX13_others_135 ?_
    refine lv_ior hx hb dX13_others_136 ?_
    obtain ⟨s48, hq, h⟩ := nd_b1_e h
    have hPc := hP
    have hDc := hD
    have hKc := hK
    have hFc := nd_rs hD hS hA
    refine nd_cVv (As := [.int ((23 ||| ((x3 : Int32) <<< ((7 : Int32) &&& 31))) ||| ((z14 : Int32) <<< ((12 : Int32) &&& 31)))]) (rest := []) (w' := dw_X13 a ac s48) ⟨hx, hb, hml, hown, hts⟩ (fun sz => dm_X13_word l hlt dC dI a ac n (((23 ||| ((x3 : Int32) <<< ((7 : Int32) &&& 31))) ||| ((z14 : Int32) <<< ((12 : Int32) &&& 31)))) s0 hq sz) (cwV 1 hts gi_dm_X13_others_3 rfl rfl rfl (by decide +kernel) ⟨Nat.le_of_ble_eq_true rfl, Nat.le_of_ble_eq_true rfl⟩) hPc hDc hKc hS hA hN (va_recv hKc hPc (ci := 14) (q0 := 0) rfl rfl) rfl hl.1 rfl (Nat.le_of_ble_eq_true rfl) dX13_others_137 (fun H locs hP1 hD1 hk1 hS => ?_)
    have hP := hP1
    have hD := hD1.weaken (fun k q _ h => hFc q.1 h)
    refine lv_goto (tgt := 215) hx hb dX13_others_140 (by decide) ?_
    exact (db_X13_others_215 C K) (x1) (x3) (y0) (z15) s48 _ _ _ h hP hD hS (lv_sub hl [3, 4, 5, 2, 0] rfl)
set_option maxHeartbeats 40000000 in
set_option maxRecDepth 100000 in
theorem db_X13_others_60 {p : Program} {l : Launch} {e : Env} {s : State} {m : MethodId} {args : Array Value} {below : List Frame} {meth : Method} {c : Code} {Q : State → Prop} {A : Nat → Prop} {dC : Nat → ClassId} {dI : Nat → Nat → Nat} {a : Nat → Nat} {ac : Nat → ClassId} {n : Nat} {r : St} (C : nd_C p l s m args c A (dC, dI) cX13_others 7 RX13 ow_dm_X13_others (dk_X13 ac)) (K : nd_Kv p l e (headSpec ow_dm_X13_others ({ frames := 9, cells := 0, slots := 0, locals := 205 })).room s m args below meth c Q A (dC, dI) cX13_others (St) (dw_X13 a ac) r) : dj_X13_others_60 p l e s m args below meth c Q A dC dI a ac (df_X13_others_60 n) r := by
  obtain ⟨hlt, hx, hb, hml, hown, hts, hN, hA, hK⟩ := id C
  intro y1 y2 y3 s0 H locs ls h hP hD hS hl
  unfold df_X13_others_60 at h
  refine lv_ishl hx hb dX13_others_60 ?_
  refine lv_ior hx hb dX13_others_61 ?_
  obtain ⟨s58, hq, h⟩ := nd_b1_e h
  have hPc := hP
  have hDc := hD
  have hKc := hK
  have hFc := nd_rs hD hS hA
  refine nd_cVv (As := [.int (y1 ||| ((y2 : Int32) <<< ((y3 : Int32) &&& 31)))]) (rest := []) (w' := dw_X13 a ac s58) ⟨hx, hb, hml, hown, hts⟩ (fun sz => dm_X13_word l hlt dC dI a ac n ((y1 ||| ((y2 : Int32) <<< ((y3 : Int32) &&& 31)))) s0 hq sz) (cwV 1 hts gi_dm_X13_others_3 rfl rfl rfl (by decide +kernel) ⟨Nat.le_of_ble_eq_true rfl, Nat.le_of_ble_eq_true rfl⟩) hPc hDc hKc hS hA hN (va_recv hKc hPc (ci := 14) (q0 := 0) rfl rfl) rfl hl.1 rfl (Nat.le_of_ble_eq_true rfl) dX13_others_62 (fun H locs hP1 hD1 hk1 hS => ?_)
  have hP := hP1
  have hD := hD1.weaken (fun k q _ h => hFc q.1 h)
  exact K _ _ _ _ _ dX13_others_65 (Option.some.inj h).symm hP hD hS
set_option maxHeartbeats 40000000 in
set_option maxRecDepth 100000 in
theorem db_X13_others_0 {p : Program} {l : Launch} {e : Env} {s : State} {m : MethodId} {args : Array Value} {below : List Frame} {meth : Method} {c : Code} {Q : State → Prop} {A : Nat → Prop} {dC : Nat → ClassId} {dI : Nat → Nat → Nat} {a : Nat → Nat} {ac : Nat → ClassId} {n : Nat} {r : St} (C : nd_C p l s m args c A (dC, dI) cX13_others 7 RX13 ow_dm_X13_others (dk_X13 ac)) (K : nd_Kv p l e (headSpec ow_dm_X13_others ({ frames := 9, cells := 0, slots := 0, locals := 205 })).room s m args below meth c Q A (dC, dI) cX13_others (St) (dw_X13 a ac) r) : dj_X13_others_0 p l e s m args below meth c Q A dC dI a ac (df_X13_others_0 n) r := by
  obtain ⟨hlt, hx, hb, hml, hown, hts, hN, hA, hK⟩ := id C
  intro v0 v1 s0 H locs ls h hP hD hS hl
  unfold df_X13_others_0 at h
  refine lv_aload_n hx hb dX13_others_0 rfl (lv_at hl 0 rfl) ?_
  obtain ⟨q1, s2, hq, h⟩ := nd_b2_e h
  have hPc := hP
  have hDc := hD
  have hKc := hK
  have hFc := nd_rs hD hS hA
  refine nd_cVi (As := []) (rest := []) (q := q1) (w' := dw_X13 a ac s2) ⟨hx, hb, hml, hown, hts⟩ (fun sz => dm_X13_taken l hlt dC dI a ac n  s0 hq sz) (cwV 0 hts gi_dm_X13_others_0 rfl rfl rfl (by decide +kernel) ⟨Nat.le_of_ble_eq_true rfl, Nat.le_of_ble_eq_true rfl⟩) hPc hDc hKc hS hA hN (va_recv hKc hPc (ci := 14) (q0 := 0) rfl rfl) rfl hl.1 rfl (Nat.le_of_ble_eq_true rfl) dX13_others_1 (fun H locs hP1 hD1 hk1 hS => ?_)
  have hP := hP1
  have hD := hD1.weaken (fun k q _ h => hFc q.1 h)
  refine lv_istore_n (lv' := [(3, .int q1), (0, .ref (a 0)), (1, .int v0), (2, .int v1)]) hx hb dX13_others_4 rfl hl (by decide) rfl (fun ls hl => ?_)
  refine lv_iload_n hx hb dX13_others_5 rfl (lv_at hl 2 rfl) ?_
  refine lv_bipush (v := 33) hx hb dX13_others_6 (by decide) ?_
  refine lv_icmp_ne (tgt := 22) hx hb dX13_others_8 (by decide) (fun c4 => ?_) (fun c4 => ?_)
  · have h := nd_neg h c4
    refine lv_aload_n hx hb dX13_others_22 rfl (lv_at hl 1 rfl) ?_
    obtain ⟨q5, s6, hq, h⟩ := nd_b2_e h
    have hPc := hP
    have hDc := hD
    have hKc := hK
    have hFc := nd_rs hD hS hA
    refine nd_cVi (As := []) (rest := []) (q := q5) (w' := dw_X13 a ac s6) ⟨hx, hb, hml, hown, hts⟩ (fun sz => dm_X13_comma l hlt dC dI a ac n  s2 hq sz) (cwV 0 hts gi_dm_X13_others_1 rfl rfl rfl (by decide +kernel) ⟨Nat.le_of_ble_eq_true rfl, Nat.le_of_ble_eq_true rfl⟩) hPc hDc hKc hS hA hN (va_recv hKc hPc (ci := 14) (q0 := 0) rfl rfl) rfl hl.1 rfl (Nat.le_of_ble_eq_true rfl) dX13_others_23 (fun H locs hP1 hD1 hk1 hS => ?_)
    have hP := hP1
    have hD := hD1.weaken (fun k q _ h => hFc q.1 h)
    refine lv_if_ne (tgt := 30) hx hb dX13_others_26 (by decide) (fun c8 => ?_) (fun c8 => ?_)
    · have h := nd_neg h c8
      refine lv_iload_n hx hb dX13_others_30 rfl (lv_at hl 2 rfl) ?_
      refine lv_bipush (v := 33) hx hb dX13_others_31 (by decide) ?_
      refine lv_icmp_ge (tgt := 66) hx hb dX13_others_33 (by decide) (fun c9 => ?_) (fun c9 => ?_)
      · have h := nd_pos h c9
        refine lv_iload_n hx hb dX13_others_66 rfl (lv_at hl 2 rfl) ?_
        refine lv_bipush (v := 39) hx hb dX13_others_67 (by decide) ?_
        refine lv_icmp_ne (tgt := 85) hx hb dX13_others_69 (by decide) (fun c10 => ?_) (fun c10 => ?_)
        · have h := nd_neg h c10
          refine lv_aload_n hx hb dX13_others_85 rfl (lv_at hl 1 rfl) ?_
          obtain ⟨q11, s12, hq, h⟩ := nd_b2_e h
          have hPc := hP
          have hDc := hD
          have hKc := hK
          have hFc := nd_rs hD hS hA
          refine nd_cVi (As := []) (rest := []) (q := q11) (w' := dw_X13 a ac s12) ⟨hx, hb, hml, hown, hts⟩ (fun sz => dm_X13_expression l hlt dC dI a ac n  s6 hq sz) (cwV 0 hts gi_dm_X13_others_2 rfl rfl rfl (by decide +kernel) ⟨Nat.le_of_ble_eq_true rfl, Nat.le_of_ble_eq_true rfl⟩) hPc hDc hKc hS hA hN (va_recv hKc hPc (ci := 14) (q0 := 0) rfl rfl) rfl hl.1 rfl (Nat.le_of_ble_eq_true rfl) dX13_others_86 (fun H locs hP1 hD1 hk1 hS => ?_)
          have hP := hP1
          have hD := hD1.weaken (fun k q _ h => hFc q.1 h)
          refine lv_aload_n hx hb dX13_others_89 rfl (lv_at hl 1 rfl) ?_
          refine va_get (D := (dC, dI)) (ci := 14) (v := .int (sI s12 17)) (C := RX13) (T := TX13) (N := 37) hx hb hts hi_dm_X13_others_X13 hown hK hP 0 rfl rfl 26 (by decide) (hts (.fieldLink RX13 486 "TimeMachineModel$Assembler" "address" "I") (List.mem_of_getElem? (i := 11) rfl)) (fun _ h9 => h9) rfl dX13_others_90 ?_
          refine lv_isub hx hb dX13_others_93 ?_
          exact (db_X13_others_94 C K) (v0) (q1) ((q11 - (sI s12 17))) s12 _ _ _ h hP hD hS (lv_sub hl [1, 2, 0] rfl)
        · have h := nd_pos h c10
          refine lv_aload_n hx hb dX13_others_72 rfl (lv_at hl 1 rfl) ?_
          refine lv_ldcw hx hb hown (hts (.constant RX13 603 (-2147483648)) (List.mem_of_getElem? (i := 20) rfl)) dX13_others_73 ?_
          refine lv_ldcw hx hb hown (hts (.constant RX13 604 (2147483647)) (List.mem_of_getElem? (i := 21) rfl)) dX13_others_76 ?_
          obtain ⟨q50, s51, hq, h⟩ := nd_b2_e h
          have hPc := hP
          have hDc := hD
          have hKc := hK
          have hFc := nd_rs hD hS hA
          refine nd_cVi (As := [.int (-2147483648), .int 2147483647]) (rest := []) (q := q50) (w' := dw_X13 a ac s51) ⟨hx, hb, hml, hown, hts⟩ (fun sz => dm_X13_fixed l hlt dC dI a ac n ((-2147483648)) (2147483647) s6 hq sz) (cwV 2 hts gi_dm_X13_others_6 rfl rfl rfl (by decide +kernel) ⟨Nat.le_of_ble_eq_true rfl, Nat.le_of_ble_eq_true rfl⟩) hPc hDc hKc hS hA hN (va_recv hKc hPc (ci := 14) (q0 := 0) rfl rfl) rfl hl.1 rfl (Nat.le_of_ble_eq_true rfl) dX13_others_79 (fun H locs hP1 hD1 hk1 hS => ?_)
          have hP := hP1
          have hD := hD1.weaken (fun k q _ h => hFc q.1 h)
          refine lv_goto (tgt := 94) hx hb dX13_others_82 (by decide) ?_
          exact (db_X13_others_94 C K) (v0) (q1) (q50) s51 _ _ _ h hP hD hS (lv_sub hl [1, 2, 0] rfl)
      · have h := nd_neg h c9
        refine lv_aload_n hx hb dX13_others_36 rfl (lv_at hl 1 rfl) ?_
        refine lv_iload_n hx hb dX13_others_37 rfl (lv_at hl 3 rfl) ?_
        refine lv_iload_n hx hb dX13_others_38 rfl (lv_at hl 0 rfl) ?_
        refine lv_bipush (v := 7) hx hb dX13_others_39 (by decide) ?_
        refine lv_ishl hx hb dX13_others_41 ?_
        refine lv_ior hx hb dX13_others_42 ?_
        refine lv_aload_n hx hb dX13_others_43 rfl (lv_at hl 1 rfl) ?_
        obtain ⟨q53, s54, hq, h⟩ := nd_b2_e h
        have hPc := hP
        have hDc := hD
        have hKc := hK
        have hFc := nd_rs hD hS hA
        refine nd_cVi (As := []) (rest := [.int (v1 ||| ((q1 : Int32) <<< ((7 : Int32) &&& 31))), .ref (a 0)]) (q := q53) (w' := dw_X13 a ac s54) ⟨hx, hb, hml, hown, hts⟩ (fun sz => dm_X13_taken l hlt dC dI a ac n  s6 hq sz) (cwV 0 hts gi_dm_X13_others_0 rfl rfl rfl (by decide +kernel) ⟨Nat.le_of_ble_eq_true rfl, Nat.le_of_ble_eq_true rfl⟩) hPc hDc hKc hS hA hN (va_recv hKc hPc (ci := 14) (q0 := 0) rfl rfl) rfl hl.1 rfl (Nat.le_of_ble_eq_true rfl) dX13_others_44 (fun H locs hP1 hD1 hk1 hS => ?_)
        have hP := hP1
        have hD := hD1.weaken (fun k q _ h => hFc q.1 h)
        refine lv_iload_n hx hb dX13_others_47 rfl (lv_at hl 2 rfl) ?_
        refine lv_bipush (v := 31) hx hb dX13_others_48 (by decide) ?_
        refine lv_icmp_ne (tgt := 58) hx hb dX13_others_50 (by decide) (fun c56 => ?_) (fun c56 => ?_)
        · have h := nd_neg h c56
          refine lv_bipush (v := 20) hx hb dX13_others_58 (by decide) ?_
          exact (db_X13_others_60 C K) ((v1 ||| ((q1 : Int32) <<< ((7 : Int32) &&& 31)))) (q53) (20) s54 _ _ _ h hP hD hS (lv_sub hl [] rfl)
        · have h := nd_pos h c56
          refine lv_bipush (v := 15) hx hb dX13_others_53 (by decide) ?_
          refine lv_goto (tgt := 60) hx hb dX13_others_55 (by decide) ?_
          exact (db_X13_others_60 C K) ((v1 ||| ((q1 : Int32) <<< ((7 : Int32) &&& 31)))) (q53) (15) s54 _ _ _ h hP hD hS (lv_sub hl [] rfl)
    · have h := nd_pos h c8
      exact K _ _ _ _ _ dX13_others_29 (Option.some.inj h).symm hP hD hS
  · have h := nd_pos h c4
    refine lv_aload_n hx hb dX13_others_11 rfl (lv_at hl 1 rfl) ?_
    refine lv_iload_n hx hb dX13_others_12 rfl (lv_at hl 3 rfl) ?_
    refine lv_iload_n hx hb dX13_others_13 rfl (lv_at hl 0 rfl) ?_
    refine lv_bipush (v := 15) hx hb dX13_others_14 (by decide) ?_
    refine lv_ishl hx hb dX13_others_16 ?_
    refine lv_ior hx hb dX13_others_17 ?_
    obtain ⟨s61, hq, h⟩ := nd_b1_e h
    have hPc := hP
    have hDc := hD
    have hKc := hK
    have hFc := nd_rs hD hS hA
    refine nd_cVv (As := [.int (v1 ||| ((q1 : Int32) <<< ((15 : Int32) &&& 31)))]) (rest := []) (w' := dw_X13 a ac s61) ⟨hx, hb, hml, hown, hts⟩ (fun sz => dm_X13_word l hlt dC dI a ac n ((v1 ||| ((q1 : Int32) <<< ((15 : Int32) &&& 31)))) s2 hq sz) (cwV 1 hts gi_dm_X13_others_3 rfl rfl rfl (by decide +kernel) ⟨Nat.le_of_ble_eq_true rfl, Nat.le_of_ble_eq_true rfl⟩) hPc hDc hKc hS hA hN (va_recv hKc hPc (ci := 14) (q0 := 0) rfl rfl) rfl hl.1 rfl (Nat.le_of_ble_eq_true rfl) dX13_others_18 (fun H locs hP1 hD1 hk1 hS => ?_)
    have hP := hP1
    have hD := hD1.weaken (fun k q _ h => hFc q.1 h)
    exact K _ _ _ _ _ dX13_others_21 (Option.some.inj h).symm hP hD hS
set_option maxHeartbeats 40000000 in
set_option maxRecDepth 100000 in
theorem dm_X13_others (l : Launch) (hlt : l.stackTraces = false) (dC : Nat → ClassId) (dI : Nat → Nat → Nat) (a : Nat → Nat) (ac : Nat → ClassId) (n : Nat) (v0 : Int32) (v1 : Int32) (s0 : St) {r : St} (h : df_X13_others n v0 v1 s0 = some r) (sz : Nat) : Met l yX13_others ow_dm_X13_others ({ frames := 9, cells := 0, slots := 0, locals := 205 }) (va_Pc [.ref (a 0), .int v0, .int v1] (fun U => U.heap.size = sz ∧ va_P (dC, dI) vwCl (dw_X13 a ac s0) U.heap ∧ va_K (dC, dI) vwCl (dk_X13 ac) U ∧ va_D (fun _ => True) (dw_X13 a ac s0) ∧ nv_E (va_A (dw_X13 a ac s0) sz) U)) (va_Qv (fun _ => True) (fun (_ : Unit) t => va_P (dC, dI) vwCl (dw_X13 a ac r) t.heap ∧ va_K (dC, dI) vwCl (dk_X13 ac) t ∧ va_D (va_A (dw_X13 a ac s0) sz) (dw_X13 a ac r)) (va_A (dw_X13 a ac s0) sz)) 0 0 (va_A (dw_X13 a ac s0) sz) := by
  refine Met.ofW (cc := cX13_others) (maxL := 7) (ret := none) (by decide) rfl ?_
  intro p e s m args below meth c s₁ B hml hv
  obtain ⟨rfl, hsz, hP, hK, hD0, hN⟩ := hv
  have hx := B.exec
  have hb := B.bytes
  have hr := B.returns
  have hts := atoms_spec (ws := ow_dm_X13_others) B.pre
  have hown : s.vm.findClass RX13 = some m.cls := findClass_of_methodNamed B.named
  have hlocks := B.notSynchronized
  subst hsz
  have hD := hD0.self (sz := s.heap.size)
  generalize hAe : va_A (dw_X13 a ac s0) s.heap.size = A at hD hN ⊢
  have hA : ∀ q : Nat, s.heap.size ≤ q → A q := fun q h => by rw [← hAe]; exact Or.inr h
  have hl := lv_entry ([.ref (a 0), .int v0, .int v1]) (n := 7) (Nat.le_of_ble_eq_true rfl)
  rw [lg_entry_eq]
  generalize (lg_sl ([.ref (a 0), .int v0, .int v1]) ++ List.replicate (7 - (lg_sl ([.ref (a 0), .int v0, .int v1])).length) Slot.unset).toArray = ls at hl ⊢
  have hl : lv_has ls 7 [(0, .ref (a 0)), (1, .int v0), (2, .int v1)] := hl
  exact db_X13_others_0 (dC := dC) (dI := dI) (a := a) (ac := ac) (n := n) (r := r) ⟨hlt, hx, hb, hml, hown, hts, hN, hA, hK⟩ (fun pc τ H locs ls d er hP hD hS => by subst er; exact W.vret hx hb hr (fun t ht hW => ⟨⟨(), rfl, trivial, by rw [ht]; exact hP, va_K.moved hW.alike hK, hD⟩, hS.F ht⟩) hS.2.2 d) v0 v1 s0 _ _ _ h hP hD va_S.rf (lv_sub hl [0, 1, 2] rfl)
def ow_dm_X13_notZero : List Cond := .code yX13_notZero cX13_notZero 2 none :: ([.fieldLink RX13 522 "TimeMachineModel$Assembler" "mode" "I", .methodLink RX13 419 yX13_blame, .instanceMethod yX13_blame, .selects RX13 yX13_blame yX13_blame, .initialized RX13] ++ (u_ws RX13 TX13 37 ++ (ow_dm_X13_blame ++ [])))
theorem gd_dm_X13_notZero : ∀ w ∈ ow_dm_X13_notZero, (w.onTables && w.keeps) = true ∨ ∃ ty, w = Cond.arrayClass ty := List.forall_mem_cons.mpr ⟨good_of_word rfl, List.forall_mem_append.mpr ⟨fun w h => good_of_word (List.all_eq_true.mp (by decide +kernel) w h), List.forall_mem_append.mpr ⟨gu_X13, List.forall_mem_append.mpr ⟨gd_dm_X13_blame, fun _ h => nomatch h⟩⟩⟩⟩
theorem hi_dm_X13_notZero_X13 : ∀ w ∈ u_ws RX13 TX13 37, w ∈ ow_dm_X13_notZero := fun w h => List.mem_cons_of_mem _ (List.mem_append_right _ (List.mem_append_left _ h))
theorem gi_dm_X13_notZero_0 : GoodIn ow_dm_X13_notZero (wsV RX13 419 RX13 yX13_blame ow_dm_X13_blame) := goodIn_app (goodIn_of _ (by decide +kernel)) (fun w h => ⟨List.mem_cons_of_mem _ (List.mem_append_right _ (List.mem_append_right _ (List.mem_append_left _ h))), gd_dm_X13_blame w h⟩)
def dj_X13_notZero_18 (p : Program) (l : Launch) (e : Env) (s : State) (m : MethodId) (args : Array Value) (below : List Frame) (meth : Method) (c : Code) (Q : State → Prop) (A : Nat → Prop) (dC : Nat → ClassId) (dI : Nat → Nat → Nat) (a : Nat → Nat) (ac : Nat → ClassId) (g : (St) → Option (St)) (r : St) : Prop := ∀ (s0 : St) (H : Heap) (locs : List Loc) (ls : Array Slot), g s0 = some r → va_P (dC, dI) vwCl (dw_X13 a ac s0) H → va_D A (dw_X13 a ac s0) → va_S A s.heap H locs → lv_has ls 2 [] → W p l e (headSpec ow_dm_X13_notZero ({ frames := 1, cells := 0, slots := 0, locals := 21 })).room s m args below meth c H locs 0 0 Q (F0 m 18 ls [])
def dj_X13_notZero_0 (p : Program) (l : Launch) (e : Env) (s : State) (m : MethodId) (args : Array Value) (below : List Frame) (meth : Method) (c : Code) (Q : State → Prop) (A : Nat → Prop) (dC : Nat → ClassId) (dI : Nat → Nat → Nat) (a : Nat → Nat) (ac : Nat → ClassId) (g : Int32 → (St) → Option (St)) (r : St) : Prop := ∀ (v0 : Int32) (s0 : St) (H : Heap) (locs : List Loc) (ls : Array Slot), g v0 s0 = some r → va_P (dC, dI) vwCl (dw_X13 a ac s0) H → va_D A (dw_X13 a ac s0) → va_S A s.heap H locs → lv_has ls 2 [(0, .ref (a 0)), (1, .int v0)] → W p l e (headSpec ow_dm_X13_notZero ({ frames := 1, cells := 0, slots := 0, locals := 21 })).room s m args below meth c H locs 0 0 Q (F0 m 0 ls [])
set_option maxHeartbeats 40000000 in
set_option maxRecDepth 100000 in
theorem db_X13_notZero_18 {p : Program} {l : Launch} {e : Env} {s : State} {m : MethodId} {args : Array Value} {below : List Frame} {meth : Method} {c : Code} {Q : State → Prop} {A : Nat → Prop} {dC : Nat → ClassId} {dI : Nat → Nat → Nat} {a : Nat → Nat} {ac : Nat → ClassId} {n : Nat} {r : St} (C : nd_C p l s m args c A (dC, dI) cX13_notZero 2 RX13 ow_dm_X13_notZero (dk_X13 ac)) (K : nd_Kv p l e (headSpec ow_dm_X13_notZero ({ frames := 1, cells := 0, slots := 0, locals := 21 })).room s m args below meth c Q A (dC, dI) cX13_notZero (St) (dw_X13 a ac) r) : dj_X13_notZero_18 p l e s m args below meth c Q A dC dI a ac (df_X13_notZero_18 n) r := by
  obtain ⟨hlt, hx, hb, hml, hown, hts, hN, hA, hK⟩ := id C
  intro s0 H locs ls h hP hD hS hl
  unfold df_X13_notZero_18 at h
  exact K _ _ _ _ _ dX13_notZero_18 (Option.some.inj h).symm hP hD hS
set_option maxHeartbeats 40000000 in
set_option maxRecDepth 100000 in
theorem db_X13_notZero_0 {p : Program} {l : Launch} {e : Env} {s : State} {m : MethodId} {args : Array Value} {below : List Frame} {meth : Method} {c : Code} {Q : State → Prop} {A : Nat → Prop} {dC : Nat → ClassId} {dI : Nat → Nat → Nat} {a : Nat → Nat} {ac : Nat → ClassId} {n : Nat} {r : St} (C : nd_C p l s m args c A (dC, dI) cX13_notZero 2 RX13 ow_dm_X13_notZero (dk_X13 ac)) (K : nd_Kv p l e (headSpec ow_dm_X13_notZero ({ frames := 1, cells := 0, slots := 0, locals := 21 })).room s m args below meth c Q A (dC, dI) cX13_notZero (St) (dw_X13 a ac) r) : dj_X13_notZero_0 p l e s m args below meth c Q A dC dI a ac (df_X13_notZero_0 n) r := by
  obtain ⟨hlt, hx, hb, hml, hown, hts, hN, hA, hK⟩ := id C
  intro v0 s0 H locs ls h hP hD hS hl
  unfold df_X13_notZero_0 at h
  refine lv_aload_n hx hb dX13_notZero_0 rfl (lv_at hl 0 rfl) ?_
  refine va_get (D := (dC, dI)) (ci := 14) (v := .int (sI s0 15)) (C := RX13) (T := TX13) (N := 37) hx hb hts hi_dm_X13_notZero_X13 hown hK hP 0 rfl rfl 24 (by decide) (hts (.fieldLink RX13 522 "TimeMachineModel$Assembler" "mode" "I") (List.mem_of_getElem? (i := 1) rfl)) (fun _ h9 => h9) rfl dX13_notZero_1 ?_
  refine lv_iconst (v := 2) hx hb dX13_notZero_4 (by decide) ?_
  refine lv_icmp_ne (tgt := 18) hx hb dX13_notZero_5 (by decide) (fun c1 => ?_) (fun c1 => ?_)
  · have h := nd_neg h c1
    exact (db_X13_notZero_18 C K)  s0 _ _ _ h hP hD hS (lv_sub hl [] rfl)
  · have h := nd_pos h c1
    refine lv_iload_n hx hb dX13_notZero_8 rfl (lv_at hl 1 rfl) ?_
    refine lv_if_ne (tgt := 18) hx hb dX13_notZero_9 (by decide) (fun c2 => ?_) (fun c2 => ?_)
    · have h := nd_neg h c2
      exact (db_X13_notZero_18 C K)  s0 _ _ _ h hP hD hS (lv_sub hl [] rfl)
    · have h := nd_pos h c2
      refine lv_aload_n hx hb dX13_notZero_12 rfl (lv_at hl 0 rfl) ?_
      refine lv_bipush (v := 10) hx hb dX13_notZero_13 (by decide) ?_
      obtain ⟨s4, hq, h⟩ := nd_b1_e h
      have hPc := hP
      have hDc := hD
      have hKc := hK
      have hFc := nd_rs hD hS hA
      refine nd_cVv (As := [.int 10]) (rest := []) (w' := dw_X13 a ac s4) ⟨hx, hb, hml, hown, hts⟩ (fun sz => dm_X13_blame l hlt dC dI a ac n (10) s0 hq sz) (cwV 1 hts gi_dm_X13_notZero_0 rfl rfl rfl (by decide +kernel) ⟨Nat.le_of_ble_eq_true rfl, Nat.le_of_ble_eq_true rfl⟩) hPc hDc hKc hS hA hN (va_recv hKc hPc (ci := 14) (q0 := 0) rfl rfl) rfl hl.1 rfl (Nat.le_of_ble_eq_true rfl) dX13_notZero_15 (fun H locs hP1 hD1 hk1 hS => ?_)
      have hP := hP1
      have hD := hD1.weaken (fun k q _ h => hFc q.1 h)
      exact (db_X13_notZero_18 C K)  s4 _ _ _ h hP hD hS (lv_sub hl [] rfl)
set_option maxHeartbeats 40000000 in
set_option maxRecDepth 100000 in
theorem dm_X13_notZero (l : Launch) (hlt : l.stackTraces = false) (dC : Nat → ClassId) (dI : Nat → Nat → Nat) (a : Nat → Nat) (ac : Nat → ClassId) (n : Nat) (v0 : Int32) (s0 : St) {r : St} (h : df_X13_notZero n v0 s0 = some r) (sz : Nat) : Met l yX13_notZero ow_dm_X13_notZero ({ frames := 1, cells := 0, slots := 0, locals := 21 }) (va_Pc [.ref (a 0), .int v0] (fun U => U.heap.size = sz ∧ va_P (dC, dI) vwCl (dw_X13 a ac s0) U.heap ∧ va_K (dC, dI) vwCl (dk_X13 ac) U ∧ va_D (fun _ => True) (dw_X13 a ac s0) ∧ nv_E (va_A (dw_X13 a ac s0) sz) U)) (va_Qv (fun _ => True) (fun (_ : Unit) t => va_P (dC, dI) vwCl (dw_X13 a ac r) t.heap ∧ va_K (dC, dI) vwCl (dk_X13 ac) t ∧ va_D (va_A (dw_X13 a ac s0) sz) (dw_X13 a ac r)) (va_A (dw_X13 a ac s0) sz)) 0 0 (va_A (dw_X13 a ac s0) sz) := by
  refine Met.ofW (cc := cX13_notZero) (maxL := 2) (ret := none) (by decide) rfl ?_
  intro p e s m args below meth c s₁ B hml hv
  obtain ⟨rfl, hsz, hP, hK, hD0, hN⟩ := hv
  have hx := B.exec
  have hb := B.bytes
  have hr := B.returns
  have hts := atoms_spec (ws := ow_dm_X13_notZero) B.pre
  have hown : s.vm.findClass RX13 = some m.cls := findClass_of_methodNamed B.named
  have hlocks := B.notSynchronized
  subst hsz
  have hD := hD0.self (sz := s.heap.size)
  generalize hAe : va_A (dw_X13 a ac s0) s.heap.size = A at hD hN ⊢
  have hA : ∀ q : Nat, s.heap.size ≤ q → A q := fun q h => by rw [← hAe]; exact Or.inr h
  have hl := lv_entry ([.ref (a 0), .int v0]) (n := 2) (Nat.le_of_ble_eq_true rfl)
  rw [lg_entry_eq]
  generalize (lg_sl ([.ref (a 0), .int v0]) ++ List.replicate (2 - (lg_sl ([.ref (a 0), .int v0])).length) Slot.unset).toArray = ls at hl ⊢
  have hl : lv_has ls 2 [(0, .ref (a 0)), (1, .int v0)] := hl
  exact db_X13_notZero_0 (dC := dC) (dI := dI) (a := a) (ac := ac) (n := n) (r := r) ⟨hlt, hx, hb, hml, hown, hts, hN, hA, hK⟩ (fun pc τ H locs ls d er hP hD hS => by subst er; exact W.vret hx hb hr (fun t ht hW => ⟨⟨(), rfl, trivial, by rw [ht]; exact hP, va_K.moved hW.alike hK, hD⟩, hS.F ht⟩) hS.2.2 d) v0 s0 _ _ _ h hP hD va_S.rf (lv_sub hl [0, 1] rfl)
def ow_dm_X13_plainSix : List Cond := .code yX13_plainSix cX13_plainSix 5 none :: ([.methodLink RX13 585 yX13_within, .instanceMethod yX13_within, .selects RX13 yX13_within yX13_within, .initialized RX13, .methodLink RX13 608 yX13_six, .static yX13_six, .methodLink RX13 547 yX13_half, .instanceMethod yX13_half, .selects RX13 yX13_half yX13_half, .methodLink RX13 611 yX13_notZero, .instanceMethod yX13_notZero, .selects RX13 yX13_notZero yX13_notZero] ++ (ow_dm_X13_within ++ (ow_dm_X13_six ++ (ow_dm_X13_half ++ (ow_dm_X13_notZero ++ [])))))
theorem gd_dm_X13_plainSix : ∀ w ∈ ow_dm_X13_plainSix, (w.onTables && w.keeps) = true ∨ ∃ ty, w = Cond.arrayClass ty := List.forall_mem_cons.mpr ⟨good_of_word rfl, List.forall_mem_append.mpr ⟨fun w h => good_of_word (List.all_eq_true.mp (by decide +kernel) w h), List.forall_mem_append.mpr ⟨gd_dm_X13_within, List.forall_mem_append.mpr ⟨gd_dm_X13_six, List.forall_mem_append.mpr ⟨gd_dm_X13_half, List.forall_mem_append.mpr ⟨gd_dm_X13_notZero, fun _ h => nomatch h⟩⟩⟩⟩⟩⟩
theorem gi_dm_X13_plainSix_0 : GoodIn ow_dm_X13_plainSix (wsV RX13 585 RX13 yX13_within ow_dm_X13_within) := goodIn_app (goodIn_of _ (by decide +kernel)) (fun w h => ⟨List.mem_cons_of_mem _ (List.mem_append_right _ (List.mem_append_left _ h)), gd_dm_X13_within w h⟩)
theorem gi_dm_X13_plainSix_1 : GoodIn ow_dm_X13_plainSix (wsS RX13 608 yX13_six ow_dm_X13_six) := goodIn_app (goodIn_of _ (by decide +kernel)) (fun w h => ⟨List.mem_cons_of_mem _ (List.mem_append_right _ (List.mem_append_right _ (List.mem_append_left _ h))), gd_dm_X13_six w h⟩)
theorem gi_dm_X13_plainSix_2 : GoodIn ow_dm_X13_plainSix (wsV RX13 547 RX13 yX13_half ow_dm_X13_half) := goodIn_app (goodIn_of _ (by decide +kernel)) (fun w h => ⟨List.mem_cons_of_mem _ (List.mem_append_right _ (List.mem_append_right _ (List.mem_append_right _ (List.mem_append_left _ h)))), gd_dm_X13_half w h⟩)
theorem gi_dm_X13_plainSix_3 : GoodIn ow_dm_X13_plainSix (wsV RX13 611 RX13 yX13_notZero ow_dm_X13_notZero) := goodIn_app (goodIn_of _ (by decide +kernel)) (fun w h => ⟨List.mem_cons_of_mem _ (List.mem_append_right _ (List.mem_append_right _ (List.mem_append_right _ (List.mem_append_right _ (List.mem_append_left _ h))))), gd_dm_X13_notZero w h⟩)
def dj_X13_plainSix_21 (p : Program) (l : Launch) (e : Env) (s : State) (m : MethodId) (args : Array Value) (below : List Frame) (meth : Method) (c : Code) (Q : State → Prop) (A : Nat → Prop) (dC : Nat → ClassId) (dI : Nat → Nat → Nat) (a : Nat → Nat) (ac : Nat → ClassId) (g : Int32 → Int32 → Int32 → (St) → Option (St)) (r : St) : Prop := ∀ (x1 : Int32) (x2 : Int32) (x4 : Int32) (s0 : St) (H : Heap) (locs : List Loc) (ls : Array Slot), g x1 x2 x4 s0 = some r → va_P (dC, dI) vwCl (dw_X13 a ac s0) H → va_D A (dw_X13 a ac s0) → va_S A s.heap H locs → lv_has ls 5 [(0, .ref (a 0)), (1, .int x1), (2, .int x2), (4, .int x4)] → W p l e (headSpec ow_dm_X13_plainSix ({ frames := 9, cells := 0, slots := 0, locals := 206 })).room s m args below meth c H locs 0 0 Q (F0 m 21 ls [])
def dj_X13_plainSix_0 (p : Program) (l : Launch) (e : Env) (s : State) (m : MethodId) (args : Array Value) (below : List Frame) (meth : Method) (c : Code) (Q : State → Prop) (A : Nat → Prop) (dC : Nat → ClassId) (dI : Nat → Nat → Nat) (a : Nat → Nat) (ac : Nat → ClassId) (g : Int32 → Int32 → Int32 → (St) → Option (St)) (r : St) : Prop := ∀ (v0 : Int32) (v1 : Int32) (v2 : Int32) (s0 : St) (H : Heap) (locs : List Loc) (ls : Array Slot), g v0 v1 v2 s0 = some r → va_P (dC, dI) vwCl (dw_X13 a ac s0) H → va_D A (dw_X13 a ac s0) → va_S A s.heap H locs → lv_has ls 5 [(0, .ref (a 0)), (1, .int v0), (2, .int v1), (3, .int v2)] → W p l e (headSpec ow_dm_X13_plainSix ({ frames := 9, cells := 0, slots := 0, locals := 206 })).room s m args below meth c H locs 0 0 Q (F0 m 0 ls [])
set_option maxHeartbeats 40000000 in
set_option maxRecDepth 100000 in
theorem db_X13_plainSix_21 {p : Program} {l : Launch} {e : Env} {s : State} {m : MethodId} {args : Array Value} {below : List Frame} {meth : Method} {c : Code} {Q : State → Prop} {A : Nat → Prop} {dC : Nat → ClassId} {dI : Nat → Nat → Nat} {a : Nat → Nat} {ac : Nat → ClassId} {n : Nat} {r : St} (C : nd_C p l s m args c A (dC, dI) cX13_plainSix 5 RX13 ow_dm_X13_plainSix (dk_X13 ac)) (K : nd_Kv p l e (headSpec ow_dm_X13_plainSix ({ frames := 9, cells := 0, slots := 0, locals := 206 })).room s m args below meth c Q A (dC, dI) cX13_plainSix (St) (dw_X13 a ac) r) : dj_X13_plainSix_21 p l e s m args below meth c Q A dC dI a ac (df_X13_plainSix_21 n) r := by
  obtain ⟨hlt, hx, hb, hml, hown, hts, hN, hA, hK⟩ := id C
  intro x1 x2 x4 s0 H locs ls h hP hD hS hl
  unfold df_X13_plainSix_21 at h
  refine lv_aload_n hx hb dX13_plainSix_21 rfl (lv_at hl 0 rfl) ?_
  refine lv_iload_n hx hb dX13_plainSix_22 rfl (lv_at hl 1 rfl) ?_
  refine lv_iload_n hx hb dX13_plainSix_23 rfl (lv_at hl 2 rfl) ?_
  refine lv_bipush (v := 7) hx hb dX13_plainSix_24 (by decide) ?_
  refine lv_ishl hx hb dX13_plainSix_26 ?_
  refine lv_ior hx hb dX13_plainSix_27 ?_
  refine lv_iload hx hb dX13_plainSix_28 (lv_at hl 3 rfl) ?_
  obtain ⟨q5, s6, hq, h⟩ := nd_b2_e h
  have hPc : va_P (dC, dI) vwCl (dw_P a ac ()) H := nd_p0
  have hDc : va_D A (dw_P a ac ()) := nd_d0
  have hKc : va_K (dC, dI) vwCl (dk_P ac) s := nd_y0 hK
  have hFc : ∀ q, va_A (dw_P a ac ()) H.size q → A q := nd_r0 hS hA
  refine nd_cSi (As := [.int x4]) (rest := [.int (x1 ||| ((x2 : Int32) <<< ((7 : Int32) &&& 31))), .ref (a 0)]) (q := q5) (w' := dw_P a ac s6) ⟨hx, hb, hml, hown, hts⟩ (fun sz => dm_X13_six l hlt dC dI a ac n (x4) () hq sz) (cwS 1 hts gi_dm_X13_plainSix_1 rfl rfl rfl (by decide +kernel) ⟨Nat.le_of_ble_eq_true rfl, Nat.le_of_ble_eq_true rfl⟩) hPc hDc hKc hS hA hN rfl hl.1 rfl (Nat.le_of_ble_eq_true rfl) dX13_plainSix_30 (fun H locs hP1 hD1 hk1 hS => ?_)
  have hP := nd_n0 hP hk1
  refine lv_ior hx hb dX13_plainSix_33 ?_
  obtain ⟨s9, hq, h⟩ := nd_b1_e h
  have hPc := hP
  have hDc := hD
  have hKc := hK
  have hFc := nd_rs hD hS hA
  refine nd_cVv (As := [.int ((x1 ||| ((x2 : Int32) <<< ((7 : Int32) &&& 31))) ||| q5)]) (rest := []) (w' := dw_X13 a ac s9) ⟨hx, hb, hml, hown, hts⟩ (fun sz => dm_X13_half l hlt dC dI a ac n (((x1 ||| ((x2 : Int32) <<< ((7 : Int32) &&& 31))) ||| q5)) s0 hq sz) (cwV 1 hts gi_dm_X13_plainSix_2 rfl rfl rfl (by decide +kernel) ⟨Nat.le_of_ble_eq_true rfl, Nat.le_of_ble_eq_true rfl⟩) hPc hDc hKc hS hA hN (va_recv hKc hPc (ci := 14) (q0 := 0) rfl rfl) rfl hl.1 rfl (Nat.le_of_ble_eq_true rfl) dX13_plainSix_34 (fun H locs hP1 hD1 hk1 hS => ?_)
  have hP := hP1
  have hD := hD1.weaken (fun k q _ h => hFc q.1 h)
  exact K _ _ _ _ _ dX13_plainSix_37 (Option.some.inj h).symm hP hD hS
set_option maxHeartbeats 40000000 in
set_option maxRecDepth 100000 in
theorem db_X13_plainSix_0 {p : Program} {l : Launch} {e : Env} {s : State} {m : MethodId} {args : Array Value} {below : List Frame} {meth : Method} {c : Code} {Q : State → Prop} {A : Nat → Prop} {dC : Nat → ClassId} {dI : Nat → Nat → Nat} {a : Nat → Nat} {ac : Nat → ClassId} {n : Nat} {r : St} (C : nd_C p l s m args c A (dC, dI) cX13_plainSix 5 RX13 ow_dm_X13_plainSix (dk_X13 ac)) (K : nd_Kv p l e (headSpec ow_dm_X13_plainSix ({ frames := 9, cells := 0, slots := 0, locals := 206 })).room s m args below meth c Q A (dC, dI) cX13_plainSix (St) (dw_X13 a ac) r) : dj_X13_plainSix_0 p l e s m args below meth c Q A dC dI a ac (df_X13_plainSix_0 n) r := by
  obtain ⟨hlt, hx, hb, hml, hown, hts, hN, hA, hK⟩ := id C
  intro v0 v1 v2 s0 H locs ls h hP hD hS hl
  unfold df_X13_plainSix_0 at h
  refine lv_aload_n hx hb dX13_plainSix_0 rfl (lv_at hl 0 rfl) ?_
  refine lv_bipush (v := (-32)) hx hb dX13_plainSix_1 (by decide) ?_
  refine lv_bipush (v := 31) hx hb dX13_plainSix_3 (by decide) ?_
  refine lv_iconst (v := 1) hx hb dX13_plainSix_5 (by decide) ?_
  obtain ⟨q1, s2, hq, h⟩ := nd_b2_e h
  have hPc := hP
  have hDc := hD
  have hKc := hK
  have hFc := nd_rs hD hS hA
  refine nd_cVi (As := [.int (-32), .int 31, .int 1]) (rest := []) (q := q1) (w' := dw_X13 a ac s2) ⟨hx, hb, hml, hown, hts⟩ (fun sz => dm_X13_within l hlt dC dI a ac n ((-32)) (31) (1) s0 hq sz) (cwV 3 hts gi_dm_X13_plainSix_0 rfl rfl rfl (by decide +kernel) ⟨Nat.le_of_ble_eq_true rfl, Nat.le_of_ble_eq_true rfl⟩) hPc hDc hKc hS hA hN (va_recv hKc hPc (ci := 14) (q0 := 0) rfl rfl) rfl hl.1 rfl (Nat.le_of_ble_eq_true rfl) dX13_plainSix_6 (fun H locs hP1 hD1 hk1 hS => ?_)
  have hP := hP1
  have hD := hD1.weaken (fun k q _ h => hFc q.1 h)
  refine lv_istore (lv' := [(4, .int q1), (0, .ref (a 0)), (1, .int v0), (2, .int v1), (3, .int v2)]) hx hb dX13_plainSix_9 hl (by decide) rfl (fun ls hl => ?_)
  refine lv_iload_n hx hb dX13_plainSix_11 rfl (lv_at hl 4 rfl) ?_
  refine lv_if_eq (tgt := 21) hx hb dX13_plainSix_12 (by decide) (fun c4 => ?_) (fun c4 => ?_)
  · have h := nd_pos h c4
    exact (db_X13_plainSix_21 C K) (v0) (v1) (q1) s2 _ _ _ h hP hD hS (lv_sub hl [1, 2, 3, 0] rfl)
  · have h := nd_neg h c4
    refine lv_aload_n hx hb dX13_plainSix_15 rfl (lv_at hl 1 rfl) ?_
    refine lv_iload hx hb dX13_plainSix_16 (lv_at hl 0 rfl) ?_
    obtain ⟨s12, hq, h⟩ := nd_b1_e h
    have hPc := hP
    have hDc := hD
    have hKc := hK
    have hFc := nd_rs hD hS hA
    refine nd_cVv (As := [.int q1]) (rest := []) (w' := dw_X13 a ac s12) ⟨hx, hb, hml, hown, hts⟩ (fun sz => dm_X13_notZero l hlt dC dI a ac n (q1) s2 hq sz) (cwV 1 hts gi_dm_X13_plainSix_3 rfl rfl rfl (by decide +kernel) ⟨Nat.le_of_ble_eq_true rfl, Nat.le_of_ble_eq_true rfl⟩) hPc hDc hKc hS hA hN (va_recv hKc hPc (ci := 14) (q0 := 0) rfl rfl) rfl hl.1 rfl (Nat.le_of_ble_eq_true rfl) dX13_plainSix_18 (fun H locs hP1 hD1 hk1 hS => ?_)
    have hP := hP1
    have hD := hD1.weaken (fun k q _ h => hFc q.1 h)
    exact (db_X13_plainSix_21 C K) (v0) (v1) (q1) s12 _ _ _ h hP hD hS (lv_sub hl [1, 2, 3, 0] rfl)
set_option maxHeartbeats 40000000 in
set_option maxRecDepth 100000 in
theorem dm_X13_plainSix (l : Launch) (hlt : l.stackTraces = false) (dC : Nat → ClassId) (dI : Nat → Nat → Nat) (a : Nat → Nat) (ac : Nat → ClassId) (n : Nat) (v0 : Int32) (v1 : Int32) (v2 : Int32) (s0 : St) {r : St} (h : df_X13_plainSix n v0 v1 v2 s0 = some r) (sz : Nat) : Met l yX13_plainSix ow_dm_X13_plainSix ({ frames := 9, cells := 0, slots := 0, locals := 206 }) (va_Pc [.ref (a 0), .int v0, .int v1, .int v2] (fun U => U.heap.size = sz ∧ va_P (dC, dI) vwCl (dw_X13 a ac s0) U.heap ∧ va_K (dC, dI) vwCl (dk_X13 ac) U ∧ va_D (fun _ => True) (dw_X13 a ac s0) ∧ nv_E (va_A (dw_X13 a ac s0) sz) U)) (va_Qv (fun _ => True) (fun (_ : Unit) t => va_P (dC, dI) vwCl (dw_X13 a ac r) t.heap ∧ va_K (dC, dI) vwCl (dk_X13 ac) t ∧ va_D (va_A (dw_X13 a ac s0) sz) (dw_X13 a ac r)) (va_A (dw_X13 a ac s0) sz)) 0 0 (va_A (dw_X13 a ac s0) sz) := by
  refine Met.ofW (cc := cX13_plainSix) (maxL := 5) (ret := none) (by decide) rfl ?_
  intro p e s m args below meth c s₁ B hml hv
  obtain ⟨rfl, hsz, hP, hK, hD0, hN⟩ := hv
  have hx := B.exec
  have hb := B.bytes
  have hr := B.returns
  have hts := atoms_spec (ws := ow_dm_X13_plainSix) B.pre
  have hown : s.vm.findClass RX13 = some m.cls := findClass_of_methodNamed B.named
  have hlocks := B.notSynchronized
  subst hsz
  have hD := hD0.self (sz := s.heap.size)
  generalize hAe : va_A (dw_X13 a ac s0) s.heap.size = A at hD hN ⊢
  have hA : ∀ q : Nat, s.heap.size ≤ q → A q := fun q h => by rw [← hAe]; exact Or.inr h
  have hl := lv_entry ([.ref (a 0), .int v0, .int v1, .int v2]) (n := 5) (Nat.le_of_ble_eq_true rfl)
  rw [lg_entry_eq]
  generalize (lg_sl ([.ref (a 0), .int v0, .int v1, .int v2]) ++ List.replicate (5 - (lg_sl ([.ref (a 0), .int v0, .int v1, .int v2])).length) Slot.unset).toArray = ls at hl ⊢
  have hl : lv_has ls 5 [(0, .ref (a 0)), (1, .int v0), (2, .int v1), (3, .int v2)] := hl
  exact db_X13_plainSix_0 (dC := dC) (dI := dI) (a := a) (ac := ac) (n := n) (r := r) ⟨hlt, hx, hb, hml, hown, hts, hN, hA, hK⟩ (fun pc τ H locs ls d er hP hD hS => by subst er; exact W.vret hx hb hr (fun t ht hW => ⟨⟨(), rfl, trivial, by rw [ht]; exact hP, va_K.moved hW.alike hK, hD⟩, hS.F ht⟩) hS.2.2 d) v0 v1 v2 s0 _ _ _ h hP hD va_S.rf (lv_sub hl [0, 1, 2, 3] rfl)
def ow_dm_X13_stacked : List Cond := .code yX13_stacked cX13_stacked 5 none :: ([.methodLink RX13 585 yX13_within, .instanceMethod yX13_within, .selects RX13 yX13_within yX13_within, .initialized RX13, .methodLink RX13 550 yX13_bits, .static yX13_bits, .methodLink RX13 547 yX13_half, .instanceMethod yX13_half, .selects RX13 yX13_half yX13_half] ++ (ow_dm_X13_within ++ (ow_dm_X13_bits ++ (ow_dm_X13_half ++ []))))
theorem gd_dm_X13_stacked : ∀ w ∈ ow_dm_X13_stacked, (w.onTables && w.keeps) = true ∨ ∃ ty, w = Cond.arrayClass ty := List.forall_mem_cons.mpr ⟨good_of_word rfl, List.forall_mem_append.mpr ⟨fun w h => good_of_word (List.all_eq_true.mp (by decide +kernel) w h), List.forall_mem_append.mpr ⟨gd_dm_X13_within, List.forall_mem_append.mpr ⟨gd_dm_X13_bits, List.forall_mem_append.mpr ⟨gd_dm_X13_half, fun _ h => nomatch h⟩⟩⟩⟩⟩
theorem gi_dm_X13_stacked_0 : GoodIn ow_dm_X13_stacked (wsV RX13 585 RX13 yX13_within ow_dm_X13_within) := goodIn_app (goodIn_of _ (by decide +kernel)) (fun w h => ⟨List.mem_cons_of_mem _ (List.mem_append_right _ (List.mem_append_left _ h)), gd_dm_X13_within w h⟩)
theorem gi_dm_X13_stacked_1 : GoodIn ow_dm_X13_stacked (wsS RX13 550 yX13_bits ow_dm_X13_bits) := goodIn_app (goodIn_of _ (by decide +kernel)) (fun w h => ⟨List.mem_cons_of_mem _ (List.mem_append_right _ (List.mem_append_right _ (List.mem_append_left _ h))), gd_dm_X13_bits w h⟩)
theorem gi_dm_X13_stacked_2 : GoodIn ow_dm_X13_stacked (wsV RX13 547 RX13 yX13_half ow_dm_X13_half) := goodIn_app (goodIn_of _ (by decide +kernel)) (fun w h => ⟨List.mem_cons_of_mem _ (List.mem_append_right _ (List.mem_append_right _ (List.mem_append_right _ (List.mem_append_left _ h)))), gd_dm_X13_half w h⟩)
def dj_X13_stacked_84 (p : Program) (l : Launch) (e : Env) (s : State) (m : MethodId) (args : Array Value) (below : List Frame) (meth : Method) (c : Code) (Q : State → Prop) (A : Nat → Prop) (dC : Nat → ClassId) (dI : Nat → Nat → Nat) (a : Nat → Nat) (ac : Nat → ClassId) (g : Int32 → (St) → Option (St)) (r : St) : Prop := ∀ (y1 : Int32) (s0 : St) (H : Heap) (locs : List Loc) (ls : Array Slot), g y1 s0 = some r → va_P (dC, dI) vwCl (dw_X13 a ac s0) H → va_D A (dw_X13 a ac s0) → va_S A s.heap H locs → lv_has ls 5 [] → W p l e (headSpec ow_dm_X13_stacked ({ frames := 9, cells := 0, slots := 0, locals := 206 })).room s m args below meth c H locs 0 0 Q (F0 m 84 ls [.int y1, .ref (a 0)])
def dj_X13_stacked_0 (p : Program) (l : Launch) (e : Env) (s : State) (m : MethodId) (args : Array Value) (below : List Frame) (meth : Method) (c : Code) (Q : State → Prop) (A : Nat → Prop) (dC : Nat → ClassId) (dI : Nat → Nat → Nat) (a : Nat → Nat) (ac : Nat → ClassId) (g : Int32 → Int32 → Int32 → (St) → Option (St)) (r : St) : Prop := ∀ (v0 : Int32) (v1 : Int32) (v2 : Int32) (s0 : St) (H : Heap) (locs : List Loc) (ls : Array Slot), g v0 v1 v2 s0 = some r → va_P (dC, dI) vwCl (dw_X13 a ac s0) H → va_D A (dw_X13 a ac s0) → va_S A s.heap H locs → lv_has ls 5 [(0, .ref (a 0)), (1, .int v0), (2, .int v1), (3, .int v2)] → W p l e (headSpec ow_dm_X13_stacked ({ frames := 9, cells := 0, slots := 0, locals := 206 })).room s m args below meth c H locs 0 0 Q (F0 m 0 ls [])
set_option maxHeartbeats 40000000 in
set_option maxRecDepth 100000 in
theorem db_X13_stacked_84 {p : Program} {l : Launch} {e : Env} {s : State} {m : MethodId} {args : Array Value} {below : List Frame} {meth : Method} {c : Code} {Q : State → Prop} {A : Nat → Prop} {dC : Nat → ClassId} {dI : Nat → Nat → Nat} {a : Nat → Nat} {ac : Nat → ClassId} {n : Nat} {r : St} (C : nd_C p l s m args c A (dC, dI) cX13_stacked 5 RX13 ow_dm_X13_stacked (dk_X13 ac)) (K : nd_Kv p l e (headSpec ow_dm_X13_stacked ({ frames := 9, cells := 0, slots := 0, locals := 206 })).room s m args below meth c Q A (dC, dI) cX13_stacked (St) (dw_X13 a ac) r) : dj_X13_stacked_84 p l e s m args below meth c Q A dC dI a ac (df_X13_stacked_84 n) r := by
  obtain ⟨hlt, hx, hb, hml, hown, hts, hN, hA, hK⟩ := id C
  intro y1 s0 H locs ls h hP hD hS hl
  unfold df_X13_stacked_84 at h
  obtain ⟨s12, hq, h⟩ := nd_b1_e h
  have hPc := hP
  have hDc := hD
  have hKc := hK
  have hFc := nd_rs hD hS hA
  refine nd_cVv (As := [.int y1]) (rest := []) (w' := dw_X13 a ac s12) ⟨hx, hb, hml, hown, hts⟩ (fun sz => dm_X13_half l hlt dC dI a ac n (y1) s0 hq sz) (cwV 1 hts gi_dm_X13_stacked_2 rfl rfl rfl (by decide +kernel) ⟨Nat.le_of_ble_eq_true rfl, Nat.le_of_ble_eq_true rfl⟩) hPc hDc hKc hS hA hN (va_recv hKc hPc (ci := 14) (q0 := 0) rfl rfl) rfl hl.1 rfl (Nat.le_of_ble_eq_true rfl) dX13_stacked_84 (fun H locs hP1 hD1 hk1 hS => ?_)
  have hP := hP1
  have hD := hD1.weaken (fun k q _ h => hFc q.1 h)
  exact K _ _ _ _ _ dX13_stacked_87 (Option.some.inj h).symm hP hD hS
set_option maxHeartbeats 40000000 in
set_option maxRecDepth 100000 in
theorem db_X13_stacked_0 {p : Program} {l : Launch} {e : Env} {s : State} {m : MethodId} {args : Array Value} {below : List Frame} {meth : Method} {c : Code} {Q : State → Prop} {A : Nat → Prop} {dC : Nat → ClassId} {dI : Nat → Nat → Nat} {a : Nat → Nat} {ac : Nat → ClassId} {n : Nat} {r : St} (C : nd_C p l s m args c A (dC, dI) cX13_stacked 5 RX13 ow_dm_X13_stacked (dk_X13 ac)) (K : nd_Kv p l e (headSpec ow_dm_X13_stacked ({ frames := 9, cells := 0, slots := 0, locals := 206 })).room s m args below meth c Q A (dC, dI) cX13_stacked (St) (dw_X13 a ac) r) : dj_X13_stacked_0 p l e s m args below meth c Q A dC dI a ac (df_X13_stacked_0 n) r := by
  obtain ⟨hlt, hx, hb, hml, hown, hts, hN, hA, hK⟩ := id C
  intro v0 v1 v2 s0 H locs ls h hP hD hS hl
  unfold df_X13_stacked_0 at h
  refine lv_aload_n hx hb dX13_stacked_0 rfl (lv_at hl 0 rfl) ?_
  refine lv_iconst (v := 0) hx hb dX13_stacked_1 (by decide) ?_
  refine lv_sipush (v := 252) hx hb dX13_stacked_2 (by decide) ?_
  refine lv_iconst (v := 4) hx hb dX13_stacked_5 (by decide) ?_
  obtain ⟨q1, s2, hq, h⟩ := nd_b2_e h
  have hPc := hP
  have hDc := hD
  have hKc := hK
  have hFc := nd_rs hD hS hA
  refine nd_cVi (As := [.int 0, .int 252, .int 4]) (rest := []) (q := q1) (w' := dw_X13 a ac s2) ⟨hx, hb, hml, hown, hts⟩ (fun sz => dm_X13_within l hlt dC dI a ac n (0) (252) (4) s0 hq sz) (cwV 3 hts gi_dm_X13_stacked_0 rfl rfl rfl (by decide +kernel) ⟨Nat.le_of_ble_eq_true rfl, Nat.le_of_ble_eq_true rfl⟩) hPc hDc hKc hS hA hN (va_recv hKc hPc (ci := 14) (q0 := 0) rfl rfl) rfl hl.1 rfl (Nat.le_of_ble_eq_true rfl) dX13_stacked_6 (fun H locs hP1 hD1 hk1 hS => ?_)
  have hP := hP1
  have hD := hD1.weaken (fun k q _ h => hFc q.1 h)
  refine lv_istore (lv' := [(4, .int q1), (0, .ref (a 0)), (1, .int v0), (2, .int v1), (3, .int v2)]) hx hb dX13_stacked_9 hl (by decide) rfl (fun ls hl => ?_)
  refine lv_aload_n hx hb dX13_stacked_11 rfl (lv_at hl 1 rfl) ?_
  refine lv_iload_n hx hb dX13_stacked_12 rfl (lv_at hl 2 rfl) ?_
  refine lv_bipush (v := 26) hx hb dX13_stacked_13 (by decide) ?_
  refine lv_icmp_ne (tgt := 57) hx hb dX13_stacked_15 (by decide) (fun c4 => ?_) (fun c4 => ?_)
  · have h := nd_neg h c4
    refine lv_iload_n hx hb dX13_stacked_57 rfl (lv_at hl 3 rfl) ?_
    refine lv_iload_n hx hb dX13_stacked_58 rfl (lv_at hl 4 rfl) ?_
    refine lv_iconst (v := 2) hx hb dX13_stacked_59 (by decide) ?_
    refine lv_ishl hx hb dX13_stacked_60 ?_
    refine lv_ior hx hb dX13_stacked_61 ?_
    refine lv_iload hx hb dX13_stacked_62 (lv_at hl 0 rfl) ?_
    refine lv_iconst (v := 5) hx hb dX13_stacked_64 (by decide) ?_
    refine lv_iconst (v := 2) hx hb dX13_stacked_65 (by decide) ?_
    refine lv_bipush (v := 9) hx hb dX13_stacked_66 (by decide) ?_
    obtain ⟨q5, s6, hq, h⟩ := nd_b2_e h
    have hPc : va_P (dC, dI) vwCl (dw_P a ac ()) H := nd_p0
    have hDc : va_D A (dw_P a ac ()) := nd_d0
    have hKc : va_K (dC, dI) vwCl (dk_P ac) s := nd_y0 hK
    have hFc : ∀ q, va_A (dw_P a ac ()) H.size q → A q := nd_r0 hS hA
    refine nd_cSi (As := [.int q1, .int 5, .int 2, .int 9]) (rest := [.int (v1 ||| ((v2 : Int32) <<< ((2 : Int32) &&& 31))), .ref (a 0)]) (q := q5) (w' := dw_P a ac s6) ⟨hx, hb, hml, hown, hts⟩ (fun sz => dm_X13_bits l hlt dC dI a ac n (q1) (5) (2) (9) () hq sz) (cwS 4 hts gi_dm_X13_stacked_1 rfl rfl rfl (by decide +kernel) ⟨Nat.le_of_ble_eq_true rfl, Nat.le_of_ble_eq_true rfl⟩) hPc hDc hKc hS hA hN rfl hl.1 rfl (Nat.le_of_ble_eq_true rfl) dX13_stacked_68 (fun H locs hP1 hD1 hk1 hS => ?_)
    have hP := nd_n0 hP hk1
    refine lv_ior hx hb dX13_stacked_71 ?_
    refine lv_iload hx hb dX13_stacked_72 (lv_at hl 0 rfl) ?_
    refine lv_bipush (v := 7) hx hb dX13_stacked_74 (by decide) ?_
    refine lv_bipush (v := 6) hx hb dX13_stacked_76 (by decide) ?_
    refine lv_bipush (v := 7) hx hb dX13_stacked_78 (by decide) ?_
    obtain ⟨q8, s9, hq, h⟩ := nd_b2_e h
    have hPc : va_P (dC, dI) vwCl (dw_P a ac ()) H := nd_p0
    have hDc : va_D A (dw_P a ac ()) := nd_d0
    have hKc : va_K (dC, dI) vwCl (dk_P ac) s := nd_y0 hK
    have hFc : ∀ q, va_A (dw_P a ac ()) H.size q → A q := nd_r0 hS hA
    refine nd_cSi (As := [.int q1, .int 7, .int 6, .int 7]) (rest := [.int ((v1 ||| ((v2 : Int32) <<< ((2 : Int32) &&& 31))) ||| q5), .ref (a 0)]) (q := q8) (w' := dw_P a ac s9) ⟨hx, hb, hml, hown, hts⟩ (fun sz => dm_X13_bits l hlt dC dI a ac n (q1) (7) (6) (7) () hq sz) (cwS 4 hts gi_dm_X13_stacked_1 rfl rfl rfl (by decide +kernel) ⟨Nat.le_of_ble_eq_true rfl, Nat.le_of_ble_eq_true rfl⟩) hPc hDc hKc hS hA hN rfl hl.1 rfl (Nat.le_of_ble_eq_true rfl) dX13_stacked_80 (fun H locs hP1 hD1 hk1 hS => ?_)
    have hP := nd_n0 hP hk1
    refine lv_ior hx hb dX13_stacked_83 ?_
    exact (db_X13_stacked_84 C K) ((((v1 ||| ((v2 : Int32) <<< ((2 : Int32) &&& 31))) ||| q5) ||| q8)) s2 _ _ _ h hP hD hS (lv_sub hl [] rfl)
  · have h := nd_pos h c4
    refine lv_iload_n hx hb dX13_stacked_18 rfl (lv_at hl 3 rfl) ?_
    refine lv_iload_n hx hb dX13_stacked_19 rfl (lv_at hl 4 rfl) ?_
    refine lv_bipush (v := 7) hx hb dX13_stacked_20 (by decide) ?_
    refine lv_ishl hx hb dX13_stacked_22 ?_
    refine lv_ior hx hb dX13_stacked_23 ?_
    refine lv_iload hx hb dX13_stacked_24 (lv_at hl 0 rfl) ?_
    refine lv_iconst (v := 5) hx hb dX13_stacked_26 (by decide) ?_
    refine lv_iconst (v := 5) hx hb dX13_stacked_27 (by decide) ?_
    refine lv_bipush (v := 12) hx hb dX13_stacked_28 (by decide) ?_
    obtain ⟨q14, s15, hq, h⟩ := nd_b2_e h
    have hPc : va_P (dC, dI) vwCl (dw_P a ac ()) H := nd_p0
    have hDc : va_D A (dw_P a ac ()) := nd_d0
    have hKc : va_K (dC, dI) vwCl (dk_P ac) s := nd_y0 hK
    have hFc : ∀ q, va_A (dw_P a ac ()) H.size q → A q := nd_r0 hS hA
    refine nd_cSi (As := [.int q1, .int 5, .int 5, .int 12]) (rest := [.int (v1 ||| ((v2 : Int32) <<< ((7 : Int32) &&& 31))), .ref (a 0)]) (q := q14) (w' := dw_P a ac s15) ⟨hx, hb, hml, hown, hts⟩ (fun sz => dm_X13_bits l hlt dC dI a ac n (q1) (5) (5) (12) () hq sz) (cwS 4 hts gi_dm_X13_stacked_1 rfl rfl rfl (by decide +kernel) ⟨Nat.le_of_ble_eq_true rfl, Nat.le_of_ble_eq_true rfl⟩) hPc hDc hKc hS hA hN rfl hl.1 rfl (Nat.le_of_ble_eq_true rfl) dX13_stacked_30 (fun H locs hP1 hD1 hk1 hS => ?_)
    have hP := nd_n0 hP hk1
    refine lv_ior hx hb dX13_stacked_33 ?_
    refine lv_iload hx hb dX13_stacked_34 (lv_at hl 0 rfl) ?_
    refine lv_iconst (v := 4) hx hb dX13_stacked_36 (by decide) ?_
    refine lv_iconst (v := 2) hx hb dX13_stacked_37 (by decide) ?_
    refine lv_iconst (v := 4) hx hb dX13_stacked_38 (by decide) ?_
    obtain ⟨q17, s18, hq, h⟩ := nd_b2_e h
    have hPc : va_P (dC, dI) vwCl (dw_P a ac ()) H := nd_p0
    have hDc : va_D A (dw_P a ac ()) := nd_d0
    have hKc : va_K (dC, dI) vwCl (dk_P ac) s := nd_y0 hK
    have hFc : ∀ q, va_A (dw_P a ac ()) H.size q → A q := nd_r0 hS hA
    refine nd_cSi (As := [.int q1, .int 4, .int 2, .int 4]) (rest := [.int ((v1 ||| ((v2 : Int32) <<< ((7 : Int32) &&& 31))) ||| q14), .ref (a 0)]) (q := q17) (w' := dw_P a ac s18) ⟨hx, hb, hml, hown, hts⟩ (fun sz => dm_X13_bits l hlt dC dI a ac n (q1) (4) (2) (4) () hq sz) (cwS 4 hts gi_dm_X13_stacked_1 rfl rfl rfl (by decide +kernel) ⟨Nat.le_of_ble_eq_true rfl, Nat.le_of_ble_eq_true rfl⟩) hPc hDc hKc hS hA hN rfl hl.1 rfl (Nat.le_of_ble_eq_true rfl) dX13_stacked_39 (fun H locs hP1 hD1 hk1 hS => ?_)
    have hP := nd_n0 hP hk1
    refine lv_ior hx hb dX13_stacked_42 ?_
    refine lv_iload hx hb dX13_stacked_43 (lv_at hl 0 rfl) ?_
    refine lv_bipush (v := 7) hx hb dX13_stacked_45 (by decide) ?_
    refine lv_bipush (v := 6) hx hb dX13_stacked_47 (by decide) ?_
    refine lv_iconst (v := 2) hx hb dX13_stacked_49 (by decide) ?_
    obtain ⟨q20, s21, hq, h⟩ := nd_b2_e h
    have hPc : va_P (dC, dI) vwCl (dw_P a ac ()) H := nd_p0
    have hDc : va_D A (dw_P a ac ()) := nd_d0
    have hKc : va_K (dC, dI) vwCl (dk_P ac) s := nd_y0 hK
    have hFc : ∀ q, va_A (dw_P a ac ()) H.size q → A q := nd_r0 hS hA
    refine nd_cSi (As := [.int q1, .int 7, .int 6, .int 2]) (rest := [.int (((v1 ||| ((v2 : Int32) <<< ((7 : Int32) &&& 31))) ||| q14) ||| q17), .ref (a 0)]) (q := q20) (w' := dw_P a ac s21) ⟨hx, hb, hml, hown, hts⟩ (fun sz => dm_X13_bits l hlt dC dI a ac n (q1) (7) (6) (2) () hq sz) (cwS 4 hts gi_dm_X13_stacked_1 rfl rfl rfl (by decide +kernel) ⟨Nat.le_of_ble_eq_true rfl, Nat.le_of_ble_eq_true rfl⟩) hPc hDc hKc hS hA hN rfl hl.1 rfl (Nat.le_of_ble_eq_true rfl) dX13_stacked_50 (fun H locs hP1 hD1 hk1 hS => ?_)
    have hP := nd_n0 hP hk1
    refine lv_ior hx hb dX13_stacked_53 ?_
    refine lv_goto (tgt := 84) hx hb dX13_stacked_54 (by decide) ?_
    exact (db_X13_stacked_84 C K) (((((v1 ||| ((v2 : Int32) <<< ((7 : Int32) &&& 31))) ||| q14) ||| q17) ||| q20)) s2 _ _ _ h hP hD hS (lv_sub hl [] rfl)
set_option maxHeartbeats 40000000 in
set_option maxRecDepth 100000 in
theorem dm_X13_stacked (l : Launch) (hlt : l.stackTraces = false) (dC : Nat → ClassId) (dI : Nat → Nat → Nat) (a : Nat → Nat) (ac : Nat → ClassId) (n : Nat) (v0 : Int32) (v1 : Int32) (v2 : Int32) (s0 : St) {r : St} (h : df_X13_stacked n v0 v1 v2 s0 = some r) (sz : Nat) : Met l yX13_stacked ow_dm_X13_stacked ({ frames := 9, cells := 0, slots := 0, locals := 206 }) (va_Pc [.ref (a 0), .int v0, .int v1, .int v2] (fun U => U.heap.size = sz ∧ va_P (dC, dI) vwCl (dw_X13 a ac s0) U.heap ∧ va_K (dC, dI) vwCl (dk_X13 ac) U ∧ va_D (fun _ => True) (dw_X13 a ac s0) ∧ nv_E (va_A (dw_X13 a ac s0) sz) U)) (va_Qv (fun _ => True) (fun (_ : Unit) t => va_P (dC, dI) vwCl (dw_X13 a ac r) t.heap ∧ va_K (dC, dI) vwCl (dk_X13 ac) t ∧ va_D (va_A (dw_X13 a ac s0) sz) (dw_X13 a ac r)) (va_A (dw_X13 a ac s0) sz)) 0 0 (va_A (dw_X13 a ac s0) sz) := by
  refine Met.ofW (cc := cX13_stacked) (maxL := 5) (ret := none) (by decide) rfl ?_
  intro p e s m args below meth c s₁ B hml hv
  obtain ⟨rfl, hsz, hP, hK, hD0, hN⟩ := hv
  have hx := B.exec
  have hb := B.bytes
  have hr := B.returns
  have hts := atoms_spec (ws := ow_dm_X13_stacked) B.pre
  have hown : s.vm.findClass RX13 = some m.cls := findClass_of_methodNamed B.named
  have hlocks := B.notSynchronized
  subst hsz
  have hD := hD0.self (sz := s.heap.size)
  generalize hAe : va_A (dw_X13 a ac s0) s.heap.size = A at hD hN ⊢
  have hA : ∀ q : Nat, s.heap.size ≤ q → A q := fun q h => by rw [← hAe]; exact Or.inr h
  have hl := lv_entry ([.ref (a 0), .int v0, .int v1, .int v2]) (n := 5) (Nat.le_of_ble_eq_true rfl)
  rw [lg_entry_eq]
  generalize (lg_sl ([.ref (a 0), .int v0, .int v1, .int v2]) ++ List.replicate (5 - (lg_sl ([.ref (a 0), .int v0, .int v1, .int v2])).length) Slot.unset).toArray = ls at hl ⊢
  have hl : lv_has ls 5 [(0, .ref (a 0)), (1, .int v0), (2, .int v1), (3, .int v2)] := hl
  exact db_X13_stacked_0 (dC := dC) (dI := dI) (a := a) (ac := ac) (n := n) (r := r) ⟨hlt, hx, hb, hml, hown, hts, hN, hA, hK⟩ (fun pc τ H locs ls d er hP hD hS => by subst er; exact W.vret hx hb hr (fun t ht hW => ⟨⟨(), rfl, trivial, by rw [ht]; exact hP, va_K.moved hW.alike hK, hD⟩, hS.F ht⟩) hS.2.2 d) v0 v1 v2 s0 _ _ _ h hP hD va_S.rf (lv_sub hl [0, 1, 2, 3] rfl)
def ow_dm_X13_smalls : List Cond := .code yX13_smalls cX13_smalls 6 none :: ([.methodLink RX13 525 yX13_expression, .instanceMethod yX13_expression, .selects RX13 yX13_expression yX13_expression, .initialized RX13, .fieldLink RX13 486 "TimeMachineModel$Assembler" "address" "I", .methodLink RX13 528 yX13_fits, .instanceMethod yX13_fits, .selects RX13 yX13_fits yX13_fits, .methodLink RX13 573 yX13_shortBranch, .static yX13_shortBranch, .methodLink RX13 547 yX13_half, .instanceMethod yX13_half, .selects RX13 yX13_half yX13_half, .methodLink RX13 614 yX13_near8, .instanceMethod yX13_near8, .selects RX13 yX13_near8 yX13_near8, .methodLink RX13 585 yX13_within, .instanceMethod yX13_within, .selects RX13 yX13_within yX13_within, .methodLink RX13 608 yX13_six, .static yX13_six, .fieldLink RX13 410 "TimeMachineModel$Assembler" "fault" "I", .methodLink RX13 550 yX13_bits, .static yX13_bits, .methodLink RX13 506 yX13_needs, .instanceMethod yX13_needs, .selects RX13 yX13_needs yX13_needs] ++ (u_ws RX13 TX13 37 ++ (ow_dm_X13_expression ++ (ow_dm_X13_fits ++ (ow_dm_X13_shortBranch ++ (ow_dm_X13_half ++ (ow_dm_X13_near8 ++ (ow_dm_X13_within ++ (ow_dm_X13_six ++ (ow_dm_X13_bits ++ (ow_dm_X13_needs ++ [])))))))))))
theorem gd_dm_X13_smalls : ∀ w ∈ ow_dm_X13_smalls, (w.onTables && w.keeps) = true ∨ ∃ ty, w = Cond.arrayClass ty := List.forall_mem_cons.mpr ⟨good_of_word rfl, List.forall_mem_append.mpr ⟨fun w h => good_of_word (List.all_eq_true.mp (by decide +kernel) w h), List.forall_mem_append.mpr ⟨gu_X13, List.forall_mem_append.mpr ⟨gd_dm_X13_expression, List.forall_mem_append.mpr ⟨gd_dm_X13_fits, List.forall_mem_append.mpr ⟨gd_dm_X13_shortBranch, List.forall_mem_append.mpr ⟨gd_dm_X13_half, List.forall_mem_append.mpr ⟨gd_dm_X13_near8, List.forall_mem_append.mpr ⟨gd_dm_X13_within, List.forall_mem_append.mpr ⟨gd_dm_X13_six, List.forall_mem_append.mpr ⟨gd_dm_X13_bits, List.forall_mem_append.mpr ⟨gd_dm_X13_needs, fun _ h => nomatch h⟩⟩⟩⟩⟩⟩⟩⟩⟩⟩⟩⟩
theorem hi_dm_X13_smalls_X13 : ∀ w ∈ u_ws RX13 TX13 37, w ∈ ow_dm_X13_smalls := fun w h => List.mem_cons_of_mem _ (List.mem_append_right _ (List.mem_append_left _ h))
theorem gi_dm_X13_smalls_0 : GoodIn ow_dm_X13_smalls (wsV RX13 525 RX13 yX13_expression ow_dm_X13_expression) := goodIn_app (goodIn_of _ (by decide +kernel)) (fun w h => ⟨List.mem_cons_of_mem _ (List.mem_append_right _ (List.mem_append_right _ (List.mem_append_left _ h))), gd_dm_X13_expression w h⟩)
theorem gi_dm_X13_smalls_1 : GoodIn ow_dm_X13_smalls (wsV RX13 528 RX13 yX13_fits ow_dm_X13_fits) := goodIn_app (goodIn_of _ (by decide +kernel)) (fun w h => ⟨List.mem_cons_of_mem _ (List.mem_append_right _ (List.mem_append_right _ (List.mem_append_right _ (List.mem_append_left _ h)))), gd_dm_X13_fits w h⟩)
theorem gi_dm_X13_smalls_2 : GoodIn ow_dm_X13_smalls (wsS RX13 573 yX13_shortBranch ow_dm_X13_shortBranch) := goodIn_app (goodIn_of _ (by decide +kernel)) (fun w h => ⟨List.mem_cons_of_mem _ (List.mem_append_right _ (List.mem_append_right _ (List.mem_append_right _ (List.mem_append_right _ (List.mem_append_left _ h))))), gd_dm_X13_shortBranch w h⟩)
theorem gi_dm_X13_smalls_3 : GoodIn ow_dm_X13_smalls (wsV RX13 547 RX13 yX13_half ow_dm_X13_half) := goodIn_app (goodIn_of _ (by decide +kernel)) (fun w h => ⟨List.mem_cons_of_mem _ (List.mem_append_right _ (List.mem_append_right _ (List.mem_append_right _ (List.mem_append_right _ (List.mem_append_right _ (List.mem_append_left _ h)))))), gd_dm_X13_half w h⟩)
theorem gi_dm_X13_smalls_4 : GoodIn ow_dm_X13_smalls (wsV RX13 614 RX13 yX13_near8 ow_dm_X13_near8) := goodIn_app (goodIn_of _ (by decide +kernel)) (fun w h => ⟨List.mem_cons_of_mem _ (List.mem_append_right _ (List.mem_append_right _ (List.mem_append_right _ (List.mem_append_right _ (List.mem_append_right _ (List.mem_append_right _ (List.mem_append_left _ h))))))), gd_dm_X13_near8 w h⟩)
theorem gi_dm_X13_smalls_5 : GoodIn ow_dm_X13_smalls (wsV RX13 585 RX13 yX13_within ow_dm_X13_within) := goodIn_app (goodIn_of _ (by decide +kernel)) (fun w h => ⟨List.mem_cons_of_mem _ (List.mem_append_right _ (List.mem_append_right _ (List.mem_append_right _ (List.mem_append_right _ (List.mem_append_right _ (List.mem_append_right _ (List.mem_append_right _ (List.mem_append_left _ h)))))))), gd_dm_X13_within w h⟩)
theorem gi_dm_X13_smalls_6 : GoodIn ow_dm_X13_smalls (wsS RX13 608 yX13_six ow_dm_X13_six) := goodIn_app (goodIn_of _ (by decide +kernel)) (fun w h => ⟨List.mem_cons_of_mem _ (List.mem_append_right _ (List.mem_append_right _ (List.mem_append_right _ (List.mem_append_right _ (List.mem_append_right _ (List.mem_append_right _ (List.mem_append_right _ (List.mem_append_right _ (List.mem_append_left _ h))))))))), gd_dm_X13_six w h⟩)
theorem gi_dm_X13_smalls_7 : GoodIn ow_dm_X13_smalls (wsS RX13 550 yX13_bits ow_dm_X13_bits) := goodIn_app (goodIn_of _ (by decide +kernel)) (fun w h => ⟨List.mem_cons_of_mem _ (List.mem_append_right _ (List.mem_append_right _ (List.mem_append_right _ (List.mem_append_right _ (List.mem_append_right _ (List.mem_append_right _ (List.mem_append_right _ (List.mem_append_right _ (List.mem_append_right _ (List.mem_append_left _ h)))))))))), gd_dm_X13_bits w h⟩)
theorem gi_dm_X13_smalls_8 : GoodIn ow_dm_X13_smalls (wsV RX13 506 RX13 yX13_needs ow_dm_X13_needs) := goodIn_app (goodIn_of _ (by decide +kernel)) (fun w h => ⟨List.mem_cons_of_mem _ (List.mem_append_right _ (List.mem_append_right _ (List.mem_append_right _ (List.mem_append_right _ (List.mem_append_right _ (List.mem_append_right _ (List.mem_append_right _ (List.mem_append_right _ (List.mem_append_right _ (List.mem_append_right _ (List.mem_append_left _ h))))))))))), gd_dm_X13_needs w h⟩)
def dj_X13_smalls_306 (p : Program) (l : Launch) (e : Env) (s : State) (m : MethodId) (args : Array Value) (below : List Frame) (meth : Method) (c : Code) (Q : State → Prop) (A : Nat → Prop) (dC : Nat → ClassId) (dI : Nat → Nat → Nat) (a : Nat → Nat) (ac : Nat → ClassId) (g : (St) → Option (St)) (r : St) : Prop := ∀ (s0 : St) (H : Heap) (locs : List Loc) (ls : Array Slot), g s0 = some r → va_P (dC, dI) vwCl (dw_X13 a ac s0) H → va_D A (dw_X13 a ac s0) → va_S A s.heap H locs → lv_has ls 6 [] → W p l e (headSpec ow_dm_X13_smalls ({ frames := 9, cells := 0, slots := 0, locals := 206 })).room s m args below meth c H locs 0 0 Q (F0 m 306 ls [])
def dj_X13_smalls_126 (p : Program) (l : Launch) (e : Env) (s : State) (m : MethodId) (args : Array Value) (below : List Frame) (meth : Method) (c : Code) (Q : State → Prop) (A : Nat → Prop) (dC : Nat → ClassId) (dI : Nat → Nat → Nat) (a : Nat → Nat) (ac : Nat → ClassId) (g : Int32 → Int32 → Int32 → Int32 → (St) → Option (St)) (r : St) : Prop := ∀ (x2 : Int32) (x3 : Int32) (x4 : Int32) (x5 : Int32) (s0 : St) (H : Heap) (locs : List Loc) (ls : Array Slot), g x2 x3 x4 x5 s0 = some r → va_P (dC, dI) vwCl (dw_X13 a ac s0) H → va_D A (dw_X13 a ac s0) → va_S A s.heap H locs → lv_has ls 6 [(0, .ref (a 0)), (2, .int x2), (3, .int x3), (4, .int x4), (5, .int x5)] → W p l e (headSpec ow_dm_X13_smalls ({ frames := 9, cells := 0, slots := 0, locals := 206 })).room s m args below meth c H locs 0 0 Q (F0 m 126 ls [])
def dj_X13_smalls_110 (p : Program) (l : Launch) (e : Env) (s : State) (m : MethodId) (args : Array Value) (below : List Frame) (meth : Method) (c : Code) (Q : State → Prop) (A : Nat → Prop) (dC : Nat → ClassId) (dI : Nat → Nat → Nat) (a : Nat → Nat) (ac : Nat → ClassId) (g : Int32 → Int32 → Int32 → Int32 → (St) → Option (St)) (r : St) : Prop := ∀ (x2 : Int32) (x3 : Int32) (x4 : Int32) (y0 : Int32) (s0 : St) (H : Heap) (locs : List Loc) (ls : Array Slot), g x2 x3 x4 y0 s0 = some r → va_P (dC, dI) vwCl (dw_X13 a ac s0) H → va_D A (dw_X13 a ac s0) → va_S A s.heap H locs → lv_has ls 6 [(0, .ref (a 0)), (2, .int x2), (3, .int x3), (4, .int x4)] → W p l e (headSpec ow_dm_X13_smalls ({ frames := 9, cells := 0, slots := 0, locals := 206 })).room s m args below meth c H locs 0 0 Q (F0 m 110 ls [.int y0])
def dj_X13_smalls_109 (p : Program) (l : Launch) (e : Env) (s : State) (m : MethodId) (args : Array Value) (below : List Frame) (meth : Method) (c : Code) (Q : State → Prop) (A : Nat → Prop) (dC : Nat → ClassId) (dI : Nat → Nat → Nat) (a : Nat → Nat) (ac : Nat → ClassId) (g : Int32 → Int32 → Int32 → (St) → Option (St)) (r : St) : Prop := ∀ (x2 : Int32) (x3 : Int32) (x4 : Int32) (s0 : St) (H : Heap) (locs : List Loc) (ls : Array Slot), g x2 x3 x4 s0 = some r → va_P (dC, dI) vwCl (dw_X13 a ac s0) H → va_D A (dw_X13 a ac s0) → va_S A s.heap H locs → lv_has ls 6 [(0, .ref (a 0)), (2, .int x2), (3, .int x3), (4, .int x4)] → W p l e (headSpec ow_dm_X13_smalls ({ frames := 9, cells := 0, slots := 0, locals := 206 })).room s m args below meth c H locs 0 0 Q (F0 m 109 ls [])
def dj_X13_smalls_0 (p : Program) (l : Launch) (e : Env) (s : State) (m : MethodId) (args : Array Value) (below : List Frame) (meth : Method) (c : Code) (Q : State → Prop) (A : Nat → Prop) (dC : Nat → ClassId) (dI : Nat → Nat → Nat) (a : Nat → Nat) (ac : Nat → ClassId) (g : Int32 → Int32 → Int32 → (St) → Option (St)) (r : St) : Prop := ∀ (v0 : Int32) (v1 : Int32) (v2 : Int32) (s0 : St) (H : Heap) (locs : List Loc) (ls : Array Slot), g v0 v1 v2 s0 = some r → va_P (dC, dI) vwCl (dw_X13 a ac s0) H → va_D A (dw_X13 a ac s0) → va_S A s.heap H locs → lv_has ls 6 [(0, .ref (a 0)), (1, .int v0), (2, .int v1), (3, .int v2)] → W p l e (headSpec ow_dm_X13_smalls ({ frames := 9, cells := 0, slots := 0, locals := 206 })).room s m args below meth c H locs 0 0 Q (F0 m 0 ls [])
set_option maxHeartbeats 40000000 in
set_option maxRecDepth 100000 in
theorem db_X13_smalls_306 {p : Program} {l : Launch} {e : Env} {s : State} {m : MethodId} {args : Array Value} {below : List Frame} {meth : Method} {c : Code} {Q : State → Prop} {A : Nat → Prop} {dC : Nat → ClassId} {dI : Nat → Nat → Nat} {a : Nat → Nat} {ac : Nat → ClassId} {n : Nat} {r : St} (C : nd_C p l s m args c A (dC, dI) cX13_smalls 6 RX13 ow_dm_X13_smalls (dk_X13 ac)) (K : nd_Kv p l e (headSpec ow_dm_X13_smalls ({ frames := 9, cells := 0, slots := 0, locals := 206 })).room s m args below meth c Q A (dC, dI) cX13_smalls (St) (dw_X13 a ac) r) : dj_X13_smalls_306 p l e s m args below meth c Q A dC dI a ac (df_X13_smalls_306 n) r := by
  obtain ⟨hlt, hx, hb, hml, hown, hts, hN, hA, hK⟩ := id C
  intro s0 H locs ls h hP hD hS hl
  unfold df_X13_smalls_306 at h
  exact K _ _ _ _ _ dX13_smalls_306 (Option.some.inj h).symm hP hD hS
set_option maxHeartbeats 40000000 in
set_option maxRecDepth 100000 in
theorem db_X13_smalls_126 {p : Program} {l : Launch} {e : Env} {s : State} {m : MethodId} {args : Array Value} {below : List Frame} {meth : Method} {c : Code} {Q : State → Prop} {A : Nat → Prop} {dC : Nat → ClassId} {dI : Nat → Nat → Nat} {a : Nat → Nat} {ac : Nat → ClassId} {n : Nat} {r : St} (C : nd_C p l s m args c A (dC, dI) cX13_smalls 6 RX13 ow_dm_X13_smalls (dk_X13 ac)) (K : nd_Kv p l e (headSpec ow_dm_X13_smalls ({ frames := 9, cells := 0, slots := 0, locals := 206 })).room s m args below meth c Q A (dC, dI) cX13_smalls (St) (dw_X13 a ac) r) : dj_X13_smalls_126 p l e s m args below meth c Q A dC dI a ac (df_X13_smalls_126 n) r := by
  obtain ⟨hlt, hx, hb, hml, hown, hts, hN, hA, hK⟩ := id C
  intro x2 x3 x4 x5 s0 H locs ls h hP hD hS hl
  unfold df_X13_smalls_126 at h
  refine lv_aload_n hx hb dX13_smalls_126 rfl (lv_at hl 0 rfl) ?_
  refine lv_iload_n hx hb dX13_smalls_127 rfl (lv_at hl 1 rfl) ?_
  refine lv_iload hx hb dX13_smalls_128 (lv_at hl 3 rfl) ?_
  refine lv_iconst (v := 5) hx hb dX13_smalls_130 (by decide) ?_
  refine lv_iconst (v := 3) hx hb dX13_smalls_131 (by decide) ?_
  refine lv_bipush (v := 10) hx hb dX13_smalls_132 (by decide) ?_
  obtain ⟨q45, s46, hq, h⟩ := nd_b2_e h
  have hPc : va_P (dC, dI) vwCl (dw_P a ac ()) H := nd_p0
  have hDc : va_D A (dw_P a ac ()) := nd_d0
  have hKc : va_K (dC, dI) vwCl (dk_P ac) s := nd_y0 hK
  have hFc : ∀ q, va_A (dw_P a ac ()) H.size q → A q := nd_r0 hS hA
  refine nd_cSi (As := [.int x4, .int 5, .int 3, .int 10]) (rest := [.int x2, .ref (a 0)]) (q := q45) (w' := dw_P a ac s46) ⟨hx, hb, hml, hown, hts⟩ (fun sz => dm_X13_bits l hlt dC dI a ac n (x4) (5) (3) (10) () hq sz) (cwS 4 hts gi_dm_X13_smalls_7 rfl rfl rfl (by decide +kernel) ⟨Nat.le_of_ble_eq_true rfl, Nat.le_of_ble_eq_true rfl⟩) hPc hDc hKc hS hA hN rfl hl.1 rfl (Nat.le_of_ble_eq_true rfl) dX13_smalls_134 (fun H locs hP1 hD1 hk1 hS => ?_)
  have hP := nd_n0 hP hk1
  refine lv_ior hx hb dX13_smalls_137 ?_
  refine lv_iload hx hb dX13_smalls_138 (lv_at hl 3 rfl) ?_
  refine lv_iconst (v := 2) hx hb dX13_smalls_140 (by decide) ?_
  refine lv_iconst (v := 2) hx hb dX13_smalls_141 (by decide) ?_
  refine lv_bipush (v := 6) hx hb dX13_smalls_142 (by decide) ?_
  obtain ⟨q48, s49, hq, h⟩ := nd_b2_e h
  have hPc : va_P (dC, dI) vwCl (dw_P a ac ()) H := nd_p0
  have hDc : va_D A (dw_P a ac ()) := nd_d0
  have hKc : va_K (dC, dI) vwCl (dk_P ac) s := nd_y0 hK
  have hFc : ∀ q, va_A (dw_P a ac ()) H.size q → A q := nd_r0 hS hA
  refine nd_cSi (As := [.int x4, .int 2, .int 2, .int 6]) (rest := [.int (x2 ||| q45), .ref (a 0)]) (q := q48) (w' := dw_P a ac s49) ⟨hx, hb, hml, hown, hts⟩ (fun sz => dm_X13_bits l hlt dC dI a ac n (x4) (2) (2) (6) () hq sz) (cwS 4 hts gi_dm_X13_smalls_7 rfl rfl rfl (by decide +kernel) ⟨Nat.le_of_ble_eq_true rfl, Nat.le_of_ble_eq_true rfl⟩) hPc hDc hKc hS hA hN rfl hl.1 rfl (Nat.le_of_ble_eq_true rfl) dX13_smalls_144 (fun H locs hP1 hD1 hk1 hS => ?_)
  have hP := nd_n0 hP hk1
  refine lv_ior hx hb dX13_smalls_147 ?_
  refine lv_iload hx hb dX13_smalls_148 (lv_at hl 3 rfl) ?_
  refine lv_bipush (v := 6) hx hb dX13_smalls_150 (by decide) ?_
  refine lv_bipush (v := 6) hx hb dX13_smalls_152 (by decide) ?_
  refine lv_iconst (v := 5) hx hb dX13_smalls_154 (by decide) ?_
  obtain ⟨q51, s52, hq, h⟩ := nd_b2_e h
  have hPc : va_P (dC, dI) vwCl (dw_P a ac ()) H := nd_p0
  have hDc : va_D A (dw_P a ac ()) := nd_d0
  have hKc : va_K (dC, dI) vwCl (dk_P ac) s := nd_y0 hK
  have hFc : ∀ q, va_A (dw_P a ac ()) H.size q → A q := nd_r0 hS hA
  refine nd_cSi (As := [.int x4, .int 6, .int 6, .int 5]) (rest := [.int ((x2 ||| q45) ||| q48), .ref (a 0)]) (q := q51) (w' := dw_P a ac s52) ⟨hx, hb, hml, hown, hts⟩ (fun sz => dm_X13_bits l hlt dC dI a ac n (x4) (6) (6) (5) () hq sz) (cwS 4 hts gi_dm_X13_smalls_7 rfl rfl rfl (by decide +kernel) ⟨Nat.le_of_ble_eq_true rfl, Nat.le_of_ble_eq_true rfl⟩) hPc hDc hKc hS hA hN rfl hl.1 rfl (Nat.le_of_ble_eq_true rfl) dX13_smalls_155 (fun H locs hP1 hD1 hk1 hS => ?_)
  have hP := nd_n0 hP hk1
  refine lv_ior hx hb dX13_smalls_158 ?_
  refine lv_iload hx hb dX13_smalls_159 (lv_at hl 4 rfl) ?_
  refine lv_bipush (v := 7) hx hb dX13_smalls_161 (by decide) ?_
  refine lv_ishl hx hb dX13_smalls_163 ?_
  refine lv_ior hx hb dX13_smalls_164 ?_
  refine lv_iload_n hx hb dX13_smalls_165 rfl (lv_at hl 2 rfl) ?_
  refine lv_iconst (v := 2) hx hb dX13_smalls_166 (by decide) ?_
  refine lv_ishl hx hb dX13_smalls_167 ?_
  refine lv_ior hx hb dX13_smalls_168 ?_
  obtain ⟨s55, hq, h⟩ := nd_b1_e h
  have hPc := hP
  have hDc := hD
  have hKc := hK
  have hFc := nd_rs hD hS hA
  refine nd_cVv (As := [.int (((((x2 ||| q45) ||| q48) ||| q51) ||| ((x5 : Int32) <<< ((7 : Int32) &&& 31))) ||| ((x3 : Int32) <<< ((2 : Int32) &&& 31)))]) (rest := []) (w' := dw_X13 a ac s55) ⟨hx, hb, hml, hown, hts⟩ (fun sz => dm_X13_half l hlt dC dI a ac n ((((((x2 ||| q45) ||| q48) ||| q51) ||| ((x5 : Int32) <<< ((7 : Int32) &&& 31))) ||| ((x3 : Int32) <<< ((2 : Int32) &&& 31)))) s0 hq sz) (cwV 1 hts gi_dm_X13_smalls_3 rfl rfl rfl (by decide +kernel) ⟨Nat.le_of_ble_eq_true rfl, Nat.le_of_ble_eq_true rfl⟩) hPc hDc hKc hS hA hN (va_recv hKc hPc (ci := 14) (q0 := 0) rfl rfl) rfl hl.1 rfl (Nat.le_of_ble_eq_true rfl) dX13_smalls_169 (fun H locs hP1 hD1 hk1 hS => ?_)
  have hP := hP1
  have hD := hD1.weaken (fun k q _ h => hFc q.1 h)
  refine lv_goto (tgt := 306) hx hb dX13_smalls_172 (by decide) ?_
  exact (db_X13_smalls_306 C K)  s55 _ _ _ h hP hD hS (lv_sub hl [] rfl)
set_option maxHeartbeats 40000000 in
set_option maxRecDepth 100000 in
theorem db_X13_smalls_110 {p : Program} {l : Launch} {e : Env} {s : State} {m : MethodId} {args : Array Value} {below : List Frame} {meth : Method} {c : Code} {Q : State → Prop} {A : Nat → Prop} {dC : Nat → ClassId} {dI : Nat → Nat → Nat} {a : Nat → Nat} {ac : Nat → ClassId} {n : Nat} {r : St} (C : nd_C p l s m args c A (dC, dI) cX13_smalls 6 RX13 ow_dm_X13_smalls (dk_X13 ac)) (K : nd_Kv p l e (headSpec ow_dm_X13_smalls ({ frames := 9, cells := 0, slots := 0, locals := 206 })).room s m args below meth c Q A (dC, dI) cX13_smalls (St) (dw_X13 a ac) r) : dj_X13_smalls_110 p l e s m args below meth c Q A dC dI a ac (df_X13_smalls_110 n) r := by
  obtain ⟨hlt, hx, hb, hml, hown, hts, hN, hA, hK⟩ := id C
  intro x2 x3 x4 y0 s0 H locs ls h hP hD hS hl
  unfold df_X13_smalls_110 at h
  refine lv_istore (lv' := [(5, .int y0), (0, .ref (a 0)), (2, .int x2), (3, .int x3), (4, .int x4)]) hx hb dX13_smalls_110 hl (by decide) rfl (fun ls hl => ?_)
  refine lv_aload_n hx hb dX13_smalls_112 rfl (lv_at hl 1 rfl) ?_
  refine va_get (D := (dC, dI)) (ci := 14) (v := .int (sI s0 12)) (C := RX13) (T := TX13) (N := 37) hx hb hts hi_dm_X13_smalls_X13 hown hK hP 0 rfl rfl 21 (by decide) (hts (.fieldLink RX13 410 "TimeMachineModel$Assembler" "fault" "I") (List.mem_of_getElem? (i := 22) rfl)) (fun _ h9 => h9) rfl dX13_smalls_113 ?_
  refine lv_if_ne (tgt := 126) hx hb dX13_smalls_116 (by decide) (fun c44 => ?_) (fun c44 => ?_)
  · have h := nd_neg h c44
    exact (db_X13_smalls_126 C K) (x2) (x3) (x4) (y0) s0 _ _ _ h hP hD hS (lv_sub hl [1, 2, 3, 4, 0] rfl)
  · have h := nd_pos h c44
    refine lv_aload_n hx hb dX13_smalls_119 rfl (lv_at hl 1 rfl) ?_
    refine lv_bipush (v := 41) hx hb dX13_smalls_120 (by decide) ?_
    obtain ⟨q57, s58, hq, h⟩ := nd_b2_e h
    have hPc := hP
    have hDc := hD
    have hKc := hK
    have hFc := nd_rs hD hS hA
    refine nd_cVi (As := [.int 41]) (rest := []) (q := q57) (w' := dw_X13 a ac s58) ⟨hx, hb, hml, hown, hts⟩ (fun sz => dm_X13_needs l hlt dC dI a ac n (41) s0 hq sz) (cwV 1 hts gi_dm_X13_smalls_8 rfl rfl rfl (by decide +kernel) ⟨Nat.le_of_ble_eq_true rfl, Nat.le_of_ble_eq_true rfl⟩) hPc hDc hKc hS hA hN (va_recv hKc hPc (ci := 14) (q0 := 0) rfl rfl) rfl hl.1 rfl (Nat.le_of_ble_eq_true rfl) dX13_smalls_122 (fun H locs hP1 hD1 hk1 hS => ?_)
    have hP := hP1
    have hD := hD1.weaken (fun k q _ h => hFc q.1 h)
    refine lv_pop hx hb dX13_smalls_125 rfl ?_
    exact (db_X13_smalls_126 C K) (x2) (x3) (x4) (y0) s58 _ _ _ h hP hD hS (lv_sub hl [1, 2, 3, 4, 0] rfl)
set_option maxHeartbeats 40000000 in
set_option maxRecDepth 100000 in
theorem db_X13_smalls_109 {p : Program} {l : Launch} {e : Env} {s : State} {m : MethodId} {args : Array Value} {below : List Frame} {meth : Method} {c : Code} {Q : State → Prop} {A : Nat → Prop} {dC : Nat → ClassId} {dI : Nat → Nat → Nat} {a : Nat → Nat} {ac : Nat → ClassId} {n : Nat} {r : St} (C : nd_C p l s m args c A (dC, dI) cX13_smalls 6 RX13 ow_dm_X13_smalls (dk_X13 ac)) (K : nd_Kv p l e (headSpec ow_dm_X13_smalls ({ frames := 9, cells := 0, slots := 0, locals := 206 })).room s m args below meth c Q A (dC, dI) cX13_smalls (St) (dw_X13 a ac) r) : dj_X13_smalls_109 p l e s m args below meth c Q A dC dI a ac (df_X13_smalls_109 n) r := by
  obtain ⟨hlt, hx, hb, hml, hown, hts, hN, hA, hK⟩ := id C
  intro x2 x3 x4 s0 H locs ls h hP hD hS hl
  unfold df_X13_smalls_109 at h
  refine lv_iconst (v := 0) hx hb dX13_smalls_109 (by decide) ?_
  exact (db_X13_smalls_110 C K) (x2) (x3) (x4) (0) s0 _ _ _ h hP hD hS (lv_sub hl [0, 1, 2, 3] rfl)
set_option maxHeartbeats 40000000 in
set_option maxRecDepth 100000 in
theorem db_X13_smalls_0 {p : Program} {l : Launch} {e : Env} {s : State} {m : MethodId} {args : Array Value} {below : List Frame} {meth : Method} {c : Code} {Q : State → Prop} {A : Nat → Prop} {dC : Nat → ClassId} {dI : Nat → Nat → Nat} {a : Nat → Nat} {ac : Nat → ClassId} {n : Nat} {r : St} (C : nd_C p l s m args c A (dC, dI) cX13_smalls 6 RX13 ow_dm_X13_smalls (dk_X13 ac)) (K : nd_Kv p l e (headSpec ow_dm_X13_smalls ({ frames := 9, cells := 0, slots := 0, locals := 206 })).room s m args below meth c Q A (dC, dI) cX13_smalls (St) (dw_X13 a ac) r) : dj_X13_smalls_0 p l e s m args below meth c Q A dC dI a ac (df_X13_smalls_0 n) r := by
  obtain ⟨hlt, hx, hb, hml, hown, hts, hN, hA, hK⟩ := id C
  intro v0 v1 v2 s0 H locs ls h hP hD hS hl
  unfold df_X13_smalls_0 at h
  refine lv_iload_n hx hb dX13_smalls_0 rfl (lv_at hl 1 rfl) ?_
  refine lv_bipush (v := 13) hx hb dX13_smalls_1 (by decide) ?_
  refine lv_icmp_ne (tgt := 70) hx hb dX13_smalls_3 (by decide) (fun c1 => ?_) (fun c1 => ?_)
  · have h := nd_neg h c1
    refine lv_iload_n hx hb dX13_smalls_70 rfl (lv_at hl 1 rfl) ?_
    refine lv_bipush (v := 16) hx hb dX13_smalls_71 (by decide) ?_
    refine lv_icmp_ge (tgt := 175) hx hb dX13_smalls_73 (by decide) (fun c2 => ?_) (fun c2 => ?_)
    · have h := nd_pos h c2
      refine lv_iload_n hx hb dX13_smalls_175 rfl (lv_at hl 1 rfl) ?_
      refine lv_bipush (v := 21) hx hb dX13_smalls_176 (by decide) ?_
      refine lv_icmp_ne (tgt := 208) hx hb dX13_smalls_178 (by decide) (fun c3 => ?_) (fun c3 => ?_)
      · have h := nd_neg h c3
        refine lv_iload_n hx hb dX13_smalls_208 rfl (lv_at hl 1 rfl) ?_
        refine lv_bipush (v := 22) hx hb dX13_smalls_209 (by decide) ?_
        refine lv_icmp_ne (tgt := 240) hx hb dX13_smalls_211 (by decide) (fun c4 => ?_) (fun c4 => ?_)
        · have h := nd_neg h c4
          refine lv_iload_n hx hb dX13_smalls_240 rfl (lv_at hl 1 rfl) ?_
          refine lv_bipush (v := 23) hx hb dX13_smalls_241 (by decide) ?_
          refine lv_icmp_ne (tgt := 266) hx hb dX13_smalls_243 (by decide) (fun c5 => ?_) (fun c5 => ?_)
          · have h := nd_neg h c5
            refine lv_aload_n hx hb dX13_smalls_266 rfl (lv_at hl 0 rfl) ?_
            obtain ⟨q6, s7, hq, h⟩ := nd_b2_e h
            have hPc := hP
            have hDc := hD
            have hKc := hK
            have hFc := nd_rs hD hS hA
            refine nd_cVi (As := []) (rest := []) (q := q6) (w' := dw_X13 a ac s7) ⟨hx, hb, hml, hown, hts⟩ (fun sz => dm_X13_expression l hlt dC dI a ac n  s0 hq sz) (cwV 0 hts gi_dm_X13_smalls_0 rfl rfl rfl (by decide +kernel) ⟨Nat.le_of_ble_eq_true rfl, Nat.le_of_ble_eq_true rfl⟩) hPc hDc hKc hS hA hN (va_recv hKc hPc (ci := 14) (q0 := 0) rfl rfl) rfl hl.1 rfl (Nat.le_of_ble_eq_true rfl) dX13_smalls_267 (fun H locs hP1 hD1 hk1 hS => ?_)
            have hP := hP1
            have hD := hD1.weaken (fun k q _ h => hFc q.1 h)
            refine lv_aload_n hx hb dX13_smalls_270 rfl (lv_at hl 0 rfl) ?_
            refine va_get (D := (dC, dI)) (ci := 14) (v := .int (sI s7 17)) (C := RX13) (T := TX13) (N := 37) hx hb hts hi_dm_X13_smalls_X13 hown hK hP 0 rfl rfl 26 (by decide) (hts (.fieldLink RX13 486 "TimeMachineModel$Assembler" "address" "I") (List.mem_of_getElem? (i := 5) rfl)) (fun _ h9 => h9) rfl dX13_smalls_271 ?_
            refine lv_isub hx hb dX13_smalls_274 ?_
            refine lv_topi (fun z9 ez9 => ?_)
            have h := nd_at h ez9
            refine lv_istore (lv' := [(4, .int z9), (0, .ref (a 0)), (1, .int v0), (2, .int v1), (3, .int v2)]) hx hb dX13_smalls_275 hl (by decide) rfl (fun ls hl => ?_)
            refine lv_aload_n hx hb dX13_smalls_277 rfl (lv_at hl 1 rfl) ?_
            refine lv_iload hx hb dX13_smalls_278 (lv_at hl 0 rfl) ?_
            refine lv_sipush (v := (-256)) hx hb dX13_smalls_280 (by decide) ?_
            refine lv_sipush (v := 254) hx hb dX13_smalls_283 (by decide) ?_
            refine lv_iconst (v := 2) hx hb dX13_smalls_286 (by decide) ?_
            obtain ⟨s11, hq, h⟩ := nd_b1_e h
            have hPc := hP
            have hDc := hD
            have hKc := hK
            have hFc := nd_rs hD hS hA
            refine nd_cVv (As := [.int z9, .int (-256), .int 254, .int 2]) (rest := []) (w' := dw_X13 a ac s11) ⟨hx, hb, hml, hown, hts⟩ (fun sz => dm_X13_fits l hlt dC dI a ac n (z9) ((-256)) (254) (2) s7 hq sz) (cwV 4 hts gi_dm_X13_smalls_1 rfl rfl rfl (by decide +kernel) ⟨Nat.le_of_ble_eq_true rfl, Nat.le_of_ble_eq_true rfl⟩) hPc hDc hKc hS hA hN (va_recv hKc hPc (ci := 14) (q0 := 0) rfl rfl) rfl hl.1 rfl (Nat.le_of_ble_eq_true rfl) dX13_smalls_287 (fun H locs hP1 hD1 hk1 hS => ?_)
            have hP := hP1
            have hD := hD1.weaken (fun k q _ h => hFc q.1 h)
            refine lv_aload_n hx hb dX13_smalls_290 rfl (lv_at hl 1 rfl) ?_
            refine lv_iload_n hx hb dX13_smalls_291 rfl (lv_at hl 3 rfl) ?_
            refine lv_iload_n hx hb dX13_smalls_292 rfl (lv_at hl 4 rfl) ?_
            refine lv_bipush (v := 7) hx hb dX13_smalls_293 (by decide) ?_
            refine lv_ishl hx hb dX13_smalls_295 ?_
            refine lv_ior hx hb dX13_smalls_296 ?_
            refine lv_iload hx hb dX13_smalls_297 (lv_at hl 0 rfl) ?_
            obtain ⟨q13, s14, hq, h⟩ := nd_b2_e h
            have hPc : va_P (dC, dI) vwCl (dw_P a ac ()) H := nd_p0
            have hDc : va_D A (dw_P a ac ()) := nd_d0
            have hKc : va_K (dC, dI) vwCl (dk_P ac) s := nd_y0 hK
            have hFc : ∀ q, va_A (dw_P a ac ()) H.size q → A q := nd_r0 hS hA
            refine nd_cSi (As := [.int z9]) (rest := [.int (v1 ||| ((v2 : Int32) <<< ((7 : Int32) &&& 31))), .ref (a 0)]) (q := q13) (w' := dw_P a ac s14) ⟨hx, hb, hml, hown, hts⟩ (fun sz => dm_X13_shortBranch l hlt dC dI a ac n (z9) () hq sz) (cwS 1 hts gi_dm_X13_smalls_2 rfl rfl rfl (by decide +kernel) ⟨Nat.le_of_ble_eq_true rfl, Nat.le_of_ble_eq_true rfl⟩) hPc hDc hKc hS hA hN rfl hl.1 rfl (Nat.le_of_ble_eq_true rfl) dX13_smalls_299 (fun H locs hP1 hD1 hk1 hS => ?_)
            have hP := nd_n0 hP hk1
            refine lv_ior hx hb dX13_smalls_302 ?_
            obtain ⟨s17, hq, h⟩ := nd_b1_e h
            have hPc := hP
            have hDc := hD
            have hKc := hK
            have hFc := nd_rs hD hS hA
            refine nd_cVv (As := [.int ((v1 ||| ((v2 : Int32) <<< ((7 : Int32) &&& 31))) ||| q13)]) (rest := []) (w' := dw_X13 a ac s17) ⟨hx, hb, hml, hown, hts⟩ (fun sz => dm_X13_half l hlt dC dI a ac n (((v1 ||| ((v2 : Int32) <<< ((7 : Int32) &&& 31))) ||| q13)) s11 hq sz) (cwV 1 hts gi_dm_X13_smalls_3 rfl rfl rfl (by decide +kernel) ⟨Nat.le_of_ble_eq_true rfl, Nat.le_of_ble_eq_true rfl⟩) hPc hDc hKc hS hA hN (va_recv hKc hPc (ci := 14) (q0 := 0) rfl rfl) rfl hl.1 rfl (Nat.le_of_ble_eq_true rfl) dX13_smalls_303 (fun H locs hP1 hD1 hk1 hS => ?_)
            have hP := hP1
            have hD := hD1.weaken (fun k q _ h => hFc q.1 h)
            exact (db_X13_smalls_306 C K)  s17 _ _ _ h hP hD hS (lv_sub hl [] rfl)
          · have h := nd_pos h c5
            refine lv_aload_n hx hb dX13_smalls_246 rfl (lv_at hl 0 rfl) ?_
            refine lv_iload_n hx hb dX13_smalls_247 rfl (lv_at hl 2 rfl) ?_
            refine lv_iload_n hx hb dX13_smalls_248 rfl (lv_at hl 3 rfl) ?_
            refine lv_bipush (v := 7) hx hb dX13_smalls_249 (by decide) ?_
            refine lv_ishl hx hb dX13_smalls_251 ?_
            refine lv_ior hx hb dX13_smalls_252 ?_
            refine lv_aload_n hx hb dX13_smalls_253 rfl (lv_at hl 0 rfl) ?_
            obtain ⟨q19, s20, hq, h⟩ := nd_b2_e h
            have hPc := hP
            have hDc := hD
            have hKc := hK
            have hFc := nd_rs hD hS hA
            refine nd_cVi (As := []) (rest := [.int (v1 ||| ((v2 : Int32) <<< ((7 : Int32) &&& 31))), .ref (a 0)]) (q := q19) (w' := dw_X13 a ac s20) ⟨hx, hb, hml, hown, hts⟩ (fun sz => dm_X13_near8 l hlt dC dI a ac n  s0 hq sz) (cwV 0 hts gi_dm_X13_smalls_4 rfl rfl rfl (by decide +kernel) ⟨Nat.le_of_ble_eq_true rfl, Nat.le_of_ble_eq_true rfl⟩) hPc hDc hKc hS hA hN (va_recv hKc hPc (ci := 14) (q0 := 0) rfl rfl) rfl hl.1 rfl (Nat.le_of_ble_eq_true rfl) dX13_smalls_254 (fun H locs hP1 hD1 hk1 hS => ?_)
            have hP := hP1
            have hD := hD1.weaken (fun k q _ h => hFc q.1 h)
            refine lv_iconst (v := 2) hx hb dX13_smalls_257 (by decide) ?_
            refine lv_ishl hx hb dX13_smalls_258 ?_
            refine lv_ior hx hb dX13_smalls_259 ?_
            obtain ⟨s23, hq, h⟩ := nd_b1_e h
            have hPc := hP
            have hDc := hD
            have hKc := hK
            have hFc := nd_rs hD hS hA
            refine nd_cVv (As := [.int ((v1 ||| ((v2 : Int32) <<< ((7 : Int32) &&& 31))) ||| ((q19 : Int32) <<< ((2 : Int32) &&& 31)))]) (rest := []) (w' := dw_X13 a ac s23) ⟨hx, hb, hml, hown, hts⟩ (fun sz => dm_X13_half l hlt dC dI a ac n (((v1 ||| ((v2 : Int32) <<< ((7 : Int32) &&& 31))) ||| ((q19 : Int32) <<< ((2 : Int32) &&& 31)))) s20 hq sz) (cwV 1 hts gi_dm_X13_smalls_3 rfl rfl rfl (by decide +kernel) ⟨Nat.le_of_ble_eq_true rfl, Nat.le_of_ble_eq_true rfl⟩) hPc hDc hKc hS hA hN (va_recv hKc hPc (ci := 14) (q0 := 0) rfl rfl) rfl hl.1 rfl (Nat.le_of_ble_eq_true rfl) dX13_smalls_260 (fun H locs hP1 hD1 hk1 hS => ?_)
            have hP := hP1
            have hD := hD1.weaken (fun k q _ h => hFc q.1 h)
            refine lv_goto (tgt := 306) hx hb dX13_smalls_263 (by decide) ?_
            exact (db_X13_smalls_306 C K)  s23 _ _ _ h hP hD hS (lv_sub hl [] rfl)
        · have h := nd_pos h c4
          refine lv_aload_n hx hb dX13_smalls_214 rfl (lv_at hl 0 rfl) ?_
          refine lv_iload_n hx hb dX13_smalls_215 rfl (lv_at hl 2 rfl) ?_
          refine lv_iload_n hx hb dX13_smalls_216 rfl (lv_at hl 3 rfl) ?_
          refine lv_bipush (v := 7) hx hb dX13_smalls_217 (by decide) ?_
          refine lv_ishl hx hb dX13_smalls_219 ?_
          refine lv_ior hx hb dX13_smalls_220 ?_
          refine lv_aload_n hx hb dX13_smalls_221 rfl (lv_at hl 0 rfl) ?_
          refine lv_bipush (v := (-32)) hx hb dX13_smalls_222 (by decide) ?_
          refine lv_bipush (v := 31) hx hb dX13_smalls_224 (by decide) ?_
          refine lv_iconst (v := 1) hx hb dX13_smalls_226 (by decide) ?_
          obtain ⟨q25, s26, hq, h⟩ := nd_b2_e h
          have hPc := hP
          have hDc := hD
          have hKc := hK
          have hFc := nd_rs hD hS hA
          refine nd_cVi (As := [.int (-32), .int 31, .int 1]) (rest := [.int (v1 ||| ((v2 : Int32) <<< ((7 : Int32) &&& 31))), .ref (a 0)]) (q := q25) (w' := dw_X13 a ac s26) ⟨hx, hb, hml, hown, hts⟩ (fun sz => dm_X13_within l hlt dC dI a ac n ((-32)) (31) (1) s0 hq sz) (cwV 3 hts gi_dm_X13_smalls_5 rfl rfl rfl (by decide +kernel) ⟨Nat.le_of_ble_eq_true rfl, Nat.le_of_ble_eq_true rfl⟩) hPc hDc hKc hS hA hN (va_recv hKc hPc (ci := 14) (q0 := 0) rfl rfl) rfl hl.1 rfl (Nat.le_of_ble_eq_true rfl) dX13_smalls_227 (fun H locs hP1 hD1 hk1 hS => ?_)
          have hP := hP1
          have hD := hD1.weaken (fun k q _ h => hFc q.1 h)
          obtain ⟨q28, s29, hq, h⟩ := nd_b2_e h
          have hPc : va_P (dC, dI) vwCl (dw_P a ac ()) H := nd_p0
          have hDc : va_D A (dw_P a ac ()) := nd_d0
          have hKc : va_K (dC, dI) vwCl (dk_P ac) s := nd_y0 hK
          have hFc : ∀ q, va_A (dw_P a ac ()) H.size q → A q := nd_r0 hS hA
          refine nd_cSi (As := [.int q25]) (rest := [.int (v1 ||| ((v2 : Int32) <<< ((7 : Int32) &&& 31))), .ref (a 0)]) (q := q28) (w' := dw_P a ac s29) ⟨hx, hb, hml, hown, hts⟩ (fun sz => dm_X13_six l hlt dC dI a ac n (q25) () hq sz) (cwS 1 hts gi_dm_X13_smalls_6 rfl rfl rfl (by decide +kernel) ⟨Nat.le_of_ble_eq_true rfl, Nat.le_of_ble_eq_true rfl⟩) hPc hDc hKc hS hA hN rfl hl.1 rfl (Nat.le_of_ble_eq_true rfl) dX13_smalls_230 (fun H locs hP1 hD1 hk1 hS => ?_)
          have hP := nd_n0 hP hk1
          refine lv_ior hx hb dX13_smalls_233 ?_
          obtain ⟨s32, hq, h⟩ := nd_b1_e h
          have hPc := hP
          have hDc := hD
          have hKc := hK
          have hFc := nd_rs hD hS hA
          refine nd_cVv (As := [.int ((v1 ||| ((v2 : Int32) <<< ((7 : Int32) &&& 31))) ||| q28)]) (rest := []) (w' := dw_X13 a ac s32) ⟨hx, hb, hml, hown, hts⟩ (fun sz => dm_X13_half l hlt dC dI a ac n (((v1 ||| ((v2 : Int32) <<< ((7 : Int32) &&& 31))) ||| q28)) s26 hq sz) (cwV 1 hts gi_dm_X13_smalls_3 rfl rfl rfl (by decide +kernel) ⟨Nat.le_of_ble_eq_true rfl, Nat.le_of_ble_eq_true rfl⟩) hPc hDc hKc hS hA hN (va_recv hKc hPc (ci := 14) (q0 := 0) rfl rfl) rfl hl.1 rfl (Nat.le_of_ble_eq_true rfl) dX13_smalls_234 (fun H locs hP1 hD1 hk1 hS => ?_)
          have hP := hP1
          have hD := hD1.weaken (fun k q _ h => hFc q.1 h)
          refine lv_goto (tgt := 306) hx hb dX13_smalls_237 (by decide) ?_
          exact (db_X13_smalls_306 C K)  s32 _ _ _ h hP hD hS (lv_sub hl [] rfl)
      · have h := nd_pos h c3
        refine lv_aload_n hx hb dX13_smalls_181 rfl (lv_at hl 0 rfl) ?_
        refine lv_iload_n hx hb dX13_smalls_182 rfl (lv_at hl 2 rfl) ?_
        refine lv_iload_n hx hb dX13_smalls_183 rfl (lv_at hl 3 rfl) ?_
        refine lv_bipush (v := 7) hx hb dX13_smalls_184 (by decide) ?_
        refine lv_ishl hx hb dX13_smalls_186 ?_
        refine lv_ior hx hb dX13_smalls_187 ?_
        refine lv_aload_n hx hb dX13_smalls_188 rfl (lv_at hl 0 rfl) ?_
        refine lv_iconst (v := 0) hx hb dX13_smalls_189 (by decide) ?_
        refine lv_bipush (v := 31) hx hb dX13_smalls_190 (by decide) ?_
        refine lv_iconst (v := 1) hx hb dX13_smalls_192 (by decide) ?_
        obtain ⟨q34, s35, hq, h⟩ := nd_b2_e h
        have hPc := hP
        have hDc := hD
        have hKc := hK
        have hFc := nd_rs hD hS hA
        refine nd_cVi (As := [.int 0, .int 31, .int 1]) (rest := [.int (v1 ||| ((v2 : Int32) <<< ((7 : Int32) &&& 31))), .ref (a 0)]) (q := q34) (w' := dw_X13 a ac s35) ⟨hx, hb, hml, hown, hts⟩ (fun sz => dm_X13_within l hlt dC dI a ac n (0) (31) (1) s0 hq sz) (cwV 3 hts gi_dm_X13_smalls_5 rfl rfl rfl (by decide +kernel) ⟨Nat.le_of_ble_eq_true rfl, Nat.le_of_ble_eq_true rfl⟩) hPc hDc hKc hS hA hN (va_recv hKc hPc (ci := 14) (q0 := 0) rfl rfl) rfl hl.1 rfl (Nat.le_of_ble_eq_true rfl) dX13_smalls_193 (fun H locs hP1 hD1 hk1 hS => ?_)
        have hP := hP1
        have hD := hD1.weaken (fun k q _ h => hFc q.1 h)
        refine lv_bipush (v := 31) hx hb dX13_smalls_196 (by decide) ?_
        refine lv_iand hx hb dX13_smalls_198 ?_
        refine lv_iconst (v := 2) hx hb dX13_smalls_199 (by decide) ?_
        refine lv_ishl hx hb dX13_smalls_200 ?_
        refine lv_ior hx hb dX13_smalls_201 ?_
        obtain ⟨s38, hq, h⟩ := nd_b1_e h
        have hPc := hP
        have hDc := hD
        have hKc := hK
        have hFc := nd_rs hD hS hA
        refine nd_cVv (As := [.int ((v1 ||| ((v2 : Int32) <<< ((7 : Int32) &&& 31))) ||| (((q34 &&& 31) : Int32) <<< ((2 : Int32) &&& 31)))]) (rest := []) (w' := dw_X13 a ac s38) ⟨hx, hb, hml, hown, hts⟩ (fun sz => dm_X13_half l hlt dC dI a ac n (((v1 ||| ((v2 : Int32) <<< ((7 : Int32) &&& 31))) ||| (((q34 &&& 31) : Int32) <<< ((2 : Int32) &&& 31)))) s35 hq sz) (cwV 1 hts gi_dm_X13_smalls_3 rfl rfl rfl (by decide +kernel) ⟨Nat.le_of_ble_eq_true rfl, Nat.le_of_ble_eq_true rfl⟩) hPc hDc hKc hS hA hN (va_recv hKc hPc (ci := 14) (q0 := 0) rfl rfl) rfl hl.1 rfl (Nat.le_of_ble_eq_true rfl) dX13_smalls_202 (fun H locs hP1 hD1 hk1 hS => ?_)
        have hP := hP1
        have hD := hD1.weaken (fun k q _ h => hFc q.1 h)
        refine lv_goto (tgt := 306) hx hb dX13_smalls_205 (by decide) ?_
        exact (db_X13_smalls_306 C K)  s38 _ _ _ h hP hD hS (lv_sub hl [] rfl)
    · have h := nd_neg h c2
      refine lv_aload_n hx hb dX13_smalls_76 rfl (lv_at hl 0 rfl) ?_
      refine lv_iconst (v := 0) hx hb dX13_smalls_77 (by decide) ?_
      refine lv_bipush (v := 124) hx hb dX13_smalls_78 (by decide) ?_
      refine lv_iconst (v := 4) hx hb dX13_smalls_80 (by decide) ?_
      obtain ⟨q40, s41, hq, h⟩ := nd_b2_e h
      have hPc := hP
      have hDc := hD
      have hKc := hK
      have hFc := nd_rs hD hS hA
      refine nd_cVi (As := [.int 0, .int 124, .int 4]) (rest := []) (q := q40) (w' := dw_X13 a ac s41) ⟨hx, hb, hml, hown, hts⟩ (fun sz => dm_X13_within l hlt dC dI a ac n (0) (124) (4) s0 hq sz) (cwV 3 hts gi_dm_X13_smalls_5 rfl rfl rfl (by decide +kernel) ⟨Nat.le_of_ble_eq_true rfl, Nat.le_of_ble_eq_true rfl⟩) hPc hDc hKc hS hA hN (va_recv hKc hPc (ci := 14) (q0 := 0) rfl rfl) rfl hl.1 rfl (Nat.le_of_ble_eq_true rfl) dX13_smalls_81 (fun H locs hP1 hD1 hk1 hS => ?_)
      have hP := hP1
      have hD := hD1.weaken (fun k q _ h => hFc q.1 h)
      refine lv_istore (lv' := [(4, .int q40), (0, .ref (a 0)), (1, .int v0), (2, .int v1), (3, .int v2)]) hx hb dX13_smalls_84 hl (by decide) rfl (fun ls hl => ?_)
      refine lv_aload_n hx hb dX13_smalls_86 rfl (lv_at hl 1 rfl) ?_
      refine va_get (D := (dC, dI)) (ci := 14) (v := .int (sI s41 12)) (C := RX13) (T := TX13) (N := 37) hx hb hts hi_dm_X13_smalls_X13 hown hK hP 0 rfl rfl 21 (by decide) (hts (.fieldLink RX13 410 "TimeMachineModel$Assembler" "fault" "I") (List.mem_of_getElem? (i := 22) rfl)) (fun _ h9 => h9) rfl dX13_smalls_87 ?_
      refine lv_if_ne (tgt := 109) hx hb dX13_smalls_90 (by decide) (fun c43 => ?_) (fun c43 => ?_)
      · have h := nd_neg h c43
        exact (db_X13_smalls_109 C K) (v1) (v2) (q40) s41 _ _ _ h hP hD hS (lv_sub hl [1, 3, 4, 0] rfl)
      · have h := nd_pos h c43
        refine lv_aload_n hx hb dX13_smalls_93 rfl (lv_at hl 1 rfl) ?_
        refine lv_bipush (v := 40) hx hb dX13_smalls_94 (by decide) ?_
        obtain ⟨q60, s61, hq, h⟩ := nd_b2_e h
        have hPc := hP
        have hDc := hD
        have hKc := hK
        have hFc := nd_rs hD hS hA
        refine nd_cVi (As := [.int 40]) (rest := []) (q := q60) (w' := dw_X13 a ac s61) ⟨hx, hb, hml, hown, hts⟩ (fun sz => dm_X13_needs l hlt dC dI a ac n (40) s41 hq sz) (cwV 1 hts gi_dm_X13_smalls_8 rfl rfl rfl (by decide +kernel) ⟨Nat.le_of_ble_eq_true rfl, Nat.le_of_ble_eq_true rfl⟩) hPc hDc hKc hS hA hN (va_recv hKc hPc (ci := 14) (q0 := 0) rfl rfl) rfl hl.1 rfl (Nat.le_of_ble_eq_true rfl) dX13_smalls_96 (fun H locs hP1 hD1 hk1 hS => ?_)
        have hP := hP1
        have hD := hD1.weaken (fun k q _ h => hFc q.1 h)
        refine lv_if_eq (tgt := 109) hx hb dX13_smalls_99 (by decide) (fun c63 => ?_) (fun c63 => ?_)
        · have h := nd_pos h c63
          exact (db_X13_smalls_109 C K) (v1) (v2) (q40) s61 _ _ _ h hP hD hS (lv_sub hl [1, 3, 4, 0] rfl)
        · have h := nd_neg h c63
          refine lv_aload_n hx hb dX13_smalls_102 rfl (lv_at hl 1 rfl) ?_
          obtain ⟨q64, s65, hq, h⟩ := nd_b2_e h
          have hPc := hP
          have hDc := hD
          have hKc := hK
          have hFc := nd_rs hD hS hA
          refine nd_cVi (As := []) (rest := []) (q := q64) (w' := dw_X13 a ac s65) ⟨hx, hb, hml, hown, hts⟩ (fun sz => dm_X13_near8 l hlt dC dI a ac n  s61 hq sz) (cwV 0 hts gi_dm_X13_smalls_4 rfl rfl rfl (by decide +kernel) ⟨Nat.le_of_ble_eq_true rfl, Nat.le_of_ble_eq_true rfl⟩) hPc hDc hKc hS hA hN (va_recv hKc hPc (ci := 14) (q0 := 0) rfl rfl) rfl hl.1 rfl (Nat.le_of_ble_eq_true rfl) dX13_smalls_103 (fun H locs hP1 hD1 hk1 hS => ?_)
          have hP := hP1
          have hD := hD1.weaken (fun k q _ h => hFc q.1 h)
          refine lv_goto (tgt := 110) hx hb dX13_smalls_106 (by decide) ?_
          exact (db_X13_smalls_110 C K) (v1) (v2) (q40) (q64) s65 _ _ _ h hP hD hS (lv_sub hl [1, 3, 4, 0] rfl)
  · have h := nd_pos h c1
    refine lv_aload_n hx hb dX13_smalls_6 rfl (lv_at hl 0 rfl) ?_
    refine lv_iconst (v := 4) hx hb dX13_smalls_7 (by decide) ?_
    refine lv_sipush (v := 1020) hx hb dX13_smalls_8 (by decide) ?_
    refine lv_iconst (v := 4) hx hb dX13_smalls_11 (by decide) ?_
    obtain ⟨q67, s68, hq, h⟩ := nd_b2_e h
    have hPc := hP
    have hDc := hD
    have hKc := hK
    have hFc := nd_rs hD hS hA
    refine nd_cVi (As := [.int 4, .int 1020, .int 4]) (rest := []) (q := q67) (w' := dw_X13 a ac s68) ⟨hx, hb, hml, hown, hts⟩ (fun sz => dm_X13_within l hlt dC dI a ac n (4) (1020) (4) s0 hq sz) (cwV 3 hts gi_dm_X13_smalls_5 rfl rfl rfl (by decide +kernel) ⟨Nat.le_of_ble_eq_true rfl, Nat.le_of_ble_eq_true rfl⟩) hPc hDc hKc hS hA hN (va_recv hKc hPc (ci := 14) (q0 := 0) rfl rfl) rfl hl.1 rfl (Nat.le_of_ble_eq_true rfl) dX13_smalls_12 (fun H locs hP1 hD1 hk1 hS => ?_)
    have hP := hP1
    have hD := hD1.weaken (fun k q _ h => hFc q.1 h)
    refine lv_istore (lv' := [(4, .int q67), (0, .ref (a 0)), (1, .int v0), (2, .int v1), (3, .int v2)]) hx hb dX13_smalls_15 hl (by decide) rfl (fun ls hl => ?_)
    refine lv_aload_n hx hb dX13_smalls_17 rfl (lv_at hl 1 rfl) ?_
    refine lv_iload_n hx hb dX13_smalls_18 rfl (lv_at hl 3 rfl) ?_
    refine lv_iload hx hb dX13_smalls_19 (lv_at hl 0 rfl) ?_
    refine lv_iconst (v := 5) hx hb dX13_smalls_21 (by decide) ?_
    refine lv_iconst (v := 4) hx hb dX13_smalls_22 (by decide) ?_
    refine lv_bipush (v := 11) hx hb dX13_smalls_23 (by decide) ?_
    obtain ⟨q70, s71, hq, h⟩ := nd_b2_e h
    have hPc : va_P (dC, dI) vwCl (dw_P a ac ()) H := nd_p0
    have hDc : va_D A (dw_P a ac ()) := nd_d0
    have hKc : va_K (dC, dI) vwCl (dk_P ac) s := nd_y0 hK
    have hFc : ∀ q, va_A (dw_P a ac ()) H.size q → A q := nd_r0 hS hA
    refine nd_cSi (As := [.int q67, .int 5, .int 4, .int 11]) (rest := [.int v1, .ref (a 0)]) (q := q70) (w' := dw_P a ac s71) ⟨hx, hb, hml, hown, hts⟩ (fun sz => dm_X13_bits l hlt dC dI a ac n (q67) (5) (4) (11) () hq sz) (cwS 4 hts gi_dm_X13_smalls_7 rfl rfl rfl (by decide +kernel) ⟨Nat.le_of_ble_eq_true rfl, Nat.le_of_ble_eq_true rfl⟩) hPc hDc hKc hS hA hN rfl hl.1 rfl (Nat.le_of_ble_eq_true rfl) dX13_smalls_25 (fun H locs hP1 hD1 hk1 hS => ?_)
    have hP := nd_n0 hP hk1
    refine lv_ior hx hb dX13_smalls_28 ?_
    refine lv_iload hx hb dX13_smalls_29 (lv_at hl 0 rfl) ?_
    refine lv_bipush (v := 9) hx hb dX13_smalls_31 (by decide) ?_
    refine lv_bipush (v := 6) hx hb dX13_smalls_33 (by decide) ?_
    refine lv_bipush (v := 7) hx hb dX13_smalls_35 (by decide) ?_
    obtain ⟨q73, s74, hq, h⟩ := nd_b2_e h
    have hPc : va_P (dC, dI) vwCl (dw_P a ac ()) H := nd_p0
    have hDc : va_D A (dw_P a ac ()) := nd_d0
    have hKc : va_K (dC, dI) vwCl (dk_P ac) s := nd_y0 hK
    have hFc : ∀ q, va_A (dw_P a ac ()) H.size q → A q := nd_r0 hS hA
    refine nd_cSi (As := [.int q67, .int 9, .int 6, .int 7]) (rest := [.int (v1 ||| q70), .ref (a 0)]) (q := q73) (w' := dw_P a ac s74) ⟨hx, hb, hml, hown, hts⟩ (fun sz => dm_X13_bits l hlt dC dI a ac n (q67) (9) (6) (7) () hq sz) (cwS 4 hts gi_dm_X13_smalls_7 rfl rfl rfl (by decide +kernel) ⟨Nat.le_of_ble_eq_true rfl, Nat.le_of_ble_eq_true rfl⟩) hPc hDc hKc hS hA hN rfl hl.1 rfl (Nat.le_of_ble_eq_true rfl) dX13_smalls_37 (fun H locs hP1 hD1 hk1 hS => ?_)
    have hP := nd_n0 hP hk1
    refine lv_ior hx hb dX13_smalls_40 ?_
    refine lv_iload hx hb dX13_smalls_41 (lv_at hl 0 rfl) ?_
    refine lv_iconst (v := 2) hx hb dX13_smalls_43 (by decide) ?_
    refine lv_iconst (v := 2) hx hb dX13_smalls_44 (by decide) ?_
    refine lv_bipush (v := 6) hx hb dX13_smalls_45 (by decide) ?_
    obtain ⟨q76, s77, hq, h⟩ := nd_b2_e h
    have hPc : va_P (dC, dI) vwCl (dw_P a ac ()) H := nd_p0
    have hDc : va_D A (dw_P a ac ()) := nd_d0
    have hKc : va_K (dC, dI) vwCl (dk_P ac) s := nd_y0 hK
    have hFc : ∀ q, va_A (dw_P a ac ()) H.size q → A q := nd_r0 hS hA
    refine nd_cSi (As := [.int q67, .int 2, .int 2, .int 6]) (rest := [.int ((v1 ||| q70) ||| q73), .ref (a 0)]) (q := q76) (w' := dw_P a ac s77) ⟨hx, hb, hml, hown, hts⟩ (fun sz => dm_X13_bits l hlt dC dI a ac n (q67) (2) (2) (6) () hq sz) (cwS 4 hts gi_dm_X13_smalls_7 rfl rfl rfl (by decide +kernel) ⟨Nat.le_of_ble_eq_true rfl, Nat.le_of_ble_eq_true rfl⟩) hPc hDc hKc hS hA hN rfl hl.1 rfl (Nat.le_of_ble_eq_true rfl) dX13_smalls_47 (fun H locs hP1 hD1 hk1 hS => ?_)
    have hP := nd_n0 hP hk1
    refine lv_ior hx hb dX13_smalls_50 ?_
    refine lv_iload hx hb dX13_smalls_51 (lv_at hl 0 rfl) ?_
    refine lv_iconst (v := 3) hx hb dX13_smalls_53 (by decide) ?_
    refine lv_iconst (v := 3) hx hb dX13_smalls_54 (by decide) ?_
    refine lv_iconst (v := 5) hx hb dX13_smalls_55 (by decide) ?_
    obtain ⟨q79, s80, hq, h⟩ := nd_b2_e h
    have hPc : va_P (dC, dI) vwCl (dw_P a ac ()) H := nd_p0
    have hDc : va_D A (dw_P a ac ()) := nd_d0
    have hKc : va_K (dC, dI) vwCl (dk_P ac) s := nd_y0 hK
    have hFc : ∀ q, va_A (dw_P a ac ()) H.size q → A q := nd_r0 hS hA
    refine nd_cSi (As := [.int q67, .int 3, .int 3, .int 5]) (rest := [.int (((v1 ||| q70) ||| q73) ||| q76), .ref (a 0)]) (q := q79) (w' := dw_P a ac s80) ⟨hx, hb, hml, hown, hts⟩ (fun sz => dm_X13_bits l hlt dC dI a ac n (q67) (3) (3) (5) () hq sz) (cwS 4 hts gi_dm_X13_smalls_7 rfl rfl rfl (by decide +kernel) ⟨Nat.le_of_ble_eq_true rfl, Nat.le_of_ble_eq_true rfl⟩) hPc hDc hKc hS hA hN rfl hl.1 rfl (Nat.le_of_ble_eq_true rfl) dX13_smalls_56 (fun H locs hP1 hD1 hk1 hS => ?_)
    have hP := nd_n0 hP hk1
    refine lv_ior hx hb dX13_smalls_59 ?_
    refine lv_iload_n hx hb dX13_smalls_60 rfl (lv_at hl 4 rfl) ?_
    refine lv_iconst (v := 2) hx hb dX13_smalls_61 (by decide) ?_
    refine lv_ishl hx hb dX13_smalls_62 ?_
    refine lv_ior hx hb dX13_smalls_63 ?_
    obtain ⟨s83, hq, h⟩ := nd_b1_e h
    have hPc := hP
    have hDc := hD
    have hKc := hK
    have hFc := nd_rs hD hS hA
    refine nd_cVv (As := [.int (((((v1 ||| q70) ||| q73) ||| q76) ||| q79) ||| ((v2 : Int32) <<< ((2 : Int32) &&& 31)))]) (rest := []) (w' := dw_X13 a ac s83) ⟨hx, hb, hml, hown, hts⟩ (fun sz => dm_X13_half l hlt dC dI a ac n ((((((v1 ||| q70) ||| q73) ||| q76) ||| q79) ||| ((v2 : Int32) <<< ((2 : Int32) &&& 31)))) s68 hq sz) (cwV 1 hts gi_dm_X13_smalls_3 rfl rfl rfl (by decide +kernel) ⟨Nat.le_of_ble_eq_true rfl, Nat.le_of_ble_eq_true rfl⟩) hPc hDc hKc hS hA hN (va_recv hKc hPc (ci := 14) (q0 := 0) rfl rfl) rfl hl.1 rfl (Nat.le_of_ble_eq_true rfl) dX13_smalls_64 (fun H locs hP1 hD1 hk1 hS => ?_)
    have hP := hP1
    have hD := hD1.weaken (fun k q _ h => hFc q.1 h)
    refine lv_goto (tgt := 306) hx hb dX13_smalls_67 (by decide) ?_
    exact (db_X13_smalls_306 C K)  s83 _ _ _ h hP hD hS (lv_sub hl [] rfl)
