set_option maxHeartbeats 40000000 in
set_option maxRecDepth 100000 in
theorem dm_X2_push (l : Launch) (hlt : l.stackTraces = false) (dC : Nat → ClassId) (dI : Nat → Nat → Nat) (a : Nat → Nat) (ac : Nat → ClassId) (n : Nat) (v0 : Int32) (v1 : Int32) (s0 : St) {r : St} (h : df_X2_push n v0 v1 s0 = some r) (sz : Nat) : Met l yX2_push ow_dm_X2_push ({ frames := 0, cells := 0, slots := 0, locals := 0 }) (va_Pc [.ref (a 0), .int v0, .int v1] (fun U => U.heap.size = sz ∧ va_P (dC, dI) vwCl (dw_X2c a ac s0) U.heap ∧ va_K (dC, dI) vwCl (dk_X2c ac) U ∧ va_D (fun _ => True) (dw_X2c a ac s0) ∧ nv_E (va_A (dw_X2c a ac s0) sz) U)) (va_Qv (fun _ => True) (fun (_ : Unit) t => va_P (dC, dI) vwCl (dw_X2c a ac r) t.heap ∧ va_K (dC, dI) vwCl (dk_X2c ac) t ∧ va_D (va_A (dw_X2c a ac s0) sz) (dw_X2c a ac r)) (va_A (dw_X2c a ac s0) sz)) 0 0 (va_A (dw_X2c a ac s0) sz) := by
  refine Met.ofW (cc := cX2_push) (maxL := 3) (ret := none) (by decide) rfl ?_
  intro p e s m args below meth c s₁ B hml hv
  obtain ⟨rfl, hsz, hP, hK, hD0, hN⟩ := hv
  have hx := B.exec
  have hb := B.bytes
  have hr := B.returns
  have hts := atoms_spec (ws := ow_dm_X2_push) B.pre
  have hown : s.vm.findClass RX2 = some m.cls := findClass_of_methodNamed B.named
  have hlocks := B.notSynchronized
  subst hsz
  have hD := hD0.self (sz := s.heap.size)
  generalize hAe : va_A (dw_X2c a ac s0) s.heap.size = A at hD hN ⊢
  have hA : ∀ q : Nat, s.heap.size ≤ q → A q := fun q h => by rw [← hAe]; exact Or.inr h
  have hl := lv_entry ([.ref (a 0), .int v0, .int v1]) (n := 3) (Nat.le_of_ble_eq_true rfl)
  rw [lg_entry_eq]
  generalize (lg_sl ([.ref (a 0), .int v0, .int v1]) ++ List.replicate (3 - (lg_sl ([.ref (a 0), .int v0, .int v1])).length) Slot.unset).toArray = ls at hl ⊢
  have hl : lv_has ls 3 [(0, .ref (a 0)), (1, .int v0), (2, .int v1)] := hl
  exact db_X2_push_0 (dC := dC) (dI := dI) (a := a) (ac := ac) (n := n) (r := r) ⟨hlt, hx, hb, hml, hown, hts, hN, hA, hK⟩ (fun pc τ H locs ls d er hP hD hS => by subst er; exact W.vret hx hb hr (fun t ht hW => ⟨⟨(), rfl, trivial, by rw [ht]; exact hP, va_K.moved hW.alike hK, hD⟩, hS.F ht⟩) hS.2.2 d) v0 v1 s0 _ _ _ h hP hD va_S.rf (lv_sub hl [0, 1, 2] rfl)
def ow_dm_X2_opens : List Cond := .code yX2_opens cX2_opens 3 none :: ([.methodLink RX2 148 yX2_part, .instanceMethod yX2_part, .selects RX2 yX2_part yX2_part, .initialized RX2, .methodLink RX2 151 yX2_waiting, .instanceMethod yX2_waiting, .selects RX2 yX2_waiting yX2_waiting, .methodLink RX2 154 yX2_push, .instanceMethod yX2_push, .selects RX2 yX2_push yX2_push, .methodLink RX2 84 yX2_blame, .instanceMethod yX2_blame, .selects RX2 yX2_blame yX2_blame] ++ (ow_dm_X2_part ++ (ow_dm_X2_waiting ++ (ow_dm_X2_push ++ (ow_dm_X2_blame ++ [])))))
theorem gd_dm_X2_opens : ∀ w ∈ ow_dm_X2_opens, (w.onTables && w.keeps) = true ∨ ∃ ty, w = Cond.arrayClass ty := List.forall_mem_cons.mpr ⟨good_of_word rfl, List.forall_mem_append.mpr ⟨fun w h => good_of_word (List.all_eq_true.mp (by decide +kernel) w h), List.forall_mem_append.mpr ⟨gd_dm_X2_part, List.forall_mem_append.mpr ⟨gd_dm_X2_waiting, List.forall_mem_append.mpr ⟨gd_dm_X2_push, List.forall_mem_append.mpr ⟨gd_dm_X2_blame, fun _ h => nomatch h⟩⟩⟩⟩⟩⟩
theorem gi_dm_X2_opens_0 : GoodIn ow_dm_X2_opens (wsV RX2 148 RX2 yX2_part ow_dm_X2_part) := goodIn_app (goodIn_of _ (by decide +kernel)) (fun w h => ⟨List.mem_cons_of_mem _ (List.mem_append_right _ (List.mem_append_left _ h)), gd_dm_X2_part w h⟩)
theorem gi_dm_X2_opens_1 : GoodIn ow_dm_X2_opens (wsV RX2 151 RX2 yX2_waiting ow_dm_X2_waiting) := goodIn_app (goodIn_of _ (by decide +kernel)) (fun w h => ⟨List.mem_cons_of_mem _ (List.mem_append_right _ (List.mem_append_right _ (List.mem_append_left _ h))), gd_dm_X2_waiting w h⟩)
theorem gi_dm_X2_opens_2 : GoodIn ow_dm_X2_opens (wsV RX2 154 RX2 yX2_push ow_dm_X2_push) := goodIn_app (goodIn_of _ (by decide +kernel)) (fun w h => ⟨List.mem_cons_of_mem _ (List.mem_append_right _ (List.mem_append_right _ (List.mem_append_right _ (List.mem_append_left _ h)))), gd_dm_X2_push w h⟩)
theorem gi_dm_X2_opens_3 : GoodIn ow_dm_X2_opens (wsV RX2 84 RX2 yX2_blame ow_dm_X2_blame) := goodIn_app (goodIn_of _ (by decide +kernel)) (fun w h => ⟨List.mem_cons_of_mem _ (List.mem_append_right _ (List.mem_append_right _ (List.mem_append_right _ (List.mem_append_right _ (List.mem_append_left _ h))))), gd_dm_X2_blame w h⟩)
def dj_X2_opens_22 (p : Program) (l : Launch) (e : Env) (s : State) (m : MethodId) (args : Array Value) (below : List Frame) (meth : Method) (c : Code) (Q : State → Prop) (A : Nat → Prop) (dC : Nat → ClassId) (dI : Nat → Nat → Nat) (a : Nat → Nat) (ac : Nat → ClassId) (g : Int32 → Int32 → (St) → Option (St)) (r : St) : Prop := ∀ (x1 : Int32) (x2 : Int32) (s0 : St) (H : Heap) (locs : List Loc) (ls : Array Slot), g x1 x2 s0 = some r → va_P (dC, dI) vwCl (dw_X2c a ac s0) H → va_D A (dw_X2c a ac s0) → va_S A s.heap H locs → lv_has ls 3 [(0, .ref (a 0)), (1, .int x1), (2, .int x2)] → W p l e (headSpec ow_dm_X2_opens ({ frames := 2, cells := 0, slots := 0, locals := 41 })).room s m args below meth c H locs 0 0 Q (F0 m 22 ls [])
def dj_X2_opens_0 (p : Program) (l : Launch) (e : Env) (s : State) (m : MethodId) (args : Array Value) (below : List Frame) (meth : Method) (c : Code) (Q : State → Prop) (A : Nat → Prop) (dC : Nat → ClassId) (dI : Nat → Nat → Nat) (a : Nat → Nat) (ac : Nat → ClassId) (g : Int32 → Int32 → (St) → Option (St)) (r : St) : Prop := ∀ (v0 : Int32) (v1 : Int32) (s0 : St) (H : Heap) (locs : List Loc) (ls : Array Slot), g v0 v1 s0 = some r → va_P (dC, dI) vwCl (dw_X2c a ac s0) H → va_D A (dw_X2c a ac s0) → va_S A s.heap H locs → lv_has ls 3 [(0, .ref (a 0)), (1, .int v0), (2, .int v1)] → W p l e (headSpec ow_dm_X2_opens ({ frames := 2, cells := 0, slots := 0, locals := 41 })).room s m args below meth c H locs 0 0 Q (F0 m 0 ls [])
set_option maxHeartbeats 40000000 in
set_option maxRecDepth 100000 in
theorem db_X2_opens_22 {p : Program} {l : Launch} {e : Env} {s : State} {m : MethodId} {args : Array Value} {below : List Frame} {meth : Method} {c : Code} {Q : State → Prop} {A : Nat → Prop} {dC : Nat → ClassId} {dI : Nat → Nat → Nat} {a : Nat → Nat} {ac : Nat → ClassId} {n : Nat} {r : St} (C : nd_C p l s m args c A (dC, dI) cX2_opens 3 RX2 ow_dm_X2_opens (dk_X2c ac)) (K : nd_Kv p l e (headSpec ow_dm_X2_opens ({ frames := 2, cells := 0, slots := 0, locals := 41 })).room s m args below meth c Q A (dC, dI) cX2_opens (St) (dw_X2c a ac) r) : dj_X2_opens_22 p l e s m args below meth c Q A dC dI a ac (df_X2_opens_22 n) r := by
  obtain ⟨hlt, hx, hb, hml, hown, hts, hN, hA, hK⟩ := id C
  intro x1 x2 s0 H locs ls h hP hD hS hl
  unfold df_X2_opens_22 at h
  refine lv_aload_n hx hb dX2_opens_22 rfl (lv_at hl 0 rfl) ?_
  refine lv_iload_n hx hb dX2_opens_23 rfl (lv_at hl 1 rfl) ?_
  refine lv_iload_n hx hb dX2_opens_24 rfl (lv_at hl 2 rfl) ?_
  obtain ⟨s9, hq, h⟩ := nd_b1_e h
  have hPc := hP
  have hDc := hD
  have hKc := hK
  have hFc := nd_rs hD hS hA
  refine nd_cVv (As := [.int x1, .int x2]) (rest := []) (w' := dw_X2c a ac s9) ⟨hx, hb, hml, hown, hts⟩ (fun sz => dm_X2_push l hlt dC dI a ac n (x1) (x2) s0 hq sz) (cwV 2 hts gi_dm_X2_opens_2 rfl rfl rfl (by decide +kernel) ⟨Nat.le_of_ble_eq_true rfl, Nat.le_of_ble_eq_true rfl⟩) hPc hDc hKc hS hA hN (va_recv hKc hPc (ci := 3) (q0 := 0) rfl rfl) rfl hl.1 rfl (Nat.le_of_ble_eq_true rfl) dX2_opens_25 (fun H locs hP1 hD1 hk1 hS => ?_)
  have hP := hP1
  have hD := hD1.weaken (fun k q _ h => hFc q.1 h)
  exact K _ _ _ _ _ dX2_opens_28 (Option.some.inj h).symm hP hD hS
set_option maxHeartbeats 40000000 in
set_option maxRecDepth 100000 in
theorem db_X2_opens_0 {p : Program} {l : Launch} {e : Env} {s : State} {m : MethodId} {args : Array Value} {below : List Frame} {meth : Method} {c : Code} {Q : State → Prop} {A : Nat → Prop} {dC : Nat → ClassId} {dI : Nat → Nat → Nat} {a : Nat → Nat} {ac : Nat → ClassId} {n : Nat} {r : St} (C : nd_C p l s m args c A (dC, dI) cX2_opens 3 RX2 ow_dm_X2_opens (dk_X2c ac)) (K : nd_Kv p l e (headSpec ow_dm_X2_opens ({ frames := 2, cells := 0, slots := 0, locals := 41 })).room s m args below meth c Q A (dC, dI) cX2_opens (St) (dw_X2c a ac) r) : dj_X2_opens_0 p l e s m args below meth c Q A dC dI a ac (df_X2_opens_0 n) r := by
  obtain ⟨hlt, hx, hb, hml, hown, hts, hN, hA, hK⟩ := id C
  intro v0 v1 s0 H locs ls h hP hD hS hl
  unfold df_X2_opens_0 at h
  refine lv_aload_n hx hb dX2_opens_0 rfl (lv_at hl 0 rfl) ?_
  obtain ⟨s2, hq, h⟩ := nd_b1_e h
  have hPc := hP
  have hDc := hD
  have hKc := hK
  have hFc := nd_rs hD hS hA
  refine nd_cVv (As := []) (rest := []) (w' := dw_X2c a ac s2) ⟨hx, hb, hml, hown, hts⟩ (fun sz => dm_X2_part l hlt dC dI a ac n  s0 hq sz) (cwV 0 hts gi_dm_X2_opens_0 rfl rfl rfl (by decide +kernel) ⟨Nat.le_of_ble_eq_true rfl, Nat.le_of_ble_eq_true rfl⟩) hPc hDc hKc hS hA hN (va_recv hKc hPc (ci := 3) (q0 := 0) rfl rfl) rfl hl.1 rfl (Nat.le_of_ble_eq_true rfl) dX2_opens_1 (fun H locs hP1 hD1 hk1 hS => ?_)
  have hP := hP1
  have hD := hD1.weaken (fun k q _ h => hFc q.1 h)
  refine lv_aload_n hx hb dX2_opens_4 rfl (lv_at hl 0 rfl) ?_
  refine lv_bipush (v := 22) hx hb dX2_opens_5 (by decide) ?_
  refine lv_bipush (v := 27) hx hb dX2_opens_7 (by decide) ?_
  obtain ⟨q4, s5, hq, h⟩ := nd_b2_e h
  have hPc := hP
  have hDc := hD
  have hKc := hK
  have hFc := nd_rs hD hS hA
  refine nd_cVi (As := [.int 22, .int 27]) (rest := []) (q := q4) (w' := dw_X2c a ac s5) ⟨hx, hb, hml, hown, hts⟩ (fun sz => dm_X2_waiting l hlt dC dI a ac n (22) (27) s2 hq sz) (cwV 2 hts gi_dm_X2_opens_1 rfl rfl rfl (by decide +kernel) ⟨Nat.le_of_ble_eq_true rfl, Nat.le_of_ble_eq_true rfl⟩) hPc hDc hKc hS hA hN (va_recv hKc hPc (ci := 3) (q0 := 0) rfl rfl) rfl hl.1 rfl (Nat.le_of_ble_eq_true rfl) dX2_opens_9 (fun H locs hP1 hD1 hk1 hS => ?_)
  have hP := hP1
  have hD := hD1.weaken (fun k q _ h => hFc q.1 h)
  refine lv_bipush (v := 8) hx hb dX2_opens_12 (by decide) ?_
  refine lv_icmp_lt (tgt := 22) hx hb dX2_opens_14 (by decide) (fun c7 => ?_) (fun c7 => ?_)
  · have h := nd_pos h c7
    exact (db_X2_opens_22 C K) (v0) (v1) s5 _ _ _ h hP hD hS (lv_sub hl [0, 1, 2] rfl)
  · have h := nd_neg h c7
    refine lv_aload_n hx hb dX2_opens_17 rfl (lv_at hl 0 rfl) ?_
    refine lv_iconst (v := 4) hx hb dX2_opens_18 (by decide) ?_
    obtain ⟨s12, hq, h⟩ := nd_b1_e h
    have hPc := hP
    have hDc := hD
    have hKc := hK
    have hFc := nd_rs hD hS hA
    refine nd_cVv (As := [.int 4]) (rest := []) (w' := dw_X2c a ac s12) ⟨hx, hb, hml, hown, hts⟩ (fun sz => dm_X2_blame l hlt dC dI a ac n (4) s5 hq sz) (cwV 1 hts gi_dm_X2_opens_3 rfl rfl rfl (by decide +kernel) ⟨Nat.le_of_ble_eq_true rfl, Nat.le_of_ble_eq_true rfl⟩) hPc hDc hKc hS hA hN (va_recv hKc hPc (ci := 3) (q0 := 0) rfl rfl) rfl hl.1 rfl (Nat.le_of_ble_eq_true rfl) dX2_opens_19 (fun H locs hP1 hD1 hk1 hS => ?_)
    have hP := hP1
    have hD := hD1.weaken (fun k q _ h => hFc q.1 h)
    exact (db_X2_opens_22 C K) (v0) (v1) s12 _ _ _ h hP hD hS (lv_sub hl [0, 1, 2] rfl)
set_option maxHeartbeats 40000000 in
set_option maxRecDepth 100000 in
theorem dm_X2_opens (l : Launch) (hlt : l.stackTraces = false) (dC : Nat → ClassId) (dI : Nat → Nat → Nat) (a : Nat → Nat) (ac : Nat → ClassId) (n : Nat) (v0 : Int32) (v1 : Int32) (s0 : St) {r : St} (h : df_X2_opens n v0 v1 s0 = some r) (sz : Nat) : Met l yX2_opens ow_dm_X2_opens ({ frames := 2, cells := 0, slots := 0, locals := 41 }) (va_Pc [.ref (a 0), .int v0, .int v1] (fun U => U.heap.size = sz ∧ va_P (dC, dI) vwCl (dw_X2c a ac s0) U.heap ∧ va_K (dC, dI) vwCl (dk_X2c ac) U ∧ va_D (fun _ => True) (dw_X2c a ac s0) ∧ nv_E (va_A (dw_X2c a ac s0) sz) U)) (va_Qv (fun _ => True) (fun (_ : Unit) t => va_P (dC, dI) vwCl (dw_X2c a ac r) t.heap ∧ va_K (dC, dI) vwCl (dk_X2c ac) t ∧ va_D (va_A (dw_X2c a ac s0) sz) (dw_X2c a ac r)) (va_A (dw_X2c a ac s0) sz)) 0 0 (va_A (dw_X2c a ac s0) sz) := by
  refine Met.ofW (cc := cX2_opens) (maxL := 3) (ret := none) (by decide) rfl ?_
  intro p e s m args below meth c s₁ B hml hv
  obtain ⟨rfl, hsz, hP, hK, hD0, hN⟩ := hv
  have hx := B.exec
  have hb := B.bytes
  have hr := B.returns
  have hts := atoms_spec (ws := ow_dm_X2_opens) B.pre
  have hown : s.vm.findClass RX2 = some m.cls := findClass_of_methodNamed B.named
  have hlocks := B.notSynchronized
  subst hsz
  have hD := hD0.self (sz := s.heap.size)
  generalize hAe : va_A (dw_X2c a ac s0) s.heap.size = A at hD hN ⊢
  have hA : ∀ q : Nat, s.heap.size ≤ q → A q := fun q h => by rw [← hAe]; exact Or.inr h
  have hl := lv_entry ([.ref (a 0), .int v0, .int v1]) (n := 3) (Nat.le_of_ble_eq_true rfl)
  rw [lg_entry_eq]
  generalize (lg_sl ([.ref (a 0), .int v0, .int v1]) ++ List.replicate (3 - (lg_sl ([.ref (a 0), .int v0, .int v1])).length) Slot.unset).toArray = ls at hl ⊢
  have hl : lv_has ls 3 [(0, .ref (a 0)), (1, .int v0), (2, .int v1)] := hl
  exact db_X2_opens_0 (dC := dC) (dI := dI) (a := a) (ac := ac) (n := n) (r := r) ⟨hlt, hx, hb, hml, hown, hts, hN, hA, hK⟩ (fun pc τ H locs ls d er hP hD hS => by subst er; exact W.vret hx hb hr (fun t ht hW => ⟨⟨(), rfl, trivial, by rw [ht]; exact hP, va_K.moved hW.alike hK, hD⟩, hS.F ht⟩) hS.2.2 d) v0 v1 s0 _ _ _ h hP hD va_S.rf (lv_sub hl [0, 1, 2] rfl)
def ow_dm_X2_emit : List Cond := .code yX2_emit cX2_emit 4 none :: ([.fieldLink RX2 64 "TimeMachine$Condition" "fault" "I", .fieldLink RX2 52 "TimeMachine$Condition" "codes" "I", .fieldLink RX2 9 "TimeMachine$Condition" "code" "[I", .fieldLink RX2 13 "TimeMachine$Condition" "argument" "[J"] ++ (u_ws RX2 TX2 20 ++ []))
theorem gd_dm_X2_emit : ∀ w ∈ ow_dm_X2_emit, (w.onTables && w.keeps) = true ∨ ∃ ty, w = Cond.arrayClass ty := List.forall_mem_cons.mpr ⟨good_of_word rfl, List.forall_mem_append.mpr ⟨fun w h => good_of_word (List.all_eq_true.mp (by decide +kernel) w h), List.forall_mem_append.mpr ⟨gu_X2, fun _ h => nomatch h⟩⟩⟩
theorem hi_dm_X2_emit_X2 : ∀ w ∈ u_ws RX2 TX2 20, w ∈ ow_dm_X2_emit := fun w h => List.mem_cons_of_mem _ (List.mem_append_right _ (List.mem_append_left _ h))
def dj_X2_emit_49 (p : Program) (l : Launch) (e : Env) (s : State) (m : MethodId) (args : Array Value) (below : List Frame) (meth : Method) (c : Code) (Q : State → Prop) (A : Nat → Prop) (dC : Nat → ClassId) (dI : Nat → Nat → Nat) (a : Nat → Nat) (ac : Nat → ClassId) (g : (St) → Option (St)) (r : St) : Prop := ∀ (s0 : St) (H : Heap) (locs : List Loc) (ls : Array Slot), g s0 = some r → va_P (dC, dI) vwCl (dw_X2c a ac s0) H → va_D A (dw_X2c a ac s0) → va_S A s.heap H locs → lv_has ls 4 [] → W p l e (headSpec ow_dm_X2_emit ({ frames := 0, cells := 0, slots := 0, locals := 0 })).room s m args below meth c H locs 0 0 Q (F0 m 49 ls [])
def dj_X2_emit_0 (p : Program) (l : Launch) (e : Env) (s : State) (m : MethodId) (args : Array Value) (below : List Frame) (meth : Method) (c : Code) (Q : State → Prop) (A : Nat → Prop) (dC : Nat → ClassId) (dI : Nat → Nat → Nat) (a : Nat → Nat) (ac : Nat → ClassId) (g : Int32 → Int64 → (St) → Option (St)) (r : St) : Prop := ∀ (v0 : Int32) (v1 : Int64) (s0 : St) (H : Heap) (locs : List Loc) (ls : Array Slot), g v0 v1 s0 = some r → va_P (dC, dI) vwCl (dw_X2c a ac s0) H → va_D A (dw_X2c a ac s0) → va_S A s.heap H locs → lv_has ls 4 [(0, .ref (a 0)), (1, .int v0), (2, .long v1)] → W p l e (headSpec ow_dm_X2_emit ({ frames := 0, cells := 0, slots := 0, locals := 0 })).room s m args below meth c H locs 0 0 Q (F0 m 0 ls [])
set_option maxHeartbeats 40000000 in
set_option maxRecDepth 100000 in
theorem db_X2_emit_49 {p : Program} {l : Launch} {e : Env} {s : State} {m : MethodId} {args : Array Value} {below : List Frame} {meth : Method} {c : Code} {Q : State → Prop} {A : Nat → Prop} {dC : Nat → ClassId} {dI : Nat → Nat → Nat} {a : Nat → Nat} {ac : Nat → ClassId} {n : Nat} {r : St} (C : nd_C p l s m args c A (dC, dI) cX2_emit 4 RX2 ow_dm_X2_emit (dk_X2c ac)) (K : nd_Kv p l e (headSpec ow_dm_X2_emit ({ frames := 0, cells := 0, slots := 0, locals := 0 })).room s m args below meth c Q A (dC, dI) cX2_emit (St) (dw_X2c a ac) r) : dj_X2_emit_49 p l e s m args below meth c Q A dC dI a ac (df_X2_emit_49 n) r := by
  obtain ⟨hlt, hx, hb, hml, hown, hts, hN, hA, hK⟩ := id C
  intro s0 H locs ls h hP hD hS hl
  unfold df_X2_emit_49 at h
  exact K _ _ _ _ _ dX2_emit_49 (Option.some.inj h).symm hP hD hS
set_option maxHeartbeats 40000000 in
set_option maxRecDepth 100000 in
theorem db_X2_emit_0 {p : Program} {l : Launch} {e : Env} {s : State} {m : MethodId} {args : Array Value} {below : List Frame} {meth : Method} {c : Code} {Q : State → Prop} {A : Nat → Prop} {dC : Nat → ClassId} {dI : Nat → Nat → Nat} {a : Nat → Nat} {ac : Nat → ClassId} {n : Nat} {r : St} (C : nd_C p l s m args c A (dC, dI) cX2_emit 4 RX2 ow_dm_X2_emit (dk_X2c ac)) (K : nd_Kv p l e (headSpec ow_dm_X2_emit ({ frames := 0, cells := 0, slots := 0, locals := 0 })).room s m args below meth c Q A (dC, dI) cX2_emit (St) (dw_X2c a ac) r) : dj_X2_emit_0 p l e s m args below meth c Q A dC dI a ac (df_X2_emit_0 n) r := by
  obtain ⟨hlt, hx, hb, hml, hown, hts, hN, hA, hK⟩ := id C
  intro v0 v1 s0 H locs ls h hP hD hS hl
  unfold df_X2_emit_0 at h
  refine lv_aload_n hx hb dX2_emit_0 rfl (lv_at hl 0 rfl) ?_
  refine va_get (D := (dC, dI)) (ci := 3) (v := .int (sI s0 8)) (C := RX2) (T := TX2) (N := 20) hx hb hts hi_dm_X2_emit_X2 hown hK hP 0 rfl rfl 18 (by decide) (hts (.fieldLink RX2 64 "TimeMachine$Condition" "fault" "I") (List.mem_of_getElem? (i := 1) rfl)) (fun _ h9 => h9) rfl dX2_emit_1 ?_
  refine lv_if_ne (tgt := 49) hx hb dX2_emit_4 (by decide) (fun c1 => ?_) (fun c1 => ?_)
  · have h := nd_neg h c1
    exact (db_X2_emit_49 C K)  s0 _ _ _ h hP hD hS (lv_sub hl [] rfl)
  · have h := nd_pos h c1
    refine lv_aload_n hx hb dX2_emit_7 rfl (lv_at hl 0 rfl) ?_
    refine va_get (D := (dC, dI)) (ci := 3) (v := .int (sI s0 0)) (C := RX2) (T := TX2) (N := 20) hx hb hts hi_dm_X2_emit_X2 hown hK hP 0 rfl rfl 2 (by decide) (hts (.fieldLink RX2 52 "TimeMachine$Condition" "codes" "I") (List.mem_of_getElem? (i := 2) rfl)) (fun _ h9 => h9) rfl dX2_emit_8 ?_
    refine lv_aload_n hx hb dX2_emit_11 rfl (lv_at hl 0 rfl) ?_
    refine va_get (D := (dC, dI)) (ci := 3) (v := .ref (a 1)) (C := RX2) (T := TX2) (N := 20) hx hb hts hi_dm_X2_emit_X2 hown hK hP 0 rfl rfl 0 (by decide) (hts (.fieldLink RX2 9 "TimeMachine$Condition" "code" "[I") (List.mem_of_getElem? (i := 3) rfl)) (fun _ h9 => h9) rfl dX2_emit_12 ?_
    refine va_alen (v := 160) hx hb hK hP 1 0 rfl rfl (show Int32.ofNat 160 = 160 by decide) dX2_emit_15 ?_
    refine lv_icmp_ge (tgt := 49) hx hb dX2_emit_16 (by decide) (fun c2 => ?_) (fun c2 => ?_)
    · have h := nd_pos h c2
      exact (db_X2_emit_49 C K)  s0 _ _ _ h hP hD hS (lv_sub hl [] rfl)
    · have h := nd_neg h c2
      refine lv_aload_n hx hb dX2_emit_19 rfl (lv_at hl 0 rfl) ?_
      refine va_get (D := (dC, dI)) (ci := 3) (v := .ref (a 1)) (C := RX2) (T := TX2) (N := 20) hx hb hts hi_dm_X2_emit_X2 hown hK hP 0 rfl rfl 0 (by decide) (hts (.fieldLink RX2 9 "TimeMachine$Condition" "code" "[I") (List.mem_of_getElem? (i := 3) rfl)) (fun _ h9 => h9) rfl dX2_emit_20 ?_
      refine lv_aload_n hx hb dX2_emit_23 rfl (lv_at hl 0 rfl) ?_
      refine va_get (D := (dC, dI)) (ci := 3) (v := .int (sI s0 0)) (C := RX2) (T := TX2) (N := 20) hx hb hts hi_dm_X2_emit_X2 hown hK hP 0 rfl rfl 2 (by decide) (hts (.fieldLink RX2 52 "TimeMachine$Condition" "codes" "I") (List.mem_of_getElem? (i := 2) rfl)) (fun _ h9 => h9) rfl dX2_emit_24 ?_
      refine lv_iload_n hx hb dX2_emit_27 rfl (lv_at hl 1 rfl) ?_
      obtain ⟨i3, h⟩ := nd_ck_e h
      refine va_iast (i := (sI s0 0)) (x := v0) hx hb hK hP hD hS 1 0 rfl rfl i3 dX2_emit_28 (fun H locs hP hD hS => ?_)
      obtain ⟨s4, es4, h⟩ := nd_let_e h
      have hP : va_P (dC, dI) vwCl (dw_X2c a ac s4) H := by rw [es4]; exact hP
      have hD : va_D A (dw_X2c a ac s4) := by rw [es4]; exact hD
      refine lv_aload_n hx hb dX2_emit_29 rfl (lv_at hl 0 rfl) ?_
      refine va_get (D := (dC, dI)) (ci := 3) (v := .ref (a 2)) (C := RX2) (T := TX2) (N := 20) hx hb hts hi_dm_X2_emit_X2 hown hK hP 0 rfl rfl 1 (by decide) (hts (.fieldLink RX2 13 "TimeMachine$Condition" "argument" "[J") (List.mem_of_getElem? (i := 4) rfl)) (fun _ h9 => h9) rfl dX2_emit_30 ?_
      refine lv_aload_n hx hb dX2_emit_33 rfl (lv_at hl 0 rfl) ?_
      refine va_get (D := (dC, dI)) (ci := 3) (v := .int (sI s4 0)) (C := RX2) (T := TX2) (N := 20) hx hb hts hi_dm_X2_emit_X2 hown hK hP 0 rfl rfl 2 (by decide) (hts (.fieldLink RX2 52 "TimeMachine$Condition" "codes" "I") (List.mem_of_getElem? (i := 2) rfl)) (fun _ h9 => h9) rfl dX2_emit_34 ?_
      refine lv_lload_n hx hb dX2_emit_37 rfl (lv_at hl 2 rfl) ?_
      obtain ⟨i5, h⟩ := nd_ck_e h
      refine va_last (i := (sI s4 0)) (x := v1) hx hb hK hP hD hS 2 1 rfl rfl i5 dX2_emit_38 (fun H locs hP hD hS => ?_)
      obtain ⟨s6, es6, h⟩ := nd_let_e h
      have hP : va_P (dC, dI) vwCl (dw_X2c a ac s6) H := by rw [es6]; exact hP
      have hD : va_D A (dw_X2c a ac s6) := by rw [es6]; exact hD
      refine lv_aload_n hx hb dX2_emit_39 rfl (lv_at hl 0 rfl) ?_
      refine lv_dup hx hb dX2_emit_40 rfl ?_
      refine va_get (D := (dC, dI)) (ci := 3) (v := .int (sI s6 0)) (C := RX2) (T := TX2) (N := 20) hx hb hts hi_dm_X2_emit_X2 hown hK hP 0 rfl rfl 2 (by decide) (hts (.fieldLink RX2 52 "TimeMachine$Condition" "codes" "I") (List.mem_of_getElem? (i := 2) rfl)) (fun _ h9 => h9) rfl dX2_emit_41 ?_
      refine lv_iconst (v := 1) hx hb dX2_emit_44 (by decide) ?_
      refine lv_iadd hx hb dX2_emit_45 ?_
      refine va_put (D := (dC, dI)) (ci := 3) (v := .int ((sI s6 0) + 1)) (ty := .int) (C := RX2) (T := TX2) (N := 20) hx hb hts hi_dm_X2_emit_X2 tyX2 tyX2_ok nmX2 hown hK hP hD hS 0 rfl rfl 2 (by decide) (hts (.fieldLink RX2 52 "TimeMachine$Condition" "codes" "I") (List.mem_of_getElem? (i := 2) rfl)) (fun _ h9 => h9) rfl (by decide +kernel) rfl rfl (Nat.le_of_ble_eq_true rfl) dX2_emit_46 (fun H locs hP hD hS => ?_)
      obtain ⟨s7, es7, h⟩ := nd_let_e h
      have hP : va_P (dC, dI) vwCl (dw_X2c a ac s7) H := by rw [es7]; exact hP
      have hD : va_D A (dw_X2c a ac s7) := by rw [es7]; exact hD
      exact (db_X2_emit_49 C K)  s7 _ _ _ h hP hD hS (lv_sub hl [] rfl)
set_option maxHeartbeats 40000000 in
set_option maxRecDepth 100000 in
theorem dm_X2_emit (l : Launch) (hlt : l.stackTraces = false) (dC : Nat → ClassId) (dI : Nat → Nat → Nat) (a : Nat → Nat) (ac : Nat → ClassId) (n : Nat) (v0 : Int32) (v1 : Int64) (s0 : St) {r : St} (h : df_X2_emit n v0 v1 s0 = some r) (sz : Nat) : Met l yX2_emit ow_dm_X2_emit ({ frames := 0, cells := 0, slots := 0, locals := 0 }) (va_Pc [.ref (a 0), .int v0, .long v1] (fun U => U.heap.size = sz ∧ va_P (dC, dI) vwCl (dw_X2c a ac s0) U.heap ∧ va_K (dC, dI) vwCl (dk_X2c ac) U ∧ va_D (fun _ => True) (dw_X2c a ac s0) ∧ nv_E (va_A (dw_X2c a ac s0) sz) U)) (va_Qv (fun _ => True) (fun (_ : Unit) t => va_P (dC, dI) vwCl (dw_X2c a ac r) t.heap ∧ va_K (dC, dI) vwCl (dk_X2c ac) t ∧ va_D (va_A (dw_X2c a ac s0) sz) (dw_X2c a ac r)) (va_A (dw_X2c a ac s0) sz)) 0 0 (va_A (dw_X2c a ac s0) sz) := by
  refine Met.ofW (cc := cX2_emit) (maxL := 4) (ret := none) (by decide) rfl ?_
  intro p e s m args below meth c s₁ B hml hv
  obtain ⟨rfl, hsz, hP, hK, hD0, hN⟩ := hv
  have hx := B.exec
  have hb := B.bytes
  have hr := B.returns
  have hts := atoms_spec (ws := ow_dm_X2_emit) B.pre
  have hown : s.vm.findClass RX2 = some m.cls := findClass_of_methodNamed B.named
  have hlocks := B.notSynchronized
  subst hsz
  have hD := hD0.self (sz := s.heap.size)
  generalize hAe : va_A (dw_X2c a ac s0) s.heap.size = A at hD hN ⊢
  have hA : ∀ q : Nat, s.heap.size ≤ q → A q := fun q h => by rw [← hAe]; exact Or.inr h
  have hl := lv_entry ([.ref (a 0), .int v0, .long v1]) (n := 4) (Nat.le_of_ble_eq_true rfl)
  rw [lg_entry_eq]
  generalize (lg_sl ([.ref (a 0), .int v0, .long v1]) ++ List.replicate (4 - (lg_sl ([.ref (a 0), .int v0, .long v1])).length) Slot.unset).toArray = ls at hl ⊢
  have hl : lv_has ls 4 [(0, .ref (a 0)), (1, .int v0), (2, .long v1)] := hl
  exact db_X2_emit_0 (dC := dC) (dI := dI) (a := a) (ac := ac) (n := n) (r := r) ⟨hlt, hx, hb, hml, hown, hts, hN, hA, hK⟩ (fun pc τ H locs ls d er hP hD hS => by subst er; exact W.vret hx hb hr (fun t ht hW => ⟨⟨(), rfl, trivial, by rw [ht]; exact hP, va_K.moved hW.alike hK, hD⟩, hS.F ht⟩) hS.2.2 d) v0 v1 s0 _ _ _ h hP hD va_S.rf (lv_sub hl [0, 1, 2] rfl)
def ow_dm_X2_inSpace : List Cond := .code yX2_inSpace cX2_inSpace 8 (some .long) :: ([.fieldLink RX2 221 "TimeMachine$Machine" "current" "I", .fieldLink RX2 199 "TimeMachine$Condition" "failed" "Z", .constantLong RX2 233 (65536), .methodLink RX2 235 yX6_may, .instanceMethod yX6_may, .selects RX6 yX6_may yX6_may, .initialized RX6, .methodLink RX2 245 yX6_byteAt, .instanceMethod yX6_byteAt, .selects RX6 yX6_byteAt yX6_byteAt, .methodLink RX2 242 yX6_halfAt, .instanceMethod yX6_halfAt, .selects RX6 yX6_halfAt yX6_halfAt, .methodLink RX2 239 yX6_wordAt, .instanceMethod yX6_wordAt, .selects RX6 yX6_wordAt yX6_wordAt] ++ (u_ws RX6 TX6 20 ++ (u_ws RX2 TX2 20 ++ (ow_dm_X6_may ++ (ow_dm_X6_byteAt ++ (ow_dm_X6_halfAt ++ (ow_dm_X6_wordAt ++ [])))))))
theorem gd_dm_X2_inSpace : ∀ w ∈ ow_dm_X2_inSpace, (w.onTables && w.keeps) = true ∨ ∃ ty, w = Cond.arrayClass ty := List.forall_mem_cons.mpr ⟨good_of_word rfl, List.forall_mem_append.mpr ⟨fun w h => good_of_word (List.all_eq_true.mp (by decide +kernel) w h), List.forall_mem_append.mpr ⟨gu_X6, List.forall_mem_append.mpr ⟨gu_X2, List.forall_mem_append.mpr ⟨gd_dm_X6_may, List.forall_mem_append.mpr ⟨gd_dm_X6_byteAt, List.forall_mem_append.mpr ⟨gd_dm_X6_halfAt, List.forall_mem_append.mpr ⟨gd_dm_X6_wordAt, fun _ h => nomatch h⟩⟩⟩⟩⟩⟩⟩⟩
theorem hi_dm_X2_inSpace_X6 : ∀ w ∈ u_ws RX6 TX6 20, w ∈ ow_dm_X2_inSpace := fun w h => List.mem_cons_of_mem _ (List.mem_append_right _ (List.mem_append_left _ h))
theorem hi_dm_X2_inSpace_X2 : ∀ w ∈ u_ws RX2 TX2 20, w ∈ ow_dm_X2_inSpace := fun w h => List.mem_cons_of_mem _ (List.mem_append_right _ (List.mem_append_right _ (List.mem_append_left _ h)))
theorem gi_dm_X2_inSpace_0 : GoodIn ow_dm_X2_inSpace (wsV RX2 235 RX6 yX6_may ow_dm_X6_may) := goodIn_app (goodIn_of _ (by decide +kernel)) (fun w h => ⟨List.mem_cons_of_mem _ (List.mem_append_right _ (List.mem_append_right _ (List.mem_append_right _ (List.mem_append_left _ h)))), gd_dm_X6_may w h⟩)
theorem gi_dm_X2_inSpace_1 : GoodIn ow_dm_X2_inSpace (wsV RX2 245 RX6 yX6_byteAt ow_dm_X6_byteAt) := goodIn_app (goodIn_of _ (by decide +kernel)) (fun w h => ⟨List.mem_cons_of_mem _ (List.mem_append_right _ (List.mem_append_right _ (List.mem_append_right _ (List.mem_append_right _ (List.mem_append_left _ h))))), gd_dm_X6_byteAt w h⟩)
theorem gi_dm_X2_inSpace_2 : GoodIn ow_dm_X2_inSpace (wsV RX2 242 RX6 yX6_halfAt ow_dm_X6_halfAt) := goodIn_app (goodIn_of _ (by decide +kernel)) (fun w h => ⟨List.mem_cons_of_mem _ (List.mem_append_right _ (List.mem_append_right _ (List.mem_append_right _ (List.mem_append_right _ (List.mem_append_right _ (List.mem_append_left _ h)))))), gd_dm_X6_halfAt w h⟩)
theorem gi_dm_X2_inSpace_3 : GoodIn ow_dm_X2_inSpace (wsV RX2 239 RX6 yX6_wordAt ow_dm_X6_wordAt) := goodIn_app (goodIn_of _ (by decide +kernel)) (fun w h => ⟨List.mem_cons_of_mem _ (List.mem_append_right _ (List.mem_append_right _ (List.mem_append_right _ (List.mem_append_right _ (List.mem_append_right _ (List.mem_append_right _ (List.mem_append_left _ h))))))), gd_dm_X6_wordAt w h⟩)
def dj_X2_inSpace_71 (p : Program) (l : Launch) (e : Env) (s : State) (m : MethodId) (args : Array Value) (below : List Frame) (meth : Method) (c : Code) (Q : State → Prop) (A : Nat → Prop) (dC : Nat → ClassId) (dI : Nat → Nat → Nat) (a : Nat → Nat) (ac : Nat → ClassId) (g : (St × (St) × (St × (St))) → Option (Int64 × (St × (St) × (St × (St))))) (r : Int64 × (St × (St) × (St × (St)))) : Prop := ∀ (s0 : St × (St) × (St × (St))) (H : Heap) (locs : List Loc) (ls : Array Slot), g s0 = some r → va_P (dC, dI) vwCl (dw_X2m a ac s0) H → va_D A (dw_X2m a ac s0) → va_S A s.heap H locs → lv_has ls 8 [(0, .ref (a 0))] → W p l e (headSpec ow_dm_X2_inSpace ({ frames := 1, cells := 0, slots := 0, locals := 23 })).room s m args below meth c H locs 0 0 Q (F0 m 71 ls [])
def dj_X2_inSpace_128 (p : Program) (l : Launch) (e : Env) (s : State) (m : MethodId) (args : Array Value) (below : List Frame) (meth : Method) (c : Code) (Q : State → Prop) (A : Nat → Prop) (dC : Nat → ClassId) (dI : Nat → Nat → Nat) (a : Nat → Nat) (ac : Nat → ClassId) (g : Int64 → (St × (St) × (St × (St))) → Option (Int64 × (St × (St) × (St × (St))))) (r : Int64 × (St × (St) × (St × (St)))) : Prop := ∀ (y0 : Int64) (s0 : St × (St) × (St × (St))) (H : Heap) (locs : List Loc) (ls : Array Slot), g y0 s0 = some r → va_P (dC, dI) vwCl (dw_X2m a ac s0) H → va_D A (dw_X2m a ac s0) → va_S A s.heap H locs → lv_has ls 8 [] → W p l e (headSpec ow_dm_X2_inSpace ({ frames := 1, cells := 0, slots := 0, locals := 23 })).room s m args below meth c H locs 0 0 Q (F0 m 128 ls [.long y0])
def dj_X2_inSpace_27 (p : Program) (l : Launch) (e : Env) (s : State) (m : MethodId) (args : Array Value) (below : List Frame) (meth : Method) (c : Code) (Q : State → Prop) (A : Nat → Prop) (dC : Nat → ClassId) (dI : Nat → Nat → Nat) (a : Nat → Nat) (ac : Nat → ClassId) (g : Int64 → Int32 → Int32 → (St × (St) × (St × (St))) → Option (Int64 × (St × (St) × (St × (St))))) (r : Int64 × (St × (St) × (St × (St)))) : Prop := ∀ (x3 : Int64) (x5 : Int32) (y0 : Int32) (s0 : St × (St) × (St × (St))) (H : Heap) (locs : List Loc) (ls : Array Slot), g x3 x5 y0 s0 = some r → va_P (dC, dI) vwCl (dw_X2m a ac s0) H → va_D A (dw_X2m a ac s0) → va_S A s.heap H locs → lv_has ls 8 [(0, .ref (a 0)), (1, .ref (a 9)), (3, .long x3), (5, .int x5)] → W p l e (headSpec ow_dm_X2_inSpace ({ frames := 1, cells := 0, slots := 0, locals := 23 })).room s m args below meth c H locs 0 0 Q (F0 m 27 ls [.int y0])
def dj_X2_inSpace_0 (p : Program) (l : Launch) (e : Env) (s : State) (m : MethodId) (args : Array Value) (below : List Frame) (meth : Method) (c : Code) (Q : State → Prop) (A : Nat → Prop) (dC : Nat → ClassId) (dI : Nat → Nat → Nat) (a : Nat → Nat) (ac : Nat → ClassId) (g : Int32 → Int64 → (St × (St) × (St × (St))) → Option (Int64 × (St × (St) × (St × (St))))) (r : Int64 × (St × (St) × (St × (St)))) : Prop := ∀ (v1 : Int32) (v2 : Int64) (s0 : St × (St) × (St × (St))) (H : Heap) (locs : List Loc) (ls : Array Slot), g v1 v2 s0 = some r → va_P (dC, dI) vwCl (dw_X2m a ac s0) H → va_D A (dw_X2m a ac s0) → va_S A s.heap H locs → lv_has ls 8 [(0, .ref (a 0)), (1, .ref (a 9)), (2, .int v1), (3, .long v2)] → W p l e (headSpec ow_dm_X2_inSpace ({ frames := 1, cells := 0, slots := 0, locals := 23 })).room s m args below meth c H locs 0 0 Q (F0 m 0 ls [])
set_option maxHeartbeats 40000000 in
set_option maxRecDepth 100000 in
theorem db_X2_inSpace_71 {p : Program} {l : Launch} {e : Env} {s : State} {m : MethodId} {args : Array Value} {below : List Frame} {meth : Method} {c : Code} {Q : State → Prop} {A : Nat → Prop} {dC : Nat → ClassId} {dI : Nat → Nat → Nat} {a : Nat → Nat} {ac : Nat → ClassId} {n : Nat} {r : Int64 × (St × (St) × (St × (St)))} (C : nd_C p l s m args c A (dC, dI) cX2_inSpace 8 RX2 ow_dm_X2_inSpace (dk_X2m ac)) (K : nd_Kl p l e (headSpec ow_dm_X2_inSpace ({ frames := 1, cells := 0, slots := 0, locals := 23 })).room s m args below meth c Q A (dC, dI) cX2_inSpace (St × (St) × (St × (St))) (dw_X2m a ac) r) : dj_X2_inSpace_71 p l e s m args below meth c Q A dC dI a ac (df_X2_inSpace_71 n) r := by
  obtain ⟨hlt, hx, hb, hml, hown, hts, hN, hA, hK⟩ := id C
  intro s0 H locs ls h hP hD hS hl
  unfold df_X2_inSpace_71 at h
  refine lv_aload_n hx hb dX2_inSpace_71 rfl (lv_at hl 0 rfl) ?_
  refine lv_iconst (v := 1) hx hb dX2_inSpace_72 (by decide) ?_
  refine va_put (D := (dC, dI)) (ci := 3) (v := .int 1) (ty := .boolean) (C := RX2) (T := TX2) (N := 20) hx hb hts hi_dm_X2_inSpace_X2 tyX2 tyX2_ok nmX2 hown hK hP hD hS 0 rfl rfl 11 (by decide) (hts (.fieldLink RX2 199 "TimeMachine$Condition" "failed" "Z") (List.mem_of_getElem? (i := 2) rfl)) (fun _ h9 => h9) rfl (by decide +kernel) (by first | rfl | decide) rfl (Nat.le_of_ble_eq_true rfl) dX2_inSpace_73 (fun H locs hP hD hS => ?_)
  obtain ⟨s5, es5, h⟩ := nd_let_e h
  have hP : va_P (dC, dI) vwCl (dw_X2m a ac s5) H := by rw [es5]; exact hP
  have hD : va_D A (dw_X2m a ac s5) := by rw [es5]; exact hD
  refine lv_lconst (v := 0) hx hb dX2_inSpace_76 (by decide) ?_
  exact K _ _ _ _ _ _ dX2_inSpace_77 (Option.some.inj h).symm hP hD hS
set_option maxHeartbeats 40000000 in
set_option maxRecDepth 100000 in
theorem db_X2_inSpace_128 {p : Program} {l : Launch} {e : Env} {s : State} {m : MethodId} {args : Array Value} {below : List Frame} {meth : Method} {c : Code} {Q : State → Prop} {A : Nat → Prop} {dC : Nat → ClassId} {dI : Nat → Nat → Nat} {a : Nat → Nat} {ac : Nat → ClassId} {n : Nat} {r : Int64 × (St × (St) × (St × (St)))} (C : nd_C p l s m args c A (dC, dI) cX2_inSpace 8 RX2 ow_dm_X2_inSpace (dk_X2m ac)) (K : nd_Kl p l e (headSpec ow_dm_X2_inSpace ({ frames := 1, cells := 0, slots := 0, locals := 23 })).room s m args below meth c Q A (dC, dI) cX2_inSpace (St × (St) × (St × (St))) (dw_X2m a ac) r) : dj_X2_inSpace_128 p l e s m args below meth c Q A dC dI a ac (df_X2_inSpace_128 n) r := by
  obtain ⟨hlt, hx, hb, hml, hown, hts, hN, hA, hK⟩ := id C
  intro y0 s0 H locs ls h hP hD hS hl
  unfold df_X2_inSpace_128 at h
  exact K _ _ _ _ _ _ dX2_inSpace_128 (Option.some.inj h).symm hP hD hS
set_option maxHeartbeats 40000000 in
set_option maxRecDepth 100000 in
theorem db_X2_inSpace_27 {p : Program} {l : Launch} {e : Env} {s : State} {m : MethodId} {args : Array Value} {below : List Frame} {meth : Method} {c : Code} {Q : State → Prop} {A : Nat → Prop} {dC : Nat → ClassId} {dI : Nat → Nat → Nat} {a : Nat → Nat} {ac : Nat → ClassId} {n : Nat} {r : Int64 × (St × (St) × (St × (St)))} (C : nd_C p l s m args c A (dC, dI) cX2_inSpace 8 RX2 ow_dm_X2_inSpace (dk_X2m ac)) (K : nd_Kl p l e (headSpec ow_dm_X2_inSpace ({ frames := 1, cells := 0, slots := 0, locals := 23 })).room s m args below meth c Q A (dC, dI) cX2_inSpace (St × (St) × (St × (St))) (dw_X2m a ac) r) : dj_X2_inSpace_27 p l e s m args below meth c Q A dC dI a ac (df_X2_inSpace_27 n) r := by
  obtain ⟨hlt, hx, hb, hml, hown, hts, hN, hA, hK⟩ := id C
  intro x3 x5 y0 s0 H locs ls h hP hD hS hl
  unfold df_X2_inSpace_27 at h
  refine lv_istore (lv' := [(6, .int y0), (0, .ref (a 0)), (1, .ref (a 9)), (3, .long x3), (5, .int x5)]) hx hb dX2_inSpace_27 hl (by decide) rfl (fun ls hl => ?_)
  refine lv_iload hx hb dX2_inSpace_29 (lv_at hl 4 rfl) ?_
  refine lv_if_lt (tgt := 71) hx hb dX2_inSpace_31 (by decide) (fun c4 => ?_) (fun c4 => ?_)
  · have h := nd_pos h c4
    exact (db_X2_inSpace_71 C K)  s0 _ _ _ h hP hD hS (lv_sub hl [1] rfl)
  · have h := nd_neg h c4
    refine lv_lload_n hx hb dX2_inSpace_34 rfl (lv_at hl 3 rfl) ?_
    refine lv_lconst (v := 0) hx hb dX2_inSpace_35 (by decide) ?_
    refine W.lcmp hx hb dX2_inSpace_36 ?_
    refine lv_if_lt (tgt := 71) hx hb dX2_inSpace_37 (by decide) (fun c6 => ?_) (fun c6 => ?_)
    · have h := nd_pos h c6
      exact (db_X2_inSpace_71 C K)  s0 _ _ _ h hP hD hS (lv_sub hl [1] rfl)
    · have h := nd_neg h c6
      refine lv_lload_n hx hb dX2_inSpace_40 rfl (lv_at hl 3 rfl) ?_
      refine lv_ldc2 hx hb hown (hts (.constantLong RX2 233 (65536)) (List.mem_of_getElem? (i := 3) rfl)) dX2_inSpace_41 ?_
      refine W.lcmp hx hb dX2_inSpace_44 ?_
      refine lv_if_ge (tgt := 71) hx hb dX2_inSpace_45 (by decide) (fun c7 => ?_) (fun c7 => ?_)
      · have h := nd_pos h c7
        exact (db_X2_inSpace_71 C K)  s0 _ _ _ h hP hD hS (lv_sub hl [1] rfl)
      · have h := nd_neg h c7
        refine lv_lload_n hx hb dX2_inSpace_48 rfl (lv_at hl 3 rfl) ?_
        refine lv_iload hx hb dX2_inSpace_49 (lv_at hl 0 rfl) ?_
        refine lv_i2l hx hb dX2_inSpace_51 rfl ?_
        obtain ⟨i8, h⟩ := nd_nz_e h
        refine lv_lrem hx hb dX2_inSpace_52 i8 ?_
        refine lv_lconst (v := 0) hx hb dX2_inSpace_53 (by decide) ?_
        refine W.lcmp hx hb dX2_inSpace_54 ?_
        refine lv_if_ne (tgt := 71) hx hb dX2_inSpace_55 (by decide) (fun c9 => ?_) (fun c9 => ?_)
        · have h := nd_neg h c9
          exact (db_X2_inSpace_71 C K)  s0 _ _ _ h hP hD hS (lv_sub hl [1] rfl)
        · have h := nd_pos h c9
          refine lv_aload_n hx hb dX2_inSpace_58 rfl (lv_at hl 2 rfl) ?_
          refine lv_iload hx hb dX2_inSpace_59 (lv_at hl 4 rfl) ?_
          refine lv_lload_n hx hb dX2_inSpace_61 rfl (lv_at hl 3 rfl) ?_
          refine lv_l2i hx hb dX2_inSpace_62 rfl ?_
          refine lv_bipush (v := 7) hx hb dX2_inSpace_63 (by decide) ?_
          obtain ⟨q10, s11, hq, h⟩ := nd_b2_e h
          have hPc := dp_X2m_9 hP
          have hDc := dd_X2m_9 hD
          have hKc := dy_X2m_9 hK
          have hFc := nd_rs hDc hS hA
          have hzA : ∀ q : Nat, H.size ≤ q → A q := fun q h => hA q (Nat.le_trans hS.1 h)
          refine nd_cVi (As := [.int x5, .int (x3.toInt32), .int 7]) (rest := []) (q := q10) (w' := dw_X6 (fun k => a (k + 9)) (fun k => ac (k + 9)) s11) ⟨hx, hb, hml, hown, hts⟩ (fun sz => dm_X6_may l hlt dC dI (fun k => a (k + 9)) (fun k => ac (k + 9)) n (x5) ((x3.toInt32)) (7) s0.2.2 hq sz) (cwV 3 hts gi_dm_X2_inSpace_0 rfl rfl rfl (by decide +kernel) ⟨Nat.le_of_ble_eq_true rfl, Nat.le_of_ble_eq_true rfl⟩) hPc hDc hKc hS hA hN (va_recv hKc hPc (ci := 7) (q0 := 0) rfl rfl) rfl hl.1 rfl (Nat.le_of_ble_eq_true rfl) dX2_inSpace_65 (fun H locs hP1 hD1 hk1 hS => ?_)
          obtain ⟨hP, hD⟩ := dn_X2m_9 hP hD hzA hk1 hP1 hD1
          obtain ⟨s13, es13, h⟩ := nd_let_e h
          have hP : va_P (dC, dI) vwCl (dw_X2m a ac s13) H := by rw [es13]; exact hP
          have hD : va_D A (dw_X2m a ac s13) := by rw [es13]; exact hD
          refine lv_if_ne (tgt := 78) hx hb dX2_inSpace_68 (by decide) (fun c14 => ?_) (fun c14 => ?_)
          · have h := nd_neg h c14
            refine lv_lload_n hx hb dX2_inSpace_78 rfl (lv_at hl 3 rfl) ?_
            refine lv_l2i hx hb dX2_inSpace_79 rfl ?_
            refine lv_topi (fun z15 ez15 => ?_)
            have h := nd_at h ez15
            refine lv_istore (lv' := [(7, .int z15), (6, .int y0), (0, .ref (a 0)), (1, .ref (a 9)), (3, .long x3), (5, .int x5)]) hx hb dX2_inSpace_80 hl (by decide) rfl (fun ls hl => ?_)
            refine lv_iload hx hb dX2_inSpace_82 (lv_at hl 1 rfl) ?_
            refine lv_iconst (v := 4) hx hb dX2_inSpace_84 (by decide) ?_
            refine lv_icmp_ne (tgt := 100) hx hb dX2_inSpace_85 (by decide) (fun c16 => ?_) (fun c16 => ?_)
            · have h := nd_neg h c16
              refine lv_iload hx hb dX2_inSpace_100 (lv_at hl 1 rfl) ?_
              refine lv_iconst (v := 2) hx hb dX2_inSpace_102 (by decide) ?_
              refine lv_icmp_ne (tgt := 119) hx hb dX2_inSpace_103 (by decide) (fun c17 => ?_) (fun c17 => ?_)
              · have h := nd_neg h c17
                refine lv_aload_n hx hb dX2_inSpace_119 rfl (lv_at hl 3 rfl) ?_
                refine lv_iload hx hb dX2_inSpace_120 (lv_at hl 5 rfl) ?_
                refine lv_iload hx hb dX2_inSpace_122 (lv_at hl 0 rfl) ?_
                obtain ⟨q18, s19, hq, h⟩ := nd_b2_e h
                have hPc := dp_X2m_9 hP
                have hDc := dd_X2m_9 hD
                have hKc := dy_X2m_9 hK
                have hFc := nd_rs hDc hS hA
                have hzA : ∀ q : Nat, H.size ≤ q → A q := fun q h => hA q (Nat.le_trans hS.1 h)
                refine nd_cVi (As := [.int x5, .int z15]) (rest := []) (q := q18) (w' := dw_X6 (fun k => a (k + 9)) (fun k => ac (k + 9)) s19) ⟨hx, hb, hml, hown, hts⟩ (fun sz => dm_X6_byteAt l hlt dC dI (fun k => a (k + 9)) (fun k => ac (k + 9)) n (x5) (z15) s13.2.2 hq sz) (cwV 2 hts gi_dm_X2_inSpace_1 rfl rfl rfl (by decide +kernel) ⟨Nat.le_of_ble_eq_true rfl, Nat.le_of_ble_eq_true rfl⟩) hPc hDc hKc hS hA hN (va_recv hKc hPc (ci := 7) (q0 := 0) rfl rfl) rfl hl.1 rfl (Nat.le_of_ble_eq_true rfl) dX2_inSpace_124 (fun H locs hP1 hD1 hk1 hS => ?_)
                obtain ⟨hP, hD⟩ := dn_X2m_9 hP hD hzA hk1 hP1 hD1
                obtain ⟨s21, es21, h⟩ := nd_let_e h
                have hP : va_P (dC, dI) vwCl (dw_X2m a ac s21) H := by rw [es21]; exact hP
                have hD : va_D A (dw_X2m a ac s21) := by rw [es21]; exact hD
                refine lv_i2l hx hb dX2_inSpace_127 rfl ?_
                exact (db_X2_inSpace_128 C K) ((q18.toInt64)) s21 _ _ _ h hP hD hS (lv_sub hl [] rfl)
              · have h := nd_pos h c17
                refine lv_aload_n hx hb dX2_inSpace_106 rfl (lv_at hl 3 rfl) ?_
                refine lv_iload hx hb dX2_inSpace_107 (lv_at hl 5 rfl) ?_
                refine lv_iload hx hb dX2_inSpace_109 (lv_at hl 0 rfl) ?_
                obtain ⟨q22, s23, hq, h⟩ := nd_b2_e h
                have hPc := dp_X2m_9 hP
                have hDc := dd_X2m_9 hD
                have hKc := dy_X2m_9 hK
                have hFc := nd_rs hDc hS hA
                have hzA : ∀ q : Nat, H.size ≤ q → A q := fun q h => hA q (Nat.le_trans hS.1 h)
                refine nd_cVi (As := [.int x5, .int z15]) (rest := []) (q := q22) (w' := dw_X6 (fun k => a (k + 9)) (fun k => ac (k + 9)) s23) ⟨hx, hb, hml, hown, hts⟩ (fun sz => dm_X6_halfAt l hlt dC dI (fun k => a (k + 9)) (fun k => ac (k + 9)) n (x5) (z15) s13.2.2 hq sz) (cwV 2 hts gi_dm_X2_inSpace_2 rfl rfl rfl (by decide +kernel) ⟨Nat.le_of_ble_eq_true rfl, Nat.le_of_ble_eq_true rfl⟩) hPc hDc hKc hS hA hN (va_recv hKc hPc (ci := 7) (q0 := 0) rfl rfl) rfl hl.1 rfl (Nat.le_of_ble_eq_true rfl) dX2_inSpace_111 (fun H locs hP1 hD1 hk1 hS => ?_)
                obtain ⟨hP, hD⟩ := dn_X2m_9 hP hD hzA hk1 hP1 hD1
                obtain ⟨s25, es25, h⟩ := nd_let_e h
                have hP : va_P (dC, dI) vwCl (dw_X2m a ac s25) H := by rw [es25]; exact hP
                have hD : va_D A (dw_X2m a ac s25) := by rw [es25]; exact hD
                refine lv_i2s hx hb dX2_inSpace_114 rfl ?_
                refine lv_i2l hx hb dX2_inSpace_115 rfl ?_
                refine lv_goto (tgt := 128) hx hb dX2_inSpace_116 (by decide) ?_
                exact (db_X2_inSpace_128 C K) ((((q22.toInt16.toInt32) : Int32).toInt64)) s25 _ _ _ h hP hD hS (lv_sub hl [] rfl)
            · have h := nd_pos h c16
              refine lv_aload_n hx hb dX2_inSpace_88 rfl (lv_at hl 3 rfl) ?_
              refine lv_iload hx hb dX2_inSpace_89 (lv_at hl 5 rfl) ?_
              refine lv_iload hx hb dX2_inSpace_91 (lv_at hl 0 rfl) ?_
              obtain ⟨q26, s27, hq, h⟩ := nd_b2_e h
              have hPc := dp_X2m_9 hP
              have hDc := dd_X2m_9 hD
              have hKc := dy_X2m_9 hK
              have hFc := nd_rs hDc hS hA
              have hzA : ∀ q : Nat, H.size ≤ q → A q := fun q h => hA q (Nat.le_trans hS.1 h)
              refine nd_cVi (As := [.int x5, .int z15]) (rest := []) (q := q26) (w' := dw_X6 (fun k => a (k + 9)) (fun k => ac (k + 9)) s27) ⟨hx, hb, hml, hown, hts⟩ (fun sz => dm_X6_wordAt l hlt dC dI (fun k => a (k + 9)) (fun k => ac (k + 9)) n (x5) (z15) s13.2.2 hq sz) (cwV 2 hts gi_dm_X2_inSpace_3 rfl rfl rfl (by decide +kernel) ⟨Nat.le_of_ble_eq_true rfl, Nat.le_of_ble_eq_true rfl⟩) hPc hDc hKc hS hA hN (va_recv hKc hPc (ci := 7) (q0 := 0) rfl rfl) rfl hl.1 rfl (Nat.le_of_ble_eq_true rfl) dX2_inSpace_93 (fun H locs hP1 hD1 hk1 hS => ?_)
              obtain ⟨hP, hD⟩ := dn_X2m_9 hP hD hzA hk1 hP1 hD1
              obtain ⟨s29, es29, h⟩ := nd_let_e h
              have hP : va_P (dC, dI) vwCl (dw_X2m a ac s29) H := by rw [es29]; exact hP
              have hD : va_D A (dw_X2m a ac s29) := by rw [es29]; exact hD
              refine lv_i2l hx hb dX2_inSpace_96 rfl ?_
              refine lv_goto (tgt := 128) hx hb dX2_inSpace_97 (by decide) ?_
              exact (db_X2_inSpace_128 C K) ((q26.toInt64)) s29 _ _ _ h hP hD hS (lv_sub hl [] rfl)
          · have h := nd_pos h c14
            exact (db_X2_inSpace_71 C K)  s13 _ _ _ h hP hD hS (lv_sub hl [1] rfl)
set_option maxHeartbeats 40000000 in
set_option maxRecDepth 100000 in
theorem db_X2_inSpace_0 {p : Program} {l : Launch} {e : Env} {s : State} {m : MethodId} {args : Array Value} {below : List Frame} {meth : Method} {c : Code} {Q : State → Prop} {A : Nat → Prop} {dC : Nat → ClassId} {dI : Nat → Nat → Nat} {a : Nat → Nat} {ac : Nat → ClassId} {n : Nat} {r : Int64 × (St × (St) × (St × (St)))} (C : nd_C p l s m args c A (dC, dI) cX2_inSpace 8 RX2 ow_dm_X2_inSpace (dk_X2m ac)) (K : nd_Kl p l e (headSpec ow_dm_X2_inSpace ({ frames := 1, cells := 0, slots := 0, locals := 23 })).room s m args below meth c Q A (dC, dI) cX2_inSpace (St × (St) × (St × (St))) (dw_X2m a ac) r) : dj_X2_inSpace_0 p l e s m args below meth c Q A dC dI a ac (df_X2_inSpace_0 n) r := by
  obtain ⟨hlt, hx, hb, hml, hown, hts, hN, hA, hK⟩ := id C
  intro v1 v2 s0 H locs ls h hP hD hS hl
  unfold df_X2_inSpace_0 at h
  refine lv_aload_n hx hb dX2_inSpace_0 rfl (lv_at hl 1 rfl) ?_
  refine va_get (D := (dC, dI)) (ci := 7) (v := .int (sI s0.2.2.1 3)) (C := RX6) (T := TX6) (N := 20) hx hb hts hi_dm_X2_inSpace_X6 hown hK hP 9 rfl rfl 13 (by decide) (hts (.fieldLink RX2 221 "TimeMachine$Machine" "current" "I") (List.mem_of_getElem? (i := 1) rfl)) (fun _ h9 => h9) rfl dX2_inSpace_1 ?_
  refine lv_topi (fun z1 ez1 => ?_)
  have h := nd_at h ez1
  refine lv_istore (lv' := [(5, .int z1), (0, .ref (a 0)), (1, .ref (a 9)), (2, .int v1), (3, .long v2)]) hx hb dX2_inSpace_4 hl (by decide) rfl (fun ls hl => ?_)
  refine lv_iload_n hx hb dX2_inSpace_6 rfl (lv_at hl 3 rfl) ?_
  refine lv_bipush (v := 25) hx hb dX2_inSpace_7 (by decide) ?_
  refine lv_icmp_ne (tgt := 16) hx hb dX2_inSpace_9 (by decide) (fun c2 => ?_) (fun c2 => ?_)
  · have h := nd_neg h c2
    refine lv_iload_n hx hb dX2_inSpace_16 rfl (lv_at hl 3 rfl) ?_
    refine lv_bipush (v := 26) hx hb dX2_inSpace_17 (by decide) ?_
    refine lv_icmp_ne (tgt := 26) hx hb dX2_inSpace_19 (by decide) (fun c3 => ?_) (fun c3 => ?_)
    · have h := nd_neg h c3
      refine lv_iconst (v := 1) hx hb dX2_inSpace_26 (by decide) ?_
      exact (db_X2_inSpace_27 C K) (v2) (z1) (1) s0 _ _ _ h hP hD hS (lv_sub hl [1, 2, 4, 0] rfl)
    · have h := nd_pos h c3
      refine lv_iconst (v := 2) hx hb dX2_inSpace_22 (by decide) ?_
      refine lv_goto (tgt := 27) hx hb dX2_inSpace_23 (by decide) ?_
      exact (db_X2_inSpace_27 C K) (v2) (z1) (2) s0 _ _ _ h hP hD hS (lv_sub hl [1, 2, 4, 0] rfl)
  · have h := nd_pos h c2
    refine lv_iconst (v := 4) hx hb dX2_inSpace_12 (by decide) ?_
    refine lv_goto (tgt := 27) hx hb dX2_inSpace_13 (by decide) ?_
    exact (db_X2_inSpace_27 C K) (v2) (z1) (4) s0 _ _ _ h hP hD hS (lv_sub hl [1, 2, 4, 0] rfl)
set_option maxHeartbeats 40000000 in
set_option maxRecDepth 100000 in
theorem dm_X2_inSpace (l : Launch) (hlt : l.stackTraces = false) (dC : Nat → ClassId) (dI : Nat → Nat → Nat) (a : Nat → Nat) (ac : Nat → ClassId) (n : Nat) (v1 : Int32) (v2 : Int64) (s0 : St × (St) × (St × (St))) {r : Int64 × (St × (St) × (St × (St)))} (h : df_X2_inSpace n v1 v2 s0 = some r) (sz : Nat) : Met l yX2_inSpace ow_dm_X2_inSpace ({ frames := 1, cells := 0, slots := 0, locals := 23 }) (va_Pc [.ref (a 0), .ref (a 9), .int v1, .long v2] (fun U => U.heap.size = sz ∧ va_P (dC, dI) vwCl (dw_X2m a ac s0) U.heap ∧ va_K (dC, dI) vwCl (dk_X2m ac) U ∧ va_D (fun _ => True) (dw_X2m a ac s0) ∧ nv_E (va_A (dw_X2m a ac s0) sz) U)) (va_Ql (fun x _ => x = r.1) (fun (_ : Unit) t => va_P (dC, dI) vwCl (dw_X2m a ac r.2) t.heap ∧ va_K (dC, dI) vwCl (dk_X2m ac) t ∧ va_D (va_A (dw_X2m a ac s0) sz) (dw_X2m a ac r.2)) (va_A (dw_X2m a ac s0) sz)) 0 0 (va_A (dw_X2m a ac s0) sz) := by
  refine Met.ofW (cc := cX2_inSpace) (maxL := 8) (ret := (some .long)) (by decide) rfl ?_
  intro p e s m args below meth c s₁ B hml hv
  obtain ⟨rfl, hsz, hP, hK, hD0, hN⟩ := hv
  have hx := B.exec
  have hb := B.bytes
  have hr := B.returns
  have hts := atoms_spec (ws := ow_dm_X2_inSpace) B.pre
  have hown : s.vm.findClass RX2 = some m.cls := findClass_of_methodNamed B.named
  have hlocks := B.notSynchronized
  subst hsz
  have hD := hD0.self (sz := s.heap.size)
  generalize hAe : va_A (dw_X2m a ac s0) s.heap.size = A at hD hN ⊢
  have hA : ∀ q : Nat, s.heap.size ≤ q → A q := fun q h => by rw [← hAe]; exact Or.inr h
  have hl := lv_entry ([.ref (a 0), .ref (a 9), .int v1, .long v2]) (n := 8) (Nat.le_of_ble_eq_true rfl)
  rw [lg_entry_eq]
  generalize (lg_sl ([.ref (a 0), .ref (a 9), .int v1, .long v2]) ++ List.replicate (8 - (lg_sl ([.ref (a 0), .ref (a 9), .int v1, .long v2])).length) Slot.unset).toArray = ls at hl ⊢
  have hl : lv_has ls 8 [(0, .ref (a 0)), (1, .ref (a 9)), (2, .int v1), (3, .long v2)] := hl
  exact db_X2_inSpace_0 (dC := dC) (dI := dI) (a := a) (ac := ac) (n := n) (r := r) ⟨hlt, hx, hb, hml, hown, hts, hN, hA, hK⟩ (fun pc v τ H locs ls d er hP hD hS => by subst er; exact W.lret (v := v) hx hb hr (fun t ht hW => ⟨⟨v, (), rfl, rfl, by rw [ht]; exact hP, va_K.moved hW.alike hK, hD⟩, hS.F ht⟩) hS.2.2 d) v1 v2 s0 _ _ _ h hP hD va_S.rf (lv_sub hl [0, 1, 2, 3] rfl)
def ow_dm_X2_single : List Cond := .code yX2_single cX2_single 6 (some .long) :: ([.constantLong RX2 227 (-1), .fieldLink RX2 32 "TimeMachine$Condition" "oldValue" "[J", .methodLink RX2 229 yX2_inSpace, .instanceMethod yX2_inSpace, .selects RX2 yX2_inSpace yX2_inSpace, .initialized RX2] ++ (u_ws RX2 TX2 20 ++ (ow_dm_X2_inSpace ++ [])))
theorem gd_dm_X2_single : ∀ w ∈ ow_dm_X2_single, (w.onTables && w.keeps) = true ∨ ∃ ty, w = Cond.arrayClass ty := List.forall_mem_cons.mpr ⟨good_of_word rfl, List.forall_mem_append.mpr ⟨fun w h => good_of_word (List.all_eq_true.mp (by decide +kernel) w h), List.forall_mem_append.mpr ⟨gu_X2, List.forall_mem_append.mpr ⟨gd_dm_X2_inSpace, fun _ h => nomatch h⟩⟩⟩⟩
theorem hi_dm_X2_single_X2 : ∀ w ∈ u_ws RX2 TX2 20, w ∈ ow_dm_X2_single := fun w h => List.mem_cons_of_mem _ (List.mem_append_right _ (List.mem_append_left _ h))
theorem gi_dm_X2_single_0 : GoodIn ow_dm_X2_single (wsV RX2 229 RX2 yX2_inSpace ow_dm_X2_inSpace) := goodIn_app (goodIn_of _ (by decide +kernel)) (fun w h => ⟨List.mem_cons_of_mem _ (List.mem_append_right _ (List.mem_append_right _ (List.mem_append_left _ h))), gd_dm_X2_inSpace w h⟩)
def dj_X2_single_64 (p : Program) (l : Launch) (e : Env) (s : State) (m : MethodId) (args : Array Value) (below : List Frame) (meth : Method) (c : Code) (Q : State → Prop) (A : Nat → Prop) (dC : Nat → ClassId) (dI : Nat → Nat → Nat) (a : Nat → Nat) (ac : Nat → ClassId) (g : Int64 → (St × (St) × (St × (St))) → Option (Int64 × (St × (St) × (St × (St))))) (r : Int64 × (St × (St) × (St × (St)))) : Prop := ∀ (y0 : Int64) (s0 : St × (St) × (St × (St))) (H : Heap) (locs : List Loc) (ls : Array Slot), g y0 s0 = some r → va_P (dC, dI) vwCl (dw_X2m a ac s0) H → va_D A (dw_X2m a ac s0) → va_S A s.heap H locs → lv_has ls 6 [] → W p l e (headSpec ow_dm_X2_single ({ frames := 2, cells := 0, slots := 0, locals := 50 })).room s m args below meth c H locs 0 0 Q (F0 m 64 ls [.long y0])
def dj_X2_single_106 (p : Program) (l : Launch) (e : Env) (s : State) (m : MethodId) (args : Array Value) (below : List Frame) (meth : Method) (c : Code) (Q : State → Prop) (A : Nat → Prop) (dC : Nat → ClassId) (dI : Nat → Nat → Nat) (a : Nat → Nat) (ac : Nat → ClassId) (g : Int64 → (St × (St) × (St × (St))) → Option (Int64 × (St × (St) × (St × (St))))) (r : Int64 × (St × (St) × (St × (St)))) : Prop := ∀ (y0 : Int64) (s0 : St × (St) × (St × (St))) (H : Heap) (locs : List Loc) (ls : Array Slot), g y0 s0 = some r → va_P (dC, dI) vwCl (dw_X2m a ac s0) H → va_D A (dw_X2m a ac s0) → va_S A s.heap H locs → lv_has ls 6 [] → W p l e (headSpec ow_dm_X2_single ({ frames := 2, cells := 0, slots := 0, locals := 50 })).room s m args below meth c H locs 0 0 Q (F0 m 106 ls [.long y0])
def dj_X2_single_88 (p : Program) (l : Launch) (e : Env) (s : State) (m : MethodId) (args : Array Value) (below : List Frame) (meth : Method) (c : Code) (Q : State → Prop) (A : Nat → Prop) (dC : Nat → ClassId) (dI : Nat → Nat → Nat) (a : Nat → Nat) (ac : Nat → ClassId) (g : Int64 → (St × (St) × (St × (St))) → Option (Int64 × (St × (St) × (St × (St))))) (r : Int64 × (St × (St) × (St × (St)))) : Prop := ∀ (y0 : Int64) (s0 : St × (St) × (St × (St))) (H : Heap) (locs : List Loc) (ls : Array Slot), g y0 s0 = some r → va_P (dC, dI) vwCl (dw_X2m a ac s0) H → va_D A (dw_X2m a ac s0) → va_S A s.heap H locs → lv_has ls 6 [] → W p l e (headSpec ow_dm_X2_single ({ frames := 2, cells := 0, slots := 0, locals := 50 })).room s m args below meth c H locs 0 0 Q (F0 m 88 ls [.long y0])
def dj_X2_single_0 (p : Program) (l : Launch) (e : Env) (s : State) (m : MethodId) (args : Array Value) (below : List Frame) (meth : Method) (c : Code) (Q : State → Prop) (A : Nat → Prop) (dC : Nat → ClassId) (dI : Nat → Nat → Nat) (a : Nat → Nat) (ac : Nat → ClassId) (g : Int32 → Int32 → Int64 → (St × (St) × (St × (St))) → Option (Int64 × (St × (St) × (St × (St))))) (r : Int64 × (St × (St) × (St × (St)))) : Prop := ∀ (v1 : Int32) (v2 : Int32) (v3 : Int64) (s0 : St × (St) × (St × (St))) (H : Heap) (locs : List Loc) (ls : Array Slot), g v1 v2 v3 s0 = some r → va_P (dC, dI) vwCl (dw_X2m a ac s0) H → va_D A (dw_X2m a ac s0) → va_S A s.heap H locs → lv_has ls 6 [(0, .ref (a 0)), (1, .ref (a 9)), (2, .int v1), (3, .int v2), (4, .long v3)] → W p l e (headSpec ow_dm_X2_single ({ frames := 2, cells := 0, slots := 0, locals := 50 })).room s m args below meth c H locs 0 0 Q (F0 m 0 ls [])
set_option maxHeartbeats 40000000 in
set_option maxRecDepth 100000 in
theorem db_X2_single_64 {p : Program} {l : Launch} {e : Env} {s : State} {m : MethodId} {args : Array Value} {below : List Frame} {meth : Method} {c : Code} {Q : State → Prop} {A : Nat → Prop} {dC : Nat → ClassId} {dI : Nat → Nat → Nat} {a : Nat → Nat} {ac : Nat → ClassId} {n : Nat} {r : Int64 × (St × (St) × (St × (St)))} (C : nd_C p l s m args c A (dC, dI) cX2_single 6 RX2 ow_dm_X2_single (dk_X2m ac)) (K : nd_Kl p l e (headSpec ow_dm_X2_single ({ frames := 2, cells := 0, slots := 0, locals := 50 })).room s m args below meth c Q A (dC, dI) cX2_single (St × (St) × (St × (St))) (dw_X2m a ac) r) : dj_X2_single_64 p l e s m args below meth c Q A dC dI a ac (df_X2_single_64 n) r := by
  obtain ⟨hlt, hx, hb, hml, hown, hts, hN, hA, hK⟩ := id C
  intro y0 s0 H locs ls h hP hD hS hl
  unfold df_X2_single_64 at h
  exact K _ _ _ _ _ _ dX2_single_64 (Option.some.inj h).symm hP hD hS
set_option maxHeartbeats 40000000 in
set_option maxRecDepth 100000 in
theorem db_X2_single_106 {p : Program} {l : Launch} {e : Env} {s : State} {m : MethodId} {args : Array Value} {below : List Frame} {meth : Method} {c : Code} {Q : State → Prop} {A : Nat → Prop} {dC : Nat → ClassId} {dI : Nat → Nat → Nat} {a : Nat → Nat} {ac : Nat → ClassId} {n : Nat} {r : Int64 × (St × (St) × (St × (St)))} (C : nd_C p l s m args c A (dC, dI) cX2_single 6 RX2 ow_dm_X2_single (dk_X2m ac)) (K : nd_Kl p l e (headSpec ow_dm_X2_single ({ frames := 2, cells := 0, slots := 0, locals := 50 })).room s m args below meth c Q A (dC, dI) cX2_single (St × (St) × (St × (St))) (dw_X2m a ac) r) : dj_X2_single_106 p l e s m args below meth c Q A dC dI a ac (df_X2_single_106 n) r := by
  obtain ⟨hlt, hx, hb, hml, hown, hts, hN, hA, hK⟩ := id C
  intro y0 s0 H locs ls h hP hD hS hl
  unfold df_X2_single_106 at h
  exact K _ _ _ _ _ _ dX2_single_106 (Option.some.inj h).symm hP hD hS
set_option maxHeartbeats 40000000 in
set_option maxRecDepth 100000 in
theorem db_X2_single_88 {p : Program} {l : Launch} {e : Env} {s : State} {m : MethodId} {args : Array Value} {below : List Frame} {meth : Method} {c : Code} {Q : State → Prop} {A : Nat → Prop} {dC : Nat → ClassId} {dI : Nat → Nat → Nat} {a : Nat → Nat} {ac : Nat → ClassId} {n : Nat} {r : Int64 × (St × (St) × (St × (St)))} (C : nd_C p l s m args c A (dC, dI) cX2_single 6 RX2 ow_dm_X2_single (dk_X2m ac)) (K : nd_Kl p l e (headSpec ow_dm_X2_single ({ frames := 2, cells := 0, slots := 0, locals := 50 })).room s m args below meth c Q A (dC, dI) cX2_single (St × (St) × (St × (St))) (dw_X2m a ac) r) : dj_X2_single_88 p l e s m args below meth c Q A dC dI a ac (df_X2_single_88 n) r := by
  obtain ⟨hlt, hx, hb, hml, hown, hts, hN, hA, hK⟩ := id C
  intro y0 s0 H locs ls h hP hD hS hl
  unfold df_X2_single_88 at h
  exact K _ _ _ _ _ _ dX2_single_88 (Option.some.inj h).symm hP hD hS
set_option maxHeartbeats 40000000 in
set_option maxRecDepth 100000 in
theorem db_X2_single_0 {p : Program} {l : Launch} {e : Env} {s : State} {m : MethodId} {args : Array Value} {below : List Frame} {meth : Method} {c : Code} {Q : State → Prop} {A : Nat → Prop} {dC : Nat → ClassId} {dI : Nat → Nat → Nat} {a : Nat → Nat} {ac : Nat → ClassId} {n : Nat} {r : Int64 × (St × (St) × (St × (St)))} (C : nd_C p l s m args c A (dC, dI) cX2_single 6 RX2 ow_dm_X2_single (dk_X2m ac)) (K : nd_Kl p l e (headSpec ow_dm_X2_single ({ frames := 2, cells := 0, slots := 0, locals := 50 })).room s m args below meth c Q A (dC, dI) cX2_single (St × (St) × (St × (St))) (dw_X2m a ac) r) : dj_X2_single_0 p l e s m args below meth c Q A dC dI a ac (df_X2_single_0 n) r := by
  obtain ⟨hlt, hx, hb, hml, hown, hts, hN, hA, hK⟩ := id C
  intro v1 v2 v3 s0 H locs ls h hP hD hS hl
  unfold df_X2_single_0 at h
  refine lv_iload_n hx hb dX2_single_0 rfl (lv_at hl 2 rfl) ?_
  by_cases c1 : v1 = 19
  · have h := nd_pos h c1
    refine lv_lookup (off := 51) (tgt := 52) hx hb dX2_single_1 (by decide) (by rw [c1]; decide) (by decide) ?_
    refine lv_lload hx hb dX2_single_52 (lv_at hl 4 rfl) ?_
    refine lv_lconst (v := 0) hx hb dX2_single_54 (by decide) ?_
    refine W.lcmp hx hb dX2_single_55 ?_
    refine lv_if_ne (tgt := 63) hx hb dX2_single_56 (by decide) (fun c2 => ?_) (fun c2 => ?_)
    · have h := nd_neg h c2
      refine lv_lconst (v := 0) hx hb dX2_single_63 (by decide) ?_
      exact (db_X2_single_64 C K) (0) s0 _ _ _ h hP hD hS (lv_sub hl [] rfl)
    · have h := nd_pos h c2
      refine lv_lconst (v := 1) hx hb dX2_single_59 (by decide) ?_
      refine lv_goto (tgt := 64) hx hb dX2_single_60 (by decide) ?_
      exact (db_X2_single_64 C K) (1) s0 _ _ _ h hP hD hS (lv_sub hl [] rfl)
  have h := nd_neg h c1
  by_cases c3 : v1 = 20
  · have h := nd_pos h c3
    refine lv_lookup (off := 64) (tgt := 65) hx hb dX2_single_1 (by decide) (by rw [c3]; decide) (by decide) ?_
    refine lv_lload hx hb dX2_single_65 (lv_at hl 4 rfl) ?_
    refine lv_lneg hx hb dX2_single_67 ?_
    exact K _ _ _ _ _ _ dX2_single_68 (Option.some.inj h).symm hP hD hS
  have h := nd_neg h c3
  by_cases c4 : v1 = 21
  · have h := nd_pos h c4
    refine lv_lookup (off := 68) (tgt := 69) hx hb dX2_single_1 (by decide) (by rw [c4]; decide) (by decide) ?_
    refine lv_lload hx hb dX2_single_69 (lv_at hl 4 rfl) ?_
    refine lv_ldc2 hx hb hown (hts (.constantLong RX2 227 (-1)) (List.mem_of_getElem? (i := 1) rfl)) dX2_single_71 ?_
    refine lv_lxor hx hb dX2_single_74 ?_
    exact K _ _ _ _ _ _ dX2_single_75 (Option.some.inj h).symm hP hD hS
  have h := nd_neg h c4
  by_cases c5 : v1 = 24
  · have h := nd_pos h c5
    refine lv_lookup (off := 88) (tgt := 89) hx hb dX2_single_1 (by decide) (by rw [c5]; decide) (by decide) ?_
    refine lv_lload hx hb dX2_single_89 (lv_at hl 4 rfl) ?_
    refine lv_aload_n hx hb dX2_single_91 rfl (lv_at hl 0 rfl) ?_
    refine va_get (D := (dC, dI)) (ci := 3) (v := .ref (a 8)) (C := RX2) (T := TX2) (N := 20) hx hb hts hi_dm_X2_single_X2 hown hK hP 0 rfl rfl 9 (by decide) (hts (.fieldLink RX2 32 "TimeMachine$Condition" "oldValue" "[J") (List.mem_of_getElem? (i := 2) rfl)) (fun _ h9 => h9) rfl dX2_single_92 ?_
    refine lv_iload_n hx hb dX2_single_95 rfl (lv_at hl 3 rfl) ?_
    obtain ⟨i6, h⟩ := nd_ck_e h
    refine va_lald (i := v2) hx hb hK hP 8 7 rfl rfl i6 dX2_single_96 ?_
    refine W.lcmp hx hb dX2_single_97 ?_
    refine lv_if_eq (tgt := 105) hx hb dX2_single_98 (by decide) (fun c7 => ?_) (fun c7 => ?_)
    · have h := nd_pos h c7
      refine lv_lconst (v := 0) hx hb dX2_single_105 (by decide) ?_
      exact (db_X2_single_106 C K) (0) s0 _ _ _ h hP hD hS (lv_sub hl [] rfl)
    · have h := nd_neg h c7
      refine lv_lconst (v := 1) hx hb dX2_single_101 (by decide) ?_
      refine lv_goto (tgt := 106) hx hb dX2_single_102 (by decide) ?_
      exact (db_X2_single_106 C K) (1) s0 _ _ _ h hP hD hS (lv_sub hl [] rfl)
  have h := nd_neg h c5
  by_cases c8 : v1 = 36
  · have h := nd_pos h c8
    refine lv_lookup (off := 75) (tgt := 76) hx hb dX2_single_1 (by decide) (by rw [c8]; decide) (by decide) ?_
    refine lv_lload hx hb dX2_single_76 (lv_at hl 4 rfl) ?_
    refine lv_lconst (v := 0) hx hb dX2_single_78 (by decide) ?_
    refine W.lcmp hx hb dX2_single_79 ?_
    refine lv_if_eq (tgt := 87) hx hb dX2_single_80 (by decide) (fun c9 => ?_) (fun c9 => ?_)
    · have h := nd_pos h c9
      refine lv_lconst (v := 0) hx hb dX2_single_87 (by decide) ?_
      exact (db_X2_single_88 C K) (0) s0 _ _ _ h hP hD hS (lv_sub hl [] rfl)
    · have h := nd_neg h c9
      refine lv_lconst (v := 1) hx hb dX2_single_83 (by decide) ?_
      refine lv_goto (tgt := 88) hx hb dX2_single_84 (by decide) ?_
      exact (db_X2_single_88 C K) (1) s0 _ _ _ h hP hD hS (lv_sub hl [] rfl)
  have h := nd_neg h c8
  refine lv_lookup (off := 106) (tgt := 107) hx hb dX2_single_1 (by decide) (show Op.lookupswitch.offset [(19, 51), (20, 64), (21, 68), (24, 88), (36, 75)] 106 (v1 : Int32).toInt = 106 by rw [lv_osw c1 (by decide), lv_osw c3 (by decide), lv_osw c4 (by decide), lv_osw c5 (by decide), lv_osw c8 (by decide)] <;> rfl) (by decide) ?_
  refine lv_aload_n hx hb dX2_single_107 rfl (lv_at hl 0 rfl) ?_
  refine lv_aload_n hx hb dX2_single_108 rfl (lv_at hl 1 rfl) ?_
  refine lv_iload_n hx hb dX2_single_109 rfl (lv_at hl 2 rfl) ?_
  refine lv_lload hx hb dX2_single_110 (lv_at hl 4 rfl) ?_
  obtain ⟨q10, s11, hq, h⟩ := nd_b2_e h
  have hPc := hP
  have hDc := hD
  have hKc := hK
  have hFc := nd_rs hD hS hA
  refine nd_cVl (As := [.ref (a 9), .int v1, .long v3]) (rest := []) (q := q10) (w' := dw_X2m a ac s11) ⟨hx, hb, hml, hown, hts⟩ (fun sz => dm_X2_inSpace l hlt dC dI a ac n (v1) (v3) s0 hq sz) (cwV 3 hts gi_dm_X2_single_0 rfl rfl rfl (by decide +kernel) ⟨Nat.le_of_ble_eq_true rfl, Nat.le_of_ble_eq_true rfl⟩) hPc hDc hKc hS hA hN (va_recv hKc hPc (ci := 3) (q0 := 0) rfl rfl) rfl hl.1 rfl (Nat.le_of_ble_eq_true rfl) dX2_single_112 (fun H locs hP1 hD1 hk1 hS => ?_)
  have hP := hP1
  have hD := hD1.weaken (fun k q _ h => hFc q.1 h)
  exact K _ _ _ _ _ _ dX2_single_115 (Option.some.inj h).symm hP hD hS
set_option maxHeartbeats 40000000 in
set_option maxRecDepth 100000 in
theorem dm_X2_single (l : Launch) (hlt : l.stackTraces = false) (dC : Nat → ClassId) (dI : Nat → Nat → Nat) (a : Nat → Nat) (ac : Nat → ClassId) (n : Nat) (v1 : Int32) (v2 : Int32) (v3 : Int64) (s0 : St × (St) × (St × (St))) {r : Int64 × (St × (St) × (St × (St)))} (h : df_X2_single n v1 v2 v3 s0 = some r) (sz : Nat) : Met l yX2_single ow_dm_X2_single ({ frames := 2, cells := 0, slots := 0, locals := 50 }) (va_Pc [.ref (a 0), .ref (a 9), .int v1, .int v2, .long v3] (fun U => U.heap.size = sz ∧ va_P (dC, dI) vwCl (dw_X2m a ac s0) U.heap ∧ va_K (dC, dI) vwCl (dk_X2m ac) U ∧ va_D (fun _ => True) (dw_X2m a ac s0) ∧ nv_E (va_A (dw_X2m a ac s0) sz) U)) (va_Ql (fun x _ => x = r.1) (fun (_ : Unit) t => va_P (dC, dI) vwCl (dw_X2m a ac r.2) t.heap ∧ va_K (dC, dI) vwCl (dk_X2m ac) t ∧ va_D (va_A (dw_X2m a ac s0) sz) (dw_X2m a ac r.2)) (va_A (dw_X2m a ac s0) sz)) 0 0 (va_A (dw_X2m a ac s0) sz) := by
  refine Met.ofW (cc := cX2_single) (maxL := 6) (ret := (some .long)) (by decide) rfl ?_
  intro p e s m args below meth c s₁ B hml hv
  obtain ⟨rfl, hsz, hP, hK, hD0, hN⟩ := hv
  have hx := B.exec
  have hb := B.bytes
  have hr := B.returns
  have hts := atoms_spec (ws := ow_dm_X2_single) B.pre
  have hown : s.vm.findClass RX2 = some m.cls := findClass_of_methodNamed B.named
  have hlocks := B.notSynchronized
  subst hsz
  have hD := hD0.self (sz := s.heap.size)
  generalize hAe : va_A (dw_X2m a ac s0) s.heap.size = A at hD hN ⊢
  have hA : ∀ q : Nat, s.heap.size ≤ q → A q := fun q h => by rw [← hAe]; exact Or.inr h
  have hl := lv_entry ([.ref (a 0), .ref (a 9), .int v1, .int v2, .long v3]) (n := 6) (Nat.le_of_ble_eq_true rfl)
  rw [lg_entry_eq]
  generalize (lg_sl ([.ref (a 0), .ref (a 9), .int v1, .int v2, .long v3]) ++ List.replicate (6 - (lg_sl ([.ref (a 0), .ref (a 9), .int v1, .int v2, .long v3])).length) Slot.unset).toArray = ls at hl ⊢
  have hl : lv_has ls 6 [(0, .ref (a 0)), (1, .ref (a 9)), (2, .int v1), (3, .int v2), (4, .long v3)] := hl
  exact db_X2_single_0 (dC := dC) (dI := dI) (a := a) (ac := ac) (n := n) (r := r) ⟨hlt, hx, hb, hml, hown, hts, hN, hA, hK⟩ (fun pc v τ H locs ls d er hP hD hS => by subst er; exact W.lret (v := v) hx hb hr (fun t ht hW => ⟨⟨v, (), rfl, rfl, by rw [ht]; exact hP, va_K.moved hW.alike hK, hD⟩, hS.F ht⟩) hS.2.2 d) v1 v2 v3 s0 _ _ _ h hP hD va_S.rf (lv_sub hl [0, 1, 2, 3, 4] rfl)
def ow_dm_X2_reckoned : List Cond := .code yX2_reckoned cX2_reckoned 6 (some .long) :: ([.fieldLink RX2 199 "TimeMachine$Condition" "failed" "Z"] ++ (u_ws RX2 TX2 20 ++ []))
theorem gd_dm_X2_reckoned : ∀ w ∈ ow_dm_X2_reckoned, (w.onTables && w.keeps) = true ∨ ∃ ty, w = Cond.arrayClass ty := List.forall_mem_cons.mpr ⟨good_of_word rfl, List.forall_mem_append.mpr ⟨fun w h => good_of_word (List.all_eq_true.mp (by decide +kernel) w h), List.forall_mem_append.mpr ⟨gu_X2, fun _ h => nomatch h⟩⟩⟩
theorem hi_dm_X2_reckoned_X2 : ∀ w ∈ u_ws RX2 TX2 20, w ∈ ow_dm_X2_reckoned := fun w h => List.mem_cons_of_mem _ (List.mem_append_right _ (List.mem_append_left _ h))
def dj_X2_reckoned_94 (p : Program) (l : Launch) (e : Env) (s : State) (m : MethodId) (args : Array Value) (below : List Frame) (meth : Method) (c : Code) (Q : State → Prop) (A : Nat → Prop) (dC : Nat → ClassId) (dI : Nat → Nat → Nat) (a : Nat → Nat) (ac : Nat → ClassId) (g : Int64 → (St) → Option (Int64 × (St))) (r : Int64 × (St)) : Prop := ∀ (y0 : Int64) (s0 : St) (H : Heap) (locs : List Loc) (ls : Array Slot), g y0 s0 = some r → va_P (dC, dI) vwCl (dw_X2c a ac s0) H → va_D A (dw_X2c a ac s0) → va_S A s.heap H locs → lv_has ls 6 [] → W p l e (headSpec ow_dm_X2_reckoned ({ frames := 0, cells := 0, slots := 0, locals := 0 })).room s m args below meth c H locs 0 0 Q (F0 m 94 ls [.long y0])
def dj_X2_reckoned_0 (p : Program) (l : Launch) (e : Env) (s : State) (m : MethodId) (args : Array Value) (below : List Frame) (meth : Method) (c : Code) (Q : State → Prop) (A : Nat → Prop) (dC : Nat → ClassId) (dI : Nat → Nat → Nat) (a : Nat → Nat) (ac : Nat → ClassId) (g : Int32 → Int64 → Int64 → (St) → Option (Int64 × (St))) (r : Int64 × (St)) : Prop := ∀ (v0 : Int32) (v1 : Int64) (v2 : Int64) (s0 : St) (H : Heap) (locs : List Loc) (ls : Array Slot), g v0 v1 v2 s0 = some r → va_P (dC, dI) vwCl (dw_X2c a ac s0) H → va_D A (dw_X2c a ac s0) → va_S A s.heap H locs → lv_has ls 6 [(0, .ref (a 0)), (1, .int v0), (2, .long v1), (4, .long v2)] → W p l e (headSpec ow_dm_X2_reckoned ({ frames := 0, cells := 0, slots := 0, locals := 0 })).room s m args below meth c H locs 0 0 Q (F0 m 0 ls [])
set_option maxHeartbeats 40000000 in
set_option maxRecDepth 100000 in
theorem db_X2_reckoned_94 {p : Program} {l : Launch} {e : Env} {s : State} {m : MethodId} {args : Array Value} {below : List Frame} {meth : Method} {c : Code} {Q : State → Prop} {A : Nat → Prop} {dC : Nat → ClassId} {dI : Nat → Nat → Nat} {a : Nat → Nat} {ac : Nat → ClassId} {n : Nat} {r : Int64 × (St)} (C : nd_C p l s m args c A (dC, dI) cX2_reckoned 6 RX2 ow_dm_X2_reckoned (dk_X2c ac)) (K : nd_Kl p l e (headSpec ow_dm_X2_reckoned ({ frames := 0, cells := 0, slots := 0, locals := 0 })).room s m args below meth c Q A (dC, dI) cX2_reckoned (St) (dw_X2c a ac) r) : dj_X2_reckoned_94 p l e s m args below meth c Q A dC dI a ac (df_X2_reckoned_94 n) r := by
  obtain ⟨hlt, hx, hb, hml, hown, hts, hN, hA, hK⟩ := id C
  intro y0 s0 H locs ls h hP hD hS hl
  unfold df_X2_reckoned_94 at h
  exact K _ _ _ _ _ _ dX2_reckoned_94 (Option.some.inj h).symm hP hD hS
set_option maxHeartbeats 40000000 in
set_option maxRecDepth 100000 in
theorem db_X2_reckoned_0 {p : Program} {l : Launch} {e : Env} {s : State} {m : MethodId} {args : Array Value} {below : List Frame} {meth : Method} {c : Code} {Q : State → Prop} {A : Nat → Prop} {dC : Nat → ClassId} {dI : Nat → Nat → Nat} {a : Nat → Nat} {ac : Nat → ClassId} {n : Nat} {r : Int64 × (St)} (C : nd_C p l s m args c A (dC, dI) cX2_reckoned 6 RX2 ow_dm_X2_reckoned (dk_X2c ac)) (K : nd_Kl p l e (headSpec ow_dm_X2_reckoned ({ frames := 0, cells := 0, slots := 0, locals := 0 })).room s m args below meth c Q A (dC, dI) cX2_reckoned (St) (dw_X2c a ac) r) : dj_X2_reckoned_0 p l e s m args below meth c Q A dC dI a ac (df_X2_reckoned_0 n) r := by
  obtain ⟨hlt, hx, hb, hml, hown, hts, hN, hA, hK⟩ := id C
  intro v0 v1 v2 s0 H locs ls h hP hD hS hl
  unfold df_X2_reckoned_0 at h
  refine lv_iload_n hx hb dX2_reckoned_0 rfl (lv_at hl 1 rfl) ?_
  by_cases c1 : v0 = 12
  · have h := nd_pos h c1
    refine lv_tableIn (off := 35) (tgt := 36) hx hb dX2_reckoned_1 (by rw [c1]; decide) (by rw [c1]; decide) (by rw [c1]; decide) (by decide) ?_
    refine lv_lload_n hx hb dX2_reckoned_36 rfl (lv_at hl 2 rfl) ?_
    refine lv_lload hx hb dX2_reckoned_37 (lv_at hl 3 rfl) ?_
    refine lv_l2i hx hb dX2_reckoned_39 rfl ?_
    refine lv_lshl hx hb dX2_reckoned_40 rfl ?_
    exact K _ _ _ _ _ _ dX2_reckoned_41 (Option.some.inj h).symm hP hD hS
  have h := nd_neg h c1
  by_cases c2 : v0 = 13
  · have h := nd_pos h c2
    refine lv_tableIn (off := 41) (tgt := 42) hx hb dX2_reckoned_1 (by rw [c2]; decide) (by rw [c2]; decide) (by rw [c2]; decide) (by decide) ?_
    refine lv_lload_n hx hb dX2_reckoned_42 rfl (lv_at hl 2 rfl) ?_
    refine lv_lload hx hb dX2_reckoned_43 (lv_at hl 3 rfl) ?_
    refine lv_l2i hx hb dX2_reckoned_45 rfl ?_
    refine lv_lshr hx hb dX2_reckoned_46 rfl ?_
    exact K _ _ _ _ _ _ dX2_reckoned_47 (Option.some.inj h).symm hP hD hS
  have h := nd_neg h c2
  by_cases c3 : v0 = 14
  · have h := nd_pos h c3
    refine lv_tableIn (off := 47) (tgt := 48) hx hb dX2_reckoned_1 (by rw [c3]; decide) (by rw [c3]; decide) (by rw [c3]; decide) (by decide) ?_
    refine lv_lload_n hx hb dX2_reckoned_48 rfl (lv_at hl 2 rfl) ?_
    refine lv_lload hx hb dX2_reckoned_49 (lv_at hl 3 rfl) ?_
    refine lv_ladd hx hb dX2_reckoned_51 ?_
    exact K _ _ _ _ _ _ dX2_reckoned_52 (Option.some.inj h).symm hP hD hS
  have h := nd_neg h c3
  by_cases c4 : v0 = 15
  · have h := nd_pos h c4
    refine lv_tableIn (off := 52) (tgt := 53) hx hb dX2_reckoned_1 (by rw [c4]; decide) (by rw [c4]; decide) (by rw [c4]; decide) (by decide) ?_
    refine lv_lload_n hx hb dX2_reckoned_53 rfl (lv_at hl 2 rfl) ?_
    refine lv_lload hx hb dX2_reckoned_54 (lv_at hl 3 rfl) ?_
    refine lv_lsub hx hb dX2_reckoned_56 ?_
    exact K _ _ _ _ _ _ dX2_reckoned_57 (Option.some.inj h).symm hP hD hS
  have h := nd_neg h c4
  by_cases c5 : v0 = 16
  · have h := nd_pos h c5
    refine lv_tableIn (off := 57) (tgt := 58) hx hb dX2_reckoned_1 (by rw [c5]; decide) (by rw [c5]; decide) (by rw [c5]; decide) (by decide) ?_
    refine lv_lload_n hx hb dX2_reckoned_58 rfl (lv_at hl 2 rfl) ?_
    refine lv_lload hx hb dX2_reckoned_59 (lv_at hl 3 rfl) ?_
    refine lv_lmul hx hb dX2_reckoned_61 ?_
    exact K _ _ _ _ _ _ dX2_reckoned_62 (Option.some.inj h).symm hP hD hS
  have h := nd_neg h c5
  refine lv_tableOut (tgt := 63) hx hb dX2_reckoned_1 (by have g0 := nv_nei c1 (k := 12) (by decide); have g1 := nv_nei c2 (k := 13) (by decide); have g2 := nv_nei c3 (k := 14) (by decide); have g3 := nv_nei c4 (k := 15) (by decide); have g4 := nv_nei c5 (k := 16) (by decide); omega) (by decide) ?_
  refine lv_lload hx hb dX2_reckoned_63 (lv_at hl 3 rfl) ?_
  refine lv_lconst (v := 0) hx hb dX2_reckoned_65 (by decide) ?_
  refine W.lcmp hx hb dX2_reckoned_66 ?_
  refine lv_if_ne (tgt := 77) hx hb dX2_reckoned_67 (by decide) (fun c6 => ?_) (fun c6 => ?_)
  · have h := nd_neg h c6
    refine lv_iload_n hx hb dX2_reckoned_77 rfl (lv_at hl 1 rfl) ?_
    refine lv_bipush (v := 17) hx hb dX2_reckoned_78 (by decide) ?_
    refine lv_icmp_ne (tgt := 90) hx hb dX2_reckoned_80 (by decide) (fun c7 => ?_) (fun c7 => ?_)
    · have h := nd_neg h c7
      refine lv_lload_n hx hb dX2_reckoned_90 rfl (lv_at hl 2 rfl) ?_
      refine lv_lload hx hb dX2_reckoned_91 (lv_at hl 3 rfl) ?_
      obtain ⟨i8, h⟩ := nd_nz_e h
      refine lv_lrem hx hb dX2_reckoned_93 i8 ?_
      exact (db_X2_reckoned_94 C K) (((v1 : Int64) - v1 / v2 * v2)) s0 _ _ _ h hP hD hS (lv_sub hl [] rfl)
    · have h := nd_pos h c7
      refine lv_lload_n hx hb dX2_reckoned_83 rfl (lv_at hl 2 rfl) ?_
      refine lv_lload hx hb dX2_reckoned_84 (lv_at hl 3 rfl) ?_
      obtain ⟨i9, h⟩ := nd_nz_e h
      refine lv_ldiv hx hb dX2_reckoned_86 i9 ?_
      refine lv_goto (tgt := 94) hx hb dX2_reckoned_87 (by decide) ?_
      exact (db_X2_reckoned_94 C K) (((v1 : Int64) / v2)) s0 _ _ _ h hP hD hS (lv_sub hl [] rfl)
  · have h := nd_pos h c6
    refine lv_aload_n hx hb dX2_reckoned_70 rfl (lv_at hl 0 rfl) ?_
    refine lv_iconst (v := 1) hx hb dX2_reckoned_71 (by decide) ?_
    refine va_put (D := (dC, dI)) (ci := 3) (v := .int 1) (ty := .boolean) (C := RX2) (T := TX2) (N := 20) hx hb hts hi_dm_X2_reckoned_X2 tyX2 tyX2_ok nmX2 hown hK hP hD hS 0 rfl rfl 11 (by decide) (hts (.fieldLink RX2 199 "TimeMachine$Condition" "failed" "Z") (List.mem_of_getElem? (i := 1) rfl)) (fun _ h9 => h9) rfl (by decide +kernel) (by first | rfl | decide) rfl (Nat.le_of_ble_eq_true rfl) dX2_reckoned_72 (fun H locs hP hD hS => ?_)
    obtain ⟨s10, es10, h⟩ := nd_let_e h
    have hP : va_P (dC, dI) vwCl (dw_X2c a ac s10) H := by rw [es10]; exact hP
    have hD : va_D A (dw_X2c a ac s10) := by rw [es10]; exact hD
    refine lv_lconst (v := 0) hx hb dX2_reckoned_75 (by decide) ?_
    exact K _ _ _ _ _ _ dX2_reckoned_76 (Option.some.inj h).symm hP hD hS
set_option maxHeartbeats 40000000 in
set_option maxRecDepth 100000 in
theorem dm_X2_reckoned (l : Launch) (hlt : l.stackTraces = false) (dC : Nat → ClassId) (dI : Nat → Nat → Nat) (a : Nat → Nat) (ac : Nat → ClassId) (n : Nat) (v0 : Int32) (v1 : Int64) (v2 : Int64) (s0 : St) {r : Int64 × (St)} (h : df_X2_reckoned n v0 v1 v2 s0 = some r) (sz : Nat) : Met l yX2_reckoned ow_dm_X2_reckoned ({ frames := 0, cells := 0, slots := 0, locals := 0 }) (va_Pc [.ref (a 0), .int v0, .long v1, .long v2] (fun U => U.heap.size = sz ∧ va_P (dC, dI) vwCl (dw_X2c a ac s0) U.heap ∧ va_K (dC, dI) vwCl (dk_X2c ac) U ∧ va_D (fun _ => True) (dw_X2c a ac s0) ∧ nv_E (va_A (dw_X2c a ac s0) sz) U)) (va_Ql (fun x _ => x = r.1) (fun (_ : Unit) t => va_P (dC, dI) vwCl (dw_X2c a ac r.2) t.heap ∧ va_K (dC, dI) vwCl (dk_X2c ac) t ∧ va_D (va_A (dw_X2c a ac s0) sz) (dw_X2c a ac r.2)) (va_A (dw_X2c a ac s0) sz)) 0 0 (va_A (dw_X2c a ac s0) sz) := by
  refine Met.ofW (cc := cX2_reckoned) (maxL := 6) (ret := (some .long)) (by decide) rfl ?_
  intro p e s m args below meth c s₁ B hml hv
  obtain ⟨rfl, hsz, hP, hK, hD0, hN⟩ := hv
  have hx := B.exec
  have hb := B.bytes
  have hr := B.returns
  have hts := atoms_spec (ws := ow_dm_X2_reckoned) B.pre
  have hown : s.vm.findClass RX2 = some m.cls := findClass_of_methodNamed B.named
  have hlocks := B.notSynchronized
  subst hsz
  have hD := hD0.self (sz := s.heap.size)
  generalize hAe : va_A (dw_X2c a ac s0) s.heap.size = A at hD hN ⊢
  have hA : ∀ q : Nat, s.heap.size ≤ q → A q := fun q h => by rw [← hAe]; exact Or.inr h
  have hl := lv_entry ([.ref (a 0), .int v0, .long v1, .long v2]) (n := 6) (Nat.le_of_ble_eq_true rfl)
  rw [lg_entry_eq]
  generalize (lg_sl ([.ref (a 0), .int v0, .long v1, .long v2]) ++ List.replicate (6 - (lg_sl ([.ref (a 0), .int v0, .long v1, .long v2])).length) Slot.unset).toArray = ls at hl ⊢
  have hl : lv_has ls 6 [(0, .ref (a 0)), (1, .int v0), (2, .long v1), (4, .long v2)] := hl
  exact db_X2_reckoned_0 (dC := dC) (dI := dI) (a := a) (ac := ac) (n := n) (r := r) ⟨hlt, hx, hb, hml, hown, hts, hN, hA, hK⟩ (fun pc v τ H locs ls d er hP hD hS => by subst er; exact W.lret (v := v) hx hb hr (fun t ht hW => ⟨⟨v, (), rfl, rfl, by rw [ht]; exact hP, va_K.moved hW.alike hK, hD⟩, hS.F ht⟩) hS.2.2 d) v0 v1 v2 s0 _ _ _ h hP hD va_S.rf (lv_sub hl [0, 1, 2, 3] rfl)
def ow_dm_X2_joined : List Cond := .code yX2_joined cX2_joined 6 (some .long) :: ([.methodLink RX2 248 yX2_reckoned, .instanceMethod yX2_reckoned, .selects RX2 yX2_reckoned yX2_reckoned, .initialized RX2] ++ (ow_dm_X2_reckoned ++ []))
theorem gd_dm_X2_joined : ∀ w ∈ ow_dm_X2_joined, (w.onTables && w.keeps) = true ∨ ∃ ty, w = Cond.arrayClass ty := List.forall_mem_cons.mpr ⟨good_of_word rfl, List.forall_mem_append.mpr ⟨fun w h => good_of_word (List.all_eq_true.mp (by decide +kernel) w h), List.forall_mem_append.mpr ⟨gd_dm_X2_reckoned, fun _ h => nomatch h⟩⟩⟩
theorem gi_dm_X2_joined_0 : GoodIn ow_dm_X2_joined (wsV RX2 248 RX2 yX2_reckoned ow_dm_X2_reckoned) := goodIn_app (goodIn_of _ (by decide +kernel)) (fun w h => ⟨List.mem_cons_of_mem _ (List.mem_append_right _ (List.mem_append_left _ h)), gd_dm_X2_reckoned w h⟩)
def dj_X2_joined_64 (p : Program) (l : Launch) (e : Env) (s : State) (m : MethodId) (args : Array Value) (below : List Frame) (meth : Method) (c : Code) (Q : State → Prop) (A : Nat → Prop) (dC : Nat → ClassId) (dI : Nat → Nat → Nat) (a : Nat → Nat) (ac : Nat → ClassId) (g : Int64 → (St) → Option (Int64 × (St))) (r : Int64 × (St)) : Prop := ∀ (y0 : Int64) (s0 : St) (H : Heap) (locs : List Loc) (ls : Array Slot), g y0 s0 = some r → va_P (dC, dI) vwCl (dw_X2c a ac s0) H → va_D A (dw_X2c a ac s0) → va_S A s.heap H locs → lv_has ls 6 [] → W p l e (headSpec ow_dm_X2_joined ({ frames := 1, cells := 0, slots := 0, locals := 25 })).room s m args below meth c H locs 0 0 Q (F0 m 64 ls [.long y0])
def dj_X2_joined_77 (p : Program) (l : Launch) (e : Env) (s : State) (m : MethodId) (args : Array Value) (below : List Frame) (meth : Method) (c : Code) (Q : State → Prop) (A : Nat → Prop) (dC : Nat → ClassId) (dI : Nat → Nat → Nat) (a : Nat → Nat) (ac : Nat → ClassId) (g : Int64 → (St) → Option (Int64 × (St))) (r : Int64 × (St)) : Prop := ∀ (y0 : Int64) (s0 : St) (H : Heap) (locs : List Loc) (ls : Array Slot), g y0 s0 = some r → va_P (dC, dI) vwCl (dw_X2c a ac s0) H → va_D A (dw_X2c a ac s0) → va_S A s.heap H locs → lv_has ls 6 [] → W p l e (headSpec ow_dm_X2_joined ({ frames := 1, cells := 0, slots := 0, locals := 25 })).room s m args below meth c H locs 0 0 Q (F0 m 77 ls [.long y0])
def dj_X2_joined_90 (p : Program) (l : Launch) (e : Env) (s : State) (m : MethodId) (args : Array Value) (below : List Frame) (meth : Method) (c : Code) (Q : State → Prop) (A : Nat → Prop) (dC : Nat → ClassId) (dI : Nat → Nat → Nat) (a : Nat → Nat) (ac : Nat → ClassId) (g : Int64 → (St) → Option (Int64 × (St))) (r : Int64 × (St)) : Prop := ∀ (y0 : Int64) (s0 : St) (H : Heap) (locs : List Loc) (ls : Array Slot), g y0 s0 = some r → va_P (dC, dI) vwCl (dw_X2c a ac s0) H → va_D A (dw_X2c a ac s0) → va_S A s.heap H locs → lv_has ls 6 [] → W p l e (headSpec ow_dm_X2_joined ({ frames := 1, cells := 0, slots := 0, locals := 25 })).room s m args below meth c H locs 0 0 Q (F0 m 90 ls [.long y0])
def dj_X2_joined_103 (p : Program) (l : Launch) (e : Env) (s : State) (m : MethodId) (args : Array Value) (below : List Frame) (meth : Method) (c : Code) (Q : State → Prop) (A : Nat → Prop) (dC : Nat → ClassId) (dI : Nat → Nat → Nat) (a : Nat → Nat) (ac : Nat → ClassId) (g : Int64 → (St) → Option (Int64 × (St))) (r : Int64 × (St)) : Prop := ∀ (y0 : Int64) (s0 : St) (H : Heap) (locs : List Loc) (ls : Array Slot), g y0 s0 = some r → va_P (dC, dI) vwCl (dw_X2c a ac s0) H → va_D A (dw_X2c a ac s0) → va_S A s.heap H locs → lv_has ls 6 [] → W p l e (headSpec ow_dm_X2_joined ({ frames := 1, cells := 0, slots := 0, locals := 25 })).room s m args below meth c H locs 0 0 Q (F0 m 103 ls [.long y0])
def dj_X2_joined_116 (p : Program) (l : Launch) (e : Env) (s : State) (m : MethodId) (args : Array Value) (below : List Frame) (meth : Method) (c : Code) (Q : State → Prop) (A : Nat → Prop) (dC : Nat → ClassId) (dI : Nat → Nat → Nat) (a : Nat → Nat) (ac : Nat → ClassId) (g : Int64 → (St) → Option (Int64 × (St))) (r : Int64 × (St)) : Prop := ∀ (y0 : Int64) (s0 : St) (H : Heap) (locs : List Loc) (ls : Array Slot), g y0 s0 = some r → va_P (dC, dI) vwCl (dw_X2c a ac s0) H → va_D A (dw_X2c a ac s0) → va_S A s.heap H locs → lv_has ls 6 [] → W p l e (headSpec ow_dm_X2_joined ({ frames := 1, cells := 0, slots := 0, locals := 25 })).room s m args below meth c H locs 0 0 Q (F0 m 116 ls [.long y0])
def dj_X2_joined_129 (p : Program) (l : Launch) (e : Env) (s : State) (m : MethodId) (args : Array Value) (below : List Frame) (meth : Method) (c : Code) (Q : State → Prop) (A : Nat → Prop) (dC : Nat → ClassId) (dI : Nat → Nat → Nat) (a : Nat → Nat) (ac : Nat → ClassId) (g : Int64 → (St) → Option (Int64 × (St))) (r : Int64 × (St)) : Prop := ∀ (y0 : Int64) (s0 : St) (H : Heap) (locs : List Loc) (ls : Array Slot), g y0 s0 = some r → va_P (dC, dI) vwCl (dw_X2c a ac s0) H → va_D A (dw_X2c a ac s0) → va_S A s.heap H locs → lv_has ls 6 [] → W p l e (headSpec ow_dm_X2_joined ({ frames := 1, cells := 0, slots := 0, locals := 25 })).room s m args below meth c H locs 0 0 Q (F0 m 129 ls [.long y0])
def dj_X2_joined_0 (p : Program) (l : Launch) (e : Env) (s : State) (m : MethodId) (args : Array Value) (below : List Frame) (meth : Method) (c : Code) (Q : State → Prop) (A : Nat → Prop) (dC : Nat → ClassId) (dI : Nat → Nat → Nat) (a : Nat → Nat) (ac : Nat → ClassId) (g : Int32 → Int64 → Int64 → (St) → Option (Int64 × (St))) (r : Int64 × (St)) : Prop := ∀ (v0 : Int32) (v1 : Int64) (v2 : Int64) (s0 : St) (H : Heap) (locs : List Loc) (ls : Array Slot), g v0 v1 v2 s0 = some r → va_P (dC, dI) vwCl (dw_X2c a ac s0) H → va_D A (dw_X2c a ac s0) → va_S A s.heap H locs → lv_has ls 6 [(0, .ref (a 0)), (1, .int v0), (2, .long v1), (4, .long v2)] → W p l e (headSpec ow_dm_X2_joined ({ frames := 1, cells := 0, slots := 0, locals := 25 })).room s m args below meth c H locs 0 0 Q (F0 m 0 ls [])
set_option maxHeartbeats 40000000 in
set_option maxRecDepth 100000 in
theorem db_X2_joined_64 {p : Program} {l : Launch} {e : Env} {s : State} {m : MethodId} {args : Array Value} {below : List Frame} {meth : Method} {c : Code} {Q : State → Prop} {A : Nat → Prop} {dC : Nat → ClassId} {dI : Nat → Nat → Nat} {a : Nat → Nat} {ac : Nat → ClassId} {n : Nat} {r : Int64 × (St)} (C : nd_C p l s m args c A (dC, dI) cX2_joined 6 RX2 ow_dm_X2_joined (dk_X2c ac)) (K : nd_Kl p l e (headSpec ow_dm_X2_joined ({ frames := 1, cells := 0, slots := 0, locals := 25 })).room s m args below meth c Q A (dC, dI) cX2_joined (St) (dw_X2c a ac) r) : dj_X2_joined_64 p l e s m args below meth c Q A dC dI a ac (df_X2_joined_64 n) r := by
  obtain ⟨hlt, hx, hb, hml, hown, hts, hN, hA, hK⟩ := id C
  intro y0 s0 H locs ls h hP hD hS hl
  unfold df_X2_joined_64 at h
  exact K _ _ _ _ _ _ dX2_joined_64 (Option.some.inj h).symm hP hD hS
set_option maxHeartbeats 40000000 in
set_option maxRecDepth 100000 in
theorem db_X2_joined_77 {p : Program} {l : Launch} {e : Env} {s : State} {m : MethodId} {args : Array Value} {below : List Frame} {meth : Method} {c : Code} {Q : State → Prop} {A : Nat → Prop} {dC : Nat → ClassId} {dI : Nat → Nat → Nat} {a : Nat → Nat} {ac : Nat → ClassId} {n : Nat} {r : Int64 × (St)} (C : nd_C p l s m args c A (dC, dI) cX2_joined 6 RX2 ow_dm_X2_joined (dk_X2c ac)) (K : nd_Kl p l e (headSpec ow_dm_X2_joined ({ frames := 1, cells := 0, slots := 0, locals := 25 })).room s m args below meth c Q A (dC, dI) cX2_joined (St) (dw_X2c a ac) r) : dj_X2_joined_77 p l e s m args below meth c Q A dC dI a ac (df_X2_joined_77 n) r := by
  obtain ⟨hlt, hx, hb, hml, hown, hts, hN, hA, hK⟩ := id C
  intro y0 s0 H locs ls h hP hD hS hl
  unfold df_X2_joined_77 at h
  exact K _ _ _ _ _ _ dX2_joined_77 (Option.some.inj h).symm hP hD hS
set_option maxHeartbeats 40000000 in
set_option maxRecDepth 100000 in
theorem db_X2_joined_90 {p : Program} {l : Launch} {e : Env} {s : State} {m : MethodId} {args : Array Value} {below : List Frame} {meth : Method} {c : Code} {Q : State → Prop} {A : Nat → Prop} {dC : Nat → ClassId} {dI : Nat → Nat → Nat} {a : Nat → Nat} {ac : Nat → ClassId} {n : Nat} {r : Int64 × (St)} (C : nd_C p l s m args c A (dC, dI) cX2_joined 6 RX2 ow_dm_X2_joined (dk_X2c ac)) (K : nd_Kl p l e (headSpec ow_dm_X2_joined ({ frames := 1, cells := 0, slots := 0, locals := 25 })).room s m args below meth c Q A (dC, dI) cX2_joined (St) (dw_X2c a ac) r) : dj_X2_joined_90 p l e s m args below meth c Q A dC dI a ac (df_X2_joined_90 n) r := by
  obtain ⟨hlt, hx, hb, hml, hown, hts, hN, hA, hK⟩ := id C
  intro y0 s0 H locs ls h hP hD hS hl
  unfold df_X2_joined_90 at h
  exact K _ _ _ _ _ _ dX2_joined_90 (Option.some.inj h).symm hP hD hS
set_option maxHeartbeats 40000000 in
set_option maxRecDepth 100000 in
theorem db_X2_joined_103 {p : Program} {l : Launch} {e : Env} {s : State} {m : MethodId} {args : Array Value} {below : List Frame} {meth : Method} {c : Code} {Q : State → Prop} {A : Nat → Prop} {dC : Nat → ClassId} {dI : Nat → Nat → Nat} {a : Nat → Nat} {ac : Nat → ClassId} {n : Nat} {r : Int64 × (St)} (C : nd_C p l s m args c A (dC, dI) cX2_joined 6 RX2 ow_dm_X2_joined (dk_X2c ac)) (K : nd_Kl p l e (headSpec ow_dm_X2_joined ({ frames := 1, cells := 0, slots := 0, locals := 25 })).room s m args below meth c Q A (dC, dI) cX2_joined (St) (dw_X2c a ac) r) : dj_X2_joined_103 p l e s m args below meth c Q A dC dI a ac (df_X2_joined_103 n) r := by
  obtain ⟨hlt, hx, hb, hml, hown, hts, hN, hA, hK⟩ := id C
  intro y0 s0 H locs ls h hP hD hS hl
  unfold df_X2_joined_103 at h
  exact K _ _ _ _ _ _ dX2_joined_103 (Option.some.inj h).symm hP hD hS
set_option maxHeartbeats 40000000 in
set_option maxRecDepth 100000 in
theorem db_X2_joined_116 {p : Program} {l : Launch} {e : Env} {s : State} {m : MethodId} {args : Array Value} {below : List Frame} {meth : Method} {c : Code} {Q : State → Prop} {A : Nat → Prop} {dC : Nat → ClassId} {dI : Nat → Nat → Nat} {a : Nat → Nat} {ac : Nat → ClassId} {n : Nat} {r : Int64 × (St)} (C : nd_C p l s m args c A (dC, dI) cX2_joined 6 RX2 ow_dm_X2_joined (dk_X2c ac)) (K : nd_Kl p l e (headSpec ow_dm_X2_joined ({ frames := 1, cells := 0, slots := 0, locals := 25 })).room s m args below meth c Q A (dC, dI) cX2_joined (St) (dw_X2c a ac) r) : dj_X2_joined_116 p l e s m args below meth c Q A dC dI a ac (df_X2_joined_116 n) r := by
  obtain ⟨hlt, hx, hb, hml, hown, hts, hN, hA, hK⟩ := id C
  intro y0 s0 H locs ls h hP hD hS hl
  unfold df_X2_joined_116 at h
  exact K _ _ _ _ _ _ dX2_joined_116 (Option.some.inj h).symm hP hD hS
set_option maxHeartbeats 40000000 in
set_option maxRecDepth 100000 in
theorem db_X2_joined_129 {p : Program} {l : Launch} {e : Env} {s : State} {m : MethodId} {args : Array Value} {below : List Frame} {meth : Method} {c : Code} {Q : State → Prop} {A : Nat → Prop} {dC : Nat → ClassId} {dI : Nat → Nat → Nat} {a : Nat → Nat} {ac : Nat → ClassId} {n : Nat} {r : Int64 × (St)} (C : nd_C p l s m args c A (dC, dI) cX2_joined 6 RX2 ow_dm_X2_joined (dk_X2c ac)) (K : nd_Kl p l e (headSpec ow_dm_X2_joined ({ frames := 1, cells := 0, slots := 0, locals := 25 })).room s m args below meth c Q A (dC, dI) cX2_joined (St) (dw_X2c a ac) r) : dj_X2_joined_129 p l e s m args below meth c Q A dC dI a ac (df_X2_joined_129 n) r := by
  obtain ⟨hlt, hx, hb, hml, hown, hts, hN, hA, hK⟩ := id C
  intro y0 s0 H locs ls h hP hD hS hl
  unfold df_X2_joined_129 at h
  exact K _ _ _ _ _ _ dX2_joined_129 (Option.some.inj h).symm hP hD hS
set_option maxHeartbeats 40000000 in
set_option maxRecDepth 100000 in
theorem db_X2_joined_0 {p : Program} {l : Launch} {e : Env} {s : State} {m : MethodId} {args : Array Value} {below : List Frame} {meth : Method} {c : Code} {Q : State → Prop} {A : Nat → Prop} {dC : Nat → ClassId} {dI : Nat → Nat → Nat} {a : Nat → Nat} {ac : Nat → ClassId} {n : Nat} {r : Int64 × (St)} (C : nd_C p l s m args c A (dC, dI) cX2_joined 6 RX2 ow_dm_X2_joined (dk_X2c ac)) (K : nd_Kl p l e (headSpec ow_dm_X2_joined ({ frames := 1, cells := 0, slots := 0, locals := 25 })).room s m args below meth c Q A (dC, dI) cX2_joined (St) (dw_X2c a ac) r) : dj_X2_joined_0 p l e s m args below meth c Q A dC dI a ac (df_X2_joined_0 n) r := by
  obtain ⟨hlt, hx, hb, hml, hown, hts, hN, hA, hK⟩ := id C
  intro v0 v1 v2 s0 H locs ls h hP hD hS hl
  unfold df_X2_joined_0 at h
  refine lv_iload_n hx hb dX2_joined_0 rfl (lv_at hl 1 rfl) ?_
  by_cases c1 : v0 = 3
  · have h := nd_pos h c1
    refine lv_tableIn (off := 51) (tgt := 52) hx hb dX2_joined_1 (by rw [c1]; decide) (by rw [c1]; decide) (by rw [c1]; decide) (by decide) ?_
    refine lv_lload_n hx hb dX2_joined_52 rfl (lv_at hl 2 rfl) ?_
    refine lv_lload hx hb dX2_joined_53 (lv_at hl 3 rfl) ?_
    refine W.lcmp hx hb dX2_joined_55 ?_
    refine lv_if_ne (tgt := 63) hx hb dX2_joined_56 (by decide) (fun c2 => ?_) (fun c2 => ?_)
    · have h := nd_neg h c2
      refine lv_lconst (v := 0) hx hb dX2_joined_63 (by decide) ?_
      exact (db_X2_joined_64 C K) (0) s0 _ _ _ h hP hD hS (lv_sub hl [] rfl)
    · have h := nd_pos h c2
      refine lv_lconst (v := 1) hx hb dX2_joined_59 (by decide) ?_
      refine lv_goto (tgt := 64) hx hb dX2_joined_60 (by decide) ?_
      exact (db_X2_joined_64 C K) (1) s0 _ _ _ h hP hD hS (lv_sub hl [] rfl)
  have h := nd_neg h c1
  by_cases c3 : v0 = 4
  · have h := nd_pos h c3
    refine lv_tableIn (off := 64) (tgt := 65) hx hb dX2_joined_1 (by rw [c3]; decide) (by rw [c3]; decide) (by rw [c3]; decide) (by decide) ?_
    refine lv_lload_n hx hb dX2_joined_65 rfl (lv_at hl 2 rfl) ?_
    refine lv_lload hx hb dX2_joined_66 (lv_at hl 3 rfl) ?_
    refine W.lcmp hx hb dX2_joined_68 ?_
    refine lv_if_eq (tgt := 76) hx hb dX2_joined_69 (by decide) (fun c4 => ?_) (fun c4 => ?_)
    · have h := nd_pos h c4
      refine lv_lconst (v := 0) hx hb dX2_joined_76 (by decide) ?_
      exact (db_X2_joined_77 C K) (0) s0 _ _ _ h hP hD hS (lv_sub hl [] rfl)
    · have h := nd_neg h c4
      refine lv_lconst (v := 1) hx hb dX2_joined_72 (by decide) ?_
      refine lv_goto (tgt := 77) hx hb dX2_joined_73 (by decide) ?_
      exact (db_X2_joined_77 C K) (1) s0 _ _ _ h hP hD hS (lv_sub hl [] rfl)
  have h := nd_neg h c3
  by_cases c5 : v0 = 5
  · have h := nd_pos h c5
    refine lv_tableIn (off := 77) (tgt := 78) hx hb dX2_joined_1 (by rw [c5]; decide) (by rw [c5]; decide) (by rw [c5]; decide) (by decide) ?_
    refine lv_lload_n hx hb dX2_joined_78 rfl (lv_at hl 2 rfl) ?_
    refine lv_lload hx hb dX2_joined_79 (lv_at hl 3 rfl) ?_
    refine W.lcmp hx hb dX2_joined_81 ?_
    refine lv_if_ge (tgt := 89) hx hb dX2_joined_82 (by decide) (fun c6 => ?_) (fun c6 => ?_)
    · have h := nd_pos h c6
      refine lv_lconst (v := 0) hx hb dX2_joined_89 (by decide) ?_
      exact (db_X2_joined_90 C K) (0) s0 _ _ _ h hP hD hS (lv_sub hl [] rfl)
    · have h := nd_neg h c6
      refine lv_lconst (v := 1) hx hb dX2_joined_85 (by decide) ?_
      refine lv_goto (tgt := 90) hx hb dX2_joined_86 (by decide) ?_
      exact (db_X2_joined_90 C K) (1) s0 _ _ _ h hP hD hS (lv_sub hl [] rfl)
  have h := nd_neg h c5
  by_cases c7 : v0 = 6
  · have h := nd_pos h c7
    refine lv_tableIn (off := 90) (tgt := 91) hx hb dX2_joined_1 (by rw [c7]; decide) (by rw [c7]; decide) (by rw [c7]; decide) (by decide) ?_
    refine lv_lload_n hx hb dX2_joined_91 rfl (lv_at hl 2 rfl) ?_
    refine lv_lload hx hb dX2_joined_92 (lv_at hl 3 rfl) ?_
    refine W.lcmp hx hb dX2_joined_94 ?_
    refine lv_if_gt (tgt := 102) hx hb dX2_joined_95 (by decide) (fun c8 => ?_) (fun c8 => ?_)
    · have h := nd_pos h c8
      refine lv_lconst (v := 0) hx hb dX2_joined_102 (by decide) ?_
      exact (db_X2_joined_103 C K) (0) s0 _ _ _ h hP hD hS (lv_sub hl [] rfl)
    · have h := nd_neg h c8
      refine lv_lconst (v := 1) hx hb dX2_joined_98 (by decide) ?_
      refine lv_goto (tgt := 103) hx hb dX2_joined_99 (by decide) ?_
      exact (db_X2_joined_103 C K) (1) s0 _ _ _ h hP hD hS (lv_sub hl [] rfl)
  have h := nd_neg h c7
  by_cases c9 : v0 = 7
  · have h := nd_pos h c9
    refine lv_tableIn (off := 103) (tgt := 104) hx hb dX2_joined_1 (by rw [c9]; decide) (by rw [c9]; decide) (by rw [c9]; decide) (by decide) ?_
    refine lv_lload_n hx hb dX2_joined_104 rfl (lv_at hl 2 rfl) ?_
    refine lv_lload hx hb dX2_joined_105 (lv_at hl 3 rfl) ?_
    refine W.lcmp hx hb dX2_joined_107 ?_
    refine lv_if_le (tgt := 115) hx hb dX2_joined_108 (by decide) (fun c10 => ?_) (fun c10 => ?_)
    · have h := nd_pos h c10
      refine lv_lconst (v := 0) hx hb dX2_joined_115 (by decide) ?_
      exact (db_X2_joined_116 C K) (0) s0 _ _ _ h hP hD hS (lv_sub hl [] rfl)
    · have h := nd_neg h c10
      refine lv_lconst (v := 1) hx hb dX2_joined_111 (by decide) ?_
      refine lv_goto (tgt := 116) hx hb dX2_joined_112 (by decide) ?_
      exact (db_X2_joined_116 C K) (1) s0 _ _ _ h hP hD hS (lv_sub hl [] rfl)
  have h := nd_neg h c9
  by_cases c11 : v0 = 8
  · have h := nd_pos h c11
    refine lv_tableIn (off := 116) (tgt := 117) hx hb dX2_joined_1 (by rw [c11]; decide) (by rw [c11]; decide) (by rw [c11]; decide) (by decide) ?_
    refine lv_lload_n hx hb dX2_joined_117 rfl (lv_at hl 2 rfl) ?_
    refine lv_lload hx hb dX2_joined_118 (lv_at hl 3 rfl) ?_
    refine W.lcmp hx hb dX2_joined_120 ?_
    refine lv_if_lt (tgt := 128) hx hb dX2_joined_121 (by decide) (fun c12 => ?_) (fun c12 => ?_)
    · have h := nd_pos h c12
      refine lv_lconst (v := 0) hx hb dX2_joined_128 (by decide) ?_
      exact (db_X2_joined_129 C K) (0) s0 _ _ _ h hP hD hS (lv_sub hl [] rfl)
    · have h := nd_neg h c12
      refine lv_lconst (v := 1) hx hb dX2_joined_124 (by decide) ?_
      refine lv_goto (tgt := 129) hx hb dX2_joined_125 (by decide) ?_
      exact (db_X2_joined_129 C K) (1) s0 _ _ _ h hP hD hS (lv_sub hl [] rfl)
  have h := nd_neg h c11
  by_cases c13 : v0 = 9
  · have h := nd_pos h c13
    refine lv_tableIn (off := 129) (tgt := 130) hx hb dX2_joined_1 (by rw [c13]; decide) (by rw [c13]; decide) (by rw [c13]; decide) (by decide) ?_
    refine lv_lload_n hx hb dX2_joined_130 rfl (lv_at hl 2 rfl) ?_
    refine lv_lload hx hb dX2_joined_131 (lv_at hl 3 rfl) ?_
    refine lv_lor hx hb dX2_joined_133 ?_
    exact K _ _ _ _ _ _ dX2_joined_134 (Option.some.inj h).symm hP hD hS
  have h := nd_neg h c13
  by_cases c14 : v0 = 10
  · have h := nd_pos h c14
    refine lv_tableIn (off := 134) (tgt := 135) hx hb dX2_joined_1 (by rw [c14]; decide) (by rw [c14]; decide) (by rw [c14]; decide) (by decide) ?_
    refine lv_lload_n hx hb dX2_joined_135 rfl (lv_at hl 2 rfl) ?_
    refine lv_lload hx hb dX2_joined_136 (lv_at hl 3 rfl) ?_
    refine lv_lxor hx hb dX2_joined_138 ?_
    exact K _ _ _ _ _ _ dX2_joined_139 (Option.some.inj h).symm hP hD hS
  have h := nd_neg h c14
  by_cases c15 : v0 = 11
  · have h := nd_pos h c15
    refine lv_tableIn (off := 139) (tgt := 140) hx hb dX2_joined_1 (by rw [c15]; decide) (by rw [c15]; decide) (by rw [c15]; decide) (by decide) ?_
    refine lv_lload_n hx hb dX2_joined_140 rfl (lv_at hl 2 rfl) ?_
    refine lv_lload hx hb dX2_joined_141 (lv_at hl 3 rfl) ?_
    refine lv_land hx hb dX2_joined_143 ?_
    exact K _ _ _ _ _ _ dX2_joined_144 (Option.some.inj h).symm hP hD hS
  have h := nd_neg h c15
  refine lv_tableOut (tgt := 145) hx hb dX2_joined_1 (by have g0 := nv_nei c1 (k := 3) (by decide); have g1 := nv_nei c3 (k := 4) (by decide); have g2 := nv_nei c5 (k := 5) (by decide); have g3 := nv_nei c7 (k := 6) (by decide); have g4 := nv_nei c9 (k := 7) (by decide); have g5 := nv_nei c11 (k := 8) (by decide); have g6 := nv_nei c13 (k := 9) (by decide); have g7 := nv_nei c14 (k := 10) (by decide); have g8 := nv_nei c15 (k := 11) (by decide); omega) (by decide) ?_
  refine lv_aload_n hx hb dX2_joined_145 rfl (lv_at hl 0 rfl) ?_
  refine lv_iload_n hx hb dX2_joined_146 rfl (lv_at hl 1 rfl) ?_
  refine lv_lload_n hx hb dX2_joined_147 rfl (lv_at hl 2 rfl) ?_
  refine lv_lload hx hb dX2_joined_148 (lv_at hl 3 rfl) ?_
  obtain ⟨q16, s17, hq, h⟩ := nd_b2_e h
  have hPc := hP
  have hDc := hD
  have hKc := hK
  have hFc := nd_rs hD hS hA
  refine nd_cVl (As := [.int v0, .long v1, .long v2]) (rest := []) (q := q16) (w' := dw_X2c a ac s17) ⟨hx, hb, hml, hown, hts⟩ (fun sz => dm_X2_reckoned l hlt dC dI a ac n (v0) (v1) (v2) s0 hq sz) (cwV 3 hts gi_dm_X2_joined_0 rfl rfl rfl (by decide +kernel) ⟨Nat.le_of_ble_eq_true rfl, Nat.le_of_ble_eq_true rfl⟩) hPc hDc hKc hS hA hN (va_recv hKc hPc (ci := 3) (q0 := 0) rfl rfl) rfl hl.1 rfl (Nat.le_of_ble_eq_true rfl) dX2_joined_150 (fun H locs hP1 hD1 hk1 hS => ?_)
  have hP := hP1
  have hD := hD1.weaken (fun k q _ h => hFc q.1 h)
  exact K _ _ _ _ _ _ dX2_joined_153 (Option.some.inj h).symm hP hD hS
set_option maxHeartbeats 40000000 in
set_option maxRecDepth 100000 in
theorem dm_X2_joined (l : Launch) (hlt : l.stackTraces = false) (dC : Nat → ClassId) (dI : Nat → Nat → Nat) (a : Nat → Nat) (ac : Nat → ClassId) (n : Nat) (v0 : Int32) (v1 : Int64) (v2 : Int64) (s0 : St) {r : Int64 × (St)} (h : df_X2_joined n v0 v1 v2 s0 = some r) (sz : Nat) : Met l yX2_joined ow_dm_X2_joined ({ frames := 1, cells := 0, slots := 0, locals := 25 }) (va_Pc [.ref (a 0), .int v0, .long v1, .long v2] (fun U => U.heap.size = sz ∧ va_P (dC, dI) vwCl (dw_X2c a ac s0) U.heap ∧ va_K (dC, dI) vwCl (dk_X2c ac) U ∧ va_D (fun _ => True) (dw_X2c a ac s0) ∧ nv_E (va_A (dw_X2c a ac s0) sz) U)) (va_Ql (fun x _ => x = r.1) (fun (_ : Unit) t => va_P (dC, dI) vwCl (dw_X2c a ac r.2) t.heap ∧ va_K (dC, dI) vwCl (dk_X2c ac) t ∧ va_D (va_A (dw_X2c a ac s0) sz) (dw_X2c a ac r.2)) (va_A (dw_X2c a ac s0) sz)) 0 0 (va_A (dw_X2c a ac s0) sz) := by
  refine Met.ofW (cc := cX2_joined) (maxL := 6) (ret := (some .long)) (by decide) rfl ?_
  intro p e s m args below meth c s₁ B hml hv
  obtain ⟨rfl, hsz, hP, hK, hD0, hN⟩ := hv
  have hx := B.exec
  have hb := B.bytes
  have hr := B.returns
  have hts := atoms_spec (ws := ow_dm_X2_joined) B.pre
  have hown : s.vm.findClass RX2 = some m.cls := findClass_of_methodNamed B.named
  have hlocks := B.notSynchronized
  subst hsz
  have hD := hD0.self (sz := s.heap.size)
  generalize hAe : va_A (dw_X2c a ac s0) s.heap.size = A at hD hN ⊢
  have hA : ∀ q : Nat, s.heap.size ≤ q → A q := fun q h => by rw [← hAe]; exact Or.inr h
  have hl := lv_entry ([.ref (a 0), .int v0, .long v1, .long v2]) (n := 6) (Nat.le_of_ble_eq_true rfl)
  rw [lg_entry_eq]
  generalize (lg_sl ([.ref (a 0), .int v0, .long v1, .long v2]) ++ List.replicate (6 - (lg_sl ([.ref (a 0), .int v0, .long v1, .long v2])).length) Slot.unset).toArray = ls at hl ⊢
  have hl : lv_has ls 6 [(0, .ref (a 0)), (1, .int v0), (2, .long v1), (4, .long v2)] := hl
  exact db_X2_joined_0 (dC := dC) (dI := dI) (a := a) (ac := ac) (n := n) (r := r) ⟨hlt, hx, hb, hml, hown, hts, hN, hA, hK⟩ (fun pc v τ H locs ls d er hP hD hS => by subst er; exact W.lret (v := v) hx hb hr (fun t ht hW => ⟨⟨v, (), rfl, rfl, by rw [ht]; exact hP, va_K.moved hW.alike hK, hD⟩, hS.F ht⟩) hS.2.2 d) v0 v1 v2 s0 _ _ _ h hP hD va_S.rf (lv_sub hl [0, 1, 2, 3] rfl)
def ow_dm_X2_put : List Cond := .code yX2_put cX2_put 3 none :: ([.fieldLink RX2 55 "TimeMachine$Condition" "top" "I", .fieldLink RX2 17 "TimeMachine$Condition" "stack" "[J"] ++ (u_ws RX2 TX2 20 ++ []))
theorem gd_dm_X2_put : ∀ w ∈ ow_dm_X2_put, (w.onTables && w.keeps) = true ∨ ∃ ty, w = Cond.arrayClass ty := List.forall_mem_cons.mpr ⟨good_of_word rfl, List.forall_mem_append.mpr ⟨fun w h => good_of_word (List.all_eq_true.mp (by decide +kernel) w h), List.forall_mem_append.mpr ⟨gu_X2, fun _ h => nomatch h⟩⟩⟩
theorem hi_dm_X2_put_X2 : ∀ w ∈ u_ws RX2 TX2 20, w ∈ ow_dm_X2_put := fun w h => List.mem_cons_of_mem _ (List.mem_append_right _ (List.mem_append_left _ h))
def dj_X2_put_32 (p : Program) (l : Launch) (e : Env) (s : State) (m : MethodId) (args : Array Value) (below : List Frame) (meth : Method) (c : Code) (Q : State → Prop) (A : Nat → Prop) (dC : Nat → ClassId) (dI : Nat → Nat → Nat) (a : Nat → Nat) (ac : Nat → ClassId) (g : (St) → Option (St)) (r : St) : Prop := ∀ (s0 : St) (H : Heap) (locs : List Loc) (ls : Array Slot), g s0 = some r → va_P (dC, dI) vwCl (dw_X2c a ac s0) H → va_D A (dw_X2c a ac s0) → va_S A s.heap H locs → lv_has ls 3 [] → W p l e (headSpec ow_dm_X2_put ({ frames := 0, cells := 0, slots := 0, locals := 0 })).room s m args below meth c H locs 0 0 Q (F0 m 32 ls [])
def dj_X2_put_0 (p : Program) (l : Launch) (e : Env) (s : State) (m : MethodId) (args : Array Value) (below : List Frame) (meth : Method) (c : Code) (Q : State → Prop) (A : Nat → Prop) (dC : Nat → ClassId) (dI : Nat → Nat → Nat) (a : Nat → Nat) (ac : Nat → ClassId) (g : Int64 → (St) → Option (St)) (r : St) : Prop := ∀ (v0 : Int64) (s0 : St) (H : Heap) (locs : List Loc) (ls : Array Slot), g v0 s0 = some r → va_P (dC, dI) vwCl (dw_X2c a ac s0) H → va_D A (dw_X2c a ac s0) → va_S A s.heap H locs → lv_has ls 3 [(0, .ref (a 0)), (1, .long v0)] → W p l e (headSpec ow_dm_X2_put ({ frames := 0, cells := 0, slots := 0, locals := 0 })).room s m args below meth c H locs 0 0 Q (F0 m 0 ls [])
set_option maxHeartbeats 40000000 in
set_option maxRecDepth 100000 in
theorem db_X2_put_32 {p : Program} {l : Launch} {e : Env} {s : State} {m : MethodId} {args : Array Value} {below : List Frame} {meth : Method} {c : Code} {Q : State → Prop} {A : Nat → Prop} {dC : Nat → ClassId} {dI : Nat → Nat → Nat} {a : Nat → Nat} {ac : Nat → ClassId} {n : Nat} {r : St} (C : nd_C p l s m args c A (dC, dI) cX2_put 3 RX2 ow_dm_X2_put (dk_X2c ac)) (K : nd_Kv p l e (headSpec ow_dm_X2_put ({ frames := 0, cells := 0, slots := 0, locals := 0 })).room s m args below meth c Q A (dC, dI) cX2_put (St) (dw_X2c a ac) r) : dj_X2_put_32 p l e s m args below meth c Q A dC dI a ac (df_X2_put_32 n) r := by
  obtain ⟨hlt, hx, hb, hml, hown, hts, hN, hA, hK⟩ := id C
  intro s0 H locs ls h hP hD hS hl
  unfold df_X2_put_32 at h
  exact K _ _ _ _ _ dX2_put_32 (Option.some.inj h).symm hP hD hS
set_option maxHeartbeats 40000000 in
set_option maxRecDepth 100000 in
theorem db_X2_put_0 {p : Program} {l : Launch} {e : Env} {s : State} {m : MethodId} {args : Array Value} {below : List Frame} {meth : Method} {c : Code} {Q : State → Prop} {A : Nat → Prop} {dC : Nat → ClassId} {dI : Nat → Nat → Nat} {a : Nat → Nat} {ac : Nat → ClassId} {n : Nat} {r : St} (C : nd_C p l s m args c A (dC, dI) cX2_put 3 RX2 ow_dm_X2_put (dk_X2c ac)) (K : nd_Kv p l e (headSpec ow_dm_X2_put ({ frames := 0, cells := 0, slots := 0, locals := 0 })).room s m args below meth c Q A (dC, dI) cX2_put (St) (dw_X2c a ac) r) : dj_X2_put_0 p l e s m args below meth c Q A dC dI a ac (df_X2_put_0 n) r := by
  obtain ⟨hlt, hx, hb, hml, hown, hts, hN, hA, hK⟩ := id C
  intro v0 s0 H locs ls h hP hD hS hl
  unfold df_X2_put_0 at h
  refine lv_aload_n hx hb dX2_put_0 rfl (lv_at hl 0 rfl) ?_
  refine va_get (D := (dC, dI)) (ci := 3) (v := .int (sI s0 1)) (C := RX2) (T := TX2) (N := 20) hx hb hts hi_dm_X2_put_X2 hown hK hP 0 rfl rfl 4 (by decide) (hts (.fieldLink RX2 55 "TimeMachine$Condition" "top" "I") (List.mem_of_getElem? (i := 1) rfl)) (fun _ h9 => h9) rfl dX2_put_1 ?_
  refine lv_aload_n hx hb dX2_put_4 rfl (lv_at hl 0 rfl) ?_
  refine va_get (D := (dC, dI)) (ci := 3) (v := .ref (a 3)) (C := RX2) (T := TX2) (N := 20) hx hb hts hi_dm_X2_put_X2 hown hK hP 0 rfl rfl 3 (by decide) (hts (.fieldLink RX2 17 "TimeMachine$Condition" "stack" "[J") (List.mem_of_getElem? (i := 2) rfl)) (fun _ h9 => h9) rfl dX2_put_5 ?_
  refine va_alen (v := 41) hx hb hK hP 3 2 rfl rfl (show Int32.ofNat 41 = 41 by decide) dX2_put_8 ?_
  refine lv_icmp_ge (tgt := 32) hx hb dX2_put_9 (by decide) (fun c1 => ?_) (fun c1 => ?_)
  · have h := nd_pos h c1
    exact (db_X2_put_32 C K)  s0 _ _ _ h hP hD hS (lv_sub hl [] rfl)
  · have h := nd_neg h c1
    refine lv_aload_n hx hb dX2_put_12 rfl (lv_at hl 0 rfl) ?_
    refine va_get (D := (dC, dI)) (ci := 3) (v := .ref (a 3)) (C := RX2) (T := TX2) (N := 20) hx hb hts hi_dm_X2_put_X2 hown hK hP 0 rfl rfl 3 (by decide) (hts (.fieldLink RX2 17 "TimeMachine$Condition" "stack" "[J") (List.mem_of_getElem? (i := 2) rfl)) (fun _ h9 => h9) rfl dX2_put_13 ?_
    refine lv_aload_n hx hb dX2_put_16 rfl (lv_at hl 0 rfl) ?_
    refine va_get (D := (dC, dI)) (ci := 3) (v := .int (sI s0 1)) (C := RX2) (T := TX2) (N := 20) hx hb hts hi_dm_X2_put_X2 hown hK hP 0 rfl rfl 4 (by decide) (hts (.fieldLink RX2 55 "TimeMachine$Condition" "top" "I") (List.mem_of_getElem? (i := 1) rfl)) (fun _ h9 => h9) rfl dX2_put_17 ?_
    refine lv_lload_n hx hb dX2_put_20 rfl (lv_at hl 1 rfl) ?_
    obtain ⟨i2, h⟩ := nd_ck_e h
    refine va_last (i := (sI s0 1)) (x := v0) hx hb hK hP hD hS 3 2 rfl rfl i2 dX2_put_21 (fun H locs hP hD hS => ?_)
    obtain ⟨s3, es3, h⟩ := nd_let_e h
    have hP : va_P (dC, dI) vwCl (dw_X2c a ac s3) H := by rw [es3]; exact hP
    have hD : va_D A (dw_X2c a ac s3) := by rw [es3]; exact hD
    refine lv_aload_n hx hb dX2_put_22 rfl (lv_at hl 0 rfl) ?_
    refine lv_dup hx hb dX2_put_23 rfl ?_
    refine va_get (D := (dC, dI)) (ci := 3) (v := .int (sI s3 1)) (C := RX2) (T := TX2) (N := 20) hx hb hts hi_dm_X2_put_X2 hown hK hP 0 rfl rfl 4 (by decide) (hts (.fieldLink RX2 55 "TimeMachine$Condition" "top" "I") (List.mem_of_getElem? (i := 1) rfl)) (fun _ h9 => h9) rfl dX2_put_24 ?_
    refine lv_iconst (v := 1) hx hb dX2_put_27 (by decide) ?_
    refine lv_iadd hx hb dX2_put_28 ?_
    refine va_put (D := (dC, dI)) (ci := 3) (v := .int ((sI s3 1) + 1)) (ty := .int) (C := RX2) (T := TX2) (N := 20) hx hb hts hi_dm_X2_put_X2 tyX2 tyX2_ok nmX2 hown hK hP hD hS 0 rfl rfl 4 (by decide) (hts (.fieldLink RX2 55 "TimeMachine$Condition" "top" "I") (List.mem_of_getElem? (i := 1) rfl)) (fun _ h9 => h9) rfl (by decide +kernel) rfl rfl (Nat.le_of_ble_eq_true rfl) dX2_put_29 (fun H locs hP hD hS => ?_)
    obtain ⟨s4, es4, h⟩ := nd_let_e h
    have hP : va_P (dC, dI) vwCl (dw_X2c a ac s4) H := by rw [es4]; exact hP
    have hD : va_D A (dw_X2c a ac s4) := by rw [es4]; exact hD
    exact (db_X2_put_32 C K)  s4 _ _ _ h hP hD hS (lv_sub hl [] rfl)
set_option maxHeartbeats 40000000 in
set_option maxRecDepth 100000 in
theorem dm_X2_put (l : Launch) (hlt : l.stackTraces = false) (dC : Nat → ClassId) (dI : Nat → Nat → Nat) (a : Nat → Nat) (ac : Nat → ClassId) (n : Nat) (v0 : Int64) (s0 : St) {r : St} (h : df_X2_put n v0 s0 = some r) (sz : Nat) : Met l yX2_put ow_dm_X2_put ({ frames := 0, cells := 0, slots := 0, locals := 0 }) (va_Pc [.ref (a 0), .long v0] (fun U => U.heap.size = sz ∧ va_P (dC, dI) vwCl (dw_X2c a ac s0) U.heap ∧ va_K (dC, dI) vwCl (dk_X2c ac) U ∧ va_D (fun _ => True) (dw_X2c a ac s0) ∧ nv_E (va_A (dw_X2c a ac s0) sz) U)) (va_Qv (fun _ => True) (fun (_ : Unit) t => va_P (dC, dI) vwCl (dw_X2c a ac r) t.heap ∧ va_K (dC, dI) vwCl (dk_X2c ac) t ∧ va_D (va_A (dw_X2c a ac s0) sz) (dw_X2c a ac r)) (va_A (dw_X2c a ac s0) sz)) 0 0 (va_A (dw_X2c a ac s0) sz) := by
  refine Met.ofW (cc := cX2_put) (maxL := 3) (ret := none) (by decide) rfl ?_
  intro p e s m args below meth c s₁ B hml hv
  obtain ⟨rfl, hsz, hP, hK, hD0, hN⟩ := hv
  have hx := B.exec
  have hb := B.bytes
  have hr := B.returns
  have hts := atoms_spec (ws := ow_dm_X2_put) B.pre
  have hown : s.vm.findClass RX2 = some m.cls := findClass_of_methodNamed B.named
  have hlocks := B.notSynchronized
  subst hsz
  have hD := hD0.self (sz := s.heap.size)
  generalize hAe : va_A (dw_X2c a ac s0) s.heap.size = A at hD hN ⊢
  have hA : ∀ q : Nat, s.heap.size ≤ q → A q := fun q h => by rw [← hAe]; exact Or.inr h
  have hl := lv_entry ([.ref (a 0), .long v0]) (n := 3) (Nat.le_of_ble_eq_true rfl)
  rw [lg_entry_eq]
  generalize (lg_sl ([.ref (a 0), .long v0]) ++ List.replicate (3 - (lg_sl ([.ref (a 0), .long v0])).length) Slot.unset).toArray = ls at hl ⊢
  have hl : lv_has ls 3 [(0, .ref (a 0)), (1, .long v0)] := hl
  exact db_X2_put_0 (dC := dC) (dI := dI) (a := a) (ac := ac) (n := n) (r := r) ⟨hlt, hx, hb, hml, hown, hts, hN, hA, hK⟩ (fun pc τ H locs ls d er hP hD hS => by subst er; exact W.vret hx hb hr (fun t ht hW => ⟨⟨(), rfl, trivial, by rw [ht]; exact hP, va_K.moved hW.alike hK, hD⟩, hS.F ht⟩) hS.2.2 d) v0 s0 _ _ _ h hP hD va_S.rf (lv_sub hl [0, 1] rfl)
def ow_dm_X2_operand : List Cond := .code yX2_operand cX2_operand 5 (some .long) :: ([.fieldLink RX2 221 "TimeMachine$Machine" "current" "I", .methodLink RX2 224 yX6_registerOf, .instanceMethod yX6_registerOf, .selects RX6 yX6_registerOf yX6_registerOf, .initialized RX6] ++ (u_ws RX6 TX6 20 ++ (ow_dm_X6_registerOf ++ [])))
theorem gd_dm_X2_operand : ∀ w ∈ ow_dm_X2_operand, (w.onTables && w.keeps) = true ∨ ∃ ty, w = Cond.arrayClass ty := List.forall_mem_cons.mpr ⟨good_of_word rfl, List.forall_mem_append.mpr ⟨fun w h => good_of_word (List.all_eq_true.mp (by decide +kernel) w h), List.forall_mem_append.mpr ⟨gu_X6, List.forall_mem_append.mpr ⟨gd_dm_X6_registerOf, fun _ h => nomatch h⟩⟩⟩⟩
theorem hi_dm_X2_operand_X6 : ∀ w ∈ u_ws RX6 TX6 20, w ∈ ow_dm_X2_operand := fun w h => List.mem_cons_of_mem _ (List.mem_append_right _ (List.mem_append_left _ h))
theorem gi_dm_X2_operand_0 : GoodIn ow_dm_X2_operand (wsV RX2 224 RX6 yX6_registerOf ow_dm_X6_registerOf) := goodIn_app (goodIn_of _ (by decide +kernel)) (fun w h => ⟨List.mem_cons_of_mem _ (List.mem_append_right _ (List.mem_append_right _ (List.mem_append_left _ h))), gd_dm_X6_registerOf w h⟩)
def dj_X2_operand_50 (p : Program) (l : Launch) (e : Env) (s : State) (m : MethodId) (args : Array Value) (below : List Frame) (meth : Method) (c : Code) (Q : State → Prop) (A : Nat → Prop) (dC : Nat → ClassId) (dI : Nat → Nat → Nat) (a : Nat → Nat) (ac : Nat → ClassId) (g : Int64 → (St × (St)) → Option (Int64 × (St × (St)))) (r : Int64 × (St × (St))) : Prop := ∀ (y0 : Int64) (s0 : St × (St)) (H : Heap) (locs : List Loc) (ls : Array Slot), g y0 s0 = some r → va_P (dC, dI) vwCl (dw_X6 a ac s0) H → va_D A (dw_X6 a ac s0) → va_S A s.heap H locs → lv_has ls 5 [] → W p l e (headSpec ow_dm_X2_operand ({ frames := 2, cells := 0, slots := 0, locals := 43 })).room s m args below meth c H locs 0 0 Q (F0 m 50 ls [.long y0])
def dj_X2_operand_0 (p : Program) (l : Launch) (e : Env) (s : State) (m : MethodId) (args : Array Value) (below : List Frame) (meth : Method) (c : Code) (Q : State → Prop) (A : Nat → Prop) (dC : Nat → ClassId) (dI : Nat → Nat → Nat) (a : Nat → Nat) (ac : Nat → ClassId) (g : Int32 → Int32 → Int64 → (St × (St)) → Option (Int64 × (St × (St)))) (r : Int64 × (St × (St))) : Prop := ∀ (v1 : Int32) (v2 : Int32) (v3 : Int64) (s0 : St × (St)) (H : Heap) (locs : List Loc) (ls : Array Slot), g v1 v2 v3 s0 = some r → va_P (dC, dI) vwCl (dw_X6 a ac s0) H → va_D A (dw_X6 a ac s0) → va_S A s.heap H locs → lv_has ls 5 [(0, .ref (a 0)), (1, .int v1), (2, .int v2), (3, .long v3)] → W p l e (headSpec ow_dm_X2_operand ({ frames := 2, cells := 0, slots := 0, locals := 43 })).room s m args below meth c H locs 0 0 Q (F0 m 0 ls [])
set_option maxHeartbeats 40000000 in
set_option maxRecDepth 100000 in
theorem db_X2_operand_50 {p : Program} {l : Launch} {e : Env} {s : State} {m : MethodId} {args : Array Value} {below : List Frame} {meth : Method} {c : Code} {Q : State → Prop} {A : Nat → Prop} {dC : Nat → ClassId} {dI : Nat → Nat → Nat} {a : Nat → Nat} {ac : Nat → ClassId} {n : Nat} {r : Int64 × (St × (St))} (C : nd_C p l s m args c A (dC, dI) cX2_operand 5 RX2 ow_dm_X2_operand (dk_X6 ac)) (K : nd_Kl p l e (headSpec ow_dm_X2_operand ({ frames := 2, cells := 0, slots := 0, locals := 43 })).room s m args below meth c Q A (dC, dI) cX2_operand (St × (St)) (dw_X6 a ac) r) : dj_X2_operand_50 p l e s m args below meth c Q A dC dI a ac (df_X2_operand_50 n) r := by
  obtain ⟨hlt, hx, hb, hml, hown, hts, hN, hA, hK⟩ := id C
  intro y0 s0 H locs ls h hP hD hS hl
  unfold df_X2_operand_50 at h
  exact K _ _ _ _ _ _ dX2_operand_50 (Option.some.inj h).symm hP hD hS
set_option maxHeartbeats 40000000 in
set_option maxRecDepth 100000 in
theorem db_X2_operand_0 {p : Program} {l : Launch} {e : Env} {s : State} {m : MethodId} {args : Array Value} {below : List Frame} {meth : Method} {c : Code} {Q : State → Prop} {A : Nat → Prop} {dC : Nat → ClassId} {dI : Nat → Nat → Nat} {a : Nat → Nat} {ac : Nat → ClassId} {n : Nat} {r : Int64 × (St × (St))} (C : nd_C p l s m args c A (dC, dI) cX2_operand 5 RX2 ow_dm_X2_operand (dk_X6 ac)) (K : nd_Kl p l e (headSpec ow_dm_X2_operand ({ frames := 2, cells := 0, slots := 0, locals := 43 })).room s m args below meth c Q A (dC, dI) cX2_operand (St × (St)) (dw_X6 a ac) r) : dj_X2_operand_0 p l e s m args below meth c Q A dC dI a ac (df_X2_operand_0 n) r := by
  obtain ⟨hlt, hx, hb, hml, hown, hts, hN, hA, hK⟩ := id C
  intro v1 v2 v3 s0 H locs ls h hP hD hS hl
  unfold df_X2_operand_0 at h
  refine lv_iload_n hx hb dX2_operand_0 rfl (lv_at hl 2 rfl) ?_
  by_cases c1 : v2 = 31
  · have h := nd_pos h c1
    refine lv_tableIn (off := 27) (tgt := 28) hx hb dX2_operand_1 (by rw [c1]; decide) (by rw [c1]; decide) (by rw [c1]; decide) (by decide) ?_
    refine lv_aload_n hx hb dX2_operand_28 rfl (lv_at hl 0 rfl) ?_
    refine va_get (D := (dC, dI)) (ci := 7) (v := .int (sI s0.1 3)) (C := RX6) (T := TX6) (N := 20) hx hb hts hi_dm_X2_operand_X6 hown hK hP 0 rfl rfl 13 (by decide) (hts (.fieldLink RX2 221 "TimeMachine$Machine" "current" "I") (List.mem_of_getElem? (i := 1) rfl)) (fun _ h9 => h9) rfl dX2_operand_29 ?_
    refine lv_if_ge (tgt := 39) hx hb dX2_operand_32 (by decide) (fun c2 => ?_) (fun c2 => ?_)
    · have h := nd_pos h c2
      refine lv_aload_n hx hb dX2_operand_39 rfl (lv_at hl 0 rfl) ?_
      refine lv_aload_n hx hb dX2_operand_40 rfl (lv_at hl 0 rfl) ?_
      refine va_get (D := (dC, dI)) (ci := 7) (v := .int (sI s0.1 3)) (C := RX6) (T := TX6) (N := 20) hx hb hts hi_dm_X2_operand_X6 hown hK hP 0 rfl rfl 13 (by decide) (hts (.fieldLink RX2 221 "TimeMachine$Machine" "current" "I") (List.mem_of_getElem? (i := 1) rfl)) (fun _ h9 => h9) rfl dX2_operand_41 ?_
      refine lv_lload_n hx hb dX2_operand_44 rfl (lv_at hl 3 rfl) ?_
      refine lv_l2i hx hb dX2_operand_45 rfl ?_
      obtain ⟨q3, s4, hq, h⟩ := nd_b2_e h
      have hPc := hP
      have hDc := hD
      have hKc := hK
      have hFc := nd_rs hD hS hA
      refine nd_cVi (As := [.int (sI s0.1 3), .int (v3.toInt32)]) (rest := []) (q := q3) (w' := dw_X6 a ac s4) ⟨hx, hb, hml, hown, hts⟩ (fun sz => dm_X6_registerOf l hlt dC dI a ac n ((sI s0.1 3)) ((v3.toInt32)) s0 hq sz) (cwV 2 hts gi_dm_X2_operand_0 rfl rfl rfl (by decide +kernel) ⟨Nat.le_of_ble_eq_true rfl, Nat.le_of_ble_eq_true rfl⟩) hPc hDc hKc hS hA hN (va_recv hKc hPc (ci := 7) (q0 := 0) rfl rfl) rfl hl.1 rfl (Nat.le_of_ble_eq_true rfl) dX2_operand_46 (fun H locs hP1 hD1 hk1 hS => ?_)
      have hP := hP1
      have hD := hD1.weaken (fun k q _ h => hFc q.1 h)
      refine lv_i2l hx hb dX2_operand_49 rfl ?_
      exact (db_X2_operand_50 C K) ((q3.toInt64)) s4 _ _ _ h hP hD hS (lv_sub hl [] rfl)
    · have h := nd_neg h c2
      refine lv_lconst (v := 0) hx hb dX2_operand_35 (by decide) ?_
      refine lv_goto (tgt := 50) hx hb dX2_operand_36 (by decide) ?_
      exact (db_X2_operand_50 C K) (0) s0 _ _ _ h hP hD hS (lv_sub hl [] rfl)
  have h := nd_neg h c1
  by_cases c6 : v2 = 32
  · have h := nd_pos h c6
    refine lv_tableIn (off := 50) (tgt := 51) hx hb dX2_operand_1 (by rw [c6]; decide) (by rw [c6]; decide) (by rw [c6]; decide) (by decide) ?_
    refine lv_aload_n hx hb dX2_operand_51 rfl (lv_at hl 0 rfl) ?_
    refine va_get (D := (dC, dI)) (ci := 7) (v := .int (sI s0.1 3)) (C := RX6) (T := TX6) (N := 20) hx hb hts hi_dm_X2_operand_X6 hown hK hP 0 rfl rfl 13 (by decide) (hts (.fieldLink RX2 221 "TimeMachine$Machine" "current" "I") (List.mem_of_getElem? (i := 1) rfl)) (fun _ h9 => h9) rfl dX2_operand_52 ?_
    refine lv_i2l hx hb dX2_operand_55 rfl ?_
    exact K _ _ _ _ _ _ dX2_operand_56 (Option.some.inj h).symm hP hD hS
  have h := nd_neg h c6
  by_cases c7 : v2 = 33
  · have h := nd_pos h c7
    refine lv_tableIn (off := 56) (tgt := 57) hx hb dX2_operand_1 (by rw [c7]; decide) (by rw [c7]; decide) (by rw [c7]; decide) (by decide) ?_
    refine lv_iload_n hx hb dX2_operand_57 rfl (lv_at hl 1 rfl) ?_
    refine lv_i2l hx hb dX2_operand_58 rfl ?_
    exact K _ _ _ _ _ _ dX2_operand_59 (Option.some.inj h).symm hP hD hS
  have h := nd_neg h c7
  refine lv_tableOut (tgt := 60) hx hb dX2_operand_1 (by have g0 := nv_nei c1 (k := 31) (by decide); have g1 := nv_nei c6 (k := 32) (by decide); have g2 := nv_nei c7 (k := 33) (by decide); omega) (by decide) ?_
  refine lv_lload_n hx hb dX2_operand_60 rfl (lv_at hl 3 rfl) ?_
  exact K _ _ _ _ _ _ dX2_operand_61 (Option.some.inj h).symm hP hD hS
set_option maxHeartbeats 40000000 in
set_option maxRecDepth 100000 in
theorem dm_X2_operand (l : Launch) (hlt : l.stackTraces = false) (dC : Nat → ClassId) (dI : Nat → Nat → Nat) (a : Nat → Nat) (ac : Nat → ClassId) (n : Nat) (v1 : Int32) (v2 : Int32) (v3 : Int64) (s0 : St × (St)) {r : Int64 × (St × (St))} (h : df_X2_operand n v1 v2 v3 s0 = some r) (sz : Nat) : Met l yX2_operand ow_dm_X2_operand ({ frames := 2, cells := 0, slots := 0, locals := 43 }) (va_Pc [.ref (a 0), .int v1, .int v2, .long v3] (fun U => U.heap.size = sz ∧ va_P (dC, dI) vwCl (dw_X6 a ac s0) U.heap ∧ va_K (dC, dI) vwCl (dk_X6 ac) U ∧ va_D (fun _ => True) (dw_X6 a ac s0) ∧ nv_E (va_A (dw_X6 a ac s0) sz) U)) (va_Ql (fun x _ => x = r.1) (fun (_ : Unit) t => va_P (dC, dI) vwCl (dw_X6 a ac r.2) t.heap ∧ va_K (dC, dI) vwCl (dk_X6 ac) t ∧ va_D (va_A (dw_X6 a ac s0) sz) (dw_X6 a ac r.2)) (va_A (dw_X6 a ac s0) sz)) 0 0 (va_A (dw_X6 a ac s0) sz) := by
  refine Met.ofW (cc := cX2_operand) (maxL := 5) (ret := (some .long)) (by decide) rfl ?_
  intro p e s m args below meth c s₁ B hml hv
  obtain ⟨rfl, hsz, hP, hK, hD0, hN⟩ := hv
  have hx := B.exec
  have hb := B.bytes
  have hr := B.returns
  have hts := atoms_spec (ws := ow_dm_X2_operand) B.pre
  have hown : s.vm.findClass RX2 = some m.cls := findClass_of_methodNamed B.named
  have hlocks := B.notSynchronized
  subst hsz
  have hD := hD0.self (sz := s.heap.size)
  generalize hAe : va_A (dw_X6 a ac s0) s.heap.size = A at hD hN ⊢
  have hA : ∀ q : Nat, s.heap.size ≤ q → A q := fun q h => by rw [← hAe]; exact Or.inr h
  have hl := lv_entry ([.ref (a 0), .int v1, .int v2, .long v3]) (n := 5) (Nat.le_of_ble_eq_true rfl)
  rw [lg_entry_eq]
  generalize (lg_sl ([.ref (a 0), .int v1, .int v2, .long v3]) ++ List.replicate (5 - (lg_sl ([.ref (a 0), .int v1, .int v2, .long v3])).length) Slot.unset).toArray = ls at hl ⊢
  have hl : lv_has ls 5 [(0, .ref (a 0)), (1, .int v1), (2, .int v2), (3, .long v3)] := hl
  exact db_X2_operand_0 (dC := dC) (dI := dI) (a := a) (ac := ac) (n := n) (r := r) ⟨hlt, hx, hb, hml, hown, hts, hN, hA, hK⟩ (fun pc v τ H locs ls d er hP hD hS => by subst er; exact W.lret (v := v) hx hb hr (fun t ht hW => ⟨⟨v, (), rfl, rfl, by rw [ht]; exact hP, va_K.moved hW.alike hK, hD⟩, hS.F ht⟩) hS.2.2 d) v1 v2 v3 s0 _ _ _ h hP hD va_S.rf (lv_sub hl [0, 1, 2, 3] rfl)
def ow_dm_X2_evaluate : List Cond := .code yX2_evaluate cX2_evaluate 8 (some .long) :: ([.fieldLink RX2 199 "TimeMachine$Condition" "failed" "Z", .fieldLink RX2 55 "TimeMachine$Condition" "top" "I", .fieldLink RX2 17 "TimeMachine$Condition" "stack" "[J", .fieldLink RX2 9 "TimeMachine$Condition" "code" "[I", .fieldLink RX2 13 "TimeMachine$Condition" "argument" "[J", .methodLink RX2 211 Lib.Math.max.name, .static Lib.Math.max.name, .initialized "java/lang/Math", .code Lib.Math.max.name Lib.Math.max.code 2 (some .int), .methodLink RX2 218 yX2_single, .instanceMethod yX2_single, .selects RX2 yX2_single yX2_single, .initialized RX2, .methodLink RX2 214 yX2_joined, .instanceMethod yX2_joined, .selects RX2 yX2_joined yX2_joined, .fieldLink RX2 32 "TimeMachine$Condition" "oldValue" "[J", .methodLink RX2 207 yX2_put, .instanceMethod yX2_put, .selects RX2 yX2_put yX2_put, .fieldLink RX2 29 "TimeMachine$Condition" "oldTo" "[I", .methodLink RX2 203 yX2_operand, .static yX2_operand] ++ (u_ws RX2 TX2 20 ++ (ow_dm_X2_single ++ (ow_dm_X2_joined ++ (ow_dm_X2_put ++ (ow_dm_X2_operand ++ []))))))
theorem gd_dm_X2_evaluate : ∀ w ∈ ow_dm_X2_evaluate, (w.onTables && w.keeps) = true ∨ ∃ ty, w = Cond.arrayClass ty := List.forall_mem_cons.mpr ⟨good_of_word rfl, List.forall_mem_append.mpr ⟨fun w h => good_of_word (List.all_eq_true.mp (by decide +kernel) w h), List.forall_mem_append.mpr ⟨gu_X2, List.forall_mem_append.mpr ⟨gd_dm_X2_single, List.forall_mem_append.mpr ⟨gd_dm_X2_joined, List.forall_mem_append.mpr ⟨gd_dm_X2_put, List.forall_mem_append.mpr ⟨gd_dm_X2_operand, fun _ h => nomatch h⟩⟩⟩⟩⟩⟩⟩
theorem hi_dm_X2_evaluate_X2 : ∀ w ∈ u_ws RX2 TX2 20, w ∈ ow_dm_X2_evaluate := fun w h => List.mem_cons_of_mem _ (List.mem_append_right _ (List.mem_append_left _ h))
theorem gi_dm_X2_evaluate_0 : GoodIn ow_dm_X2_evaluate (wsV RX2 218 RX2 yX2_single ow_dm_X2_single) := goodIn_app (goodIn_of _ (by decide +kernel)) (fun w h => ⟨List.mem_cons_of_mem _ (List.mem_append_right _ (List.mem_append_right _ (List.mem_append_left _ h))), gd_dm_X2_single w h⟩)
theorem gi_dm_X2_evaluate_1 : GoodIn ow_dm_X2_evaluate (wsV RX2 214 RX2 yX2_joined ow_dm_X2_joined) := goodIn_app (goodIn_of _ (by decide +kernel)) (fun w h => ⟨List.mem_cons_of_mem _ (List.mem_append_right _ (List.mem_append_right _ (List.mem_append_right _ (List.mem_append_left _ h)))), gd_dm_X2_joined w h⟩)
theorem gi_dm_X2_evaluate_2 : GoodIn ow_dm_X2_evaluate (wsV RX2 207 RX2 yX2_put ow_dm_X2_put) := goodIn_app (goodIn_of _ (by decide +kernel)) (fun w h => ⟨List.mem_cons_of_mem _ (List.mem_append_right _ (List.mem_append_right _ (List.mem_append_right _ (List.mem_append_right _ (List.mem_append_left _ h))))), gd_dm_X2_put w h⟩)
theorem gi_dm_X2_evaluate_3 : GoodIn ow_dm_X2_evaluate (wsS RX2 203 yX2_operand ow_dm_X2_operand) := goodIn_app (goodIn_of _ (by decide +kernel)) (fun w h => ⟨List.mem_cons_of_mem _ (List.mem_append_right _ (List.mem_append_right _ (List.mem_append_right _ (List.mem_append_right _ (List.mem_append_right _ (List.mem_append_left _ h)))))), gd_dm_X2_operand w h⟩)
def dj_X2_evaluate_372 (p : Program) (l : Launch) (e : Env) (s : State) (m : MethodId) (args : Array Value) (below : List Frame) (meth : Method) (c : Code) (Q : State → Prop) (A : Nat → Prop) (dC : Nat → ClassId) (dI : Nat → Nat → Nat) (a : Nat → Nat) (ac : Nat → ClassId) (g : Int64 → (St × (St) × (St × (St))) → Option (Int64 × (St × (St) × (St × (St))))) (r : Int64 × (St × (St) × (St × (St)))) : Prop := ∀ (y0 : Int64) (s0 : St × (St) × (St × (St))) (H : Heap) (locs : List Loc) (ls : Array Slot), g y0 s0 = some r → va_P (dC, dI) vwCl (dw_X2m a ac s0) H → va_D A (dw_X2m a ac s0) → va_S A s.heap H locs → lv_has ls 8 [] → W p l e (headSpec ow_dm_X2_evaluate ({ frames := 3, cells := 0, slots := 0, locals := 75 })).room s m args below meth c H locs 0 0 Q (F0 m 372 ls [.long y0])
def dj_X2_evaluate_355 (p : Program) (l : Launch) (e : Env) (s : State) (m : MethodId) (args : Array Value) (below : List Frame) (meth : Method) (c : Code) (Q : State → Prop) (A : Nat → Prop) (dC : Nat → ClassId) (dI : Nat → Nat → Nat) (a : Nat → Nat) (ac : Nat → ClassId) (g : (St × (St) × (St × (St))) → Option (Int64 × (St × (St) × (St × (St))))) (r : Int64 × (St × (St) × (St × (St)))) : Prop := ∀ (s0 : St × (St) × (St × (St))) (H : Heap) (locs : List Loc) (ls : Array Slot), g s0 = some r → va_P (dC, dI) vwCl (dw_X2m a ac s0) H → va_D A (dw_X2m a ac s0) → va_S A s.heap H locs → lv_has ls 8 [(0, .ref (a 0))] → W p l e (headSpec ow_dm_X2_evaluate ({ frames := 3, cells := 0, slots := 0, locals := 75 })).room s m args below meth c H locs 0 0 Q (F0 m 355 ls [])
def dj_X2_evaluate_349 (p : Program) (l : Launch) (e : Env) (s : State) (m : MethodId) (args : Array Value) (below : List Frame) (meth : Method) (c : Code) (Q : State → Prop) (A : Nat → Prop) (dC : Nat → ClassId) (dI : Nat → Nat → Nat) (a : Nat → Nat) (ac : Nat → ClassId) (g : Int32 → Int32 → Int32 → (St × (St) × (St × (St))) → Option (Int64 × (St × (St) × (St × (St))))) (r : Int64 × (St × (St) × (St × (St)))) : Prop := ∀ (x2 : Int32) (x4 : Int32) (x5 : Int32) (s0 : St × (St) × (St × (St))) (H : Heap) (locs : List Loc) (ls : Array Slot), g x2 x4 x5 s0 = some r → va_P (dC, dI) vwCl (dw_X2m a ac s0) H → va_D A (dw_X2m a ac s0) → va_S A s.heap H locs → lv_has ls 8 [(0, .ref (a 0)), (1, .ref (a 9)), (2, .int x2), (4, .int x4), (5, .int x5)] → W p l e (headSpec ow_dm_X2_evaluate ({ frames := 3, cells := 0, slots := 0, locals := 75 })).room s m args below meth c H locs 0 0 Q (F0 m 349 ls [])
def dj_X2_evaluate_141 (p : Program) (l : Launch) (e : Env) (s : State) (m : MethodId) (args : Array Value) (below : List Frame) (meth : Method) (c : Code) (Q : State → Prop) (A : Nat → Prop) (dC : Nat → ClassId) (dI : Nat → Nat → Nat) (a : Nat → Nat) (ac : Nat → ClassId) (g : Int32 → Int32 → Int32 → (St × (St) × (St × (St))) → Option (Int64 × (St × (St) × (St × (St))))) (r : Int64 × (St × (St) × (St × (St)))) : Prop := ∀ (x2 : Int32) (x4 : Int32) (x5 : Int32) (s0 : St × (St) × (St × (St))) (H : Heap) (locs : List Loc) (ls : Array Slot), g x2 x4 x5 s0 = some r → va_P (dC, dI) vwCl (dw_X2m a ac s0) H → va_D A (dw_X2m a ac s0) → va_S A s.heap H locs → lv_has ls 8 [(0, .ref (a 0)), (1, .ref (a 9)), (2, .int x2), (4, .int x4), (5, .int x5)] → W p l e (headSpec ow_dm_X2_evaluate ({ frames := 3, cells := 0, slots := 0, locals := 75 })).room s m args below meth c H locs 0 0 Q (F0 m 141 ls [])
def dj_X2_evaluate_221 (p : Program) (l : Launch) (e : Env) (s : State) (m : MethodId) (args : Array Value) (below : List Frame) (meth : Method) (c : Code) (Q : State → Prop) (A : Nat → Prop) (dC : Nat → ClassId) (dI : Nat → Nat → Nat) (a : Nat → Nat) (ac : Nat → ClassId) (g : Int32 → Int32 → Int32 → Int32 → Int64 → (St × (St) × (St × (St))) → Option (Int64 × (St × (St) × (St × (St))))) (r : Int64 × (St × (St) × (St × (St)))) : Prop := ∀ (x2 : Int32) (x4 : Int32) (x5 : Int32) (y1 : Int32) (y2 : Int64) (s0 : St × (St) × (St × (St))) (H : Heap) (locs : List Loc) (ls : Array Slot), g x2 x4 x5 y1 y2 s0 = some r → va_P (dC, dI) vwCl (dw_X2m a ac s0) H → va_D A (dw_X2m a ac s0) → va_S A s.heap H locs → lv_has ls 8 [(0, .ref (a 0)), (1, .ref (a 9)), (2, .int x2), (4, .int x4), (5, .int x5)] → W p l e (headSpec ow_dm_X2_evaluate ({ frames := 3, cells := 0, slots := 0, locals := 75 })).room s m args below meth c H locs 0 0 Q (F0 m 221 ls [.long y2, .int y1, .ref (a 3)])
def dj_X2_evaluate_196 (p : Program) (l : Launch) (e : Env) (s : State) (m : MethodId) (args : Array Value) (below : List Frame) (meth : Method) (c : Code) (Q : State → Prop) (A : Nat → Prop) (dC : Nat → ClassId) (dI : Nat → Nat → Nat) (a : Nat → Nat) (ac : Nat → ClassId) (g : Int32 → Int32 → Int32 → Int32 → Int32 → Int32 → (St × (St) × (St × (St))) → Option (Int64 × (St × (St) × (St × (St))))) (r : Int64 × (St × (St) × (St × (St)))) : Prop := ∀ (x2 : Int32) (x4 : Int32) (x5 : Int32) (x6 : Int32) (y0 : Int32) (y1 : Int32) (s0 : St × (St) × (St × (St))) (H : Heap) (locs : List Loc) (ls : Array Slot), g x2 x4 x5 x6 y0 y1 s0 = some r → va_P (dC, dI) vwCl (dw_X2m a ac s0) H → va_D A (dw_X2m a ac s0) → va_S A s.heap H locs → lv_has ls 8 [(0, .ref (a 0)), (1, .ref (a 9)), (2, .int x2), (4, .int x4), (5, .int x5), (6, .int x6)] → W p l e (headSpec ow_dm_X2_evaluate ({ frames := 3, cells := 0, slots := 0, locals := 75 })).room s m args below meth c H locs 0 0 Q (F0 m 196 ls [.int y1, .int y0])
def dj_X2_evaluate_184 (p : Program) (l : Launch) (e : Env) (s : State) (m : MethodId) (args : Array Value) (below : List Frame) (meth : Method) (c : Code) (Q : State → Prop) (A : Nat → Prop) (dC : Nat → ClassId) (dI : Nat → Nat → Nat) (a : Nat → Nat) (ac : Nat → ClassId) (g : Int32 → Int32 → Int32 → Int32 → Int32 → (St × (St) × (St × (St))) → Option (Int64 × (St × (St) × (St × (St))))) (r : Int64 × (St × (St) × (St × (St)))) : Prop := ∀ (x2 : Int32) (x4 : Int32) (x5 : Int32) (x6 : Int32) (y0 : Int32) (s0 : St × (St) × (St × (St))) (H : Heap) (locs : List Loc) (ls : Array Slot), g x2 x4 x5 x6 y0 s0 = some r → va_P (dC, dI) vwCl (dw_X2m a ac s0) H → va_D A (dw_X2m a ac s0) → va_S A s.heap H locs → lv_has ls 8 [(0, .ref (a 0)), (1, .ref (a 9)), (2, .int x2), (4, .int x4), (5, .int x5), (6, .int x6)] → W p l e (headSpec ow_dm_X2_evaluate ({ frames := 3, cells := 0, slots := 0, locals := 75 })).room s m args below meth c H locs 0 0 Q (F0 m 184 ls [.int y0])
def dj_X2_evaluate_163 (p : Program) (l : Launch) (e : Env) (s : State) (m : MethodId) (args : Array Value) (below : List Frame) (meth : Method) (c : Code) (Q : State → Prop) (A : Nat → Prop) (dC : Nat → ClassId) (dI : Nat → Nat → Nat) (a : Nat → Nat) (ac : Nat → ClassId) (g : Int32 → Int32 → Int32 → Int32 → (St × (St) × (St × (St))) → Option (Int64 × (St × (St) × (St × (St))))) (r : Int64 × (St × (St) × (St × (St)))) : Prop := ∀ (x2 : Int32) (x4 : Int32) (x5 : Int32) (x6 : Int32) (s0 : St × (St) × (St × (St))) (H : Heap) (locs : List Loc) (ls : Array Slot), g x2 x4 x5 x6 s0 = some r → va_P (dC, dI) vwCl (dw_X2m a ac s0) H → va_D A (dw_X2m a ac s0) → va_S A s.heap H locs → lv_has ls 8 [(0, .ref (a 0)), (1, .ref (a 9)), (2, .int x2), (4, .int x4), (5, .int x5), (6, .int x6)] → W p l e (headSpec ow_dm_X2_evaluate ({ frames := 3, cells := 0, slots := 0, locals := 75 })).room s m args below meth c H locs 0 0 Q (F0 m 163 ls [])
def dj_X2_evaluate_149 (p : Program) (l : Launch) (e : Env) (s : State) (m : MethodId) (args : Array Value) (below : List Frame) (meth : Method) (c : Code) (Q : State → Prop) (A : Nat → Prop) (dC : Nat → ClassId) (dI : Nat → Nat → Nat) (a : Nat → Nat) (ac : Nat → ClassId) (g : Int32 → Int32 → Int32 → Int32 → (St × (St) × (St × (St))) → Option (Int64 × (St × (St) × (St × (St))))) (r : Int64 × (St × (St) × (St × (St)))) : Prop := ∀ (x2 : Int32) (x4 : Int32) (x5 : Int32) (x6 : Int32) (s0 : St × (St) × (St × (St))) (H : Heap) (locs : List Loc) (ls : Array Slot), g x2 x4 x5 x6 s0 = some r → va_P (dC, dI) vwCl (dw_X2m a ac s0) H → va_D A (dw_X2m a ac s0) → va_S A s.heap H locs → lv_has ls 8 [(0, .ref (a 0)), (1, .ref (a 9)), (2, .int x2), (4, .int x4), (5, .int x5), (6, .int x6)] → W p l e (headSpec ow_dm_X2_evaluate ({ frames := 3, cells := 0, slots := 0, locals := 75 })).room s m args below meth c H locs 0 0 Q (F0 m 149 ls [])
def dj_X2_evaluate_71 (p : Program) (l : Launch) (e : Env) (s : State) (m : MethodId) (args : Array Value) (below : List Frame) (meth : Method) (c : Code) (Q : State → Prop) (A : Nat → Prop) (dC : Nat → ClassId) (dI : Nat → Nat → Nat) (a : Nat → Nat) (ac : Nat → ClassId) (g : Int32 → Int32 → Int32 → Int32 → (St × (St) × (St × (St))) → Option (Int64 × (St × (St) × (St × (St))))) (r : Int64 × (St × (St) × (St × (St)))) : Prop := ∀ (x2 : Int32) (x4 : Int32) (x5 : Int32) (x6 : Int32) (s0 : St × (St) × (St × (St))) (H : Heap) (locs : List Loc) (ls : Array Slot), g x2 x4 x5 x6 s0 = some r → va_P (dC, dI) vwCl (dw_X2m a ac s0) H → va_D A (dw_X2m a ac s0) → va_S A s.heap H locs → lv_has ls 8 [(0, .ref (a 0)), (1, .ref (a 9)), (2, .int x2), (4, .int x4), (5, .int x5), (6, .int x6)] → W p l e (headSpec ow_dm_X2_evaluate ({ frames := 3, cells := 0, slots := 0, locals := 75 })).room s m args below meth c H locs 0 0 Q (F0 m 71 ls [])
def dj_X2_evaluate_13 (p : Program) (l : Launch) (e : Env) (s : State) (m : MethodId) (args : Array Value) (below : List Frame) (meth : Method) (c : Code) (Q : State → Prop) (A : Nat → Prop) (dC : Nat → ClassId) (dI : Nat → Nat → Nat) (a : Nat → Nat) (ac : Nat → ClassId) (g : Int32 → Int32 → Int32 → (St × (St) × (St × (St))) → Option (Int64 × (St × (St) × (St × (St))))) (r : Int64 × (St × (St) × (St × (St)))) : Prop := ∀ (x2 : Int32) (x4 : Int32) (x5 : Int32) (s0 : St × (St) × (St × (St))) (H : Heap) (locs : List Loc) (ls : Array Slot), g x2 x4 x5 s0 = some r → va_P (dC, dI) vwCl (dw_X2m a ac s0) H → va_D A (dw_X2m a ac s0) → va_S A s.heap H locs → lv_has ls 8 [(0, .ref (a 0)), (1, .ref (a 9)), (2, .int x2), (4, .int x4), (5, .int x5)] → W p l e (headSpec ow_dm_X2_evaluate ({ frames := 3, cells := 0, slots := 0, locals := 75 })).room s m args below meth c H locs 0 0 Q (F0 m 13 ls [])
def dj_X2_evaluate_0 (p : Program) (l : Launch) (e : Env) (s : State) (m : MethodId) (args : Array Value) (below : List Frame) (meth : Method) (c : Code) (Q : State → Prop) (A : Nat → Prop) (dC : Nat → ClassId) (dI : Nat → Nat → Nat) (a : Nat → Nat) (ac : Nat → ClassId) (g : Int32 → Int32 → Int32 → (St × (St) × (St × (St))) → Option (Int64 × (St × (St) × (St × (St))))) (r : Int64 × (St × (St) × (St × (St)))) : Prop := ∀ (v1 : Int32) (v2 : Int32) (v3 : Int32) (s0 : St × (St) × (St × (St))) (H : Heap) (locs : List Loc) (ls : Array Slot), g v1 v2 v3 s0 = some r → va_P (dC, dI) vwCl (dw_X2m a ac s0) H → va_D A (dw_X2m a ac s0) → va_S A s.heap H locs → lv_has ls 8 [(0, .ref (a 0)), (1, .ref (a 9)), (2, .int v1), (3, .int v2), (4, .int v3)] → W p l e (headSpec ow_dm_X2_evaluate ({ frames := 3, cells := 0, slots := 0, locals := 75 })).room s m args below meth c H locs 0 0 Q (F0 m 0 ls [])
set_option maxHeartbeats 40000000 in
set_option maxRecDepth 100000 in
theorem db_X2_evaluate_372 {p : Program} {l : Launch} {e : Env} {s : State} {m : MethodId} {args : Array Value} {below : List Frame} {meth : Method} {c : Code} {Q : State → Prop} {A : Nat → Prop} {dC : Nat → ClassId} {dI : Nat → Nat → Nat} {a : Nat → Nat} {ac : Nat → ClassId} {n : Nat} {r : Int64 × (St × (St) × (St × (St)))} (C : nd_C p l s m args c A (dC, dI) cX2_evaluate 8 RX2 ow_dm_X2_evaluate (dk_X2m ac)) (K : nd_Kl p l e (headSpec ow_dm_X2_evaluate ({ frames := 3, cells := 0, slots := 0, locals := 75 })).room s m args below meth c Q A (dC, dI) cX2_evaluate (St × (St) × (St × (St))) (dw_X2m a ac) r) : dj_X2_evaluate_372 p l e s m args below meth c Q A dC dI a ac (df_X2_evaluate_372 n) r := by
  obtain ⟨hlt, hx, hb, hml, hown, hts, hN, hA, hK⟩ := id C
  intro y0 s0 H locs ls h hP hD hS hl
  unfold df_X2_evaluate_372 at h
  exact K _ _ _ _ _ _ dX2_evaluate_372 (Option.some.inj h).symm hP hD hS
set_option maxHeartbeats 40000000 in
set_option maxRecDepth 100000 in
theorem db_X2_evaluate_355 {p : Program} {l : Launch} {e : Env} {s : State} {m : MethodId} {args : Array Value} {below : List Frame} {meth : Method} {c : Code} {Q : State → Prop} {A : Nat → Prop} {dC : Nat → ClassId} {dI : Nat → Nat → Nat} {a : Nat → Nat} {ac : Nat → ClassId} {n : Nat} {r : Int64 × (St × (St) × (St × (St)))} (C : nd_C p l s m args c A (dC, dI) cX2_evaluate 8 RX2 ow_dm_X2_evaluate (dk_X2m ac)) (K : nd_Kl p l e (headSpec ow_dm_X2_evaluate ({ frames := 3, cells := 0, slots := 0, locals := 75 })).room s m args below meth c Q A (dC, dI) cX2_evaluate (St × (St) × (St × (St))) (dw_X2m a ac) r) : dj_X2_evaluate_355 p l e s m args below meth c Q A dC dI a ac (df_X2_evaluate_355 n) r := by
  obtain ⟨hlt, hx, hb, hml, hown, hts, hN, hA, hK⟩ := id C
  intro s0 H locs ls h hP hD hS hl
  unfold df_X2_evaluate_355 at h
  refine lv_aload_n hx hb dX2_evaluate_355 rfl (lv_at hl 0 rfl) ?_
  refine va_get (D := (dC, dI)) (ci := 3) (v := .int (sI s0.2.1 1)) (C := RX2) (T := TX2) (N := 20) hx hb hts hi_dm_X2_evaluate_X2 hown hK hP 0 rfl rfl 4 (by decide) (hts (.fieldLink RX2 55 "TimeMachine$Condition" "top" "I") (List.mem_of_getElem? (i := 2) rfl)) (fun _ h9 => h9) rfl dX2_evaluate_356 ?_
  refine lv_if_le (tgt := 371) hx hb dX2_evaluate_359 (by decide) (fun c4 => ?_) (fun c4 => ?_)
  · have h := nd_pos h c4
    refine lv_lconst (v := 0) hx hb dX2_evaluate_371 (by decide) ?_
    exact (db_X2_evaluate_372 C K) (0) s0 _ _ _ h hP hD hS (lv_sub hl [] rfl)
  · have h := nd_neg h c4
    refine lv_aload_n hx hb dX2_evaluate_362 rfl (lv_at hl 0 rfl) ?_
    refine va_get (D := (dC, dI)) (ci := 3) (v := .ref (a 3)) (C := RX2) (T := TX2) (N := 20) hx hb hts hi_dm_X2_evaluate_X2 hown hK hP 0 rfl rfl 3 (by decide) (hts (.fieldLink RX2 17 "TimeMachine$Condition" "stack" "[J") (List.mem_of_getElem? (i := 3) rfl)) (fun _ h9 => h9) rfl dX2_evaluate_363 ?_
    refine lv_iconst (v := 0) hx hb dX2_evaluate_366 (by decide) ?_
    refine va_lald (i := 0) hx hb hK hP 3 2 rfl rfl (vp_in_iff.mpr ⟨by decide, by decide⟩) dX2_evaluate_367 ?_
    refine lv_goto (tgt := 372) hx hb dX2_evaluate_368 (by decide) ?_
    exact (db_X2_evaluate_372 C K) ((sQ s0.2.1 1 (Int32.toNatClampNeg 0))) s0 _ _ _ h hP hD hS (lv_sub hl [] rfl)
set_option maxHeartbeats 40000000 in
set_option maxRecDepth 100000 in
theorem db_X2_evaluate_349 {p : Program} {l : Launch} {e : Env} {s : State} {m : MethodId} {args : Array Value} {below : List Frame} {meth : Method} {c : Code} {Q : State → Prop} {A : Nat → Prop} {dC : Nat → ClassId} {dI : Nat → Nat → Nat} {a : Nat → Nat} {ac : Nat → ClassId} {n : Nat} {r : Int64 × (St × (St) × (St × (St)))} (C : nd_C p l s m args c A (dC, dI) cX2_evaluate 8 RX2 ow_dm_X2_evaluate (dk_X2m ac)) (K : nd_Kl p l e (headSpec ow_dm_X2_evaluate ({ frames := 3, cells := 0, slots := 0, locals := 75 })).room s m args below meth c Q A (dC, dI) cX2_evaluate (St × (St) × (St × (St))) (dw_X2m a ac) r) {g13 : Int32 → Int32 → Int32 → (St × (St) × (St × (St))) → Option (Int64 × (St × (St) × (St × (St))))} (J13 : dj_X2_evaluate_13 p l e s m args below meth c Q A dC dI a ac g13 r) : dj_X2_evaluate_349 p l e s m args below meth c Q A dC dI a ac (df_X2_evaluate_349 n g13) r := by
  obtain ⟨hlt, hx, hb, hml, hown, hts, hN, hA, hK⟩ := id C
  intro x2 x4 x5 s0 H locs ls h hP hD hS hl
  unfold df_X2_evaluate_349 at h
  obtain ⟨z12, ez12, h⟩ := nd_let_e h
  refine lv_iinc (v := z12) (lv' := [(5, .int z12), (0, .ref (a 0)), (1, .ref (a 9)), (2, .int x2), (4, .int x4)]) hx hb dX2_evaluate_349 hl (k := 4) rfl (by rw [ez12]) (by decide) rfl (fun ls hl => ?_)
  refine lv_goto (tgt := 13) hx hb dX2_evaluate_352 (by decide) ?_
  exact (J13) (x2) (x4) (z12) s0 _ _ _ h hP hD hS (lv_sub hl [1, 2, 3, 4, 0] rfl)
set_option maxHeartbeats 40000000 in
set_option maxRecDepth 100000 in
theorem db_X2_evaluate_141 {p : Program} {l : Launch} {e : Env} {s : State} {m : MethodId} {args : Array Value} {below : List Frame} {meth : Method} {c : Code} {Q : State → Prop} {A : Nat → Prop} {dC : Nat → ClassId} {dI : Nat → Nat → Nat} {a : Nat → Nat} {ac : Nat → ClassId} {n : Nat} {r : Int64 × (St × (St) × (St × (St)))} (C : nd_C p l s m args c A (dC, dI) cX2_evaluate 8 RX2 ow_dm_X2_evaluate (dk_X2m ac)) (K : nd_Kl p l e (headSpec ow_dm_X2_evaluate ({ frames := 3, cells := 0, slots := 0, locals := 75 })).room s m args below meth c Q A (dC, dI) cX2_evaluate (St × (St) × (St × (St))) (dw_X2m a ac) r) {g13 : Int32 → Int32 → Int32 → (St × (St) × (St × (St))) → Option (Int64 × (St × (St) × (St × (St))))} (J13 : dj_X2_evaluate_13 p l e s m args below meth c Q A dC dI a ac g13 r) : dj_X2_evaluate_141 p l e s m args below meth c Q A dC dI a ac (df_X2_evaluate_141 n g13) r := by
  obtain ⟨hlt, hx, hb, hml, hown, hts, hN, hA, hK⟩ := id C
  intro x2 x4 x5 s0 H locs ls h hP hD hS hl
  unfold df_X2_evaluate_141 at h
  refine lv_aload_n hx hb dX2_evaluate_141 rfl (lv_at hl 0 rfl) ?_
  refine lv_iconst (v := 1) hx hb dX2_evaluate_142 (by decide) ?_
  refine va_put (D := (dC, dI)) (ci := 3) (v := .int 1) (ty := .boolean) (C := RX2) (T := TX2) (N := 20) hx hb hts hi_dm_X2_evaluate_X2 tyX2 tyX2_ok nmX2 hown hK hP hD hS 0 rfl rfl 11 (by decide) (hts (.fieldLink RX2 199 "TimeMachine$Condition" "failed" "Z") (List.mem_of_getElem? (i := 1) rfl)) (fun _ h9 => h9) rfl (by decide +kernel) (by first | rfl | decide) rfl (Nat.le_of_ble_eq_true rfl) dX2_evaluate_143 (fun H locs hP hD hS => ?_)
  obtain ⟨s11, es11, h⟩ := nd_let_e h
  have hP : va_P (dC, dI) vwCl (dw_X2m a ac s11) H := by rw [es11]; exact hP
  have hD : va_D A (dw_X2m a ac s11) := by rw [es11]; exact hD
  refine lv_goto (tgt := 349) hx hb dX2_evaluate_146 (by decide) ?_
  exact (db_X2_evaluate_349 C K J13) (x2) (x4) (x5) s11 _ _ _ h hP hD hS (lv_sub hl [0, 1, 2, 3, 4] rfl)
set_option maxHeartbeats 40000000 in
set_option maxRecDepth 100000 in
theorem db_X2_evaluate_221 {p : Program} {l : Launch} {e : Env} {s : State} {m : MethodId} {args : Array Value} {below : List Frame} {meth : Method} {c : Code} {Q : State → Prop} {A : Nat → Prop} {dC : Nat → ClassId} {dI : Nat → Nat → Nat} {a : Nat → Nat} {ac : Nat → ClassId} {n : Nat} {r : Int64 × (St × (St) × (St × (St)))} (C : nd_C p l s m args c A (dC, dI) cX2_evaluate 8 RX2 ow_dm_X2_evaluate (dk_X2m ac)) (K : nd_Kl p l e (headSpec ow_dm_X2_evaluate ({ frames := 3, cells := 0, slots := 0, locals := 75 })).room s m args below meth c Q A (dC, dI) cX2_evaluate (St × (St) × (St × (St))) (dw_X2m a ac) r) {g13 : Int32 → Int32 → Int32 → (St × (St) × (St × (St))) → Option (Int64 × (St × (St) × (St × (St))))} (J13 : dj_X2_evaluate_13 p l e s m args below meth c Q A dC dI a ac g13 r) : dj_X2_evaluate_221 p l e s m args below meth c Q A dC dI a ac (df_X2_evaluate_221 n g13) r := by
  obtain ⟨hlt, hx, hb, hml, hown, hts, hN, hA, hK⟩ := id C
  intro x2 x4 x5 y1 y2 s0 H locs ls h hP hD hS hl
  unfold df_X2_evaluate_221 at h
  obtain ⟨i21, h⟩ := nd_ck_e h
  refine va_last (i := y1) (x := y2) hx hb hK hP hD hS 3 2 rfl rfl i21 dX2_evaluate_221 (fun H locs hP hD hS => ?_)
  obtain ⟨s22, es22, h⟩ := nd_let_e h
  have hP : va_P (dC, dI) vwCl (dw_X2m a ac s22) H := by rw [es22]; exact hP
  have hD : va_D A (dw_X2m a ac s22) := by rw [es22]; exact hD
  refine lv_iload hx hb dX2_evaluate_222 (lv_at hl 4 rfl) ?_
  refine lv_aload_n hx hb dX2_evaluate_224 rfl (lv_at hl 0 rfl) ?_
  refine va_get (D := (dC, dI)) (ci := 3) (v := .ref (a 2)) (C := RX2) (T := TX2) (N := 20) hx hb hts hi_dm_X2_evaluate_X2 hown hK hP 0 rfl rfl 1 (by decide) (hts (.fieldLink RX2 13 "TimeMachine$Condition" "argument" "[J") (List.mem_of_getElem? (i := 5) rfl)) (fun _ h9 => h9) rfl dX2_evaluate_225 ?_
  refine lv_iload hx hb dX2_evaluate_228 (lv_at hl 4 rfl) ?_
  obtain ⟨i23, h⟩ := nd_ck_e h
  refine va_lald (i := x5) hx hb hK hP 2 1 rfl rfl i23 dX2_evaluate_230 ?_
  refine lv_l2i hx hb dX2_evaluate_231 rfl ?_
  refine lv_iconst (v := 1) hx hb dX2_evaluate_232 (by decide) ?_
  refine lv_isub hx hb dX2_evaluate_233 ?_
  refine va_mmax hx hb (by rw [hml]; exact hl.1.symm) hown (hts (.methodLink RX2 211 Lib.Math.max.name) (List.mem_of_getElem? (i := 6) rfl)) (hts (.static Lib.Math.max.name) (List.mem_of_getElem? (i := 7) rfl)) (hts (.initialized "java/lang/Math") (List.mem_of_getElem? (i := 8) rfl)) (hts (.code Lib.Math.max.name Lib.Math.max.code 2 (some .int)) (List.mem_of_getElem? (i := 9) rfl)) (Nat.le_of_ble_eq_true rfl) (Nat.le_of_ble_eq_true rfl) (by decide +kernel) (by decide +kernel) dX2_evaluate_234 ?_
  refine lv_topi (fun z24 ez24 => ?_)
  have h := nd_at h ez24
  refine lv_istore (lv' := [(5, .int z24), (0, .ref (a 0)), (1, .ref (a 9)), (2, .int x2), (4, .int x4)]) hx hb dX2_evaluate_237 hl (by decide) rfl (fun ls hl => ?_)
  refine lv_goto (tgt := 349) hx hb dX2_evaluate_239 (by decide) ?_
  exact (db_X2_evaluate_349 C K J13) (x2) (x4) (z24) s22 _ _ _ h hP hD hS (lv_sub hl [1, 2, 3, 4, 0] rfl)
set_option maxHeartbeats 40000000 in
set_option maxRecDepth 100000 in
theorem db_X2_evaluate_196 {p : Program} {l : Launch} {e : Env} {s : State} {m : MethodId} {args : Array Value} {below : List Frame} {meth : Method} {c : Code} {Q : State → Prop} {A : Nat → Prop} {dC : Nat → ClassId} {dI : Nat → Nat → Nat} {a : Nat → Nat} {ac : Nat → ClassId} {n : Nat} {r : Int64 × (St × (St) × (St × (St)))} (C : nd_C p l s m args c A (dC, dI) cX2_evaluate 8 RX2 ow_dm_X2_evaluate (dk_X2m ac)) (K : nd_Kl p l e (headSpec ow_dm_X2_evaluate ({ frames := 3, cells := 0, slots := 0, locals := 75 })).room s m args below meth c Q A (dC, dI) cX2_evaluate (St × (St) × (St × (St))) (dw_X2m a ac) r) {g13 : Int32 → Int32 → Int32 → (St × (St) × (St × (St))) → Option (Int64 × (St × (St) × (St × (St))))} (J13 : dj_X2_evaluate_13 p l e s m args below meth c Q A dC dI a ac g13 r) : dj_X2_evaluate_196 p l e s m args below meth c Q A dC dI a ac (df_X2_evaluate_196 n g13) r := by
  obtain ⟨hlt, hx, hb, hml, hown, hts, hN, hA, hK⟩ := id C
  intro x2 x4 x5 x6 y0 y1 s0 H locs ls h hP hD hS hl
  unfold df_X2_evaluate_196 at h
  refine lv_icmp_ne (tgt := 242) hx hb dX2_evaluate_196 (by decide) (fun c18 => ?_) (fun c18 => ?_)
  · have h := nd_neg h c18
    refine lv_aload_n hx hb dX2_evaluate_242 rfl (lv_at hl 0 rfl) ?_
    refine lv_dup hx hb dX2_evaluate_243 rfl ?_
    refine va_get (D := (dC, dI)) (ci := 3) (v := .int (sI s0.2.1 1)) (C := RX2) (T := TX2) (N := 20) hx hb hts hi_dm_X2_evaluate_X2 hown hK hP 0 rfl rfl 4 (by decide) (hts (.fieldLink RX2 55 "TimeMachine$Condition" "top" "I") (List.mem_of_getElem? (i := 2) rfl)) (fun _ h9 => h9) rfl dX2_evaluate_244 ?_
    refine lv_iconst (v := 1) hx hb dX2_evaluate_247 (by decide) ?_
    refine lv_isub hx hb dX2_evaluate_248 ?_
    refine va_put (D := (dC, dI)) (ci := 3) (v := .int ((sI s0.2.1 1) - 1)) (ty := .int) (C := RX2) (T := TX2) (N := 20) hx hb hts hi_dm_X2_evaluate_X2 tyX2 tyX2_ok nmX2 hown hK hP hD hS 0 rfl rfl 4 (by decide) (hts (.fieldLink RX2 55 "TimeMachine$Condition" "top" "I") (List.mem_of_getElem? (i := 2) rfl)) (fun _ h9 => h9) rfl (by decide +kernel) rfl rfl (Nat.le_of_ble_eq_true rfl) dX2_evaluate_249 (fun H locs hP hD hS => ?_)
    obtain ⟨s19, es19, h⟩ := nd_let_e h
    have hP : va_P (dC, dI) vwCl (dw_X2m a ac s19) H := by rw [es19]; exact hP
    have hD : va_D A (dw_X2m a ac s19) := by rw [es19]; exact hD
    refine lv_goto (tgt := 349) hx hb dX2_evaluate_252 (by decide) ?_
    exact (db_X2_evaluate_349 C K J13) (x2) (x4) (x5) s19 _ _ _ h hP hD hS (lv_sub hl [0, 1, 2, 3, 4] rfl)
  · have h := nd_pos h c18
    refine lv_aload_n hx hb dX2_evaluate_199 rfl (lv_at hl 0 rfl) ?_
    refine va_get (D := (dC, dI)) (ci := 3) (v := .ref (a 3)) (C := RX2) (T := TX2) (N := 20) hx hb hts hi_dm_X2_evaluate_X2 hown hK hP 0 rfl rfl 3 (by decide) (hts (.fieldLink RX2 17 "TimeMachine$Condition" "stack" "[J") (List.mem_of_getElem? (i := 3) rfl)) (fun _ h9 => h9) rfl dX2_evaluate_200 ?_
    refine lv_aload_n hx hb dX2_evaluate_203 rfl (lv_at hl 0 rfl) ?_
    refine va_get (D := (dC, dI)) (ci := 3) (v := .int (sI s0.2.1 1)) (C := RX2) (T := TX2) (N := 20) hx hb hts hi_dm_X2_evaluate_X2 hown hK hP 0 rfl rfl 4 (by decide) (hts (.fieldLink RX2 55 "TimeMachine$Condition" "top" "I") (List.mem_of_getElem? (i := 2) rfl)) (fun _ h9 => h9) rfl dX2_evaluate_204 ?_
    refine lv_iconst (v := 1) hx hb dX2_evaluate_207 (by decide) ?_
    refine lv_isub hx hb dX2_evaluate_208 ?_
    refine lv_iload hx hb dX2_evaluate_209 (lv_at hl 5 rfl) ?_
    refine lv_bipush (v := 35) hx hb dX2_evaluate_211 (by decide) ?_
    refine lv_icmp_ne (tgt := 220) hx hb dX2_evaluate_213 (by decide) (fun c20 => ?_) (fun c20 => ?_)
    · have h := nd_neg h c20
      refine lv_lconst (v := 0) hx hb dX2_evaluate_220 (by decide) ?_
      exact (db_X2_evaluate_221 C K J13) (x2) (x4) (x5) (((sI s0.2.1 1) - 1)) (0) s0 _ _ _ h hP hD hS (lv_sub hl [0, 1, 2, 3, 4] rfl)
    · have h := nd_pos h c20
      refine lv_lconst (v := 1) hx hb dX2_evaluate_216 (by decide) ?_
      refine lv_goto (tgt := 221) hx hb dX2_evaluate_217 (by decide) ?_
      exact (db_X2_evaluate_221 C K J13) (x2) (x4) (x5) (((sI s0.2.1 1) - 1)) (1) s0 _ _ _ h hP hD hS (lv_sub hl [0, 1, 2, 3, 4] rfl)
set_option maxHeartbeats 40000000 in
set_option maxRecDepth 100000 in
theorem db_X2_evaluate_184 {p : Program} {l : Launch} {e : Env} {s : State} {m : MethodId} {args : Array Value} {below : List Frame} {meth : Method} {c : Code} {Q : State → Prop} {A : Nat → Prop} {dC : Nat → ClassId} {dI : Nat → Nat → Nat} {a : Nat → Nat} {ac : Nat → ClassId} {n : Nat} {r : Int64 × (St × (St) × (St × (St)))} (C : nd_C p l s m args c A (dC, dI) cX2_evaluate 8 RX2 ow_dm_X2_evaluate (dk_X2m ac)) (K : nd_Kl p l e (headSpec ow_dm_X2_evaluate ({ frames := 3, cells := 0, slots := 0, locals := 75 })).room s m args below meth c Q A (dC, dI) cX2_evaluate (St × (St) × (St × (St))) (dw_X2m a ac) r) {g13 : Int32 → Int32 → Int32 → (St × (St) × (St × (St))) → Option (Int64 × (St × (St) × (St × (St))))} (J13 : dj_X2_evaluate_13 p l e s m args below meth c Q A dC dI a ac g13 r) : dj_X2_evaluate_184 p l e s m args below meth c Q A dC dI a ac (df_X2_evaluate_184 n g13) r := by
  obtain ⟨hlt, hx, hb, hml, hown, hts, hN, hA, hK⟩ := id C
  intro x2 x4 x5 x6 y0 s0 H locs ls h hP hD hS hl
  unfold df_X2_evaluate_184 at h
  refine lv_iload hx hb dX2_evaluate_184 (lv_at hl 5 rfl) ?_
  refine lv_bipush (v := 35) hx hb dX2_evaluate_186 (by decide) ?_
  refine lv_icmp_ne (tgt := 195) hx hb dX2_evaluate_188 (by decide) (fun c17 => ?_) (fun c17 => ?_)
  · have h := nd_neg h c17
    refine lv_iconst (v := 0) hx hb dX2_evaluate_195 (by decide) ?_
    exact (db_X2_evaluate_196 C K J13) (x2) (x4) (x5) (x6) (y0) (0) s0 _ _ _ h hP hD hS (lv_sub hl [0, 1, 2, 3, 4, 5] rfl)
  · have h := nd_pos h c17
    refine lv_iconst (v := 1) hx hb dX2_evaluate_191 (by decide) ?_
    refine lv_goto (tgt := 196) hx hb dX2_evaluate_192 (by decide) ?_
    exact (db_X2_evaluate_196 C K J13) (x2) (x4) (x5) (x6) (y0) (1) s0 _ _ _ h hP hD hS (lv_sub hl [0, 1, 2, 3, 4, 5] rfl)
set_option maxHeartbeats 40000000 in
set_option maxRecDepth 100000 in
theorem db_X2_evaluate_163 {p : Program} {l : Launch} {e : Env} {s : State} {m : MethodId} {args : Array Value} {below : List Frame} {meth : Method} {c : Code} {Q : State → Prop} {A : Nat → Prop} {dC : Nat → ClassId} {dI : Nat → Nat → Nat} {a : Nat → Nat} {ac : Nat → ClassId} {n : Nat} {r : Int64 × (St × (St) × (St × (St)))} (C : nd_C p l s m args c A (dC, dI) cX2_evaluate 8 RX2 ow_dm_X2_evaluate (dk_X2m ac)) (K : nd_Kl p l e (headSpec ow_dm_X2_evaluate ({ frames := 3, cells := 0, slots := 0, locals := 75 })).room s m args below meth c Q A (dC, dI) cX2_evaluate (St × (St) × (St × (St))) (dw_X2m a ac) r) {g13 : Int32 → Int32 → Int32 → (St × (St) × (St × (St))) → Option (Int64 × (St × (St) × (St × (St))))} (J13 : dj_X2_evaluate_13 p l e s m args below meth c Q A dC dI a ac g13 r) : dj_X2_evaluate_163 p l e s m args below meth c Q A dC dI a ac (df_X2_evaluate_163 n g13) r := by
  obtain ⟨hlt, hx, hb, hml, hown, hts, hN, hA, hK⟩ := id C
  intro x2 x4 x5 x6 s0 H locs ls h hP hD hS hl
  unfold df_X2_evaluate_163 at h
  refine lv_aload_n hx hb dX2_evaluate_163 rfl (lv_at hl 0 rfl) ?_
  refine va_get (D := (dC, dI)) (ci := 3) (v := .ref (a 3)) (C := RX2) (T := TX2) (N := 20) hx hb hts hi_dm_X2_evaluate_X2 hown hK hP 0 rfl rfl 3 (by decide) (hts (.fieldLink RX2 17 "TimeMachine$Condition" "stack" "[J") (List.mem_of_getElem? (i := 3) rfl)) (fun _ h9 => h9) rfl dX2_evaluate_164 ?_
  refine lv_aload_n hx hb dX2_evaluate_167 rfl (lv_at hl 0 rfl) ?_
  refine va_get (D := (dC, dI)) (ci := 3) (v := .int (sI s0.2.1 1)) (C := RX2) (T := TX2) (N := 20) hx hb hts hi_dm_X2_evaluate_X2 hown hK hP 0 rfl rfl 4 (by decide) (hts (.fieldLink RX2 55 "TimeMachine$Condition" "top" "I") (List.mem_of_getElem? (i := 2) rfl)) (fun _ h9 => h9) rfl dX2_evaluate_168 ?_
  refine lv_iconst (v := 1) hx hb dX2_evaluate_171 (by decide) ?_
  refine lv_isub hx hb dX2_evaluate_172 ?_
  obtain ⟨i15, h⟩ := nd_ck_e h
  refine va_lald (i := ((sI s0.2.1 1) - 1)) hx hb hK hP 3 2 rfl rfl i15 dX2_evaluate_173 ?_
  refine lv_lconst (v := 0) hx hb dX2_evaluate_174 (by decide) ?_
  refine W.lcmp hx hb dX2_evaluate_175 ?_
  refine lv_if_eq (tgt := 183) hx hb dX2_evaluate_176 (by decide) (fun c16 => ?_) (fun c16 => ?_)
  · have h := nd_pos h c16
    refine lv_iconst (v := 0) hx hb dX2_evaluate_183 (by decide) ?_
    exact (db_X2_evaluate_184 C K J13) (x2) (x4) (x5) (x6) (0) s0 _ _ _ h hP hD hS (lv_sub hl [0, 1, 2, 3, 4, 5] rfl)
  · have h := nd_neg h c16
    refine lv_iconst (v := 1) hx hb dX2_evaluate_179 (by decide) ?_
    refine lv_goto (tgt := 184) hx hb dX2_evaluate_180 (by decide) ?_
    exact (db_X2_evaluate_184 C K J13) (x2) (x4) (x5) (x6) (1) s0 _ _ _ h hP hD hS (lv_sub hl [0, 1, 2, 3, 4, 5] rfl)
set_option maxHeartbeats 40000000 in
set_option maxRecDepth 100000 in
theorem db_X2_evaluate_149 {p : Program} {l : Launch} {e : Env} {s : State} {m : MethodId} {args : Array Value} {below : List Frame} {meth : Method} {c : Code} {Q : State → Prop} {A : Nat → Prop} {dC : Nat → ClassId} {dI : Nat → Nat → Nat} {a : Nat → Nat} {ac : Nat → ClassId} {n : Nat} {r : Int64 × (St × (St) × (St × (St)))} (C : nd_C p l s m args c A (dC, dI) cX2_evaluate 8 RX2 ow_dm_X2_evaluate (dk_X2m ac)) (K : nd_Kl p l e (headSpec ow_dm_X2_evaluate ({ frames := 3, cells := 0, slots := 0, locals := 75 })).room s m args below meth c Q A (dC, dI) cX2_evaluate (St × (St) × (St × (St))) (dw_X2m a ac) r) {g13 : Int32 → Int32 → Int32 → (St × (St) × (St × (St))) → Option (Int64 × (St × (St) × (St × (St))))} (J13 : dj_X2_evaluate_13 p l e s m args below meth c Q A dC dI a ac g13 r) : dj_X2_evaluate_149 p l e s m args below meth c Q A dC dI a ac (df_X2_evaluate_149 n g13) r := by
  obtain ⟨hlt, hx, hb, hml, hown, hts, hN, hA, hK⟩ := id C
  intro x2 x4 x5 x6 s0 H locs ls h hP hD hS hl
  unfold df_X2_evaluate_149 at h
  refine lv_iload hx hb dX2_evaluate_149 (lv_at hl 5 rfl) ?_
  refine lv_bipush (v := 35) hx hb dX2_evaluate_151 (by decide) ?_
  refine lv_icmp_eq (tgt := 163) hx hb dX2_evaluate_153 (by decide) (fun c14 => ?_) (fun c14 => ?_)
  · have h := nd_pos h c14
    exact (db_X2_evaluate_163 C K J13) (x2) (x4) (x5) (x6) s0 _ _ _ h hP hD hS (lv_sub hl [0, 1, 2, 3, 4, 5] rfl)
  · have h := nd_neg h c14
    refine lv_iload hx hb dX2_evaluate_156 (lv_at hl 5 rfl) ?_
    refine lv_bipush (v := 34) hx hb dX2_evaluate_158 (by decide) ?_
    refine lv_icmp_ne (tgt := 255) hx hb dX2_evaluate_160 (by decide) (fun c25 => ?_) (fun c25 => ?_)
    · have h := nd_neg h c25
      refine lv_iload hx hb dX2_evaluate_255 (lv_at hl 5 rfl) ?_
      refine lv_bipush (v := 19) hx hb dX2_evaluate_257 (by decide) ?_
      refine lv_icmp_ge (tgt := 312) hx hb dX2_evaluate_259 (by decide) (fun c26 => ?_) (fun c26 => ?_)
      · have h := nd_pos h c26
        refine lv_aload_n hx hb dX2_evaluate_312 rfl (lv_at hl 0 rfl) ?_
        refine va_get (D := (dC, dI)) (ci := 3) (v := .ref (a 3)) (C := RX2) (T := TX2) (N := 20) hx hb hts hi_dm_X2_evaluate_X2 hown hK hP 0 rfl rfl 3 (by decide) (hts (.fieldLink RX2 17 "TimeMachine$Condition" "stack" "[J") (List.mem_of_getElem? (i := 3) rfl)) (fun _ h9 => h9) rfl dX2_evaluate_313 ?_
        refine lv_aload_n hx hb dX2_evaluate_316 rfl (lv_at hl 0 rfl) ?_
        refine va_get (D := (dC, dI)) (ci := 3) (v := .int (sI s0.2.1 1)) (C := RX2) (T := TX2) (N := 20) hx hb hts hi_dm_X2_evaluate_X2 hown hK hP 0 rfl rfl 4 (by decide) (hts (.fieldLink RX2 55 "TimeMachine$Condition" "top" "I") (List.mem_of_getElem? (i := 2) rfl)) (fun _ h9 => h9) rfl dX2_evaluate_317 ?_
        refine lv_iconst (v := 1) hx hb dX2_evaluate_320 (by decide) ?_
        refine lv_isub hx hb dX2_evaluate_321 ?_
        refine lv_aload_n hx hb dX2_evaluate_322 rfl (lv_at hl 0 rfl) ?_
        refine lv_aload_n hx hb dX2_evaluate_323 rfl (lv_at hl 1 rfl) ?_
        refine lv_iload hx hb dX2_evaluate_324 (lv_at hl 5 rfl) ?_
        refine lv_aload_n hx hb dX2_evaluate_326 rfl (lv_at hl 0 rfl) ?_
        refine va_get (D := (dC, dI)) (ci := 3) (v := .ref (a 2)) (C := RX2) (T := TX2) (N := 20) hx hb hts hi_dm_X2_evaluate_X2 hown hK hP 0 rfl rfl 1 (by decide) (hts (.fieldLink RX2 13 "TimeMachine$Condition" "argument" "[J") (List.mem_of_getElem? (i := 5) rfl)) (fun _ h9 => h9) rfl dX2_evaluate_327 ?_
        refine lv_iload hx hb dX2_evaluate_330 (lv_at hl 4 rfl) ?_
        obtain ⟨i27, h⟩ := nd_ck_e h
        refine va_lald (i := x5) hx hb hK hP 2 1 rfl rfl i27 dX2_evaluate_332 ?_
        refine lv_l2i hx hb dX2_evaluate_333 rfl ?_
        refine lv_aload_n hx hb dX2_evaluate_334 rfl (lv_at hl 0 rfl) ?_
        refine va_get (D := (dC, dI)) (ci := 3) (v := .ref (a 3)) (C := RX2) (T := TX2) (N := 20) hx hb hts hi_dm_X2_evaluate_X2 hown hK hP 0 rfl rfl 3 (by decide) (hts (.fieldLink RX2 17 "TimeMachine$Condition" "stack" "[J") (List.mem_of_getElem? (i := 3) rfl)) (fun _ h9 => h9) rfl dX2_evaluate_335 ?_
        refine lv_aload_n hx hb dX2_evaluate_338 rfl (lv_at hl 0 rfl) ?_
        refine va_get (D := (dC, dI)) (ci := 3) (v := .int (sI s0.2.1 1)) (C := RX2) (T := TX2) (N := 20) hx hb hts hi_dm_X2_evaluate_X2 hown hK hP 0 rfl rfl 4 (by decide) (hts (.fieldLink RX2 55 "TimeMachine$Condition" "top" "I") (List.mem_of_getElem? (i := 2) rfl)) (fun _ h9 => h9) rfl dX2_evaluate_339 ?_
        refine lv_iconst (v := 1) hx hb dX2_evaluate_342 (by decide) ?_
        refine lv_isub hx hb dX2_evaluate_343 ?_
        obtain ⟨i28, h⟩ := nd_ck_e h
        refine va_lald (i := ((sI s0.2.1 1) - 1)) hx hb hK hP 3 2 rfl rfl i28 dX2_evaluate_344 ?_
        obtain ⟨q29, s30, hq, h⟩ := nd_b2_e h
        have hPc := hP
        have hDc := hD
        have hKc := hK
        have hFc := nd_rs hD hS hA
        refine nd_cVl (As := [.ref (a 9), .int x6, .int ((sQ s0.2.1 0 (Int32.toNatClampNeg x5)).toInt32), .long (sQ s0.2.1 1 (Int32.toNatClampNeg ((sI s0.2.1 1) - 1)))]) (rest := [.int ((sI s0.2.1 1) - 1), .ref (a 3)]) (q := q29) (w' := dw_X2m a ac s30) ⟨hx, hb, hml, hown, hts⟩ (fun sz => dm_X2_single l hlt dC dI a ac n (x6) (((sQ s0.2.1 0 (Int32.toNatClampNeg x5)).toInt32)) ((sQ s0.2.1 1 (Int32.toNatClampNeg ((sI s0.2.1 1) - 1)))) s0 hq sz) (cwV 4 hts gi_dm_X2_evaluate_0 rfl rfl rfl (by decide +kernel) ⟨Nat.le_of_ble_eq_true rfl, Nat.le_of_ble_eq_true rfl⟩) hPc hDc hKc hS hA hN (va_recv hKc hPc (ci := 3) (q0 := 0) rfl rfl) rfl hl.1 rfl (Nat.le_of_ble_eq_true rfl) dX2_evaluate_345 (fun H locs hP1 hD1 hk1 hS => ?_)
        have hP := hP1
        have hD := hD1.weaken (fun k q _ h => hFc q.1 h)
        obtain ⟨i32, h⟩ := nd_ck_e h
        refine va_last (i := ((sI s0.2.1 1) - 1)) (x := q29) hx hb hK hP hD hS 3 2 rfl rfl i32 dX2_evaluate_348 (fun H locs hP hD hS => ?_)
        obtain ⟨s33, es33, h⟩ := nd_let_e h
        have hP : va_P (dC, dI) vwCl (dw_X2m a ac s33) H := by rw [es33]; exact hP
        have hD : va_D A (dw_X2m a ac s33) := by rw [es33]; exact hD
        exact (db_X2_evaluate_349 C K J13) (x2) (x4) (x5) s33 _ _ _ h hP hD hS (lv_sub hl [0, 1, 2, 3, 4] rfl)
      · have h := nd_neg h c26
        refine lv_aload_n hx hb dX2_evaluate_262 rfl (lv_at hl 0 rfl) ?_
        refine lv_dup hx hb dX2_evaluate_263 rfl ?_
        refine va_get (D := (dC, dI)) (ci := 3) (v := .int (sI s0.2.1 1)) (C := RX2) (T := TX2) (N := 20) hx hb hts hi_dm_X2_evaluate_X2 hown hK hP 0 rfl rfl 4 (by decide) (hts (.fieldLink RX2 55 "TimeMachine$Condition" "top" "I") (List.mem_of_getElem? (i := 2) rfl)) (fun _ h9 => h9) rfl dX2_evaluate_264 ?_
        refine lv_iconst (v := 1) hx hb dX2_evaluate_267 (by decide) ?_
        refine lv_isub hx hb dX2_evaluate_268 ?_
        refine va_put (D := (dC, dI)) (ci := 3) (v := .int ((sI s0.2.1 1) - 1)) (ty := .int) (C := RX2) (T := TX2) (N := 20) hx hb hts hi_dm_X2_evaluate_X2 tyX2 tyX2_ok nmX2 hown hK hP hD hS 0 rfl rfl 4 (by decide) (hts (.fieldLink RX2 55 "TimeMachine$Condition" "top" "I") (List.mem_of_getElem? (i := 2) rfl)) (fun _ h9 => h9) rfl (by decide +kernel) rfl rfl (Nat.le_of_ble_eq_true rfl) dX2_evaluate_269 (fun H locs hP hD hS => ?_)
        obtain ⟨s34, es34, h⟩ := nd_let_e h
        have hP : va_P (dC, dI) vwCl (dw_X2m a ac s34) H := by rw [es34]; exact hP
        have hD : va_D A (dw_X2m a ac s34) := by rw [es34]; exact hD
        refine lv_aload_n hx hb dX2_evaluate_272 rfl (lv_at hl 0 rfl) ?_
        refine va_get (D := (dC, dI)) (ci := 3) (v := .ref (a 3)) (C := RX2) (T := TX2) (N := 20) hx hb hts hi_dm_X2_evaluate_X2 hown hK hP 0 rfl rfl 3 (by decide) (hts (.fieldLink RX2 17 "TimeMachine$Condition" "stack" "[J") (List.mem_of_getElem? (i := 3) rfl)) (fun _ h9 => h9) rfl dX2_evaluate_273 ?_
        refine lv_aload_n hx hb dX2_evaluate_276 rfl (lv_at hl 0 rfl) ?_
        refine va_get (D := (dC, dI)) (ci := 3) (v := .int (sI s34.2.1 1)) (C := RX2) (T := TX2) (N := 20) hx hb hts hi_dm_X2_evaluate_X2 hown hK hP 0 rfl rfl 4 (by decide) (hts (.fieldLink RX2 55 "TimeMachine$Condition" "top" "I") (List.mem_of_getElem? (i := 2) rfl)) (fun _ h9 => h9) rfl dX2_evaluate_277 ?_
        refine lv_iconst (v := 1) hx hb dX2_evaluate_280 (by decide) ?_
        refine lv_isub hx hb dX2_evaluate_281 ?_
        refine lv_aload_n hx hb dX2_evaluate_282 rfl (lv_at hl 0 rfl) ?_
        refine lv_iload hx hb dX2_evaluate_283 (lv_at hl 5 rfl) ?_
        refine lv_aload_n hx hb dX2_evaluate_285 rfl (lv_at hl 0 rfl) ?_
        refine va_get (D := (dC, dI)) (ci := 3) (v := .ref (a 3)) (C := RX2) (T := TX2) (N := 20) hx hb hts hi_dm_X2_evaluate_X2 hown hK hP 0 rfl rfl 3 (by decide) (hts (.fieldLink RX2 17 "TimeMachine$Condition" "stack" "[J") (List.mem_of_getElem? (i := 3) rfl)) (fun _ h9 => h9) rfl dX2_evaluate_286 ?_
        refine lv_aload_n hx hb dX2_evaluate_289 rfl (lv_at hl 0 rfl) ?_
        refine va_get (D := (dC, dI)) (ci := 3) (v := .int (sI s34.2.1 1)) (C := RX2) (T := TX2) (N := 20) hx hb hts hi_dm_X2_evaluate_X2 hown hK hP 0 rfl rfl 4 (by decide) (hts (.fieldLink RX2 55 "TimeMachine$Condition" "top" "I") (List.mem_of_getElem? (i := 2) rfl)) (fun _ h9 => h9) rfl dX2_evaluate_290 ?_
        refine lv_iconst (v := 1) hx hb dX2_evaluate_293 (by decide) ?_
        refine lv_isub hx hb dX2_evaluate_294 ?_
        obtain ⟨i35, h⟩ := nd_ck_e h
        refine va_lald (i := ((sI s34.2.1 1) - 1)) hx hb hK hP 3 2 rfl rfl i35 dX2_evaluate_295 ?_
        refine lv_aload_n hx hb dX2_evaluate_296 rfl (lv_at hl 0 rfl) ?_
        refine va_get (D := (dC, dI)) (ci := 3) (v := .ref (a 3)) (C := RX2) (T := TX2) (N := 20) hx hb hts hi_dm_X2_evaluate_X2 hown hK hP 0 rfl rfl 3 (by decide) (hts (.fieldLink RX2 17 "TimeMachine$Condition" "stack" "[J") (List.mem_of_getElem? (i := 3) rfl)) (fun _ h9 => h9) rfl dX2_evaluate_297 ?_
        refine lv_aload_n hx hb dX2_evaluate_300 rfl (lv_at hl 0 rfl) ?_
        refine va_get (D := (dC, dI)) (ci := 3) (v := .int (sI s34.2.1 1)) (C := RX2) (T := TX2) (N := 20) hx hb hts hi_dm_X2_evaluate_X2 hown hK hP 0 rfl rfl 4 (by decide) (hts (.fieldLink RX2 55 "TimeMachine$Condition" "top" "I") (List.mem_of_getElem? (i := 2) rfl)) (fun _ h9 => h9) rfl dX2_evaluate_301 ?_
        obtain ⟨i36, h⟩ := nd_ck_e h
        refine va_lald (i := (sI s34.2.1 1)) hx hb hK hP 3 2 rfl rfl i36 dX2_evaluate_304 ?_
        obtain ⟨q37, s38, hq, h⟩ := nd_b2_e h
        have hPc := dp_X2m_0 hP
        have hDc := dd_X2m_0 hD
        have hKc := dy_X2m_0 hK
        have hFc := nd_rs hDc hS hA
        have hzA : ∀ q : Nat, H.size ≤ q → A q := fun q h => hA q (Nat.le_trans hS.1 h)
        refine nd_cVl (As := [.int x6, .long (sQ s34.2.1 1 (Int32.toNatClampNeg ((sI s34.2.1 1) - 1))), .long (sQ s34.2.1 1 (Int32.toNatClampNeg (sI s34.2.1 1)))]) (rest := [.int ((sI s34.2.1 1) - 1), .ref (a 3)]) (q := q37) (w' := dw_X2c (fun k => a (k + 0)) (fun k => ac (k + 0)) s38) ⟨hx, hb, hml, hown, hts⟩ (fun sz => dm_X2_joined l hlt dC dI (fun k => a (k + 0)) (fun k => ac (k + 0)) n (x6) ((sQ s34.2.1 1 (Int32.toNatClampNeg ((sI s34.2.1 1) - 1)))) ((sQ s34.2.1 1 (Int32.toNatClampNeg (sI s34.2.1 1)))) s34.2.1 hq sz) (cwV 3 hts gi_dm_X2_evaluate_1 rfl rfl rfl (by decide +kernel) ⟨Nat.le_of_ble_eq_true rfl, Nat.le_of_ble_eq_true rfl⟩) hPc hDc hKc hS hA hN (va_recv hKc hPc (ci := 3) (q0 := 0) rfl rfl) rfl hl.1 rfl (Nat.le_of_ble_eq_true rfl) dX2_evaluate_305 (fun H locs hP1 hD1 hk1 hS => ?_)
        obtain ⟨hP, hD⟩ := dn_X2m_0 hP hD hzA hk1 hP1 hD1
        obtain ⟨s40, es40, h⟩ := nd_let_e h
        have hP : va_P (dC, dI) vwCl (dw_X2m a ac s40) H := by rw [es40]; exact hP
        have hD : va_D A (dw_X2m a ac s40) := by rw [es40]; exact hD
        obtain ⟨i41, h⟩ := nd_ck_e h
        refine va_last (i := ((sI s34.2.1 1) - 1)) (x := q37) hx hb hK hP hD hS 3 2 rfl rfl i41 dX2_evaluate_308 (fun H locs hP hD hS => ?_)
        obtain ⟨s42, es42, h⟩ := nd_let_e h
        have hP : va_P (dC, dI) vwCl (dw_X2m a ac s42) H := by rw [es42]; exact hP
        have hD : va_D A (dw_X2m a ac s42) := by rw [es42]; exact hD
        refine lv_goto (tgt := 349) hx hb dX2_evaluate_309 (by decide) ?_
        exact (db_X2_evaluate_349 C K J13) (x2) (x4) (x5) s42 _ _ _ h hP hD hS (lv_sub hl [0, 1, 2, 3, 4] rfl)
    · have h := nd_pos h c25
      exact (db_X2_evaluate_163 C K J13) (x2) (x4) (x5) (x6) s0 _ _ _ h hP hD hS (lv_sub hl [0, 1, 2, 3, 4, 5] rfl)
