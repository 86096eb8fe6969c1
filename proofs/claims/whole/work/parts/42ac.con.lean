set_option maxHeartbeats 40000000 in
set_option maxRecDepth 100000 in
theorem dm_X12_run (l : Launch) (hlt : l.stackTraces = false) (dC : Nat → ClassId) (dI : Nat → Nat → Nat) (a : Nat → Nat) (ac : Nat → ClassId) (n : Nat) (v0 : Int32) (s0 : St × Rw × (St) × (St × (St)) × (St) × (St × (St × (St × (St)))) × (St) × (St) × (Nat → St) × (Nat → St) × (Nat → St × (St))) {r : (Int32 × (St × Rw × (St) × (St × (St)) × (St) × (St × (St × (St × (St)))) × (St) × (St) × (Nat → St) × (Nat → St) × (Nat → St × (St)))) ⊕ (String × (St × Rw × (St) × (St × (St)) × (St) × (St × (St × (St × (St)))) × (St) × (St) × (Nat → St) × (Nat → St) × (Nat → St × (St))))} (h : df_X12_run n (a 15) (a 3) v0 s0 = some r) (sz : Nat) : vx_Met l yX12_run ow_dm_X12_run ({ frames := 9, cells := 1, slots := 6, locals := 205 }) (va_Pc [.ref (a 0), .int v0] (fun U => U.heap.size = sz ∧ va_P (dC, dI) vwCl (dw_X12 a ac s0) U.heap ∧ va_K (dC, dI) vwCl (dk_X12 ac) U ∧ va_D (fun _ => True) (dw_X12 a ac s0) ∧ nv_E (va_A (dw_X12 a ac s0) sz) U ∧ nv_Dc U)) (va_Qi (fun x u => r = Sum.inl (x, u)) (fun (u : St × Rw × (St) × (St × (St)) × (St) × (St × (St × (St × (St)))) × (St) × (St) × (Nat → St) × (Nat → St) × (Nat → St × (St))) t => va_P (dC, dI) vwCl (dw_X12 a ac u) t.heap ∧ va_K (dC, dI) vwCl (dk_X12 ac) t ∧ va_D (va_A (dw_X12 a ac s0) sz) (dw_X12 a ac u)) (va_A (dw_X12 a ac s0) sz)) (nd_XC (dC, dI) (St × Rw × (St) × (St × (St)) × (St) × (St × (St × (St × (St)))) × (St) × (St) × (Nat → St) × (Nat → St) × (Nat → St × (St))) (dw_X12 a ac) (va_A (dw_X12 a ac s0) sz) r) 1 6 (va_A (dw_X12 a ac s0) sz) := by
  refine vx_ofW (cc := cX12_run) (maxL := 2) (ret := (some .int)) (by decide) rfl ?_
  intro p e s m args below meth c s₁ B hml htb hv
  obtain ⟨rfl, hsz, hP, hK, hD0, hN, hDe⟩ := hv
  have hx := B.exec
  have hb := B.bytes
  have hr := B.returns
  have hts := atoms_spec (ws := ow_dm_X12_run) B.pre
  have hown : s.vm.findClass RX12 = some m.cls := findClass_of_methodNamed B.named
  have hlocks := B.notSynchronized
  subst hsz
  have hD := hD0.self (sz := s.heap.size)
  generalize hAe : va_A (dw_X12 a ac s0) s.heap.size = A at hD hN ⊢
  have hA : ∀ q : Nat, s.heap.size ≤ q → A q := fun q h => by rw [← hAe]; exact Or.inr h
  have hl := lv_entry ([.ref (a 0), .int v0]) (n := 2) (Nat.le_of_ble_eq_true rfl)
  rw [lg_entry_eq]
  generalize (lg_sl ([.ref (a 0), .int v0]) ++ List.replicate (2 - (lg_sl ([.ref (a 0), .int v0])).length) Slot.unset).toArray = ls at hl ⊢
  have hl : lv_has ls 2 [(0, .ref (a 0)), (1, .int v0)] := hl
  exact db_X12_run_0 (dC := dC) (dI := dI) (a := a) (ac := ac) (n := n) (r := r) ⟨hlt, hx, hb, hml, hown, hts, hN, hA, hK⟩ ⟨hDe, htb, hlocks⟩ (fun pc v τ H locs ls d z er hP hD hS => by subst er; exact W.widen (k := 1) (n := 6) (by decide) (by decide) (vx_ret (W.zret (v := v) hx hb hr z (fun t ht hW => ⟨⟨v, τ, rfl, rfl, by rw [ht]; exact hP, va_K.moved hW.alike hK, hD⟩, hS.F ht⟩) hS.2.2 d))) v0 s0 _ _ _ h hP hD va_S.rf (lv_sub hl [0, 1] rfl)
def ow_dm_X12_reason : List Cond := .code yX12_reason cX12_reason 1 (some .int) :: ([.fieldLink RX12 33 "TimeMachine" "timeline" "LTimeMachine$Timeline;", .fieldLink RX12 162 "TimeMachine$Timeline" "why" "I"] ++ (u_ws RX12 TX12 12 ++ (u_ws RX11 TX11 16 ++ [])))
theorem gd_dm_X12_reason : ∀ w ∈ ow_dm_X12_reason, (w.onTables && w.keeps) = true ∨ ∃ ty, w = Cond.arrayClass ty := List.forall_mem_cons.mpr ⟨good_of_word rfl, List.forall_mem_append.mpr ⟨fun w h => good_of_word (List.all_eq_true.mp (by decide +kernel) w h), List.forall_mem_append.mpr ⟨gu_X12, List.forall_mem_append.mpr ⟨gu_X11, fun _ h => nomatch h⟩⟩⟩⟩
theorem hi_dm_X12_reason_X12 : ∀ w ∈ u_ws RX12 TX12 12, w ∈ ow_dm_X12_reason := fun w h => List.mem_cons_of_mem _ (List.mem_append_right _ (List.mem_append_left _ h))
theorem hi_dm_X12_reason_X11 : ∀ w ∈ u_ws RX11 TX11 16, w ∈ ow_dm_X12_reason := fun w h => List.mem_cons_of_mem _ (List.mem_append_right _ (List.mem_append_right _ (List.mem_append_left _ h)))
def dj_X12_reason_0 (p : Program) (l : Launch) (e : Env) (s : State) (m : MethodId) (args : Array Value) (below : List Frame) (meth : Method) (c : Code) (Q : State → Prop) (A : Nat → Prop) (dC : Nat → ClassId) (dI : Nat → Nat → Nat) (a : Nat → Nat) (ac : Nat → ClassId) (g : (St × Rw × (St) × (St × (St)) × (St) × (St × (St × (St × (St)))) × (St) × (St) × (Nat → St) × (Nat → St) × (Nat → St × (St))) → Option (Int32 × (St × Rw × (St) × (St × (St)) × (St) × (St × (St × (St × (St)))) × (St) × (St) × (Nat → St) × (Nat → St) × (Nat → St × (St))))) (r : Int32 × (St × Rw × (St) × (St × (St)) × (St) × (St × (St × (St × (St)))) × (St) × (St) × (Nat → St) × (Nat → St) × (Nat → St × (St)))) : Prop := ∀ (s0 : St × Rw × (St) × (St × (St)) × (St) × (St × (St × (St × (St)))) × (St) × (St) × (Nat → St) × (Nat → St) × (Nat → St × (St))) (H : Heap) (locs : List Loc) (ls : Array Slot), g s0 = some r → va_P (dC, dI) vwCl (dw_X12 a ac s0) H → va_D A (dw_X12 a ac s0) → va_S A s.heap H locs → lv_has ls 1 [(0, .ref (a 0))] → W p l e (headSpec ow_dm_X12_reason ({ frames := 0, cells := 0, slots := 0, locals := 0 })).room s m args below meth c H locs 0 0 Q (F0 m 0 ls [])
set_option maxHeartbeats 40000000 in
set_option maxRecDepth 100000 in
theorem db_X12_reason_0 {p : Program} {l : Launch} {e : Env} {s : State} {m : MethodId} {args : Array Value} {below : List Frame} {meth : Method} {c : Code} {Q : State → Prop} {A : Nat → Prop} {dC : Nat → ClassId} {dI : Nat → Nat → Nat} {a : Nat → Nat} {ac : Nat → ClassId} {n : Nat} {r : Int32 × (St × Rw × (St) × (St × (St)) × (St) × (St × (St × (St × (St)))) × (St) × (St) × (Nat → St) × (Nat → St) × (Nat → St × (St)))} (C : nd_C p l s m args c A (dC, dI) cX12_reason 1 RX12 ow_dm_X12_reason (dk_X12 ac)) (K : nd_Ki p l e (headSpec ow_dm_X12_reason ({ frames := 0, cells := 0, slots := 0, locals := 0 })).room s m args below meth c Q A (dC, dI) cX12_reason .int (St × Rw × (St) × (St × (St)) × (St) × (St × (St × (St × (St)))) × (St) × (St) × (Nat → St) × (Nat → St) × (Nat → St × (St))) (dw_X12 a ac) r) : dj_X12_reason_0 p l e s m args below meth c Q A dC dI a ac (df_X12_reason_0 n (a 15) (a 3)) r := by
  obtain ⟨hlt, hx, hb, hml, hown, hts, hN, hA, hK⟩ := id C
  intro s0 H locs ls h hP hD hS hl
  unfold df_X12_reason_0 at h
  refine lv_aload_n hx hb dX12_reason_0 rfl (lv_at hl 0 rfl) ?_
  refine va_get (D := (dC, dI)) (ci := 13) (v := .ref (a 16)) (C := RX12) (T := TX12) (N := 12) hx hb hts hi_dm_X12_reason_X12 hown hK hP 0 rfl rfl 6 (by decide) (hts (.fieldLink RX12 33 "TimeMachine" "timeline" "LTimeMachine$Timeline;") (List.mem_of_getElem? (i := 1) rfl)) (fun _ h9 => h9) rfl dX12_reason_1 ?_
  refine va_get (D := (dC, dI)) (ci := 12) (v := .int (sI s0.2.2.2.2.1 7)) (C := RX11) (T := TX11) (N := 16) hx hb hts hi_dm_X12_reason_X11 hown hK hP 16 rfl rfl 15 (by decide) (hts (.fieldLink RX12 162 "TimeMachine$Timeline" "why" "I") (List.mem_of_getElem? (i := 2) rfl)) (fun _ h9 => h9) rfl dX12_reason_4 ?_
  exact K _ _ _ _ _ _ dX12_reason_7 rfl (Option.some.inj h).symm hP hD hS
set_option maxHeartbeats 40000000 in
set_option maxRecDepth 100000 in
theorem dm_X12_reason (l : Launch) (hlt : l.stackTraces = false) (dC : Nat → ClassId) (dI : Nat → Nat → Nat) (a : Nat → Nat) (ac : Nat → ClassId) (n : Nat) (s0 : St × Rw × (St) × (St × (St)) × (St) × (St × (St × (St × (St)))) × (St) × (St) × (Nat → St) × (Nat → St) × (Nat → St × (St))) {r : Int32 × (St × Rw × (St) × (St × (St)) × (St) × (St × (St × (St × (St)))) × (St) × (St) × (Nat → St) × (Nat → St) × (Nat → St × (St)))} (h : df_X12_reason n (a 15) (a 3) s0 = some r) (sz : Nat) : Met l yX12_reason ow_dm_X12_reason ({ frames := 0, cells := 0, slots := 0, locals := 0 }) (va_Pc [.ref (a 0)] (fun U => U.heap.size = sz ∧ va_P (dC, dI) vwCl (dw_X12 a ac s0) U.heap ∧ va_K (dC, dI) vwCl (dk_X12 ac) U ∧ va_D (fun _ => True) (dw_X12 a ac s0) ∧ nv_E (va_A (dw_X12 a ac s0) sz) U)) (va_Qi (fun x _ => x = r.1) (fun (_ : Unit) t => va_P (dC, dI) vwCl (dw_X12 a ac r.2) t.heap ∧ va_K (dC, dI) vwCl (dk_X12 ac) t ∧ va_D (va_A (dw_X12 a ac s0) sz) (dw_X12 a ac r.2)) (va_A (dw_X12 a ac s0) sz)) 0 0 (va_A (dw_X12 a ac s0) sz) := by
  refine Met.ofW (cc := cX12_reason) (maxL := 1) (ret := (some .int)) (by decide) rfl ?_
  intro p e s m args below meth c s₁ B hml hv
  obtain ⟨rfl, hsz, hP, hK, hD0, hN⟩ := hv
  have hx := B.exec
  have hb := B.bytes
  have hr := B.returns
  have hts := atoms_spec (ws := ow_dm_X12_reason) B.pre
  have hown : s.vm.findClass RX12 = some m.cls := findClass_of_methodNamed B.named
  have hlocks := B.notSynchronized
  subst hsz
  have hD := hD0.self (sz := s.heap.size)
  generalize hAe : va_A (dw_X12 a ac s0) s.heap.size = A at hD hN ⊢
  have hA : ∀ q : Nat, s.heap.size ≤ q → A q := fun q h => by rw [← hAe]; exact Or.inr h
  have hl := lv_entry ([.ref (a 0)]) (n := 1) (Nat.le_of_ble_eq_true rfl)
  rw [lg_entry_eq]
  generalize (lg_sl ([.ref (a 0)]) ++ List.replicate (1 - (lg_sl ([.ref (a 0)])).length) Slot.unset).toArray = ls at hl ⊢
  have hl : lv_has ls 1 [(0, .ref (a 0))] := hl
  exact db_X12_reason_0 (dC := dC) (dI := dI) (a := a) (ac := ac) (n := n) (r := r) ⟨hlt, hx, hb, hml, hown, hts, hN, hA, hK⟩ (fun pc v τ H locs ls d z er hP hD hS => by subst er; exact W.zret (v := v) hx hb hr z (fun t ht hW => ⟨⟨v, (), rfl, rfl, by rw [ht]; exact hP, va_K.moved hW.alike hK, hD⟩, hS.F ht⟩) hS.2.2 d) s0 _ _ _ h hP hD va_S.rf (lv_sub hl [0] rfl)
def ow_dm_X12_go : List Cond := .code yX12_go cX12_go 2 none :: ([.fieldLink RX12 33 "TimeMachine" "timeline" "LTimeMachine$Timeline;", .fieldLink RX12 142 "TimeMachine$Timeline" "booted" "Z", .classLink RX12 70 "java/lang/IllegalArgumentException", .initialized "java/lang/IllegalArgumentException", .fieldLink RX12 165 "TimeMachine$Timeline" "end" "I", .methodLink RX12 168 yX11_moveTo, .instanceMethod yX11_moveTo, .selects RX11 yX11_moveTo yX11_moveTo, .initialized RX11] ++ (u_ws RX12 TX12 12 ++ (u_ws RX11 TX11 16 ++ (ow_dm_X11_moveTo ++ ((vx_at0 RX12 72 "java/lang/IllegalArgumentException" ["java/lang/RuntimeException", "java/lang/Exception"]).filter goodWord ++ [])))))
theorem gd_dm_X12_go : ∀ w ∈ ow_dm_X12_go, (w.onTables && w.keeps) = true ∨ ∃ ty, w = Cond.arrayClass ty := List.forall_mem_cons.mpr ⟨good_of_word rfl, List.forall_mem_append.mpr ⟨fun w h => good_of_word (List.all_eq_true.mp (by decide +kernel) w h), List.forall_mem_append.mpr ⟨gu_X12, List.forall_mem_append.mpr ⟨gu_X11, List.forall_mem_append.mpr ⟨gd_dm_X11_moveTo, List.forall_mem_append.mpr ⟨fun w h => good_of_word (List.mem_filter.mp h).2, fun _ h => nomatch h⟩⟩⟩⟩⟩⟩
theorem hi_dm_X12_go_X12 : ∀ w ∈ u_ws RX12 TX12 12, w ∈ ow_dm_X12_go := fun w h => List.mem_cons_of_mem _ (List.mem_append_right _ (List.mem_append_left _ h))
theorem hi_dm_X12_go_X11 : ∀ w ∈ u_ws RX11 TX11 16, w ∈ ow_dm_X12_go := fun w h => List.mem_cons_of_mem _ (List.mem_append_right _ (List.mem_append_right _ (List.mem_append_left _ h)))
theorem gi_dm_X12_go_0 : GoodIn ow_dm_X12_go (wsV RX12 168 RX11 yX11_moveTo ow_dm_X11_moveTo) := goodIn_app (goodIn_of _ (by decide +kernel)) (fun w h => ⟨List.mem_cons_of_mem _ (List.mem_append_right _ (List.mem_append_right _ (List.mem_append_right _ (List.mem_append_left _ h)))), gd_dm_X11_moveTo w h⟩)
def dj_X12_go_25 (p : Program) (l : Launch) (e : Env) (s : State) (m : MethodId) (args : Array Value) (below : List Frame) (meth : Method) (c : Code) (Q : State → Prop) (A : Nat → Prop) (dC : Nat → ClassId) (dI : Nat → Nat → Nat) (a : Nat → Nat) (ac : Nat → ClassId) (g : (St × Rw × (St) × (St × (St)) × (St) × (St × (St × (St × (St)))) × (St) × (St) × (Nat → St) × (Nat → St) × (Nat → St × (St))) → Option ((St × Rw × (St) × (St × (St)) × (St) × (St × (St × (St × (St)))) × (St) × (St) × (Nat → St) × (Nat → St) × (Nat → St × (St))) ⊕ (String × (St × Rw × (St) × (St × (St)) × (St) × (St × (St × (St × (St)))) × (St) × (St) × (Nat → St) × (Nat → St) × (Nat → St × (St)))))) (r : (St × Rw × (St) × (St × (St)) × (St) × (St × (St × (St × (St)))) × (St) × (St) × (Nat → St) × (Nat → St) × (Nat → St × (St))) ⊕ (String × (St × Rw × (St) × (St × (St)) × (St) × (St × (St × (St × (St)))) × (St) × (St) × (Nat → St) × (Nat → St) × (Nat → St × (St))))) : Prop := ∀ (s0 : St × Rw × (St) × (St × (St)) × (St) × (St × (St × (St × (St)))) × (St) × (St) × (Nat → St) × (Nat → St) × (Nat → St × (St))) (H : Heap) (locs : List Loc) (ls : Array Slot), g s0 = some r → va_P (dC, dI) vwCl (dw_X12 a ac s0) H → va_D A (dw_X12 a ac s0) → va_S A s.heap H locs → lv_has ls 2 [] → W p l e (headSpec ow_dm_X12_go ({ frames := 9, cells := 1, slots := 6, locals := 205 })).room s m args below meth c H locs 0 0 Q (F0 m 25 ls [])
def dj_X12_go_0 (p : Program) (l : Launch) (e : Env) (s : State) (m : MethodId) (args : Array Value) (below : List Frame) (meth : Method) (c : Code) (Q : State → Prop) (A : Nat → Prop) (dC : Nat → ClassId) (dI : Nat → Nat → Nat) (a : Nat → Nat) (ac : Nat → ClassId) (g : Int32 → (St × Rw × (St) × (St × (St)) × (St) × (St × (St × (St × (St)))) × (St) × (St) × (Nat → St) × (Nat → St) × (Nat → St × (St))) → Option ((St × Rw × (St) × (St × (St)) × (St) × (St × (St × (St × (St)))) × (St) × (St) × (Nat → St) × (Nat → St) × (Nat → St × (St))) ⊕ (String × (St × Rw × (St) × (St × (St)) × (St) × (St × (St × (St × (St)))) × (St) × (St) × (Nat → St) × (Nat → St) × (Nat → St × (St)))))) (r : (St × Rw × (St) × (St × (St)) × (St) × (St × (St × (St × (St)))) × (St) × (St) × (Nat → St) × (Nat → St) × (Nat → St × (St))) ⊕ (String × (St × Rw × (St) × (St × (St)) × (St) × (St × (St × (St × (St)))) × (St) × (St) × (Nat → St) × (Nat → St) × (Nat → St × (St))))) : Prop := ∀ (v0 : Int32) (s0 : St × Rw × (St) × (St × (St)) × (St) × (St × (St × (St × (St)))) × (St) × (St) × (Nat → St) × (Nat → St) × (Nat → St × (St))) (H : Heap) (locs : List Loc) (ls : Array Slot), g v0 s0 = some r → va_P (dC, dI) vwCl (dw_X12 a ac s0) H → va_D A (dw_X12 a ac s0) → va_S A s.heap H locs → lv_has ls 2 [(0, .ref (a 0)), (1, .int v0)] → W p l e (headSpec ow_dm_X12_go ({ frames := 9, cells := 1, slots := 6, locals := 205 })).room s m args below meth c H locs 0 0 Q (F0 m 0 ls [])
set_option maxHeartbeats 40000000 in
set_option maxRecDepth 100000 in
theorem db_X12_go_25 {p : Program} {l : Launch} {e : Env} {s : State} {m : MethodId} {args : Array Value} {below : List Frame} {meth : Method} {c : Code} {Qc : Array Value → State → Outcome → State → Prop} {A : Nat → Prop} {dC : Nat → ClassId} {dI : Nat → Nat → Nat} {a : Nat → Nat} {ac : Nat → ClassId} {n : Nat} {r : (St × Rw × (St) × (St × (St)) × (St) × (St × (St × (St × (St)))) × (St) × (St) × (Nat → St) × (Nat → St) × (Nat → St × (St))) ⊕ (String × (St × Rw × (St) × (St × (St)) × (St) × (St × (St × (St × (St)))) × (St) × (St) × (Nat → St) × (Nat → St) × (Nat → St × (St))))} (C : nd_C p l s m args c A (dC, dI) cX12_go 2 RX12 ow_dm_X12_go (dk_X12 ac)) (CX : nv_Dc s ∧ (∀ x ∈ c.exceptionTable.toList, False) ∧ meth.locks = false) (K : nd_Tv p l e (headSpec ow_dm_X12_go ({ frames := 9, cells := 1, slots := 6, locals := 205 })).room s m args below meth c (vx_MQ below Qc (nd_XC (dC, dI) (St × Rw × (St) × (St × (St)) × (St) × (St × (St × (St × (St)))) × (St) × (St) × (Nat → St) × (Nat → St) × (Nat → St × (St))) (dw_X12 a ac) A r) args s 1 6 A) A (dC, dI) cX12_go (St × Rw × (St) × (St × (St)) × (St) × (St × (St × (St × (St)))) × (St) × (St) × (Nat → St) × (Nat → St) × (Nat → St × (St))) (dw_X12 a ac) r) : dj_X12_go_25 p l e s m args below meth c (vx_MQ below Qc (nd_XC (dC, dI) (St × Rw × (St) × (St × (St)) × (St) × (St × (St × (St × (St)))) × (St) × (St) × (Nat → St) × (Nat → St) × (Nat → St × (St))) (dw_X12 a ac) A r) args s 1 6 A) A dC dI a ac (df_X12_go_25 n (a 15) (a 3)) r := by
  obtain ⟨hDe, htb, hlocks⟩ := id CX
  obtain ⟨hlt, hx, hb, hml, hown, hts, hN, hA, hK⟩ := id C
  intro s0 H locs ls h hP hD hS hl
  unfold df_X12_go_25 at h
  exact vx_throw0 (own := RX12) (cls := "java/lang/IllegalArgumentException") (names := ["java/lang/RuntimeException", "java/lang/Exception"]) (ik := 70) (ic := 72) (A := A) hx hb hlt hown (by decide +kernel) (by decide +kernel) (hts (.classLink RX12 70 "java/lang/IllegalArgumentException") (List.mem_of_getElem? (i := 3) rfl)) (hts (.initialized "java/lang/IllegalArgumentException") (List.mem_of_getElem? (i := 4) rfl)) (vx_hat (B := [.castable "java/lang/IllegalArgumentException" "java/lang/IllegalArgumentException", .declares ⟨"java/lang/RuntimeException", "<init>", "()V"⟩, .declares ⟨"java/lang/Exception", "<init>", "()V"⟩, .declares ⟨"java/lang/Throwable", "<init>", "()V"⟩]) (fun w h => hts w (List.mem_cons_of_mem _ (List.mem_append_right _ (List.mem_append_right _ (List.mem_append_right _ (List.mem_append_right _ (List.mem_append_left _ h))))))) (by decide +kernel) (vx_c (va_Nw.use rfl hN.2.2.2.2.2.2.2.1) (vx_c (va_Nw.use rfl (hDe _ (by decide +kernel))) (vx_c (va_Nw.use rfl (hDe _ (by decide +kernel))) (vx_c (va_Nw.use rfl (hDe _ (by decide +kernel))) vx_n))))) (by decide +kernel) hN.2.2.2.2.2.1 hN.2.2.2.2.2.2.1 hS (by rw [hml]; exact hl.1) dX12_go_25 dX12_go_28 dX12_go_29 dX12_go_32 (fun x9 h9 => (htb x9 h9).elim) (Nat.le_of_ble_eq_true rfl) (Nat.le_of_ble_eq_true rfl) (by decide +kernel) (by decide +kernel) hlocks (fun t hvm hz hk => ⟨s0, trivial, ⟨(Option.some.inj h).symm, hP.kept (fun k q hq => hk q.1 (hP k q hq).lt), hD⟩, Nat.le_trans hS.1 hz, fun q h1 h2 => (hk q (Nat.lt_of_lt_of_le h1 hS.1)).trans (hS.2.1 q h1 h2)⟩) hS.2.2 (by decide +kernel) (by decide +kernel)
set_option maxHeartbeats 40000000 in
set_option maxRecDepth 100000 in
theorem db_X12_go_0 {p : Program} {l : Launch} {e : Env} {s : State} {m : MethodId} {args : Array Value} {below : List Frame} {meth : Method} {c : Code} {Qc : Array Value → State → Outcome → State → Prop} {A : Nat → Prop} {dC : Nat → ClassId} {dI : Nat → Nat → Nat} {a : Nat → Nat} {ac : Nat → ClassId} {n : Nat} {r : (St × Rw × (St) × (St × (St)) × (St) × (St × (St × (St × (St)))) × (St) × (St) × (Nat → St) × (Nat → St) × (Nat → St × (St))) ⊕ (String × (St × Rw × (St) × (St × (St)) × (St) × (St × (St × (St × (St)))) × (St) × (St) × (Nat → St) × (Nat → St) × (Nat → St × (St))))} (C : nd_C p l s m args c A (dC, dI) cX12_go 2 RX12 ow_dm_X12_go (dk_X12 ac)) (CX : nv_Dc s ∧ (∀ x ∈ c.exceptionTable.toList, False) ∧ meth.locks = false) (K : nd_Tv p l e (headSpec ow_dm_X12_go ({ frames := 9, cells := 1, slots := 6, locals := 205 })).room s m args below meth c (vx_MQ below Qc (nd_XC (dC, dI) (St × Rw × (St) × (St × (St)) × (St) × (St × (St × (St × (St)))) × (St) × (St) × (Nat → St) × (Nat → St) × (Nat → St × (St))) (dw_X12 a ac) A r) args s 1 6 A) A (dC, dI) cX12_go (St × Rw × (St) × (St × (St)) × (St) × (St × (St × (St × (St)))) × (St) × (St) × (Nat → St) × (Nat → St) × (Nat → St × (St))) (dw_X12 a ac) r) : dj_X12_go_0 p l e s m args below meth c (vx_MQ below Qc (nd_XC (dC, dI) (St × Rw × (St) × (St × (St)) × (St) × (St × (St × (St × (St)))) × (St) × (St) × (Nat → St) × (Nat → St) × (Nat → St × (St))) (dw_X12 a ac) A r) args s 1 6 A) A dC dI a ac (df_X12_go_0 n (a 15) (a 3)) r := by
  obtain ⟨hDe, htb, hlocks⟩ := id CX
  obtain ⟨hlt, hx, hb, hml, hown, hts, hN, hA, hK⟩ := id C
  intro v0 s0 H locs ls h hP hD hS hl
  unfold df_X12_go_0 at h
  refine lv_aload_n hx hb dX12_go_0 rfl (lv_at hl 0 rfl) ?_
  refine va_get (D := (dC, dI)) (ci := 13) (v := .ref (a 16)) (C := RX12) (T := TX12) (N := 12) hx hb hts hi_dm_X12_go_X12 hown hK hP 0 rfl rfl 6 (by decide) (hts (.fieldLink RX12 33 "TimeMachine" "timeline" "LTimeMachine$Timeline;") (List.mem_of_getElem? (i := 1) rfl)) (fun _ h9 => h9) rfl dX12_go_1 ?_
  refine va_get (D := (dC, dI)) (ci := 12) (v := .int (sI s0.2.2.2.2.1 0)) (C := RX11) (T := TX11) (N := 16) hx hb hts hi_dm_X12_go_X11 hown hK hP 16 rfl rfl 6 (by decide) (hts (.fieldLink RX12 142 "TimeMachine$Timeline" "booted" "Z") (List.mem_of_getElem? (i := 2) rfl)) (fun _ h9 => h9) rfl dX12_go_4 ?_
  refine lv_if_eq (tgt := 25) hx hb dX12_go_7 (by decide) (fun c1 => ?_) (fun c1 => ?_)
  · have h := nd_pos h c1
    exact (db_X12_go_25 C CX K)  s0 _ _ _ h hP hD hS (lv_sub hl [] rfl)
  · have h := nd_neg h c1
    refine lv_iload_n hx hb dX12_go_10 rfl (lv_at hl 1 rfl) ?_
    refine lv_if_lt (tgt := 25) hx hb dX12_go_11 (by decide) (fun c2 => ?_) (fun c2 => ?_)
    · have h := nd_pos h c2
      exact (db_X12_go_25 C CX K)  s0 _ _ _ h hP hD hS (lv_sub hl [] rfl)
    · have h := nd_neg h c2
      refine lv_iload_n hx hb dX12_go_14 rfl (lv_at hl 1 rfl) ?_
      refine lv_aload_n hx hb dX12_go_15 rfl (lv_at hl 0 rfl) ?_
      refine va_get (D := (dC, dI)) (ci := 13) (v := .ref (a 16)) (C := RX12) (T := TX12) (N := 12) hx hb hts hi_dm_X12_go_X12 hown hK hP 0 rfl rfl 6 (by decide) (hts (.fieldLink RX12 33 "TimeMachine" "timeline" "LTimeMachine$Timeline;") (List.mem_of_getElem? (i := 1) rfl)) (fun _ h9 => h9) rfl dX12_go_16 ?_
      refine va_get (D := (dC, dI)) (ci := 12) (v := .int (sI s0.2.2.2.2.1 4)) (C := RX11) (T := TX11) (N := 16) hx hb hts hi_dm_X12_go_X11 hown hK hP 16 rfl rfl 12 (by decide) (hts (.fieldLink RX12 165 "TimeMachine$Timeline" "end" "I") (List.mem_of_getElem? (i := 5) rfl)) (fun _ h9 => h9) rfl dX12_go_19 ?_
      refine lv_icmp_le (tgt := 33) hx hb dX12_go_22 (by decide) (fun c3 => ?_) (fun c3 => ?_)
      · have h := nd_pos h c3
        refine lv_aload_n hx hb dX12_go_33 rfl (lv_at hl 0 rfl) ?_
        refine va_get (D := (dC, dI)) (ci := 13) (v := .ref (a 16)) (C := RX12) (T := TX12) (N := 12) hx hb hts hi_dm_X12_go_X12 hown hK hP 0 rfl rfl 6 (by decide) (hts (.fieldLink RX12 33 "TimeMachine" "timeline" "LTimeMachine$Timeline;") (List.mem_of_getElem? (i := 1) rfl)) (fun _ h9 => h9) rfl dX12_go_34 ?_
        refine lv_iload_n hx hb dX12_go_37 rfl (lv_at hl 1 rfl) ?_
        obtain ⟨s5, hq, h⟩ := nd_b1_e h
        have hPc := dp_wX12_X11_11 hP
        have hDc := dd_wX12_X11_11 hD
        have hKc := dy_wX12_X11_11 hK
        have hFc := nd_rs hDc hS hA
        have hzA : ∀ q : Nat, H.size ≤ q → A q := fun q h => hA q (Nat.le_trans hS.1 h)
        refine nd_cVv (As := [.int v0]) (rest := []) (w' := dw_X11 (fun k => a (k + 16)) (fun k => ac (k + 16)) s5) ⟨hx, hb, hml, hown, hts⟩ (fun sz => dm_X11_moveTo l hlt dC dI (fun k => a (k + 16)) (fun k => ac (k + 16)) n (v0) (s0.2.2.2.2.1, s0.2.1, s0.2.2.2.2.2.1, s0.2.2.2.2.2.2.1, s0.2.2.2.2.2.2.2.1, s0.2.2.2.2.2.2.2.2.1, s0.2.2.2.2.2.2.2.2.2.1, s0.2.2.2.2.2.2.2.2.2.2) hq sz) (cwV 1 hts gi_dm_X12_go_0 rfl rfl rfl (by decide +kernel) ⟨Nat.le_of_ble_eq_true rfl, Nat.le_of_ble_eq_true rfl⟩) hPc hDc hKc hS hA hN (va_recv hKc hPc (ci := 12) (q0 := 0) rfl rfl) rfl hl.1 rfl (Nat.le_of_ble_eq_true rfl) dX12_go_38 (fun H locs hP1 hD1 hk1 hS => ?_)
        obtain ⟨hP, hD⟩ := dn_wX12_X11_11 hP hD hzA hk1 hP1 hD1
        obtain ⟨s7, es7, h⟩ := nd_let_e h
        have hP : va_P (dC, dI) vwCl (dw_X12 a ac s7) H := by rw [es7]; exact hP
        have hD : va_D A (dw_X12 a ac s7) := by rw [es7]; exact hD
        exact K _ _ _ _ _ dX12_go_41 (Option.some.inj h).symm hP hD hS
      · have h := nd_neg h c3
        exact (db_X12_go_25 C CX K)  s0 _ _ _ h hP hD hS (lv_sub hl [] rfl)
set_option maxHeartbeats 40000000 in
set_option maxRecDepth 100000 in
theorem dm_X12_go (l : Launch) (hlt : l.stackTraces = false) (dC : Nat → ClassId) (dI : Nat → Nat → Nat) (a : Nat → Nat) (ac : Nat → ClassId) (n : Nat) (v0 : Int32) (s0 : St × Rw × (St) × (St × (St)) × (St) × (St × (St × (St × (St)))) × (St) × (St) × (Nat → St) × (Nat → St) × (Nat → St × (St))) {r : (St × Rw × (St) × (St × (St)) × (St) × (St × (St × (St × (St)))) × (St) × (St) × (Nat → St) × (Nat → St) × (Nat → St × (St))) ⊕ (String × (St × Rw × (St) × (St × (St)) × (St) × (St × (St × (St × (St)))) × (St) × (St) × (Nat → St) × (Nat → St) × (Nat → St × (St))))} (h : df_X12_go n (a 15) (a 3) v0 s0 = some r) (sz : Nat) : vx_Met l yX12_go ow_dm_X12_go ({ frames := 9, cells := 1, slots := 6, locals := 205 }) (va_Pc [.ref (a 0), .int v0] (fun U => U.heap.size = sz ∧ va_P (dC, dI) vwCl (dw_X12 a ac s0) U.heap ∧ va_K (dC, dI) vwCl (dk_X12 ac) U ∧ va_D (fun _ => True) (dw_X12 a ac s0) ∧ nv_E (va_A (dw_X12 a ac s0) sz) U ∧ nv_Dc U)) (va_Qv (fun u => r = Sum.inl u) (fun (u : St × Rw × (St) × (St × (St)) × (St) × (St × (St × (St × (St)))) × (St) × (St) × (Nat → St) × (Nat → St) × (Nat → St × (St))) t => va_P (dC, dI) vwCl (dw_X12 a ac u) t.heap ∧ va_K (dC, dI) vwCl (dk_X12 ac) t ∧ va_D (va_A (dw_X12 a ac s0) sz) (dw_X12 a ac u)) (va_A (dw_X12 a ac s0) sz)) (nd_XC (dC, dI) (St × Rw × (St) × (St × (St)) × (St) × (St × (St × (St × (St)))) × (St) × (St) × (Nat → St) × (Nat → St) × (Nat → St × (St))) (dw_X12 a ac) (va_A (dw_X12 a ac s0) sz) r) 1 6 (va_A (dw_X12 a ac s0) sz) := by
  refine vx_ofW (cc := cX12_go) (maxL := 2) (ret := none) (by decide) rfl ?_
  intro p e s m args below meth c s₁ B hml htb hv
  obtain ⟨rfl, hsz, hP, hK, hD0, hN, hDe⟩ := hv
  have hx := B.exec
  have hb := B.bytes
  have hr := B.returns
  have hts := atoms_spec (ws := ow_dm_X12_go) B.pre
  have hown : s.vm.findClass RX12 = some m.cls := findClass_of_methodNamed B.named
  have hlocks := B.notSynchronized
  subst hsz
  have hD := hD0.self (sz := s.heap.size)
  generalize hAe : va_A (dw_X12 a ac s0) s.heap.size = A at hD hN ⊢
  have hA : ∀ q : Nat, s.heap.size ≤ q → A q := fun q h => by rw [← hAe]; exact Or.inr h
  have hl := lv_entry ([.ref (a 0), .int v0]) (n := 2) (Nat.le_of_ble_eq_true rfl)
  rw [lg_entry_eq]
  generalize (lg_sl ([.ref (a 0), .int v0]) ++ List.replicate (2 - (lg_sl ([.ref (a 0), .int v0])).length) Slot.unset).toArray = ls at hl ⊢
  have hl : lv_has ls 2 [(0, .ref (a 0)), (1, .int v0)] := hl
  exact db_X12_go_0 (dC := dC) (dI := dI) (a := a) (ac := ac) (n := n) (r := r) ⟨hlt, hx, hb, hml, hown, hts, hN, hA, hK⟩ ⟨hDe, htb, hlocks⟩ (fun pc τ H locs ls d er hP hD hS => by subst er; exact W.widen (k := 1) (n := 6) (by decide) (by decide) (vx_ret (W.vret hx hb hr (fun t ht hW => ⟨⟨τ, rfl, rfl, by rw [ht]; exact hP, va_K.moved hW.alike hK, hD⟩, hS.F ht⟩) hS.2.2 d))) v0 s0 _ _ _ h hP hD va_S.rf (lv_sub hl [0, 1] rfl)
def ow_dm_X12_cut : List Cond := .code yX12_cut cX12_cut 1 (some .int) :: ([.fieldLink RX12 33 "TimeMachine" "timeline" "LTimeMachine$Timeline;", .fieldLink RX12 142 "TimeMachine$Timeline" "booted" "Z", .methodLink RX12 171 yX11_forgetBehind, .instanceMethod yX11_forgetBehind, .selects RX11 yX11_forgetBehind yX11_forgetBehind, .initialized RX11] ++ (u_ws RX12 TX12 12 ++ (u_ws RX11 TX11 16 ++ (ow_dm_X11_forgetBehind ++ []))))
theorem gd_dm_X12_cut : ∀ w ∈ ow_dm_X12_cut, (w.onTables && w.keeps) = true ∨ ∃ ty, w = Cond.arrayClass ty := List.forall_mem_cons.mpr ⟨good_of_word rfl, List.forall_mem_append.mpr ⟨fun w h => good_of_word (List.all_eq_true.mp (by decide +kernel) w h), List.forall_mem_append.mpr ⟨gu_X12, List.forall_mem_append.mpr ⟨gu_X11, List.forall_mem_append.mpr ⟨gd_dm_X11_forgetBehind, fun _ h => nomatch h⟩⟩⟩⟩⟩
theorem hi_dm_X12_cut_X12 : ∀ w ∈ u_ws RX12 TX12 12, w ∈ ow_dm_X12_cut := fun w h => List.mem_cons_of_mem _ (List.mem_append_right _ (List.mem_append_left _ h))
theorem hi_dm_X12_cut_X11 : ∀ w ∈ u_ws RX11 TX11 16, w ∈ ow_dm_X12_cut := fun w h => List.mem_cons_of_mem _ (List.mem_append_right _ (List.mem_append_right _ (List.mem_append_left _ h)))
theorem gi_dm_X12_cut_0 : GoodIn ow_dm_X12_cut (wsV RX12 171 RX11 yX11_forgetBehind ow_dm_X11_forgetBehind) := goodIn_app (goodIn_of _ (by decide +kernel)) (fun w h => ⟨List.mem_cons_of_mem _ (List.mem_append_right _ (List.mem_append_right _ (List.mem_append_right _ (List.mem_append_left _ h)))), gd_dm_X11_forgetBehind w h⟩)
def dj_X12_cut_21 (p : Program) (l : Launch) (e : Env) (s : State) (m : MethodId) (args : Array Value) (below : List Frame) (meth : Method) (c : Code) (Q : State → Prop) (A : Nat → Prop) (dC : Nat → ClassId) (dI : Nat → Nat → Nat) (a : Nat → Nat) (ac : Nat → ClassId) (g : Int32 → (St × Rw × (St) × (St × (St)) × (St) × (St × (St × (St × (St)))) × (St) × (St) × (Nat → St) × (Nat → St) × (Nat → St × (St))) → Option (Int32 × (St × Rw × (St) × (St × (St)) × (St) × (St × (St × (St × (St)))) × (St) × (St) × (Nat → St) × (Nat → St) × (Nat → St × (St))))) (r : Int32 × (St × Rw × (St) × (St × (St)) × (St) × (St × (St × (St × (St)))) × (St) × (St) × (Nat → St) × (Nat → St) × (Nat → St × (St)))) : Prop := ∀ (y0 : Int32) (s0 : St × Rw × (St) × (St × (St)) × (St) × (St × (St × (St × (St)))) × (St) × (St) × (Nat → St) × (Nat → St) × (Nat → St × (St))) (H : Heap) (locs : List Loc) (ls : Array Slot), g y0 s0 = some r → va_P (dC, dI) vwCl (dw_X12 a ac s0) H → va_D A (dw_X12 a ac s0) → va_S A s.heap H locs → lv_has ls 1 [] → W p l e (headSpec ow_dm_X12_cut ({ frames := 3, cells := 0, slots := 0, locals := 56 })).room s m args below meth c H locs 0 0 Q (F0 m 21 ls [.int y0])
def dj_X12_cut_0 (p : Program) (l : Launch) (e : Env) (s : State) (m : MethodId) (args : Array Value) (below : List Frame) (meth : Method) (c : Code) (Q : State → Prop) (A : Nat → Prop) (dC : Nat → ClassId) (dI : Nat → Nat → Nat) (a : Nat → Nat) (ac : Nat → ClassId) (g : (St × Rw × (St) × (St × (St)) × (St) × (St × (St × (St × (St)))) × (St) × (St) × (Nat → St) × (Nat → St) × (Nat → St × (St))) → Option (Int32 × (St × Rw × (St) × (St × (St)) × (St) × (St × (St × (St × (St)))) × (St) × (St) × (Nat → St) × (Nat → St) × (Nat → St × (St))))) (r : Int32 × (St × Rw × (St) × (St × (St)) × (St) × (St × (St × (St × (St)))) × (St) × (St) × (Nat → St) × (Nat → St) × (Nat → St × (St)))) : Prop := ∀ (s0 : St × Rw × (St) × (St × (St)) × (St) × (St × (St × (St × (St)))) × (St) × (St) × (Nat → St) × (Nat → St) × (Nat → St × (St))) (H : Heap) (locs : List Loc) (ls : Array Slot), g s0 = some r → va_P (dC, dI) vwCl (dw_X12 a ac s0) H → va_D A (dw_X12 a ac s0) → va_S A s.heap H locs → lv_has ls 1 [(0, .ref (a 0))] → W p l e (headSpec ow_dm_X12_cut ({ frames := 3, cells := 0, slots := 0, locals := 56 })).room s m args below meth c H locs 0 0 Q (F0 m 0 ls [])
set_option maxHeartbeats 40000000 in
set_option maxRecDepth 100000 in
theorem db_X12_cut_21 {p : Program} {l : Launch} {e : Env} {s : State} {m : MethodId} {args : Array Value} {below : List Frame} {meth : Method} {c : Code} {Q : State → Prop} {A : Nat → Prop} {dC : Nat → ClassId} {dI : Nat → Nat → Nat} {a : Nat → Nat} {ac : Nat → ClassId} {n : Nat} {r : Int32 × (St × Rw × (St) × (St × (St)) × (St) × (St × (St × (St × (St)))) × (St) × (St) × (Nat → St) × (Nat → St) × (Nat → St × (St)))} (C : nd_C p l s m args c A (dC, dI) cX12_cut 1 RX12 ow_dm_X12_cut (dk_X12 ac)) (K : nd_Ki p l e (headSpec ow_dm_X12_cut ({ frames := 3, cells := 0, slots := 0, locals := 56 })).room s m args below meth c Q A (dC, dI) cX12_cut .int (St × Rw × (St) × (St × (St)) × (St) × (St × (St × (St × (St)))) × (St) × (St) × (Nat → St) × (Nat → St) × (Nat → St × (St))) (dw_X12 a ac) r) : dj_X12_cut_21 p l e s m args below meth c Q A dC dI a ac (df_X12_cut_21 n (a 15) (a 3)) r := by
  obtain ⟨hlt, hx, hb, hml, hown, hts, hN, hA, hK⟩ := id C
  intro y0 s0 H locs ls h hP hD hS hl
  unfold df_X12_cut_21 at h
  exact K _ _ _ _ _ _ dX12_cut_21 rfl (Option.some.inj h).symm hP hD hS
set_option maxHeartbeats 40000000 in
set_option maxRecDepth 100000 in
theorem db_X12_cut_0 {p : Program} {l : Launch} {e : Env} {s : State} {m : MethodId} {args : Array Value} {below : List Frame} {meth : Method} {c : Code} {Q : State → Prop} {A : Nat → Prop} {dC : Nat → ClassId} {dI : Nat → Nat → Nat} {a : Nat → Nat} {ac : Nat → ClassId} {n : Nat} {r : Int32 × (St × Rw × (St) × (St × (St)) × (St) × (St × (St × (St × (St)))) × (St) × (St) × (Nat → St) × (Nat → St) × (Nat → St × (St)))} (C : nd_C p l s m args c A (dC, dI) cX12_cut 1 RX12 ow_dm_X12_cut (dk_X12 ac)) (K : nd_Ki p l e (headSpec ow_dm_X12_cut ({ frames := 3, cells := 0, slots := 0, locals := 56 })).room s m args below meth c Q A (dC, dI) cX12_cut .int (St × Rw × (St) × (St × (St)) × (St) × (St × (St × (St × (St)))) × (St) × (St) × (Nat → St) × (Nat → St) × (Nat → St × (St))) (dw_X12 a ac) r) : dj_X12_cut_0 p l e s m args below meth c Q A dC dI a ac (df_X12_cut_0 n (a 15) (a 3)) r := by
  obtain ⟨hlt, hx, hb, hml, hown, hts, hN, hA, hK⟩ := id C
  intro s0 H locs ls h hP hD hS hl
  unfold df_X12_cut_0 at h
  refine lv_aload_n hx hb dX12_cut_0 rfl (lv_at hl 0 rfl) ?_
  refine va_get (D := (dC, dI)) (ci := 13) (v := .ref (a 16)) (C := RX12) (T := TX12) (N := 12) hx hb hts hi_dm_X12_cut_X12 hown hK hP 0 rfl rfl 6 (by decide) (hts (.fieldLink RX12 33 "TimeMachine" "timeline" "LTimeMachine$Timeline;") (List.mem_of_getElem? (i := 1) rfl)) (fun _ h9 => h9) rfl dX12_cut_1 ?_
  refine va_get (D := (dC, dI)) (ci := 12) (v := .int (sI s0.2.2.2.2.1 0)) (C := RX11) (T := TX11) (N := 16) hx hb hts hi_dm_X12_cut_X11 hown hK hP 16 rfl rfl 6 (by decide) (hts (.fieldLink RX12 142 "TimeMachine$Timeline" "booted" "Z") (List.mem_of_getElem? (i := 2) rfl)) (fun _ h9 => h9) rfl dX12_cut_4 ?_
  refine lv_if_eq (tgt := 20) hx hb dX12_cut_7 (by decide) (fun c1 => ?_) (fun c1 => ?_)
  · have h := nd_pos h c1
    refine lv_iconst (v := 0) hx hb dX12_cut_20 (by decide) ?_
    exact (db_X12_cut_21 C K) (0) s0 _ _ _ h hP hD hS (lv_sub hl [] rfl)
  · have h := nd_neg h c1
    refine lv_aload_n hx hb dX12_cut_10 rfl (lv_at hl 0 rfl) ?_
    refine va_get (D := (dC, dI)) (ci := 13) (v := .ref (a 16)) (C := RX12) (T := TX12) (N := 12) hx hb hts hi_dm_X12_cut_X12 hown hK hP 0 rfl rfl 6 (by decide) (hts (.fieldLink RX12 33 "TimeMachine" "timeline" "LTimeMachine$Timeline;") (List.mem_of_getElem? (i := 1) rfl)) (fun _ h9 => h9) rfl dX12_cut_11 ?_
    obtain ⟨q2, s3, hq, h⟩ := nd_b2_e h
    have hPc := dp_wX12_X11_11 hP
    have hDc := dd_wX12_X11_11 hD
    have hKc := dy_wX12_X11_11 hK
    have hFc := nd_rs hDc hS hA
    have hzA : ∀ q : Nat, H.size ≤ q → A q := fun q h => hA q (Nat.le_trans hS.1 h)
    refine nd_cVi (As := []) (rest := []) (q := q2) (w' := dw_X11 (fun k => a (k + 16)) (fun k => ac (k + 16)) s3) ⟨hx, hb, hml, hown, hts⟩ (fun sz => dm_X11_forgetBehind l hlt dC dI (fun k => a (k + 16)) (fun k => ac (k + 16)) n  (s0.2.2.2.2.1, s0.2.1, s0.2.2.2.2.2.1, s0.2.2.2.2.2.2.1, s0.2.2.2.2.2.2.2.1, s0.2.2.2.2.2.2.2.2.1, s0.2.2.2.2.2.2.2.2.2.1, s0.2.2.2.2.2.2.2.2.2.2) hq sz) (cwV 0 hts gi_dm_X12_cut_0 rfl rfl rfl (by decide +kernel) ⟨Nat.le_of_ble_eq_true rfl, Nat.le_of_ble_eq_true rfl⟩) hPc hDc hKc hS hA hN (va_recv hKc hPc (ci := 12) (q0 := 0) rfl rfl) rfl hl.1 rfl (Nat.le_of_ble_eq_true rfl) dX12_cut_14 (fun H locs hP1 hD1 hk1 hS => ?_)
    obtain ⟨hP, hD⟩ := dn_wX12_X11_11 hP hD hzA hk1 hP1 hD1
    obtain ⟨s5, es5, h⟩ := nd_let_e h
    have hP : va_P (dC, dI) vwCl (dw_X12 a ac s5) H := by rw [es5]; exact hP
    have hD : va_D A (dw_X12 a ac s5) := by rw [es5]; exact hD
    refine lv_goto (tgt := 21) hx hb dX12_cut_17 (by decide) ?_
    exact (db_X12_cut_21 C K) (q2) s5 _ _ _ h hP hD hS (lv_sub hl [] rfl)
set_option maxHeartbeats 40000000 in
set_option maxRecDepth 100000 in
theorem dm_X12_cut (l : Launch) (hlt : l.stackTraces = false) (dC : Nat → ClassId) (dI : Nat → Nat → Nat) (a : Nat → Nat) (ac : Nat → ClassId) (n : Nat) (s0 : St × Rw × (St) × (St × (St)) × (St) × (St × (St × (St × (St)))) × (St) × (St) × (Nat → St) × (Nat → St) × (Nat → St × (St))) {r : Int32 × (St × Rw × (St) × (St × (St)) × (St) × (St × (St × (St × (St)))) × (St) × (St) × (Nat → St) × (Nat → St) × (Nat → St × (St)))} (h : df_X12_cut n (a 15) (a 3) s0 = some r) (sz : Nat) : Met l yX12_cut ow_dm_X12_cut ({ frames := 3, cells := 0, slots := 0, locals := 56 }) (va_Pc [.ref (a 0)] (fun U => U.heap.size = sz ∧ va_P (dC, dI) vwCl (dw_X12 a ac s0) U.heap ∧ va_K (dC, dI) vwCl (dk_X12 ac) U ∧ va_D (fun _ => True) (dw_X12 a ac s0) ∧ nv_E (va_A (dw_X12 a ac s0) sz) U)) (va_Qi (fun x _ => x = r.1) (fun (_ : Unit) t => va_P (dC, dI) vwCl (dw_X12 a ac r.2) t.heap ∧ va_K (dC, dI) vwCl (dk_X12 ac) t ∧ va_D (va_A (dw_X12 a ac s0) sz) (dw_X12 a ac r.2)) (va_A (dw_X12 a ac s0) sz)) 0 0 (va_A (dw_X12 a ac s0) sz) := by
  refine Met.ofW (cc := cX12_cut) (maxL := 1) (ret := (some .int)) (by decide) rfl ?_
  intro p e s m args below meth c s₁ B hml hv
  obtain ⟨rfl, hsz, hP, hK, hD0, hN⟩ := hv
  have hx := B.exec
  have hb := B.bytes
  have hr := B.returns
  have hts := atoms_spec (ws := ow_dm_X12_cut) B.pre
  have hown : s.vm.findClass RX12 = some m.cls := findClass_of_methodNamed B.named
  have hlocks := B.notSynchronized
  subst hsz
  have hD := hD0.self (sz := s.heap.size)
  generalize hAe : va_A (dw_X12 a ac s0) s.heap.size = A at hD hN ⊢
  have hA : ∀ q : Nat, s.heap.size ≤ q → A q := fun q h => by rw [← hAe]; exact Or.inr h
  have hl := lv_entry ([.ref (a 0)]) (n := 1) (Nat.le_of_ble_eq_true rfl)
  rw [lg_entry_eq]
  generalize (lg_sl ([.ref (a 0)]) ++ List.replicate (1 - (lg_sl ([.ref (a 0)])).length) Slot.unset).toArray = ls at hl ⊢
  have hl : lv_has ls 1 [(0, .ref (a 0))] := hl
  exact db_X12_cut_0 (dC := dC) (dI := dI) (a := a) (ac := ac) (n := n) (r := r) ⟨hlt, hx, hb, hml, hown, hts, hN, hA, hK⟩ (fun pc v τ H locs ls d z er hP hD hS => by subst er; exact W.zret (v := v) hx hb hr z (fun t ht hW => ⟨⟨v, (), rfl, rfl, by rw [ht]; exact hP, va_K.moved hW.alike hK, hD⟩, hS.F ht⟩) hS.2.2 d) s0 _ _ _ h hP hD va_S.rf (lv_sub hl [0] rfl)
def ow_dm_X12_isBreak : List Cond := .code yX12_isBreak cX12_isBreak 3 (some .boolean) :: ([.fieldLink RX12 39 "TimeMachine" "breaks" "[LTimeMachine$Condition;"] ++ (u_ws RX12 TX12 12 ++ []))
theorem gd_dm_X12_isBreak : ∀ w ∈ ow_dm_X12_isBreak, (w.onTables && w.keeps) = true ∨ ∃ ty, w = Cond.arrayClass ty := List.forall_mem_cons.mpr ⟨good_of_word rfl, List.forall_mem_append.mpr ⟨fun w h => good_of_word (List.all_eq_true.mp (by decide +kernel) w h), List.forall_mem_append.mpr ⟨gu_X12, fun _ h => nomatch h⟩⟩⟩
theorem hi_dm_X12_isBreak_X12 : ∀ w ∈ u_ws RX12 TX12 12, w ∈ ow_dm_X12_isBreak := fun w h => List.mem_cons_of_mem _ (List.mem_append_right _ (List.mem_append_left _ h))
def dj_X12_isBreak_2 (p : Program) (l : Launch) (e : Env) (s : State) (m : MethodId) (args : Array Value) (below : List Frame) (meth : Method) (c : Code) (Q : State → Prop) (A : Nat → Prop) (dC : Nat → ClassId) (dI : Nat → Nat → Nat) (a : Nat → Nat) (ac : Nat → ClassId) (g : Nat → Int32 → (St × Rw × (St) × (St × (St)) × (St) × (St × (St × (St × (St)))) × (St) × (St) × (Nat → St) × (Nat → St) × (Nat → St × (St))) → Option (Int32 × (St × Rw × (St) × (St × (St)) × (St) × (St × (St × (St × (St)))) × (St) × (St) × (Nat → St) × (Nat → St) × (Nat → St × (St))))) (r : Int32 × (St × Rw × (St) × (St × (St)) × (St) × (St × (St × (St × (St)))) × (St) × (St) × (Nat → St) × (Nat → St) × (Nat → St × (St)))) : Prop := ∀ (x1 : Nat) (x2 : Int32) (s0 : St × Rw × (St) × (St × (St)) × (St) × (St × (St × (St × (St)))) × (St) × (St) × (Nat → St) × (Nat → St) × (Nat → St × (St))) (H : Heap) (locs : List Loc) (ls : Array Slot), g x1 x2 s0 = some r → va_P (dC, dI) vwCl (dw_X12 a ac s0) H → va_D A (dw_X12 a ac s0) → va_S A s.heap H locs → lv_has ls 3 [(0, .ref (a 0)), (1, .ref (a (0 + x1 * 9 + 102))), (2, .int x2)] → W p l e (headSpec ow_dm_X12_isBreak ({ frames := 0, cells := 0, slots := 0, locals := 0 })).room s m args below meth c H locs 0 0 Q (F0 m 2 ls [])
def dj_X12_isBreak_0 (p : Program) (l : Launch) (e : Env) (s : State) (m : MethodId) (args : Array Value) (below : List Frame) (meth : Method) (c : Code) (Q : State → Prop) (A : Nat → Prop) (dC : Nat → ClassId) (dI : Nat → Nat → Nat) (a : Nat → Nat) (ac : Nat → ClassId) (g : Nat → (St × Rw × (St) × (St × (St)) × (St) × (St × (St × (St × (St)))) × (St) × (St) × (Nat → St) × (Nat → St) × (Nat → St × (St))) → Option (Int32 × (St × Rw × (St) × (St × (St)) × (St) × (St × (St × (St × (St)))) × (St) × (St) × (Nat → St) × (Nat → St) × (Nat → St × (St))))) (r : Int32 × (St × Rw × (St) × (St × (St)) × (St) × (St × (St × (St × (St)))) × (St) × (St) × (Nat → St) × (Nat → St) × (Nat → St × (St)))) : Prop := ∀ (v0 : Nat) (s0 : St × Rw × (St) × (St × (St)) × (St) × (St × (St × (St × (St)))) × (St) × (St) × (Nat → St) × (Nat → St) × (Nat → St × (St))) (H : Heap) (locs : List Loc) (ls : Array Slot), g v0 s0 = some r → va_P (dC, dI) vwCl (dw_X12 a ac s0) H → va_D A (dw_X12 a ac s0) → va_S A s.heap H locs → lv_has ls 3 [(0, .ref (a 0)), (1, .ref (a (0 + v0 * 9 + 102)))] → W p l e (headSpec ow_dm_X12_isBreak ({ frames := 0, cells := 0, slots := 0, locals := 0 })).room s m args below meth c H locs 0 0 Q (F0 m 0 ls [])
set_option maxHeartbeats 40000000 in
set_option maxRecDepth 100000 in
theorem dB_X12_isBreak_2 {p : Program} {l : Launch} {e : Env} {s : State} {m : MethodId} {args : Array Value} {below : List Frame} {meth : Method} {c : Code} {Q : State → Prop} {A : Nat → Prop} {dC : Nat → ClassId} {dI : Nat → Nat → Nat} {a : Nat → Nat} {ac : Nat → ClassId} {n : Nat} {r : Int32 × (St × Rw × (St) × (St × (St)) × (St) × (St × (St × (St × (St)))) × (St) × (St) × (Nat → St) × (Nat → St) × (Nat → St × (St)))} (C : nd_C p l s m args c A (dC, dI) cX12_isBreak 3 RX12 ow_dm_X12_isBreak (dk_X12 ac)) (K : nd_Ki p l e (headSpec ow_dm_X12_isBreak ({ frames := 0, cells := 0, slots := 0, locals := 0 })).room s m args below meth c Q A (dC, dI) cX12_isBreak .boolean (St × Rw × (St) × (St × (St)) × (St) × (St × (St × (St × (St)))) × (St) × (St) × (Nat → St) × (Nat → St) × (Nat → St × (St))) (dw_X12 a ac) r) {g2 : Nat → Int32 → (St × Rw × (St) × (St × (St)) × (St) × (St × (St × (St × (St)))) × (St) × (St) × (Nat → St) × (Nat → St) × (Nat → St × (St))) → Option (Int32 × (St × Rw × (St) × (St × (St)) × (St) × (St × (St × (St × (St)))) × (St) × (St) × (Nat → St) × (Nat → St) × (Nat → St × (St))))} (J2 : dj_X12_isBreak_2 p l e s m args below meth c Q A dC dI a ac g2 r) : dj_X12_isBreak_2 p l e s m args below meth c Q A dC dI a ac (dF_X12_isBreak_2 n (a 15) (a 3) g2) r := by
  obtain ⟨hlt, hx, hb, hml, hown, hts, hN, hA, hK⟩ := id C
  intro x1 x2 s0 H locs ls h hP hD hS hl
  unfold dF_X12_isBreak_2 at h
  refine lv_iload_n hx hb dX12_isBreak_2 rfl (lv_at hl 2 rfl) ?_
  refine lv_bipush (v := 8) hx hb dX12_isBreak_3 (by decide) ?_
  refine lv_icmp_ge (tgt := 26) hx hb dX12_isBreak_5 (by decide) (fun c1 => ?_) (fun c1 => ?_)
  · have h := nd_pos h c1
    refine lv_iconst (v := 0) hx hb dX12_isBreak_26 (by decide) ?_
    exact K _ _ _ _ _ _ dX12_isBreak_27 (by first | rfl | decide) (Option.some.inj h).symm hP hD hS
  · have h := nd_neg h c1
    refine lv_aload_n hx hb dX12_isBreak_8 rfl (lv_at hl 0 rfl) ?_
    refine va_get (D := (dC, dI)) (ci := 13) (v := .ref (a 55)) (C := RX12) (T := TX12) (N := 12) hx hb hts hi_dm_X12_isBreak_X12 hown hK hP 0 rfl rfl 7 (by decide) (hts (.fieldLink RX12 39 "TimeMachine" "breaks" "[LTimeMachine$Condition;") (List.mem_of_getElem? (i := 1) rfl)) (fun _ h9 => h9) rfl dX12_isBreak_9 ?_
    refine lv_iload_n hx hb dX12_isBreak_12 rfl (lv_at hl 2 rfl) ?_
    obtain ⟨i2, h⟩ := nd_ck_e h
    refine va_aldq (i := x2) hx hb hK hP 55 45 rfl rfl i2 dX12_isBreak_13 ?_
    cases hrj3 : s0.2.1 2 (Int32.toNatClampNeg x2) with
    | none =>
      have h := nd_mN h hrj3
      refine W.eq (g2 := F0 m 14 ls [.null]) (by first | rfl | (show F0 m _ ls (va_rf (Option.map (fun j => a (0 + j * 9 + 102)) (s0.2.1 2 (Int32.toNatClampNeg x2))) :: _) = _; rw [hrj3]; rfl)) ?_
      refine lv_aload_n hx hb dX12_isBreak_14 rfl (lv_at hl 1 rfl) ?_
      refine W.eq (g2 := F0 m 15 ls [va_rf (some (a (0 + x1 * 9 + 102))), va_rf (none)]) rfl ?_
      refine lv_acmp_ne (tgt := 20) hx hb dX12_isBreak_15 (by decide) (fun _ => ?_) (fun h9 => absurd h9 (by simp))
      obtain ⟨z4, ez4, h⟩ := nd_let_e h
      refine lv_iinc (v := z4) (lv' := [(2, .int z4), (0, .ref (a 0)), (1, .ref (a (0 + x1 * 9 + 102)))]) hx hb dX12_isBreak_20 hl (k := 2) rfl (by rw [ez4]) (by decide) rfl (fun ls hl => ?_)
      refine lv_goto (tgt := 2) hx hb dX12_isBreak_23 (by decide) ?_
      exact (J2) (x1) (z4) s0 _ _ _ h hP hD hS (lv_sub hl [1, 2, 0] rfl)
    | some j3 =>
      have h := nd_mS h hrj3
      refine W.eq (g2 := F0 m 14 ls [.ref (a (0 + j3 * 9 + 102))]) (by first | rfl | (show F0 m _ ls (va_rf (Option.map (fun j => a (0 + j * 9 + 102)) (s0.2.1 2 (Int32.toNatClampNeg x2))) :: _) = _; rw [hrj3]; rfl)) ?_
      refine lv_aload_n hx hb dX12_isBreak_14 rfl (lv_at hl 1 rfl) ?_
      refine W.eq (g2 := F0 m 15 ls [va_rf (some (a (0 + x1 * 9 + 102))), va_rf (some (a (0 + j3 * 9 + 102)))]) rfl ?_
      obtain ⟨l5, h⟩ := nd_lt_e h
      obtain ⟨l6, h⟩ := nd_lt_e h
      refine lv_acmp_ne (tgt := 20) hx hb dX12_isBreak_15 (by decide) (fun c7 => ?_) (fun c7 => ?_)
      · have c7 : ¬ j3 = x1 := fun e9 => c7 (by rw [e9])
        have h := nd_neg h c7
        obtain ⟨z8, ez8, h⟩ := nd_let_e h
        refine lv_iinc (v := z8) (lv' := [(2, .int z8), (0, .ref (a 0)), (1, .ref (a (0 + x1 * 9 + 102)))]) hx hb dX12_isBreak_20 hl (k := 2) rfl (by rw [ez8]) (by decide) rfl (fun ls hl => ?_)
        refine lv_goto (tgt := 2) hx hb dX12_isBreak_23 (by decide) ?_
        exact (J2) (x1) (z8) s0 _ _ _ h hP hD hS (lv_sub hl [1, 2, 0] rfl)
      · have c7 : j3 = x1 := di_X12_K2 l5 l6 hD (Option.some.inj c7)
        have h := nd_pos h c7
        refine lv_iconst (v := 1) hx hb dX12_isBreak_18 (by decide) ?_
        exact K _ _ _ _ _ _ dX12_isBreak_19 (by first | rfl | decide) (Option.some.inj h).symm hP hD hS
set_option maxHeartbeats 40000000 in
set_option maxRecDepth 100000 in
theorem db_X12_isBreak_2 {p : Program} {l : Launch} {e : Env} {s : State} {m : MethodId} {args : Array Value} {below : List Frame} {meth : Method} {c : Code} {Q : State → Prop} {A : Nat → Prop} {dC : Nat → ClassId} {dI : Nat → Nat → Nat} {a : Nat → Nat} {ac : Nat → ClassId} {n : Nat} {r : Int32 × (St × Rw × (St) × (St × (St)) × (St) × (St × (St × (St × (St)))) × (St) × (St) × (Nat → St) × (Nat → St) × (Nat → St × (St)))} (C : nd_C p l s m args c A (dC, dI) cX12_isBreak 3 RX12 ow_dm_X12_isBreak (dk_X12 ac)) (K : nd_Ki p l e (headSpec ow_dm_X12_isBreak ({ frames := 0, cells := 0, slots := 0, locals := 0 })).room s m args below meth c Q A (dC, dI) cX12_isBreak .boolean (St × Rw × (St) × (St × (St)) × (St) × (St × (St × (St × (St)))) × (St) × (St) × (Nat → St) × (Nat → St) × (Nat → St × (St))) (dw_X12 a ac) r) (k : Nat) : dj_X12_isBreak_2 p l e s m args below meth c Q A dC dI a ac (df_X12_isBreak_2 n (a 15) (a 3) k) r := by
  induction k with
  | zero => intro x1 x2 s0 H locs ls h; exact nomatch (show (none : Option (Int32 × (St × Rw × (St) × (St × (St)) × (St) × (St × (St × (St × (St)))) × (St) × (St) × (Nat → St) × (Nat → St) × (Nat → St × (St))))) = some r from h)
  | succ k ih => exact dB_X12_isBreak_2 C K ih
set_option maxHeartbeats 40000000 in
set_option maxRecDepth 100000 in
theorem db_X12_isBreak_0 {p : Program} {l : Launch} {e : Env} {s : State} {m : MethodId} {args : Array Value} {below : List Frame} {meth : Method} {c : Code} {Q : State → Prop} {A : Nat → Prop} {dC : Nat → ClassId} {dI : Nat → Nat → Nat} {a : Nat → Nat} {ac : Nat → ClassId} {n : Nat} {r : Int32 × (St × Rw × (St) × (St × (St)) × (St) × (St × (St × (St × (St)))) × (St) × (St) × (Nat → St) × (Nat → St) × (Nat → St × (St)))} (C : nd_C p l s m args c A (dC, dI) cX12_isBreak 3 RX12 ow_dm_X12_isBreak (dk_X12 ac)) (K : nd_Ki p l e (headSpec ow_dm_X12_isBreak ({ frames := 0, cells := 0, slots := 0, locals := 0 })).room s m args below meth c Q A (dC, dI) cX12_isBreak .boolean (St × Rw × (St) × (St × (St)) × (St) × (St × (St × (St × (St)))) × (St) × (St) × (Nat → St) × (Nat → St) × (Nat → St × (St))) (dw_X12 a ac) r) : dj_X12_isBreak_0 p l e s m args below meth c Q A dC dI a ac (df_X12_isBreak_0 n (a 15) (a 3)) r := by
  obtain ⟨hlt, hx, hb, hml, hown, hts, hN, hA, hK⟩ := id C
  intro v0 s0 H locs ls h hP hD hS hl
  unfold df_X12_isBreak_0 at h
  refine lv_iconst (v := 0) hx hb dX12_isBreak_0 (by decide) ?_
  refine lv_istore_n (lv' := [(2, .int 0), (0, .ref (a 0)), (1, .ref (a (0 + v0 * 9 + 102)))]) hx hb dX12_isBreak_1 rfl hl (by decide) rfl (fun ls hl => ?_)
  exact (db_X12_isBreak_2 C K n) (v0) (0) s0 _ _ _ h hP hD hS (lv_sub hl [1, 2, 0] rfl)
set_option maxHeartbeats 40000000 in
set_option maxRecDepth 100000 in
theorem dm_X12_isBreak (l : Launch) (hlt : l.stackTraces = false) (dC : Nat → ClassId) (dI : Nat → Nat → Nat) (a : Nat → Nat) (ac : Nat → ClassId) (n : Nat) (v0 : Nat) (s0 : St × Rw × (St) × (St × (St)) × (St) × (St × (St × (St × (St)))) × (St) × (St) × (Nat → St) × (Nat → St) × (Nat → St × (St))) {r : Int32 × (St × Rw × (St) × (St × (St)) × (St) × (St × (St × (St × (St)))) × (St) × (St) × (Nat → St) × (Nat → St) × (Nat → St × (St)))} (h : df_X12_isBreak n (a 15) (a 3) v0 s0 = some r) (sz : Nat) : Met l yX12_isBreak ow_dm_X12_isBreak ({ frames := 0, cells := 0, slots := 0, locals := 0 }) (va_Pc [.ref (a 0), .ref (a (0 + v0 * 9 + 102))] (fun U => U.heap.size = sz ∧ va_P (dC, dI) vwCl (dw_X12 a ac s0) U.heap ∧ va_K (dC, dI) vwCl (dk_X12 ac) U ∧ va_D (fun _ => True) (dw_X12 a ac s0) ∧ nv_E (va_A (dw_X12 a ac s0) sz) U)) (va_Qi (fun x _ => x = r.1) (fun (_ : Unit) t => va_P (dC, dI) vwCl (dw_X12 a ac r.2) t.heap ∧ va_K (dC, dI) vwCl (dk_X12 ac) t ∧ va_D (va_A (dw_X12 a ac s0) sz) (dw_X12 a ac r.2)) (va_A (dw_X12 a ac s0) sz)) 0 0 (va_A (dw_X12 a ac s0) sz) := by
  refine Met.ofW (cc := cX12_isBreak) (maxL := 3) (ret := (some .boolean)) (by decide) rfl ?_
  intro p e s m args below meth c s₁ B hml hv
  obtain ⟨rfl, hsz, hP, hK, hD0, hN⟩ := hv
  have hx := B.exec
  have hb := B.bytes
  have hr := B.returns
  have hts := atoms_spec (ws := ow_dm_X12_isBreak) B.pre
  have hown : s.vm.findClass RX12 = some m.cls := findClass_of_methodNamed B.named
  have hlocks := B.notSynchronized
  subst hsz
  have hD := hD0.self (sz := s.heap.size)
  generalize hAe : va_A (dw_X12 a ac s0) s.heap.size = A at hD hN ⊢
  have hA : ∀ q : Nat, s.heap.size ≤ q → A q := fun q h => by rw [← hAe]; exact Or.inr h
  have hl := lv_entry ([.ref (a 0), .ref (a (0 + v0 * 9 + 102))]) (n := 3) (Nat.le_of_ble_eq_true rfl)
  rw [lg_entry_eq]
  generalize (lg_sl ([.ref (a 0), .ref (a (0 + v0 * 9 + 102))]) ++ List.replicate (3 - (lg_sl ([.ref (a 0), .ref (a (0 + v0 * 9 + 102))])).length) Slot.unset).toArray = ls at hl ⊢
  have hl : lv_has ls 3 [(0, .ref (a 0)), (1, .ref (a (0 + v0 * 9 + 102)))] := hl
  exact db_X12_isBreak_0 (dC := dC) (dI := dI) (a := a) (ac := ac) (n := n) (r := r) ⟨hlt, hx, hb, hml, hown, hts, hN, hA, hK⟩ (fun pc v τ H locs ls d z er hP hD hS => by subst er; exact W.zret (v := v) hx hb hr z (fun t ht hW => ⟨⟨v, (), rfl, rfl, by rw [ht]; exact hP, va_K.moved hW.alike hK, hD⟩, hS.F ht⟩) hS.2.2 d) v0 s0 _ _ _ h hP hD va_S.rf (lv_sub hl [0, 1] rfl)
def ow_dm_X12_unusedCondition : List Cond := .code yX12_unusedCondition cX12_unusedCondition 2 (some (.object "TimeMachine$Condition")) :: ([.fieldLink RX12 43 "TimeMachine" "conditionPool" "[LTimeMachine$Condition;", .methodLink RX12 298 yX12_isBreak, .instanceMethod yX12_isBreak, .selects RX12 yX12_isBreak yX12_isBreak, .initialized RX12] ++ (u_ws RX12 TX12 12 ++ (ow_dm_X12_isBreak ++ [])))
theorem gd_dm_X12_unusedCondition : ∀ w ∈ ow_dm_X12_unusedCondition, (w.onTables && w.keeps) = true ∨ ∃ ty, w = Cond.arrayClass ty := List.forall_mem_cons.mpr ⟨good_of_word rfl, List.forall_mem_append.mpr ⟨fun w h => good_of_word (List.all_eq_true.mp (by decide +kernel) w h), List.forall_mem_append.mpr ⟨gu_X12, List.forall_mem_append.mpr ⟨gd_dm_X12_isBreak, fun _ h => nomatch h⟩⟩⟩⟩
theorem hi_dm_X12_unusedCondition_X12 : ∀ w ∈ u_ws RX12 TX12 12, w ∈ ow_dm_X12_unusedCondition := fun w h => List.mem_cons_of_mem _ (List.mem_append_right _ (List.mem_append_left _ h))
theorem gi_dm_X12_unusedCondition_0 : GoodIn ow_dm_X12_unusedCondition (wsV RX12 298 RX12 yX12_isBreak ow_dm_X12_isBreak) := goodIn_app (goodIn_of _ (by decide +kernel)) (fun w h => ⟨List.mem_cons_of_mem _ (List.mem_append_right _ (List.mem_append_right _ (List.mem_append_left _ h))), gd_dm_X12_isBreak w h⟩)
def dj_X12_unusedCondition_32 (p : Program) (l : Launch) (e : Env) (s : State) (m : MethodId) (args : Array Value) (below : List Frame) (meth : Method) (c : Code) (Q : State → Prop) (A : Nat → Prop) (dC : Nat → ClassId) (dI : Nat → Nat → Nat) (a : Nat → Nat) (ac : Nat → ClassId) (g : Int32 → (St × Rw × (St) × (St × (St)) × (St) × (St × (St × (St × (St)))) × (St) × (St) × (Nat → St) × (Nat → St) × (Nat → St × (St))) → Option (Option Nat × (St × Rw × (St) × (St × (St)) × (St) × (St × (St × (St × (St)))) × (St) × (St) × (Nat → St) × (Nat → St) × (Nat → St × (St))))) (r : Option Nat × (St × Rw × (St) × (St × (St)) × (St) × (St × (St × (St × (St)))) × (St) × (St) × (Nat → St) × (Nat → St) × (Nat → St × (St)))) : Prop := ∀ (x1 : Int32) (s0 : St × Rw × (St) × (St × (St)) × (St) × (St × (St × (St × (St)))) × (St) × (St) × (Nat → St) × (Nat → St) × (Nat → St × (St))) (H : Heap) (locs : List Loc) (ls : Array Slot), g x1 s0 = some r → va_P (dC, dI) vwCl (dw_X12 a ac s0) H → va_D A (dw_X12 a ac s0) → va_S A s.heap H locs → lv_has ls 2 [(0, .ref (a 0)), (1, .int x1)] → W p l e (headSpec ow_dm_X12_unusedCondition ({ frames := 1, cells := 0, slots := 0, locals := 22 })).room s m args below meth c H locs 0 0 Q (F0 m 32 ls [])
def dj_X12_unusedCondition_2 (p : Program) (l : Launch) (e : Env) (s : State) (m : MethodId) (args : Array Value) (below : List Frame) (meth : Method) (c : Code) (Q : State → Prop) (A : Nat → Prop) (dC : Nat → ClassId) (dI : Nat → Nat → Nat) (a : Nat → Nat) (ac : Nat → ClassId) (g : Int32 → (St × Rw × (St) × (St × (St)) × (St) × (St × (St × (St × (St)))) × (St) × (St) × (Nat → St) × (Nat → St) × (Nat → St × (St))) → Option (Option Nat × (St × Rw × (St) × (St × (St)) × (St) × (St × (St × (St × (St)))) × (St) × (St) × (Nat → St) × (Nat → St) × (Nat → St × (St))))) (r : Option Nat × (St × Rw × (St) × (St × (St)) × (St) × (St × (St × (St × (St)))) × (St) × (St) × (Nat → St) × (Nat → St) × (Nat → St × (St)))) : Prop := ∀ (x1 : Int32) (s0 : St × Rw × (St) × (St × (St)) × (St) × (St × (St × (St × (St)))) × (St) × (St) × (Nat → St) × (Nat → St) × (Nat → St × (St))) (H : Heap) (locs : List Loc) (ls : Array Slot), g x1 s0 = some r → va_P (dC, dI) vwCl (dw_X12 a ac s0) H → va_D A (dw_X12 a ac s0) → va_S A s.heap H locs → lv_has ls 2 [(0, .ref (a 0)), (1, .int x1)] → W p l e (headSpec ow_dm_X12_unusedCondition ({ frames := 1, cells := 0, slots := 0, locals := 22 })).room s m args below meth c H locs 0 0 Q (F0 m 2 ls [])
def dj_X12_unusedCondition_0 (p : Program) (l : Launch) (e : Env) (s : State) (m : MethodId) (args : Array Value) (below : List Frame) (meth : Method) (c : Code) (Q : State → Prop) (A : Nat → Prop) (dC : Nat → ClassId) (dI : Nat → Nat → Nat) (a : Nat → Nat) (ac : Nat → ClassId) (g : (St × Rw × (St) × (St × (St)) × (St) × (St × (St × (St × (St)))) × (St) × (St) × (Nat → St) × (Nat → St) × (Nat → St × (St))) → Option (Option Nat × (St × Rw × (St) × (St × (St)) × (St) × (St × (St × (St × (St)))) × (St) × (St) × (Nat → St) × (Nat → St) × (Nat → St × (St))))) (r : Option Nat × (St × Rw × (St) × (St × (St)) × (St) × (St × (St × (St × (St)))) × (St) × (St) × (Nat → St) × (Nat → St) × (Nat → St × (St)))) : Prop := ∀ (s0 : St × Rw × (St) × (St × (St)) × (St) × (St × (St × (St × (St)))) × (St) × (St) × (Nat → St) × (Nat → St) × (Nat → St × (St))) (H : Heap) (locs : List Loc) (ls : Array Slot), g s0 = some r → va_P (dC, dI) vwCl (dw_X12 a ac s0) H → va_D A (dw_X12 a ac s0) → va_S A s.heap H locs → lv_has ls 2 [(0, .ref (a 0))] → W p l e (headSpec ow_dm_X12_unusedCondition ({ frames := 1, cells := 0, slots := 0, locals := 22 })).room s m args below meth c H locs 0 0 Q (F0 m 0 ls [])
set_option maxHeartbeats 40000000 in
set_option maxRecDepth 100000 in
theorem db_X12_unusedCondition_32 {p : Program} {l : Launch} {e : Env} {s : State} {m : MethodId} {args : Array Value} {below : List Frame} {meth : Method} {c : Code} {Q : State → Prop} {A : Nat → Prop} {dC : Nat → ClassId} {dI : Nat → Nat → Nat} {a : Nat → Nat} {ac : Nat → ClassId} {n : Nat} {r : Option Nat × (St × Rw × (St) × (St × (St)) × (St) × (St × (St × (St × (St)))) × (St) × (St) × (Nat → St) × (Nat → St) × (Nat → St × (St)))} (C : nd_C p l s m args c A (dC, dI) cX12_unusedCondition 2 RX12 ow_dm_X12_unusedCondition (dk_X12 ac)) (K : nd_Kq p l e (headSpec ow_dm_X12_unusedCondition ({ frames := 1, cells := 0, slots := 0, locals := 22 })).room s m args below meth c Q A (dC, dI) cX12_unusedCondition (St × Rw × (St) × (St × (St)) × (St) × (St × (St × (St × (St)))) × (St) × (St) × (Nat → St) × (Nat → St) × (Nat → St × (St))) (dw_X12 a ac) (fun j => a (0 + j * 9 + 102)) r) : dj_X12_unusedCondition_32 p l e s m args below meth c Q A dC dI a ac (df_X12_unusedCondition_32 n (a 15) (a 3)) r := by
  obtain ⟨hlt, hx, hb, hml, hown, hts, hN, hA, hK⟩ := id C
  intro x1 s0 H locs ls h hP hD hS hl
  unfold df_X12_unusedCondition_32 at h
  refine lv_aload_n hx hb dX12_unusedCondition_32 rfl (lv_at hl 0 rfl) ?_
  refine va_get (D := (dC, dI)) (ci := 13) (v := .ref (a 2)) (C := RX12) (T := TX12) (N := 12) hx hb hts hi_dm_X12_unusedCondition_X12 hown hK hP 0 rfl rfl 8 (by decide) (hts (.fieldLink RX12 43 "TimeMachine" "conditionPool" "[LTimeMachine$Condition;") (List.mem_of_getElem? (i := 1) rfl)) (fun _ h9 => h9) rfl dX12_unusedCondition_33 ?_
  refine lv_iload_n hx hb dX12_unusedCondition_36 rfl (lv_at hl 1 rfl) ?_
  obtain ⟨i3, h⟩ := nd_ck_e h
  refine va_aldq (i := x1) hx hb hK hP 2 1 rfl rfl i3 dX12_unusedCondition_37 ?_
  cases hrj4 : s0.2.1 5 (Int32.toNatClampNeg x1) with
  | none =>
    have h := nd_mN h hrj4
    refine W.eq (g2 := F0 m 38 ls [.null]) (by first | rfl | (show F0 m _ ls (va_rf (Option.map (fun j => a (0 + j * 9 + 102)) (s0.2.1 5 (Int32.toNatClampNeg x1))) :: _) = _; rw [hrj4]; rfl)) ?_
    exact K _ none _ _ _ _ dX12_unusedCondition_38 (Option.some.inj h).symm hP hD hS
  | some j4 =>
    have h := nd_mS h hrj4
    refine W.eq (g2 := F0 m 38 ls [.ref (a (0 + j4 * 9 + 102))]) (by first | rfl | (show F0 m _ ls (va_rf (Option.map (fun j => a (0 + j * 9 + 102)) (s0.2.1 5 (Int32.toNatClampNeg x1))) :: _) = _; rw [hrj4]; rfl)) ?_
    exact K _ (some j4) _ _ _ _ dX12_unusedCondition_38 (Option.some.inj h).symm hP hD hS
set_option maxHeartbeats 40000000 in
set_option maxRecDepth 100000 in
theorem dB_X12_unusedCondition_2 {p : Program} {l : Launch} {e : Env} {s : State} {m : MethodId} {args : Array Value} {below : List Frame} {meth : Method} {c : Code} {Q : State → Prop} {A : Nat → Prop} {dC : Nat → ClassId} {dI : Nat → Nat → Nat} {a : Nat → Nat} {ac : Nat → ClassId} {n : Nat} {r : Option Nat × (St × Rw × (St) × (St × (St)) × (St) × (St × (St × (St × (St)))) × (St) × (St) × (Nat → St) × (Nat → St) × (Nat → St × (St)))} (C : nd_C p l s m args c A (dC, dI) cX12_unusedCondition 2 RX12 ow_dm_X12_unusedCondition (dk_X12 ac)) (K : nd_Kq p l e (headSpec ow_dm_X12_unusedCondition ({ frames := 1, cells := 0, slots := 0, locals := 22 })).room s m args below meth c Q A (dC, dI) cX12_unusedCondition (St × Rw × (St) × (St × (St)) × (St) × (St × (St × (St × (St)))) × (St) × (St) × (Nat → St) × (Nat → St) × (Nat → St × (St))) (dw_X12 a ac) (fun j => a (0 + j * 9 + 102)) r) {g2 : Int32 → (St × Rw × (St) × (St × (St)) × (St) × (St × (St × (St × (St)))) × (St) × (St) × (Nat → St) × (Nat → St) × (Nat → St × (St))) → Option (Option Nat × (St × Rw × (St) × (St × (St)) × (St) × (St × (St × (St × (St)))) × (St) × (St) × (Nat → St) × (Nat → St) × (Nat → St × (St))))} (J2 : dj_X12_unusedCondition_2 p l e s m args below meth c Q A dC dI a ac g2 r) : dj_X12_unusedCondition_2 p l e s m args below meth c Q A dC dI a ac (dF_X12_unusedCondition_2 n (a 15) (a 3) g2) r := by
  obtain ⟨hlt, hx, hb, hml, hown, hts, hN, hA, hK⟩ := id C
  intro x1 s0 H locs ls h hP hD hS hl
  unfold dF_X12_unusedCondition_2 at h
  refine lv_iload_n hx hb dX12_unusedCondition_2 rfl (lv_at hl 1 rfl) ?_
  refine lv_aload_n hx hb dX12_unusedCondition_3 rfl (lv_at hl 0 rfl) ?_
  refine va_get (D := (dC, dI)) (ci := 13) (v := .ref (a 2)) (C := RX12) (T := TX12) (N := 12) hx hb hts hi_dm_X12_unusedCondition_X12 hown hK hP 0 rfl rfl 8 (by decide) (hts (.fieldLink RX12 43 "TimeMachine" "conditionPool" "[LTimeMachine$Condition;") (List.mem_of_getElem? (i := 1) rfl)) (fun _ h9 => h9) rfl dX12_unusedCondition_4 ?_
  refine va_alen (v := 9) hx hb hK hP 2 1 rfl rfl (show Int32.ofNat 9 = 9 by decide) dX12_unusedCondition_7 ?_
  refine lv_iconst (v := 1) hx hb dX12_unusedCondition_8 (by decide) ?_
  refine lv_isub hx hb dX12_unusedCondition_9 ?_
  refine lv_topi (fun z1 ez1 => ?_)
  obtain rfl : z1 = 8 := ez1.trans (by decide)
  refine lv_icmp_ge (tgt := 32) hx hb dX12_unusedCondition_10 (by decide) (fun c2 => ?_) (fun c2 => ?_)
  · have h := nd_pos h c2
    exact (db_X12_unusedCondition_32 C K) (x1) s0 _ _ _ h hP hD hS (lv_sub hl [0, 1] rfl)
  · have h := nd_neg h c2
    refine lv_aload_n hx hb dX12_unusedCondition_13 rfl (lv_at hl 0 rfl) ?_
    refine lv_aload_n hx hb dX12_unusedCondition_14 rfl (lv_at hl 0 rfl) ?_
    refine va_get (D := (dC, dI)) (ci := 13) (v := .ref (a 2)) (C := RX12) (T := TX12) (N := 12) hx hb hts hi_dm_X12_unusedCondition_X12 hown hK hP 0 rfl rfl 8 (by decide) (hts (.fieldLink RX12 43 "TimeMachine" "conditionPool" "[LTimeMachine$Condition;") (List.mem_of_getElem? (i := 1) rfl)) (fun _ h9 => h9) rfl dX12_unusedCondition_15 ?_
    refine lv_iload_n hx hb dX12_unusedCondition_18 rfl (lv_at hl 1 rfl) ?_
    obtain ⟨i5, h⟩ := nd_ck_e h
    refine va_aldq (i := x1) hx hb hK hP 2 1 rfl rfl i5 dX12_unusedCondition_19 ?_
    cases hrj6 : s0.2.1 5 (Int32.toNatClampNeg x1) with
    | none =>
      have h := nd_mN h hrj6
      refine W.eq (g2 := F0 m 20 ls [.null, .ref (a 0)]) (by first | rfl | (show F0 m _ ls (va_rf (Option.map (fun j => a (0 + j * 9 + 102)) (s0.2.1 5 (Int32.toNatClampNeg x1))) :: _) = _; rw [hrj6]; rfl)) ?_
      exact nomatch h
    | some j6 =>
      have h := nd_mS h hrj6
      refine W.eq (g2 := F0 m 20 ls [.ref (a (0 + j6 * 9 + 102)), .ref (a 0)]) (by first | rfl | (show F0 m _ ls (va_rf (Option.map (fun j => a (0 + j * 9 + 102)) (s0.2.1 5 (Int32.toNatClampNeg x1))) :: _) = _; rw [hrj6]; rfl)) ?_
      obtain ⟨q7, s8, hq, h⟩ := nd_b2_e h
      have hPc := hP
      have hDc := hD
      have hKc := hK
      have hFc := nd_rs hD hS hA
      refine nd_cVi (As := [.ref (a (0 + j6 * 9 + 102))]) (rest := []) (q := q7) (w' := dw_X12 a ac s8) ⟨hx, hb, hml, hown, hts⟩ (fun sz => dm_X12_isBreak l hlt dC dI a ac n (j6) s0 hq sz) (cwV 1 hts gi_dm_X12_unusedCondition_0 rfl rfl rfl (by decide +kernel) ⟨Nat.le_of_ble_eq_true rfl, Nat.le_of_ble_eq_true rfl⟩) hPc hDc hKc hS hA hN (va_recv hKc hPc (ci := 13) (q0 := 0) rfl rfl) rfl hl.1 rfl (Nat.le_of_ble_eq_true rfl) dX12_unusedCondition_20 (fun H locs hP1 hD1 hk1 hS => ?_)
      have hP := hP1
      have hD := hD1.weaken (fun k q _ h => hFc q.1 h)
      refine lv_if_eq (tgt := 32) hx hb dX12_unusedCondition_23 (by decide) (fun c10 => ?_) (fun c10 => ?_)
      · have h := nd_pos h c10
        exact (db_X12_unusedCondition_32 C K) (x1) s8 _ _ _ h hP hD hS (lv_sub hl [0, 1] rfl)
      · have h := nd_neg h c10
        obtain ⟨z11, ez11, h⟩ := nd_let_e h
        refine lv_iinc (v := z11) (lv' := [(1, .int z11), (0, .ref (a 0))]) hx hb dX12_unusedCondition_26 hl (k := 1) rfl (by rw [ez11]) (by decide) rfl (fun ls hl => ?_)
        refine lv_goto (tgt := 2) hx hb dX12_unusedCondition_29 (by decide) ?_
        exact (J2) (z11) s8 _ _ _ h hP hD hS (lv_sub hl [1, 0] rfl)
set_option maxHeartbeats 40000000 in
set_option maxRecDepth 100000 in
theorem db_X12_unusedCondition_2 {p : Program} {l : Launch} {e : Env} {s : State} {m : MethodId} {args : Array Value} {below : List Frame} {meth : Method} {c : Code} {Q : State → Prop} {A : Nat → Prop} {dC : Nat → ClassId} {dI : Nat → Nat → Nat} {a : Nat → Nat} {ac : Nat → ClassId} {n : Nat} {r : Option Nat × (St × Rw × (St) × (St × (St)) × (St) × (St × (St × (St × (St)))) × (St) × (St) × (Nat → St) × (Nat → St) × (Nat → St × (St)))} (C : nd_C p l s m args c A (dC, dI) cX12_unusedCondition 2 RX12 ow_dm_X12_unusedCondition (dk_X12 ac)) (K : nd_Kq p l e (headSpec ow_dm_X12_unusedCondition ({ frames := 1, cells := 0, slots := 0, locals := 22 })).room s m args below meth c Q A (dC, dI) cX12_unusedCondition (St × Rw × (St) × (St × (St)) × (St) × (St × (St × (St × (St)))) × (St) × (St) × (Nat → St) × (Nat → St) × (Nat → St × (St))) (dw_X12 a ac) (fun j => a (0 + j * 9 + 102)) r) (k : Nat) : dj_X12_unusedCondition_2 p l e s m args below meth c Q A dC dI a ac (df_X12_unusedCondition_2 n (a 15) (a 3) k) r := by
  induction k with
  | zero => intro x1 s0 H locs ls h; exact nomatch (show (none : Option (Option Nat × (St × Rw × (St) × (St × (St)) × (St) × (St × (St × (St × (St)))) × (St) × (St) × (Nat → St) × (Nat → St) × (Nat → St × (St))))) = some r from h)
  | succ k ih => exact dB_X12_unusedCondition_2 C K ih
set_option maxHeartbeats 40000000 in
set_option maxRecDepth 100000 in
theorem db_X12_unusedCondition_0 {p : Program} {l : Launch} {e : Env} {s : State} {m : MethodId} {args : Array Value} {below : List Frame} {meth : Method} {c : Code} {Q : State → Prop} {A : Nat → Prop} {dC : Nat → ClassId} {dI : Nat → Nat → Nat} {a : Nat → Nat} {ac : Nat → ClassId} {n : Nat} {r : Option Nat × (St × Rw × (St) × (St × (St)) × (St) × (St × (St × (St × (St)))) × (St) × (St) × (Nat → St) × (Nat → St) × (Nat → St × (St)))} (C : nd_C p l s m args c A (dC, dI) cX12_unusedCondition 2 RX12 ow_dm_X12_unusedCondition (dk_X12 ac)) (K : nd_Kq p l e (headSpec ow_dm_X12_unusedCondition ({ frames := 1, cells := 0, slots := 0, locals := 22 })).room s m args below meth c Q A (dC, dI) cX12_unusedCondition (St × Rw × (St) × (St × (St)) × (St) × (St × (St × (St × (St)))) × (St) × (St) × (Nat → St) × (Nat → St) × (Nat → St × (St))) (dw_X12 a ac) (fun j => a (0 + j * 9 + 102)) r) : dj_X12_unusedCondition_0 p l e s m args below meth c Q A dC dI a ac (df_X12_unusedCondition_0 n (a 15) (a 3)) r := by
  obtain ⟨hlt, hx, hb, hml, hown, hts, hN, hA, hK⟩ := id C
  intro s0 H locs ls h hP hD hS hl
  unfold df_X12_unusedCondition_0 at h
  refine lv_iconst (v := 0) hx hb dX12_unusedCondition_0 (by decide) ?_
  refine lv_istore_n (lv' := [(1, .int 0), (0, .ref (a 0))]) hx hb dX12_unusedCondition_1 rfl hl (by decide) rfl (fun ls hl => ?_)
  exact (db_X12_unusedCondition_2 C K n) (0) s0 _ _ _ h hP hD hS (lv_sub hl [1, 0] rfl)
set_option maxHeartbeats 40000000 in
set_option maxRecDepth 100000 in
theorem dm_X12_unusedCondition (l : Launch) (hlt : l.stackTraces = false) (dC : Nat → ClassId) (dI : Nat → Nat → Nat) (a : Nat → Nat) (ac : Nat → ClassId) (n : Nat) (s0 : St × Rw × (St) × (St × (St)) × (St) × (St × (St × (St × (St)))) × (St) × (St) × (Nat → St) × (Nat → St) × (Nat → St × (St))) {r : Option Nat × (St × Rw × (St) × (St × (St)) × (St) × (St × (St × (St × (St)))) × (St) × (St) × (Nat → St) × (Nat → St) × (Nat → St × (St)))} (h : df_X12_unusedCondition n (a 15) (a 3) s0 = some r) (sz : Nat) : Met l yX12_unusedCondition ow_dm_X12_unusedCondition ({ frames := 1, cells := 0, slots := 0, locals := 22 }) (va_Pc [.ref (a 0)] (fun U => U.heap.size = sz ∧ va_P (dC, dI) vwCl (dw_X12 a ac s0) U.heap ∧ va_K (dC, dI) vwCl (dk_X12 ac) U ∧ va_D (fun _ => True) (dw_X12 a ac s0) ∧ nv_E (va_A (dw_X12 a ac s0) sz) U)) (va_Qq (fun x _ => x = Option.map (fun j => a (0 + j * 9 + 102)) r.1) (fun (_ : Unit) t => va_P (dC, dI) vwCl (dw_X12 a ac r.2) t.heap ∧ va_K (dC, dI) vwCl (dk_X12 ac) t ∧ va_D (va_A (dw_X12 a ac s0) sz) (dw_X12 a ac r.2)) (va_A (dw_X12 a ac s0) sz)) 0 0 (va_A (dw_X12 a ac s0) sz) := by
  refine Met.ofW (cc := cX12_unusedCondition) (maxL := 2) (ret := (some (.object "TimeMachine$Condition"))) (by decide) rfl ?_
  intro p e s m args below meth c s₁ B hml hv
  obtain ⟨rfl, hsz, hP, hK, hD0, hN⟩ := hv
  have hx := B.exec
  have hb := B.bytes
  have hr := B.returns
  have hts := atoms_spec (ws := ow_dm_X12_unusedCondition) B.pre
  have hown : s.vm.findClass RX12 = some m.cls := findClass_of_methodNamed B.named
  have hlocks := B.notSynchronized
  subst hsz
  have hD := hD0.self (sz := s.heap.size)
  generalize hAe : va_A (dw_X12 a ac s0) s.heap.size = A at hD hN ⊢
  have hA : ∀ q : Nat, s.heap.size ≤ q → A q := fun q h => by rw [← hAe]; exact Or.inr h
  have hl := lv_entry ([.ref (a 0)]) (n := 2) (Nat.le_of_ble_eq_true rfl)
  rw [lg_entry_eq]
  generalize (lg_sl ([.ref (a 0)]) ++ List.replicate (2 - (lg_sl ([.ref (a 0)])).length) Slot.unset).toArray = ls at hl ⊢
  have hl : lv_has ls 2 [(0, .ref (a 0))] := hl
  exact db_X12_unusedCondition_0 (dC := dC) (dI := dI) (a := a) (ac := ac) (n := n) (r := r) ⟨hlt, hx, hb, hml, hown, hts, hN, hA, hK⟩ (fun pc o τ H locs ls d er hP hD hS => by subst er; exact W.aret (v := va_rf (Option.map (fun j => a (0 + j * 9 + 102)) o)) hx hb hr (by first | exact Or.inl ⟨_, rfl⟩ | exact Or.inr ⟨_, rfl⟩) (va_rf_or _) (fun t ht hW => ⟨⟨Option.map (fun j => a (0 + j * 9 + 102)) o, (), rfl, rfl, by rw [ht]; exact hP, va_K.moved hW.alike hK, hD⟩, hS.F ht⟩) hS.2.2 d) s0 _ _ _ h hP hD va_S.rf (lv_sub hl [0] rfl)
def ow_dm_X12_drop : List Cond := .code yX12_drop cX12_drop 3 (some .boolean) :: ([.classLink RX12 70 "java/lang/IllegalArgumentException", .initialized "java/lang/IllegalArgumentException", .fieldLink RX12 39 "TimeMachine" "breaks" "[LTimeMachine$Condition;"] ++ (u_ws RX12 TX12 12 ++ ((vx_at0 RX12 72 "java/lang/IllegalArgumentException" ["java/lang/RuntimeException", "java/lang/Exception"]).filter goodWord ++ [])))
theorem gd_dm_X12_drop : ∀ w ∈ ow_dm_X12_drop, (w.onTables && w.keeps) = true ∨ ∃ ty, w = Cond.arrayClass ty := List.forall_mem_cons.mpr ⟨good_of_word rfl, List.forall_mem_append.mpr ⟨fun w h => good_of_word (List.all_eq_true.mp (by decide +kernel) w h), List.forall_mem_append.mpr ⟨gu_X12, List.forall_mem_append.mpr ⟨fun w h => good_of_word (List.mem_filter.mp h).2, fun _ h => nomatch h⟩⟩⟩⟩
theorem hi_dm_X12_drop_X12 : ∀ w ∈ u_ws RX12 TX12 12, w ∈ ow_dm_X12_drop := fun w h => List.mem_cons_of_mem _ (List.mem_append_right _ (List.mem_append_left _ h))
def dj_X12_drop_10 (p : Program) (l : Launch) (e : Env) (s : State) (m : MethodId) (args : Array Value) (below : List Frame) (meth : Method) (c : Code) (Q : State → Prop) (A : Nat → Prop) (dC : Nat → ClassId) (dI : Nat → Nat → Nat) (a : Nat → Nat) (ac : Nat → ClassId) (g : (St × Rw × (St) × (St × (St)) × (St) × (St × (St × (St × (St)))) × (St) × (St) × (Nat → St) × (Nat → St) × (Nat → St × (St))) → Option ((Int32 × (St × Rw × (St) × (St × (St)) × (St) × (St × (St × (St × (St)))) × (St) × (St) × (Nat → St) × (Nat → St) × (Nat → St × (St)))) ⊕ (String × (St × Rw × (St) × (St × (St)) × (St) × (St × (St × (St × (St)))) × (St) × (St) × (Nat → St) × (Nat → St) × (Nat → St × (St)))))) (r : (Int32 × (St × Rw × (St) × (St × (St)) × (St) × (St × (St × (St × (St)))) × (St) × (St) × (Nat → St) × (Nat → St) × (Nat → St × (St)))) ⊕ (String × (St × Rw × (St) × (St × (St)) × (St) × (St × (St × (St × (St)))) × (St) × (St) × (Nat → St) × (Nat → St) × (Nat → St × (St))))) : Prop := ∀ (s0 : St × Rw × (St) × (St × (St)) × (St) × (St × (St × (St × (St)))) × (St) × (St) × (Nat → St) × (Nat → St) × (Nat → St × (St))) (H : Heap) (locs : List Loc) (ls : Array Slot), g s0 = some r → va_P (dC, dI) vwCl (dw_X12 a ac s0) H → va_D A (dw_X12 a ac s0) → va_S A s.heap H locs → lv_has ls 3 [] → W p l e (headSpec ow_dm_X12_drop ({ frames := 6, cells := 1, slots := 6, locals := 81 })).room s m args below meth c H locs 0 0 Q (F0 m 10 ls [])
def dj_X12_drop_32 (p : Program) (l : Launch) (e : Env) (s : State) (m : MethodId) (args : Array Value) (below : List Frame) (meth : Method) (c : Code) (Q : State → Prop) (A : Nat → Prop) (dC : Nat → ClassId) (dI : Nat → Nat → Nat) (a : Nat → Nat) (ac : Nat → ClassId) (g : Int32 → Int32 → (St × Rw × (St) × (St × (St)) × (St) × (St × (St × (St × (St)))) × (St) × (St) × (Nat → St) × (Nat → St) × (Nat → St × (St))) → Option ((Int32 × (St × Rw × (St) × (St × (St)) × (St) × (St × (St × (St × (St)))) × (St) × (St) × (Nat → St) × (Nat → St) × (Nat → St × (St)))) ⊕ (String × (St × Rw × (St) × (St × (St)) × (St) × (St × (St × (St × (St)))) × (St) × (St) × (Nat → St) × (Nat → St) × (Nat → St × (St)))))) (r : (Int32 × (St × Rw × (St) × (St × (St)) × (St) × (St × (St × (St × (St)))) × (St) × (St) × (Nat → St) × (Nat → St) × (Nat → St × (St)))) ⊕ (String × (St × Rw × (St) × (St × (St)) × (St) × (St × (St × (St × (St)))) × (St) × (St) × (Nat → St) × (Nat → St) × (Nat → St × (St))))) : Prop := ∀ (x1 : Int32) (y0 : Int32) (s0 : St × Rw × (St) × (St × (St)) × (St) × (St × (St × (St × (St)))) × (St) × (St) × (Nat → St) × (Nat → St) × (Nat → St × (St))) (H : Heap) (locs : List Loc) (ls : Array Slot), g x1 y0 s0 = some r → va_P (dC, dI) vwCl (dw_X12 a ac s0) H → va_D A (dw_X12 a ac s0) → va_S A s.heap H locs → lv_has ls 3 [(0, .ref (a 0)), (1, .int x1)] → W p l e (headSpec ow_dm_X12_drop ({ frames := 6, cells := 1, slots := 6, locals := 81 })).room s m args below meth c H locs 0 0 Q (F0 m 32 ls [.int y0])
def dj_X12_drop_0 (p : Program) (l : Launch) (e : Env) (s : State) (m : MethodId) (args : Array Value) (below : List Frame) (meth : Method) (c : Code) (Q : State → Prop) (A : Nat → Prop) (dC : Nat → ClassId) (dI : Nat → Nat → Nat) (a : Nat → Nat) (ac : Nat → ClassId) (g : Int32 → (St × Rw × (St) × (St × (St)) × (St) × (St × (St × (St × (St)))) × (St) × (St) × (Nat → St) × (Nat → St) × (Nat → St × (St))) → Option ((Int32 × (St × Rw × (St) × (St × (St)) × (St) × (St × (St × (St × (St)))) × (St) × (St) × (Nat → St) × (Nat → St) × (Nat → St × (St)))) ⊕ (String × (St × Rw × (St) × (St × (St)) × (St) × (St × (St × (St × (St)))) × (St) × (St) × (Nat → St) × (Nat → St) × (Nat → St × (St)))))) (r : (Int32 × (St × Rw × (St) × (St × (St)) × (St) × (St × (St × (St × (St)))) × (St) × (St) × (Nat → St) × (Nat → St) × (Nat → St × (St)))) ⊕ (String × (St × Rw × (St) × (St × (St)) × (St) × (St × (St × (St × (St)))) × (St) × (St) × (Nat → St) × (Nat → St) × (Nat → St × (St))))) : Prop := ∀ (v0 : Int32) (s0 : St × Rw × (St) × (St × (St)) × (St) × (St × (St × (St × (St)))) × (St) × (St) × (Nat → St) × (Nat → St) × (Nat → St × (St))) (H : Heap) (locs : List Loc) (ls : Array Slot), g v0 s0 = some r → va_P (dC, dI) vwCl (dw_X12 a ac s0) H → va_D A (dw_X12 a ac s0) → va_S A s.heap H locs → lv_has ls 3 [(0, .ref (a 0)), (1, .int v0)] → W p l e (headSpec ow_dm_X12_drop ({ frames := 6, cells := 1, slots := 6, locals := 81 })).room s m args below meth c H locs 0 0 Q (F0 m 0 ls [])
set_option maxHeartbeats 40000000 in
set_option maxRecDepth 100000 in
theorem db_X12_drop_10 {p : Program} {l : Launch} {e : Env} {s : State} {m : MethodId} {args : Array Value} {below : List Frame} {meth : Method} {c : Code} {Qc : Array Value → State → Outcome → State → Prop} {A : Nat → Prop} {dC : Nat → ClassId} {dI : Nat → Nat → Nat} {a : Nat → Nat} {ac : Nat → ClassId} {n : Nat} {r : (Int32 × (St × Rw × (St) × (St × (St)) × (St) × (St × (St × (St × (St)))) × (St) × (St) × (Nat → St) × (Nat → St) × (Nat → St × (St)))) ⊕ (String × (St × Rw × (St) × (St × (St)) × (St) × (St × (St × (St × (St)))) × (St) × (St) × (Nat → St) × (Nat → St) × (Nat → St × (St))))} (C : nd_C p l s m args c A (dC, dI) cX12_drop 3 RX12 ow_dm_X12_drop (dk_X12 ac)) (CX : nv_Dc s ∧ (∀ x ∈ c.exceptionTable.toList, False) ∧ meth.locks = false) (K : nd_Ti p l e (headSpec ow_dm_X12_drop ({ frames := 6, cells := 1, slots := 6, locals := 81 })).room s m args below meth c (vx_MQ below Qc (nd_XC (dC, dI) (St × Rw × (St) × (St × (St)) × (St) × (St × (St × (St × (St)))) × (St) × (St) × (Nat → St) × (Nat → St) × (Nat → St × (St))) (dw_X12 a ac) A r) args s 1 6 A) A (dC, dI) cX12_drop .boolean (St × Rw × (St) × (St × (St)) × (St) × (St × (St × (St × (St)))) × (St) × (St) × (Nat → St) × (Nat → St) × (Nat → St × (St))) (dw_X12 a ac) r) : dj_X12_drop_10 p l e s m args below meth c (vx_MQ below Qc (nd_XC (dC, dI) (St × Rw × (St) × (St × (St)) × (St) × (St × (St × (St × (St)))) × (St) × (St) × (Nat → St) × (Nat → St) × (Nat → St × (St))) (dw_X12 a ac) A r) args s 1 6 A) A dC dI a ac (df_X12_drop_10 n (a 15) (a 3)) r := by
  obtain ⟨hDe, htb, hlocks⟩ := id CX
  obtain ⟨hlt, hx, hb, hml, hown, hts, hN, hA, hK⟩ := id C
  intro s0 H locs ls h hP hD hS hl
  unfold df_X12_drop_10 at h
  exact vx_throw0 (own := RX12) (cls := "java/lang/IllegalArgumentException") (names := ["java/lang/RuntimeException", "java/lang/Exception"]) (ik := 70) (ic := 72) (A := A) hx hb hlt hown (by decide +kernel) (by decide +kernel) (hts (.classLink RX12 70 "java/lang/IllegalArgumentException") (List.mem_of_getElem? (i := 1) rfl)) (hts (.initialized "java/lang/IllegalArgumentException") (List.mem_of_getElem? (i := 2) rfl)) (vx_hat (B := [.castable "java/lang/IllegalArgumentException" "java/lang/IllegalArgumentException", .declares ⟨"java/lang/RuntimeException", "<init>", "()V"⟩, .declares ⟨"java/lang/Exception", "<init>", "()V"⟩, .declares ⟨"java/lang/Throwable", "<init>", "()V"⟩]) (fun w h => hts w (List.mem_cons_of_mem _ (List.mem_append_right _ (List.mem_append_right _ (List.mem_append_left _ h))))) (by decide +kernel) (vx_c (va_Nw.use rfl hN.2.2.2.2.2.2.2.1) (vx_c (va_Nw.use rfl (hDe _ (by decide +kernel))) (vx_c (va_Nw.use rfl (hDe _ (by decide +kernel))) (vx_c (va_Nw.use rfl (hDe _ (by decide +kernel))) vx_n))))) (by decide +kernel) hN.2.2.2.2.2.1 hN.2.2.2.2.2.2.1 hS (by rw [hml]; exact hl.1) dX12_drop_10 dX12_drop_13 dX12_drop_14 dX12_drop_17 (fun x9 h9 => (htb x9 h9).elim) (Nat.le_of_ble_eq_true rfl) (Nat.le_of_ble_eq_true rfl) (by decide +kernel) (by decide +kernel) hlocks (fun t hvm hz hk => ⟨s0, trivial, ⟨(Option.some.inj h).symm, hP.kept (fun k q hq => hk q.1 (hP k q hq).lt), hD⟩, Nat.le_trans hS.1 hz, fun q h1 h2 => (hk q (Nat.lt_of_lt_of_le h1 hS.1)).trans (hS.2.1 q h1 h2)⟩) hS.2.2 (by decide +kernel) (by decide +kernel)
set_option maxHeartbeats 40000000 in
set_option maxRecDepth 100000 in
theorem db_X12_drop_32 {p : Program} {l : Launch} {e : Env} {s : State} {m : MethodId} {args : Array Value} {below : List Frame} {meth : Method} {c : Code} {Qc : Array Value → State → Outcome → State → Prop} {A : Nat → Prop} {dC : Nat → ClassId} {dI : Nat → Nat → Nat} {a : Nat → Nat} {ac : Nat → ClassId} {n : Nat} {r : (Int32 × (St × Rw × (St) × (St × (St)) × (St) × (St × (St × (St × (St)))) × (St) × (St) × (Nat → St) × (Nat → St) × (Nat → St × (St)))) ⊕ (String × (St × Rw × (St) × (St × (St)) × (St) × (St × (St × (St × (St)))) × (St) × (St) × (Nat → St) × (Nat → St) × (Nat → St × (St))))} (C : nd_C p l s m args c A (dC, dI) cX12_drop 3 RX12 ow_dm_X12_drop (dk_X12 ac)) (CX : nv_Dc s ∧ (∀ x ∈ c.exceptionTable.toList, False) ∧ meth.locks = false) (K : nd_Ti p l e (headSpec ow_dm_X12_drop ({ frames := 6, cells := 1, slots := 6, locals := 81 })).room s m args below meth c (vx_MQ below Qc (nd_XC (dC, dI) (St × Rw × (St) × (St × (St)) × (St) × (St × (St × (St × (St)))) × (St) × (St) × (Nat → St) × (Nat → St) × (Nat → St × (St))) (dw_X12 a ac) A r) args s 1 6 A) A (dC, dI) cX12_drop .boolean (St × Rw × (St) × (St × (St)) × (St) × (St × (St × (St × (St)))) × (St) × (St) × (Nat → St) × (Nat → St) × (Nat → St × (St))) (dw_X12 a ac) r) : dj_X12_drop_32 p l e s m args below meth c (vx_MQ below Qc (nd_XC (dC, dI) (St × Rw × (St) × (St × (St)) × (St) × (St × (St × (St × (St)))) × (St) × (St) × (Nat → St) × (Nat → St) × (Nat → St × (St))) (dw_X12 a ac) A r) args s 1 6 A) A dC dI a ac (df_X12_drop_32 n (a 15) (a 3)) r := by
  obtain ⟨hDe, htb, hlocks⟩ := id CX
  obtain ⟨hlt, hx, hb, hml, hown, hts, hN, hA, hK⟩ := id C
  intro x1 y0 s0 H locs ls h hP hD hS hl
  unfold df_X12_drop_32 at h
  refine lv_istore_n (lv' := [(2, .int y0), (0, .ref (a 0)), (1, .int x1)]) hx hb dX12_drop_32 rfl hl (by decide) rfl (fun ls hl => ?_)
  refine lv_aload_n hx hb dX12_drop_33 rfl (lv_at hl 1 rfl) ?_
  refine va_get (D := (dC, dI)) (ci := 13) (v := .ref (a 55)) (C := RX12) (T := TX12) (N := 12) hx hb hts hi_dm_X12_drop_X12 hown hK hP 0 rfl rfl 7 (by decide) (hts (.fieldLink RX12 39 "TimeMachine" "breaks" "[LTimeMachine$Condition;") (List.mem_of_getElem? (i := 3) rfl)) (fun _ h9 => h9) rfl dX12_drop_34 ?_
  refine lv_iload_n hx hb dX12_drop_37 rfl (lv_at hl 2 rfl) ?_
  refine lv_null hx hb dX12_drop_38 ?_
  obtain ⟨i5, h⟩ := nd_ck_e h
  refine va_astqN (i := x1) hx hb hK hP hD hS 55 45 rfl rfl i5 dX12_drop_39 (fun H locs hP hD hS => ?_)
  have hP : va_P (dC, dI) vwCl ((dw_X12 a ac s0).set 55 (a 55, .inl (ac 55, 8, .inr (.inr (.inr (.inr (va_up (fun i => Option.map (fun j => a (0 + j * 9 + 102)) (s0.2.1 2 i)) (Int32.toNatClampNeg x1) (Option.map (fun j => a (0 + j * 9 + 102)) none)))))))) H := hP
  have hD : va_D A ((dw_X12 a ac s0).set 55 (a 55, .inl (ac 55, 8, .inr (.inr (.inr (.inr (va_up (fun i => Option.map (fun j => a (0 + j * 9 + 102)) (s0.2.1 2 i)) (Int32.toNatClampNeg x1) (Option.map (fun j => a (0 + j * 9 + 102)) none)))))))) := hD
  rw [nd_up] at hP hD
  obtain ⟨s6, es6, h⟩ := nd_let_e h
  have hP : va_P (dC, dI) vwCl (dw_X12 a ac s6) H := by rw [es6]; exact hP
  have hD : va_D A (dw_X12 a ac s6) := by rw [es6]; exact hD
  refine lv_iload_n hx hb dX12_drop_40 rfl (lv_at hl 0 rfl) ?_
  obtain ⟨n7, h⟩ := nd_z_e ⟨_, rfl⟩ h
  exact K _ _ _ _ _ _ dX12_drop_41 n7 (Option.some.inj h).symm hP hD hS
set_option maxHeartbeats 40000000 in
set_option maxRecDepth 100000 in
theorem db_X12_drop_0 {p : Program} {l : Launch} {e : Env} {s : State} {m : MethodId} {args : Array Value} {below : List Frame} {meth : Method} {c : Code} {Qc : Array Value → State → Outcome → State → Prop} {A : Nat → Prop} {dC : Nat → ClassId} {dI : Nat → Nat → Nat} {a : Nat → Nat} {ac : Nat → ClassId} {n : Nat} {r : (Int32 × (St × Rw × (St) × (St × (St)) × (St) × (St × (St × (St × (St)))) × (St) × (St) × (Nat → St) × (Nat → St) × (Nat → St × (St)))) ⊕ (String × (St × Rw × (St) × (St × (St)) × (St) × (St × (St × (St × (St)))) × (St) × (St) × (Nat → St) × (Nat → St) × (Nat → St × (St))))} (C : nd_C p l s m args c A (dC, dI) cX12_drop 3 RX12 ow_dm_X12_drop (dk_X12 ac)) (CX : nv_Dc s ∧ (∀ x ∈ c.exceptionTable.toList, False) ∧ meth.locks = false) (K : nd_Ti p l e (headSpec ow_dm_X12_drop ({ frames := 6, cells := 1, slots := 6, locals := 81 })).room s m args below meth c (vx_MQ below Qc (nd_XC (dC, dI) (St × Rw × (St) × (St × (St)) × (St) × (St × (St × (St × (St)))) × (St) × (St) × (Nat → St) × (Nat → St) × (Nat → St × (St))) (dw_X12 a ac) A r) args s 1 6 A) A (dC, dI) cX12_drop .boolean (St × Rw × (St) × (St × (St)) × (St) × (St × (St × (St × (St)))) × (St) × (St) × (Nat → St) × (Nat → St) × (Nat → St × (St))) (dw_X12 a ac) r) : dj_X12_drop_0 p l e s m args below meth c (vx_MQ below Qc (nd_XC (dC, dI) (St × Rw × (St) × (St × (St)) × (St) × (St × (St × (St × (St)))) × (St) × (St) × (Nat → St) × (Nat → St) × (Nat → St × (St))) (dw_X12 a ac) A r) args s 1 6 A) A dC dI a ac (df_X12_drop_0 n (a 15) (a 3)) r := by
  obtain ⟨hDe, htb, hlocks⟩ := id CX
  obtain ⟨hlt, hx, hb, hml, hown, hts, hN, hA, hK⟩ := id C
  intro v0 s0 H locs ls h hP hD hS hl
  unfold df_X12_drop_0 at h
  refine lv_iload_n hx hb dX12_drop_0 rfl (lv_at hl 1 rfl) ?_
  refine lv_if_lt (tgt := 10) hx hb dX12_drop_1 (by decide) (fun c1 => ?_) (fun c1 => ?_)
  · have h := nd_pos h c1
    exact (db_X12_drop_10 C CX K)  s0 _ _ _ h hP hD hS (lv_sub hl [] rfl)
  · have h := nd_neg h c1
    refine lv_iload_n hx hb dX12_drop_4 rfl (lv_at hl 1 rfl) ?_
    refine lv_bipush (v := 8) hx hb dX12_drop_5 (by decide) ?_
    refine lv_icmp_lt (tgt := 18) hx hb dX12_drop_7 (by decide) (fun c2 => ?_) (fun c2 => ?_)
    · have h := nd_pos h c2
      refine lv_aload_n hx hb dX12_drop_18 rfl (lv_at hl 0 rfl) ?_
      refine va_get (D := (dC, dI)) (ci := 13) (v := .ref (a 55)) (C := RX12) (T := TX12) (N := 12) hx hb hts hi_dm_X12_drop_X12 hown hK hP 0 rfl rfl 7 (by decide) (hts (.fieldLink RX12 39 "TimeMachine" "breaks" "[LTimeMachine$Condition;") (List.mem_of_getElem? (i := 3) rfl)) (fun _ h9 => h9) rfl dX12_drop_19 ?_
      refine lv_iload_n hx hb dX12_drop_22 rfl (lv_at hl 1 rfl) ?_
      obtain ⟨i3, h⟩ := nd_ck_e h
      refine va_aldq (i := v0) hx hb hK hP 55 45 rfl rfl i3 dX12_drop_23 ?_
      cases hrj4 : s0.2.1 2 (Int32.toNatClampNeg v0) with
      | none =>
        have h := nd_mN h hrj4
        refine W.eq (g2 := F0 m 24 ls [.null]) (by first | rfl | (show F0 m _ ls (va_rf (Option.map (fun j => a (0 + j * 9 + 102)) (s0.2.1 2 (Int32.toNatClampNeg v0))) :: _) = _; rw [hrj4]; rfl)) ?_
        refine lv_ifnullN (tgt := 31) hx hb dX12_drop_24 (by decide) ?_
        refine lv_iconst (v := 0) hx hb dX12_drop_31 (by decide) ?_
        exact (db_X12_drop_32 C CX K) (v0) (0) s0 _ _ _ h hP hD hS (lv_sub hl [0, 1] rfl)
      | some j4 =>
        have h := nd_mS h hrj4
        refine W.eq (g2 := F0 m 24 ls [.ref (a (0 + j4 * 9 + 102))]) (by first | rfl | (show F0 m _ ls (va_rf (Option.map (fun j => a (0 + j * 9 + 102)) (s0.2.1 2 (Int32.toNatClampNeg v0))) :: _) = _; rw [hrj4]; rfl)) ?_
        refine lv_ifnull hx hb dX12_drop_24 ?_
        refine lv_iconst (v := 1) hx hb dX12_drop_27 (by decide) ?_
        refine lv_goto (tgt := 32) hx hb dX12_drop_28 (by decide) ?_
        exact (db_X12_drop_32 C CX K) (v0) (1) s0 _ _ _ h hP hD hS (lv_sub hl [0, 1] rfl)
    · have h := nd_neg h c2
      exact (db_X12_drop_10 C CX K)  s0 _ _ _ h hP hD hS (lv_sub hl [] rfl)
set_option maxHeartbeats 40000000 in
set_option maxRecDepth 100000 in
theorem dm_X12_drop (l : Launch) (hlt : l.stackTraces = false) (dC : Nat → ClassId) (dI : Nat → Nat → Nat) (a : Nat → Nat) (ac : Nat → ClassId) (n : Nat) (v0 : Int32) (s0 : St × Rw × (St) × (St × (St)) × (St) × (St × (St × (St × (St)))) × (St) × (St) × (Nat → St) × (Nat → St) × (Nat → St × (St))) {r : (Int32 × (St × Rw × (St) × (St × (St)) × (St) × (St × (St × (St × (St)))) × (St) × (St) × (Nat → St) × (Nat → St) × (Nat → St × (St)))) ⊕ (String × (St × Rw × (St) × (St × (St)) × (St) × (St × (St × (St × (St)))) × (St) × (St) × (Nat → St) × (Nat → St) × (Nat → St × (St))))} (h : df_X12_drop n (a 15) (a 3) v0 s0 = some r) (sz : Nat) : vx_Met l yX12_drop ow_dm_X12_drop ({ frames := 6, cells := 1, slots := 6, locals := 81 }) (va_Pc [.ref (a 0), .int v0] (fun U => U.heap.size = sz ∧ va_P (dC, dI) vwCl (dw_X12 a ac s0) U.heap ∧ va_K (dC, dI) vwCl (dk_X12 ac) U ∧ va_D (fun _ => True) (dw_X12 a ac s0) ∧ nv_E (va_A (dw_X12 a ac s0) sz) U ∧ nv_Dc U)) (va_Qi (fun x u => r = Sum.inl (x, u)) (fun (u : St × Rw × (St) × (St × (St)) × (St) × (St × (St × (St × (St)))) × (St) × (St) × (Nat → St) × (Nat → St) × (Nat → St × (St))) t => va_P (dC, dI) vwCl (dw_X12 a ac u) t.heap ∧ va_K (dC, dI) vwCl (dk_X12 ac) t ∧ va_D (va_A (dw_X12 a ac s0) sz) (dw_X12 a ac u)) (va_A (dw_X12 a ac s0) sz)) (nd_XC (dC, dI) (St × Rw × (St) × (St × (St)) × (St) × (St × (St × (St × (St)))) × (St) × (St) × (Nat → St) × (Nat → St) × (Nat → St × (St))) (dw_X12 a ac) (va_A (dw_X12 a ac s0) sz) r) 1 6 (va_A (dw_X12 a ac s0) sz) := by
  refine vx_ofW (cc := cX12_drop) (maxL := 3) (ret := (some .boolean)) (by decide) rfl ?_
  intro p e s m args below meth c s₁ B hml htb hv
  obtain ⟨rfl, hsz, hP, hK, hD0, hN, hDe⟩ := hv
  have hx := B.exec
  have hb := B.bytes
  have hr := B.returns
  have hts := atoms_spec (ws := ow_dm_X12_drop) B.pre
  have hown : s.vm.findClass RX12 = some m.cls := findClass_of_methodNamed B.named
  have hlocks := B.notSynchronized
  subst hsz
  have hD := hD0.self (sz := s.heap.size)
  generalize hAe : va_A (dw_X12 a ac s0) s.heap.size = A at hD hN ⊢
  have hA : ∀ q : Nat, s.heap.size ≤ q → A q := fun q h => by rw [← hAe]; exact Or.inr h
  have hl := lv_entry ([.ref (a 0), .int v0]) (n := 3) (Nat.le_of_ble_eq_true rfl)
  rw [lg_entry_eq]
  generalize (lg_sl ([.ref (a 0), .int v0]) ++ List.replicate (3 - (lg_sl ([.ref (a 0), .int v0])).length) Slot.unset).toArray = ls at hl ⊢
  have hl : lv_has ls 3 [(0, .ref (a 0)), (1, .int v0)] := hl
  exact db_X12_drop_0 (dC := dC) (dI := dI) (a := a) (ac := ac) (n := n) (r := r) ⟨hlt, hx, hb, hml, hown, hts, hN, hA, hK⟩ ⟨hDe, htb, hlocks⟩ (fun pc v τ H locs ls d z er hP hD hS => by subst er; exact W.widen (k := 1) (n := 6) (by decide) (by decide) (vx_ret (W.zret (v := v) hx hb hr z (fun t ht hW => ⟨⟨v, τ, rfl, rfl, by rw [ht]; exact hP, va_K.moved hW.alike hK, hD⟩, hS.F ht⟩) hS.2.2 d))) v0 s0 _ _ _ h hP hD va_S.rf (lv_sub hl [0, 1] rfl)
set_option maxHeartbeats 40000000 in
set_option maxRecDepth 100000 in
theorem de_wX12_X2m_14 {a : Nat → Nat} {ac : Nat → ClassId} {j1 : Nat} {τ : St × (St) × (St × (St))} : ([dw_X2c (fun k => a (k + j1 * 9 + 102)) (fun k => ac (k + j1 * 9 + 102)) (τ.2.1), dwo_X6 (fun k => a (k + 23)) (fun k => ac (k + 23)) (τ.2.2.1), dw_X10 (fun k => a (k + 33)) (fun k => ac (k + 33)) (τ.2.2.2)] : List va_W).flatten = dw_X2m (fun k => a (if k < 9 then k - 0 + j1 * 9 + 102 else k - 9 + 23)) (fun k => ac (if k < 9 then k - 0 + j1 * 9 + 102 else k - 9 + 23)) τ := by
  first
  | (simp only [List.flatten_cons, List.flatten_nil, List.append_nil]; done)
  | (simp only [List.flatten_cons, List.flatten_nil, List.append_nil]; rfl)
set_option maxHeartbeats 40000000 in
set_option maxRecDepth 100000 in
theorem dp_wX12_X2m_14 {D : va_G} {H : Heap} {a : Nat → Nat} {ac : Nat → ClassId} {σ : St × Rw × (St) × (St × (St)) × (St) × (St × (St × (St × (St)))) × (St) × (St) × (Nat → St) × (Nat → St) × (Nat → St × (St))} {j1 : Nat} (hj1 : j1 < 9) (h : va_P D vwCl (dw_X12 a ac σ) H) : va_P D vwCl (dw_X2m (fun k => a (if k < 9 then k - 0 + j1 * 9 + 102 else k - 9 + 23)) (fun k => ac (if k < 9 then k - 0 + j1 * 9 + 102 else k - 9 + 23)) (nd_st0, (σ.2.2.2.2.2.2.2.2.2.1 j1), σ.2.2.2.2.2.1.2.2)) H := by
  have h2 := nd_vp (segs := dg_X12 a ac σ) (ix := [27 + j1, 10, 11]) (old := [dw_X2c (fun k => a (k + j1 * 9 + 102)) (fun k => ac (k + j1 * 9 + 102)) (σ.2.2.2.2.2.2.2.2.2.1 j1), dwo_X6 (fun k => a (k + 23)) (fun k => ac (k + 23)) (σ.2.2.2.2.2.1.2.2.1), dw_X10 (fun k => a (k + 33)) (fun k => ac (k + 33)) (σ.2.2.2.2.2.1.2.2.2)]) h (nd_co (dx_X12_K2 hj1) (nd_co rfl (nd_co rfl rfl)))
  have e := de_wX12_X2m_14 (a := a) (ac := ac) (j1 := j1) (τ := (nd_st0, (σ.2.2.2.2.2.2.2.2.2.1 j1), σ.2.2.2.2.2.1.2.2))
  exact e ▸ h2
set_option maxHeartbeats 40000000 in
set_option maxRecDepth 100000 in
theorem dd_wX12_X2m_14 {A : Nat → Prop} {a : Nat → Nat} {ac : Nat → ClassId} {σ : St × Rw × (St) × (St × (St)) × (St) × (St × (St × (St × (St)))) × (St) × (St) × (Nat → St) × (Nat → St) × (Nat → St × (St))} {j1 : Nat} (hj1 : j1 < 9) (h : va_D A (dw_X12 a ac σ)) : va_D A (dw_X2m (fun k => a (if k < 9 then k - 0 + j1 * 9 + 102 else k - 9 + 23)) (fun k => ac (if k < 9 then k - 0 + j1 * 9 + 102 else k - 9 + 23)) (nd_st0, (σ.2.2.2.2.2.2.2.2.2.1 j1), σ.2.2.2.2.2.1.2.2)) := by
  have h2 := nd_vd (segs := dg_X12 a ac σ) (ix := [27 + j1, 10, 11]) (old := [dw_X2c (fun k => a (k + j1 * 9 + 102)) (fun k => ac (k + j1 * 9 + 102)) (σ.2.2.2.2.2.2.2.2.2.1 j1), dwo_X6 (fun k => a (k + 23)) (fun k => ac (k + 23)) (σ.2.2.2.2.2.1.2.2.1), dw_X10 (fun k => a (k + 33)) (fun k => ac (k + 33)) (σ.2.2.2.2.2.1.2.2.2)]) h (nd_co (dx_X12_K2 hj1) (nd_co rfl (nd_co rfl rfl))) (by simp only [List.nodup_cons, List.mem_cons, List.not_mem_nil, List.nodup_nil, or_false, not_false_eq_true, and_true, true_and] <;> omega)
  have e := de_wX12_X2m_14 (a := a) (ac := ac) (j1 := j1) (τ := (nd_st0, (σ.2.2.2.2.2.2.2.2.2.1 j1), σ.2.2.2.2.2.1.2.2))
  exact e ▸ h2
set_option maxHeartbeats 40000000 in
set_option maxRecDepth 100000 in
theorem dy_wX12_X2m_14 {D : va_G} {U : State} {ac : Nat → ClassId} {j1 : Nat} (hj1 : j1 < 9) (h : va_K D vwCl (dk_X12 ac) U) : va_K D vwCl (dk_X2m (fun k => ac (if k < 9 then k - 0 + j1 * 9 + 102 else k - 9 + 23))) U := (va_K.app (nd_ks h (fun q hq => absurd hq List.not_mem_nil)) (va_K.app (dq_X12_K2 hj1 h) (h.sub [17, 18, 19, 20, 21, 22, 23, 24, 25, 26, 27, 28, 29, 30, 31, 32, 33, 34] rfl)))
