set_option maxHeartbeats 40000000 in
set_option maxRecDepth 100000 in
theorem db_X16_wanted_0 {p : Program} {l : Launch} {e : Env} {s : State} {m : MethodId} {args : Array Value} {below : List Frame} {meth : Method} {c : Code} {Q : State → Prop} {A : Nat → Prop} {dC : Nat → ClassId} {dI : Nat → Nat → Nat} {a : Nat → Nat} {ac : Nat → ClassId} {n : Nat} {r : Int32 × (St × (St))} (C : nd_C p l s m args c A (dC, dI) cX16_wanted 8 RX16 ow_dm_X16_wanted (dk_X16 ac)) (K : nd_Ki p l e (headSpec ow_dm_X16_wanted ({ frames := 0, cells := 0, slots := 0, locals := 0 })).room s m args below meth c Q A (dC, dI) cX16_wanted .int (St × (St)) (dw_X16 a ac) r) : dj_X16_wanted_0 p l e s m args below meth c Q A dC dI a ac (df_X16_wanted_0 n) r := by
  obtain ⟨hlt, hx, hb, hml, hown, hts, hN, hA, hK⟩ := id C
  intro v0 v1 v2 s0 H locs ls h hP hD hS hl
  unfold df_X16_wanted_0 at h
  refine lv_iconst (v := 0) hx hb dX16_wanted_0 (by decide) ?_
  refine lv_istore (lv' := [(4, .int 0), (0, .ref (a 0)), (1, .int v0), (2, .int v1), (3, .int v2)]) hx hb dX16_wanted_1 hl (by decide) rfl (fun ls hl => ?_)
  refine lv_iconst (v := 0) hx hb dX16_wanted_3 (by decide) ?_
  refine lv_istore (lv' := [(5, .int 0), (4, .int 0), (0, .ref (a 0)), (1, .int v0), (2, .int v1), (3, .int v2)]) hx hb dX16_wanted_4 hl (by decide) rfl (fun ls hl => ?_)
  exact (db_X16_wanted_6 C K n) (v0) (v1) (v2) (0) (0) s0 _ _ _ h hP hD hS (lv_sub hl [2, 3, 4, 5, 1, 0] rfl)
set_option maxHeartbeats 40000000 in
set_option maxRecDepth 100000 in
theorem dm_X16_wanted (l : Launch) (hlt : l.stackTraces = false) (dC : Nat → ClassId) (dI : Nat → Nat → Nat) (a : Nat → Nat) (ac : Nat → ClassId) (n : Nat) (v0 : Int32) (v1 : Int32) (v2 : Int32) (s0 : St × (St)) {r : Int32 × (St × (St))} (h : df_X16_wanted n v0 v1 v2 s0 = some r) (sz : Nat) : Met l yX16_wanted ow_dm_X16_wanted ({ frames := 0, cells := 0, slots := 0, locals := 0 }) (va_Pc [.ref (a 0), .int v0, .int v1, .int v2] (fun U => U.heap.size = sz ∧ va_P (dC, dI) vwCl (dw_X16 a ac s0) U.heap ∧ va_K (dC, dI) vwCl (dk_X16 ac) U ∧ va_D (fun _ => True) (dw_X16 a ac s0) ∧ nv_E dI (va_A (dw_X16 a ac s0) sz) U)) (va_Qi (fun x _ => x = r.1) (fun (_ : Unit) t => va_P (dC, dI) vwCl (dw_X16 a ac r.2) t.heap ∧ va_K (dC, dI) vwCl (dk_X16 ac) t ∧ va_D (va_A (dw_X16 a ac s0) sz) (dw_X16 a ac r.2)) (va_A (dw_X16 a ac s0) sz)) 0 0 (va_A (dw_X16 a ac s0) sz) := by
  refine Met.ofW (cc := cX16_wanted) (maxL := 8) (ret := (some .int)) (by decide) rfl ?_
  intro p e s m args below meth c s₁ B hml hv
  obtain ⟨rfl, hsz, hP, hK, hD0, hN⟩ := hv
  have hx := B.exec
  have hb := B.bytes
  have hr := B.returns
  have hts := atoms_spec (ws := ow_dm_X16_wanted) B.pre
  have hown : s.vm.findClass RX16 = some m.cls := findClass_of_methodNamed B.named
  have hlocks := B.notSynchronized
  subst hsz
  have hD := hD0.self (sz := s.heap.size)
  generalize hAe : va_A (dw_X16 a ac s0) s.heap.size = A at hD hN ⊢
  have hA : ∀ q : Nat, s.heap.size ≤ q → A q := fun q h => by rw [← hAe]; exact Or.inr h
  have hl := lv_entry ([.ref (a 0), .int v0, .int v1, .int v2]) (n := 8) (Nat.le_of_ble_eq_true rfl)
  rw [lg_entry_eq]
  generalize (lg_sl ([.ref (a 0), .int v0, .int v1, .int v2]) ++ List.replicate (8 - (lg_sl ([.ref (a 0), .int v0, .int v1, .int v2])).length) Slot.unset).toArray = ls at hl ⊢
  have hl : lv_has ls 8 [(0, .ref (a 0)), (1, .int v0), (2, .int v1), (3, .int v2)] := hl
  exact db_X16_wanted_0 (dC := dC) (dI := dI) (a := a) (ac := ac) (n := n) (r := r) ⟨hlt, hx, hb, hml, hown, hts, hN, hA, hK⟩ (fun pc v τ H locs ls d z er hP hD hS => by subst er; exact W.zret (v := v) hx hb hr z (fun t ht hW => ⟨⟨v, (), rfl, rfl, by rw [ht]; exact hP, va_K.moved hW.alike hK, hD⟩, hS.F ht⟩) hS.2.2 d) v0 v1 v2 s0 _ _ _ h hP hD va_S.rf (lv_sub hl [0, 1, 2, 3] rfl)
def ow_dm_X16_hasFrames : List Cond := Cond.code yX16_hasFrames cX16_hasFrames 2 (some .boolean) :: ([Cond.fieldLink RX16 129 "TimeMachineModel$Machine" "used" "I"] ++ (u_ws RX16 TX16 56 ++ []))
theorem gd_dm_X16_hasFrames : ∀ w ∈ ow_dm_X16_hasFrames, (w.onTables && w.keeps) = true ∨ ∃ ty, w = Cond.arrayClass ty := List.forall_mem_cons.mpr ⟨good_of_word rfl, List.forall_mem_append.mpr ⟨fun w h => good_of_word (List.all_eq_true.mp (by decide +kernel) w h), List.forall_mem_append.mpr ⟨gu_X16, fun _ h => nomatch h⟩⟩⟩
theorem hi_dm_X16_hasFrames_X16 : ∀ w ∈ u_ws RX16 TX16 56, w ∈ ow_dm_X16_hasFrames := fun w h => List.mem_cons_of_mem _ (List.mem_append_right _ (List.mem_append_left _ h))
def dj_X16_hasFrames_17 (p : Program) (l : Launch) (e : Env) (s : State) (m : MethodId) (args : Array Value) (below : List Frame) (meth : Method) (c : Code) (Q : State → Prop) (A : Nat → Prop) (dC : Nat → ClassId) (dI : Nat → Nat → Nat) (a : Nat → Nat) (ac : Nat → ClassId) (g : Int32 → (St × (St)) → Option (Int32 × (St × (St)))) (r : Int32 × (St × (St))) : Prop := ∀ (y0 : Int32) (s0 : St × (St)) (H : Heap) (locs : List Loc) (ls : Array Slot), g y0 s0 = some r → va_P (dC, dI) vwCl (dw_X16 a ac s0) H → va_D A (dw_X16 a ac s0) → va_S A s.heap H locs → lv_has ls 2 [] → W p l e (headSpec ow_dm_X16_hasFrames ({ frames := 0, cells := 0, slots := 0, locals := 0 })).room s m args below meth c H locs 0 0 Q (F0 m 17 ls [.int y0])
def dj_X16_hasFrames_0 (p : Program) (l : Launch) (e : Env) (s : State) (m : MethodId) (args : Array Value) (below : List Frame) (meth : Method) (c : Code) (Q : State → Prop) (A : Nat → Prop) (dC : Nat → ClassId) (dI : Nat → Nat → Nat) (a : Nat → Nat) (ac : Nat → ClassId) (g : Int32 → (St × (St)) → Option (Int32 × (St × (St)))) (r : Int32 × (St × (St))) : Prop := ∀ (v0 : Int32) (s0 : St × (St)) (H : Heap) (locs : List Loc) (ls : Array Slot), g v0 s0 = some r → va_P (dC, dI) vwCl (dw_X16 a ac s0) H → va_D A (dw_X16 a ac s0) → va_S A s.heap H locs → lv_has ls 2 [(0, .ref (a 0)), (1, .int v0)] → W p l e (headSpec ow_dm_X16_hasFrames ({ frames := 0, cells := 0, slots := 0, locals := 0 })).room s m args below meth c H locs 0 0 Q (F0 m 0 ls [])
set_option maxHeartbeats 40000000 in
set_option maxRecDepth 100000 in
theorem db_X16_hasFrames_17 {p : Program} {l : Launch} {e : Env} {s : State} {m : MethodId} {args : Array Value} {below : List Frame} {meth : Method} {c : Code} {Q : State → Prop} {A : Nat → Prop} {dC : Nat → ClassId} {dI : Nat → Nat → Nat} {a : Nat → Nat} {ac : Nat → ClassId} {n : Nat} {r : Int32 × (St × (St))} (C : nd_C p l s m args c A (dC, dI) cX16_hasFrames 2 RX16 ow_dm_X16_hasFrames (dk_X16 ac)) (K : nd_Ki p l e (headSpec ow_dm_X16_hasFrames ({ frames := 0, cells := 0, slots := 0, locals := 0 })).room s m args below meth c Q A (dC, dI) cX16_hasFrames .boolean (St × (St)) (dw_X16 a ac) r) : dj_X16_hasFrames_17 p l e s m args below meth c Q A dC dI a ac (df_X16_hasFrames_17 n) r := by
  obtain ⟨hlt, hx, hb, hml, hown, hts, hN, hA, hK⟩ := id C
  intro y0 s0 H locs ls h hP hD hS hl
  unfold df_X16_hasFrames_17 at h
  obtain ⟨n2, h⟩ := nd_z_e ⟨_, rfl⟩ h
  exact K _ _ _ _ _ _ dX16_hasFrames_17 n2 (Option.some.inj h).symm hP hD hS
set_option maxHeartbeats 40000000 in
set_option maxRecDepth 100000 in
theorem db_X16_hasFrames_0 {p : Program} {l : Launch} {e : Env} {s : State} {m : MethodId} {args : Array Value} {below : List Frame} {meth : Method} {c : Code} {Q : State → Prop} {A : Nat → Prop} {dC : Nat → ClassId} {dI : Nat → Nat → Nat} {a : Nat → Nat} {ac : Nat → ClassId} {n : Nat} {r : Int32 × (St × (St))} (C : nd_C p l s m args c A (dC, dI) cX16_hasFrames 2 RX16 ow_dm_X16_hasFrames (dk_X16 ac)) (K : nd_Ki p l e (headSpec ow_dm_X16_hasFrames ({ frames := 0, cells := 0, slots := 0, locals := 0 })).room s m args below meth c Q A (dC, dI) cX16_hasFrames .boolean (St × (St)) (dw_X16 a ac) r) : dj_X16_hasFrames_0 p l e s m args below meth c Q A dC dI a ac (df_X16_hasFrames_0 n) r := by
  obtain ⟨hlt, hx, hb, hml, hown, hts, hN, hA, hK⟩ := id C
  intro v0 s0 H locs ls h hP hD hS hl
  unfold df_X16_hasFrames_0 at h
  refine lv_aload_n hx hb dX16_hasFrames_0 rfl (lv_at hl 0 rfl) ?_
  refine va_get (D := (dC, dI)) (ci := 17) (v := .int (sI s0.1 6)) (C := RX16) (T := TX16) (N := 56) hx hb hts hi_dm_X16_hasFrames_X16 hown hK hP 0 rfl rfl 29 (by decide) (hts (.fieldLink RX16 129 "TimeMachineModel$Machine" "used" "I") (List.mem_of_getElem? (i := 1) rfl)) (fun _ h9 => h9) rfl dX16_hasFrames_1 ?_
  refine lv_iload_n hx hb dX16_hasFrames_4 rfl (lv_at hl 1 rfl) ?_
  refine lv_iadd hx hb dX16_hasFrames_5 ?_
  refine lv_sipush (v := 256) hx hb dX16_hasFrames_6 (by decide) ?_
  refine lv_icmp_gt (tgt := 16) hx hb dX16_hasFrames_9 (by decide) (fun c1 => ?_) (fun c1 => ?_)
  · have h := nd_pos h c1
    refine lv_iconst (v := 0) hx hb dX16_hasFrames_16 (by decide) ?_
    exact (db_X16_hasFrames_17 C K) (0) s0 _ _ _ h hP hD hS (lv_sub hl [] rfl)
  · have h := nd_neg h c1
    refine lv_iconst (v := 1) hx hb dX16_hasFrames_12 (by decide) ?_
    refine lv_goto (tgt := 17) hx hb dX16_hasFrames_13 (by decide) ?_
    exact (db_X16_hasFrames_17 C K) (1) s0 _ _ _ h hP hD hS (lv_sub hl [] rfl)
set_option maxHeartbeats 40000000 in
set_option maxRecDepth 100000 in
theorem dm_X16_hasFrames (l : Launch) (hlt : l.stackTraces = false) (dC : Nat → ClassId) (dI : Nat → Nat → Nat) (a : Nat → Nat) (ac : Nat → ClassId) (n : Nat) (v0 : Int32) (s0 : St × (St)) {r : Int32 × (St × (St))} (h : df_X16_hasFrames n v0 s0 = some r) (sz : Nat) : Met l yX16_hasFrames ow_dm_X16_hasFrames ({ frames := 0, cells := 0, slots := 0, locals := 0 }) (va_Pc [.ref (a 0), .int v0] (fun U => U.heap.size = sz ∧ va_P (dC, dI) vwCl (dw_X16 a ac s0) U.heap ∧ va_K (dC, dI) vwCl (dk_X16 ac) U ∧ va_D (fun _ => True) (dw_X16 a ac s0) ∧ nv_E dI (va_A (dw_X16 a ac s0) sz) U)) (va_Qi (fun x _ => x = r.1) (fun (_ : Unit) t => va_P (dC, dI) vwCl (dw_X16 a ac r.2) t.heap ∧ va_K (dC, dI) vwCl (dk_X16 ac) t ∧ va_D (va_A (dw_X16 a ac s0) sz) (dw_X16 a ac r.2)) (va_A (dw_X16 a ac s0) sz)) 0 0 (va_A (dw_X16 a ac s0) sz) := by
  refine Met.ofW (cc := cX16_hasFrames) (maxL := 2) (ret := (some .boolean)) (by decide) rfl ?_
  intro p e s m args below meth c s₁ B hml hv
  obtain ⟨rfl, hsz, hP, hK, hD0, hN⟩ := hv
  have hx := B.exec
  have hb := B.bytes
  have hr := B.returns
  have hts := atoms_spec (ws := ow_dm_X16_hasFrames) B.pre
  have hown : s.vm.findClass RX16 = some m.cls := findClass_of_methodNamed B.named
  have hlocks := B.notSynchronized
  subst hsz
  have hD := hD0.self (sz := s.heap.size)
  generalize hAe : va_A (dw_X16 a ac s0) s.heap.size = A at hD hN ⊢
  have hA : ∀ q : Nat, s.heap.size ≤ q → A q := fun q h => by rw [← hAe]; exact Or.inr h
  have hl := lv_entry ([.ref (a 0), .int v0]) (n := 2) (Nat.le_of_ble_eq_true rfl)
  rw [lg_entry_eq]
  generalize (lg_sl ([.ref (a 0), .int v0]) ++ List.replicate (2 - (lg_sl ([.ref (a 0), .int v0])).length) Slot.unset).toArray = ls at hl ⊢
  have hl : lv_has ls 2 [(0, .ref (a 0)), (1, .int v0)] := hl
  exact db_X16_hasFrames_0 (dC := dC) (dI := dI) (a := a) (ac := ac) (n := n) (r := r) ⟨hlt, hx, hb, hml, hown, hts, hN, hA, hK⟩ (fun pc v τ H locs ls d z er hP hD hS => by subst er; exact W.zret (v := v) hx hb hr z (fun t ht hW => ⟨⟨v, (), rfl, rfl, by rw [ht]; exact hP, va_K.moved hW.alike hK, hD⟩, hS.F ht⟩) hS.2.2 d) v0 s0 _ _ _ h hP hD va_S.rf (lv_sub hl [0, 1] rfl)
def ow_dm_X16_write : List Cond := Cond.code yX16_write cX16_write 5 none :: ([Cond.fieldLink RX16 70 "TimeMachineModel$Machine" "holders" "[I", Cond.fieldLink RX16 64 "TimeMachineModel$Machine" "frame" "[I", Cond.constant RX16 186 (65536), Cond.methodLink RX16 201 yX16_put, Cond.instanceMethod yX16_put, Cond.selects RX16 yX16_put yX16_put, Cond.initialized RX16, Cond.fieldLink RX16 135 "TimeMachineModel$Machine" "reserved" "I", Cond.fieldLink RX16 222 "TimeMachineModel$Machine" "wrote" "Z", Cond.fieldLink RX16 157 "TimeMachineModel$Machine" "watched" "I", Cond.fieldLink RX16 226 "TimeMachineModel$Machine" "watchedAt" "I", Cond.methodLink RX16 211 yX16_leave, Cond.instanceMethod yX16_leave, Cond.selects RX16 yX16_leave yX16_leave, Cond.methodLink RX16 204 yX16_freeFrame, Cond.instanceMethod yX16_freeFrame, Cond.selects RX16 yX16_freeFrame yX16_freeFrame, Cond.methodLink RX16 208 yX16_stand, Cond.instanceMethod yX16_stand, Cond.selects RX16 yX16_stand yX16_stand] ++ (u_ws RX16 TX16 56 ++ (ow_dm_X16_put ++ (ow_dm_X16_leave ++ (ow_dm_X16_freeFrame ++ (ow_dm_X16_stand ++ []))))))
theorem gd_dm_X16_write : ∀ w ∈ ow_dm_X16_write, (w.onTables && w.keeps) = true ∨ ∃ ty, w = Cond.arrayClass ty := List.forall_mem_cons.mpr ⟨good_of_word rfl, List.forall_mem_append.mpr ⟨fun w h => good_of_word (List.all_eq_true.mp (by decide +kernel) w h), List.forall_mem_append.mpr ⟨gu_X16, List.forall_mem_append.mpr ⟨gd_dm_X16_put, List.forall_mem_append.mpr ⟨gd_dm_X16_leave, List.forall_mem_append.mpr ⟨gd_dm_X16_freeFrame, List.forall_mem_append.mpr ⟨gd_dm_X16_stand, fun _ h => nomatch h⟩⟩⟩⟩⟩⟩⟩
theorem hi_dm_X16_write_X16 : ∀ w ∈ u_ws RX16 TX16 56, w ∈ ow_dm_X16_write := fun w h => List.mem_cons_of_mem _ (List.mem_append_right _ (List.mem_append_left _ h))
theorem gi_dm_X16_write_0 : GoodIn ow_dm_X16_write (wsV RX16 201 RX16 yX16_put ow_dm_X16_put) := goodIn_app (goodIn_of _ (by decide +kernel)) (fun w h => ⟨List.mem_cons_of_mem _ (List.mem_append_right _ (List.mem_append_right _ (List.mem_append_left _ h))), gd_dm_X16_put w h⟩)
theorem gi_dm_X16_write_1 : GoodIn ow_dm_X16_write (wsV RX16 211 RX16 yX16_leave ow_dm_X16_leave) := goodIn_app (goodIn_of _ (by decide +kernel)) (fun w h => ⟨List.mem_cons_of_mem _ (List.mem_append_right _ (List.mem_append_right _ (List.mem_append_right _ (List.mem_append_left _ h)))), gd_dm_X16_leave w h⟩)
theorem gi_dm_X16_write_2 : GoodIn ow_dm_X16_write (wsV RX16 204 RX16 yX16_freeFrame ow_dm_X16_freeFrame) := goodIn_app (goodIn_of _ (by decide +kernel)) (fun w h => ⟨List.mem_cons_of_mem _ (List.mem_append_right _ (List.mem_append_right _ (List.mem_append_right _ (List.mem_append_right _ (List.mem_append_left _ h))))), gd_dm_X16_freeFrame w h⟩)
theorem gi_dm_X16_write_3 : GoodIn ow_dm_X16_write (wsV RX16 208 RX16 yX16_stand ow_dm_X16_stand) := goodIn_app (goodIn_of _ (by decide +kernel)) (fun w h => ⟨List.mem_cons_of_mem _ (List.mem_append_right _ (List.mem_append_right _ (List.mem_append_right _ (List.mem_append_right _ (List.mem_append_right _ (List.mem_append_left _ h)))))), gd_dm_X16_stand w h⟩)
def dj_X16_write_109 (p : Program) (l : Launch) (e : Env) (s : State) (m : MethodId) (args : Array Value) (below : List Frame) (meth : Method) (c : Code) (Q : State → Prop) (A : Nat → Prop) (dC : Nat → ClassId) (dI : Nat → Nat → Nat) (a : Nat → Nat) (ac : Nat → ClassId) (g : Int32 → (St × (St)) → Option (St × (St))) (r : St × (St)) : Prop := ∀ (y1 : Int32) (s0 : St × (St)) (H : Heap) (locs : List Loc) (ls : Array Slot), g y1 s0 = some r → va_P (dC, dI) vwCl (dw_X16 a ac s0) H → va_D A (dw_X16 a ac s0) → va_S A s.heap H locs → lv_has ls 5 [] → W p l e (headSpec ow_dm_X16_write ({ frames := 1, cells := 0, slots := 0, locals := 22 })).room s m args below meth c H locs 0 0 Q (F0 m 109 ls [.int y1, .ref (a 0)])
def dj_X16_write_104 (p : Program) (l : Launch) (e : Env) (s : State) (m : MethodId) (args : Array Value) (below : List Frame) (meth : Method) (c : Code) (Q : State → Prop) (A : Nat → Prop) (dC : Nat → ClassId) (dI : Nat → Nat → Nat) (a : Nat → Nat) (ac : Nat → ClassId) (g : (St × (St)) → Option (St × (St))) (r : St × (St)) : Prop := ∀ (s0 : St × (St)) (H : Heap) (locs : List Loc) (ls : Array Slot), g s0 = some r → va_P (dC, dI) vwCl (dw_X16 a ac s0) H → va_D A (dw_X16 a ac s0) → va_S A s.heap H locs → lv_has ls 5 [] → W p l e (headSpec ow_dm_X16_write ({ frames := 1, cells := 0, slots := 0, locals := 22 })).room s m args below meth c H locs 0 0 Q (F0 m 104 ls [.ref (a 0)])
def dj_X16_write_108 (p : Program) (l : Launch) (e : Env) (s : State) (m : MethodId) (args : Array Value) (below : List Frame) (meth : Method) (c : Code) (Q : State → Prop) (A : Nat → Prop) (dC : Nat → ClassId) (dI : Nat → Nat → Nat) (a : Nat → Nat) (ac : Nat → ClassId) (g : (St × (St)) → Option (St × (St))) (r : St × (St)) : Prop := ∀ (s0 : St × (St)) (H : Heap) (locs : List Loc) (ls : Array Slot), g s0 = some r → va_P (dC, dI) vwCl (dw_X16 a ac s0) H → va_D A (dw_X16 a ac s0) → va_S A s.heap H locs → lv_has ls 5 [] → W p l e (headSpec ow_dm_X16_write ({ frames := 1, cells := 0, slots := 0, locals := 22 })).room s m args below meth c H locs 0 0 Q (F0 m 108 ls [.ref (a 0)])
def dj_X16_write_80 (p : Program) (l : Launch) (e : Env) (s : State) (m : MethodId) (args : Array Value) (below : List Frame) (meth : Method) (c : Code) (Q : State → Prop) (A : Nat → Prop) (dC : Nat → ClassId) (dI : Nat → Nat → Nat) (a : Nat → Nat) (ac : Nat → ClassId) (g : Int32 → Int32 → (St × (St)) → Option (St × (St))) (r : St × (St)) : Prop := ∀ (x1 : Int32) (x2 : Int32) (s0 : St × (St)) (H : Heap) (locs : List Loc) (ls : Array Slot), g x1 x2 s0 = some r → va_P (dC, dI) vwCl (dw_X16 a ac s0) H → va_D A (dw_X16 a ac s0) → va_S A s.heap H locs → lv_has ls 5 [(0, .ref (a 0)), (1, .int x1), (2, .int x2)] → W p l e (headSpec ow_dm_X16_write ({ frames := 1, cells := 0, slots := 0, locals := 22 })).room s m args below meth c H locs 0 0 Q (F0 m 80 ls [])
def dj_X16_write_44 (p : Program) (l : Launch) (e : Env) (s : State) (m : MethodId) (args : Array Value) (below : List Frame) (meth : Method) (c : Code) (Q : State → Prop) (A : Nat → Prop) (dC : Nat → ClassId) (dI : Nat → Nat → Nat) (a : Nat → Nat) (ac : Nat → ClassId) (g : Int32 → Int32 → Int32 → (St × (St)) → Option (St × (St))) (r : St × (St)) : Prop := ∀ (x1 : Int32) (x2 : Int32) (x3 : Int32) (s0 : St × (St)) (H : Heap) (locs : List Loc) (ls : Array Slot), g x1 x2 x3 s0 = some r → va_P (dC, dI) vwCl (dw_X16 a ac s0) H → va_D A (dw_X16 a ac s0) → va_S A s.heap H locs → lv_has ls 5 [(0, .ref (a 0)), (1, .int x1), (2, .int x2), (3, .int x3)] → W p l e (headSpec ow_dm_X16_write ({ frames := 1, cells := 0, slots := 0, locals := 22 })).room s m args below meth c H locs 0 0 Q (F0 m 44 ls [])
def dj_X16_write_0 (p : Program) (l : Launch) (e : Env) (s : State) (m : MethodId) (args : Array Value) (below : List Frame) (meth : Method) (c : Code) (Q : State → Prop) (A : Nat → Prop) (dC : Nat → ClassId) (dI : Nat → Nat → Nat) (a : Nat → Nat) (ac : Nat → ClassId) (g : Int32 → Int32 → Int32 → (St × (St)) → Option (St × (St))) (r : St × (St)) : Prop := ∀ (v0 : Int32) (v1 : Int32) (v2 : Int32) (s0 : St × (St)) (H : Heap) (locs : List Loc) (ls : Array Slot), g v0 v1 v2 s0 = some r → va_P (dC, dI) vwCl (dw_X16 a ac s0) H → va_D A (dw_X16 a ac s0) → va_S A s.heap H locs → lv_has ls 5 [(0, .ref (a 0)), (1, .int v0), (2, .int v1), (3, .int v2)] → W p l e (headSpec ow_dm_X16_write ({ frames := 1, cells := 0, slots := 0, locals := 22 })).room s m args below meth c H locs 0 0 Q (F0 m 0 ls [])
set_option maxHeartbeats 40000000 in
set_option maxRecDepth 100000 in
theorem db_X16_write_109 {p : Program} {l : Launch} {e : Env} {s : State} {m : MethodId} {args : Array Value} {below : List Frame} {meth : Method} {c : Code} {Q : State → Prop} {A : Nat → Prop} {dC : Nat → ClassId} {dI : Nat → Nat → Nat} {a : Nat → Nat} {ac : Nat → ClassId} {n : Nat} {r : St × (St)} (C : nd_C p l s m args c A (dC, dI) cX16_write 5 RX16 ow_dm_X16_write (dk_X16 ac)) (K : nd_Kv p l e (headSpec ow_dm_X16_write ({ frames := 1, cells := 0, slots := 0, locals := 22 })).room s m args below meth c Q A (dC, dI) cX16_write (St × (St)) (dw_X16 a ac) r) : dj_X16_write_109 p l e s m args below meth c Q A dC dI a ac (df_X16_write_109 n) r := by
  obtain ⟨hlt, hx, hb, hml, hown, hts, hN, hA, hK⟩ := id C
  intro y1 s0 H locs ls h hP hD hS hl
  unfold df_X16_write_109 at h
  obtain ⟨n10, h⟩ := nd_f_e h
  obtain ⟨n11, h⟩ := nd_z_e ⟨_, rfl⟩ h
  refine va_put (D := (dC, dI)) (ci := 17) (v := .int y1) (ty := .boolean) (C := RX16) (T := TX16) (N := 56) hx hb hts hi_dm_X16_write_X16 tyX16 tyX16_ok nmX16 hown hK hP hD hS 0 rfl rfl 55 (by decide) (hts (.fieldLink RX16 222 "TimeMachineModel$Machine" "wrote" "Z") (List.mem_of_getElem? (i := 9) rfl)) (fun _ h9 => h9) rfl (by decide +kernel) n11 n10 (Nat.le_of_ble_eq_true rfl) dX16_write_109 (fun H locs hP hD hS => ?_)
  obtain ⟨s12, es12, h⟩ := nd_let_e h
  have hP : va_P (dC, dI) vwCl (dw_X16 a ac s12) H := by rw [es12]; exact hP
  have hD : va_D A (dw_X16 a ac s12) := by rw [es12]; exact hD
  exact K _ _ _ _ _ dX16_write_112 (Option.some.inj h).symm hP hD hS
set_option maxHeartbeats 40000000 in
set_option maxRecDepth 100000 in
theorem db_X16_write_104 {p : Program} {l : Launch} {e : Env} {s : State} {m : MethodId} {args : Array Value} {below : List Frame} {meth : Method} {c : Code} {Q : State → Prop} {A : Nat → Prop} {dC : Nat → ClassId} {dI : Nat → Nat → Nat} {a : Nat → Nat} {ac : Nat → ClassId} {n : Nat} {r : St × (St)} (C : nd_C p l s m args c A (dC, dI) cX16_write 5 RX16 ow_dm_X16_write (dk_X16 ac)) (K : nd_Kv p l e (headSpec ow_dm_X16_write ({ frames := 1, cells := 0, slots := 0, locals := 22 })).room s m args below meth c Q A (dC, dI) cX16_write (St × (St)) (dw_X16 a ac) r) : dj_X16_write_104 p l e s m args below meth c Q A dC dI a ac (df_X16_write_104 n) r := by
  obtain ⟨hlt, hx, hb, hml, hown, hts, hN, hA, hK⟩ := id C
  intro s0 H locs ls h hP hD hS hl
  unfold df_X16_write_104 at h
  refine lv_iconst (v := 1) hx hb dX16_write_104 (by decide) ?_
  refine lv_goto (tgt := 109) hx hb dX16_write_105 (by decide) ?_
  exact (db_X16_write_109 C K) (1) s0 _ _ _ h hP hD hS (lv_sub hl [] rfl)
set_option maxHeartbeats 40000000 in
set_option maxRecDepth 100000 in
theorem db_X16_write_108 {p : Program} {l : Launch} {e : Env} {s : State} {m : MethodId} {args : Array Value} {below : List Frame} {meth : Method} {c : Code} {Q : State → Prop} {A : Nat → Prop} {dC : Nat → ClassId} {dI : Nat → Nat → Nat} {a : Nat → Nat} {ac : Nat → ClassId} {n : Nat} {r : St × (St)} (C : nd_C p l s m args c A (dC, dI) cX16_write 5 RX16 ow_dm_X16_write (dk_X16 ac)) (K : nd_Kv p l e (headSpec ow_dm_X16_write ({ frames := 1, cells := 0, slots := 0, locals := 22 })).room s m args below meth c Q A (dC, dI) cX16_write (St × (St)) (dw_X16 a ac) r) : dj_X16_write_108 p l e s m args below meth c Q A dC dI a ac (df_X16_write_108 n) r := by
  obtain ⟨hlt, hx, hb, hml, hown, hts, hN, hA, hK⟩ := id C
  intro s0 H locs ls h hP hD hS hl
  unfold df_X16_write_108 at h
  refine lv_iconst (v := 0) hx hb dX16_write_108 (by decide) ?_
  exact (db_X16_write_109 C K) (0) s0 _ _ _ h hP hD hS (lv_sub hl [] rfl)
set_option maxHeartbeats 40000000 in
set_option maxRecDepth 100000 in
theorem db_X16_write_80 {p : Program} {l : Launch} {e : Env} {s : State} {m : MethodId} {args : Array Value} {below : List Frame} {meth : Method} {c : Code} {Q : State → Prop} {A : Nat → Prop} {dC : Nat → ClassId} {dI : Nat → Nat → Nat} {a : Nat → Nat} {ac : Nat → ClassId} {n : Nat} {r : St × (St)} (C : nd_C p l s m args c A (dC, dI) cX16_write 5 RX16 ow_dm_X16_write (dk_X16 ac)) (K : nd_Kv p l e (headSpec ow_dm_X16_write ({ frames := 1, cells := 0, slots := 0, locals := 22 })).room s m args below meth c Q A (dC, dI) cX16_write (St × (St)) (dw_X16 a ac) r) : dj_X16_write_80 p l e s m args below meth c Q A dC dI a ac (df_X16_write_80 n) r := by
  obtain ⟨hlt, hx, hb, hml, hown, hts, hN, hA, hK⟩ := id C
  intro x1 x2 s0 H locs ls h hP hD hS hl
  unfold df_X16_write_80 at h
  refine lv_aload_n hx hb dX16_write_80 rfl (lv_at hl 0 rfl) ?_
  refine lv_aload_n hx hb dX16_write_81 rfl (lv_at hl 0 rfl) ?_
  refine va_get (D := (dC, dI)) (ci := 17) (v := .int (sI s0.1 16)) (C := RX16) (T := TX16) (N := 56) hx hb hts hi_dm_X16_write_X16 hown hK hP 0 rfl rfl 55 (by decide) (hts (.fieldLink RX16 222 "TimeMachineModel$Machine" "wrote" "Z") (List.mem_of_getElem? (i := 9) rfl)) (fun _ h9 => h9) rfl dX16_write_82 ?_
  refine lv_if_ne (tgt := 104) hx hb dX16_write_85 (by decide) (fun c9 => ?_) (fun c9 => ?_)
  · have h := nd_neg h c9
    exact (db_X16_write_104 C K)  s0 _ _ _ h hP hD hS (lv_sub hl [] rfl)
  · have h := nd_pos h c9
    refine lv_iload_n hx hb dX16_write_88 rfl (lv_at hl 1 rfl) ?_
    refine lv_aload_n hx hb dX16_write_89 rfl (lv_at hl 0 rfl) ?_
    refine va_get (D := (dC, dI)) (ci := 17) (v := .int (sI s0.1 14)) (C := RX16) (T := TX16) (N := 56) hx hb hts hi_dm_X16_write_X16 hown hK hP 0 rfl rfl 53 (by decide) (hts (.fieldLink RX16 157 "TimeMachineModel$Machine" "watched" "I") (List.mem_of_getElem? (i := 10) rfl)) (fun _ h9 => h9) rfl dX16_write_90 ?_
    refine lv_icmp_ne (tgt := 108) hx hb dX16_write_93 (by decide) (fun c13 => ?_) (fun c13 => ?_)
    · have h := nd_neg h c13
      exact (db_X16_write_108 C K)  s0 _ _ _ h hP hD hS (lv_sub hl [] rfl)
    · have h := nd_pos h c13
      refine lv_iload_n hx hb dX16_write_96 rfl (lv_at hl 2 rfl) ?_
      refine lv_aload_n hx hb dX16_write_97 rfl (lv_at hl 0 rfl) ?_
      refine va_get (D := (dC, dI)) (ci := 17) (v := .int (sI s0.1 15)) (C := RX16) (T := TX16) (N := 56) hx hb hts hi_dm_X16_write_X16 hown hK hP 0 rfl rfl 54 (by decide) (hts (.fieldLink RX16 226 "TimeMachineModel$Machine" "watchedAt" "I") (List.mem_of_getElem? (i := 11) rfl)) (fun _ h9 => h9) rfl dX16_write_98 ?_
      refine lv_icmp_ne (tgt := 108) hx hb dX16_write_101 (by decide) (fun c14 => ?_) (fun c14 => ?_)
      · have h := nd_neg h c14
        exact (db_X16_write_108 C K)  s0 _ _ _ h hP hD hS (lv_sub hl [] rfl)
      · have h := nd_pos h c14
        exact (db_X16_write_104 C K)  s0 _ _ _ h hP hD hS (lv_sub hl [] rfl)
set_option maxHeartbeats 40000000 in
set_option maxRecDepth 100000 in
theorem db_X16_write_44 {p : Program} {l : Launch} {e : Env} {s : State} {m : MethodId} {args : Array Value} {below : List Frame} {meth : Method} {c : Code} {Q : State → Prop} {A : Nat → Prop} {dC : Nat → ClassId} {dI : Nat → Nat → Nat} {a : Nat → Nat} {ac : Nat → ClassId} {n : Nat} {r : St × (St)} (C : nd_C p l s m args c A (dC, dI) cX16_write 5 RX16 ow_dm_X16_write (dk_X16 ac)) (K : nd_Kv p l e (headSpec ow_dm_X16_write ({ frames := 1, cells := 0, slots := 0, locals := 22 })).room s m args below meth c Q A (dC, dI) cX16_write (St × (St)) (dw_X16 a ac) r) : dj_X16_write_44 p l e s m args below meth c Q A dC dI a ac (df_X16_write_44 n) r := by
  obtain ⟨hlt, hx, hb, hml, hown, hts, hN, hA, hK⟩ := id C
  intro x1 x2 x3 s0 H locs ls h hP hD hS hl
  unfold df_X16_write_44 at h
  refine lv_aload_n hx hb dX16_write_44 rfl (lv_at hl 0 rfl) ?_
  refine lv_ldc hx hb hown (hts (.constant RX16 186 (65536)) (List.mem_of_getElem? (i := 3) rfl)) dX16_write_45 ?_
  refine lv_iload_n hx hb dX16_write_47 rfl (lv_at hl 1 rfl) ?_
  refine lv_imul hx hb dX16_write_48 ?_
  refine lv_iload_n hx hb dX16_write_49 rfl (lv_at hl 2 rfl) ?_
  refine lv_iadd hx hb dX16_write_50 ?_
  refine lv_iload_n hx hb dX16_write_51 rfl (lv_at hl 3 rfl) ?_
  obtain ⟨s6, hq, h⟩ := nd_b1_e h
  have hPc := hP
  have hDc := hD
  have hKc := hK
  have hFc := nd_rs hD hS hA
  refine nd_cVv (As := [.int ((65536 * x1) + x2), .int x3]) (rest := []) (w' := dw_X16 a ac s6) ⟨hx, hb, hml, hown, hts⟩ (fun sz => dm_X16_put l hlt dC dI a ac n (((65536 * x1) + x2)) (x3) s0 hq sz) (cwV 2 hts gi_dm_X16_write_0 rfl rfl rfl (by decide +kernel) ⟨Nat.le_of_ble_eq_true rfl, Nat.le_of_ble_eq_true rfl⟩) hPc hDc hKc hS hA hN (va_recv hKc hPc (ci := 17) (q0 := 0) rfl rfl) rfl hl.1 rfl (Nat.le_of_ble_eq_true rfl) dX16_write_52 (fun H locs hP1 hD1 hk1 hS => ?_)
  have hP := hP1
  have hD := hD1.weaken (fun k q _ h => hFc q.1 h)
  refine lv_aload_n hx hb dX16_write_55 rfl (lv_at hl 0 rfl) ?_
  refine va_get (D := (dC, dI)) (ci := 17) (v := .int (sI s6.1 4)) (C := RX16) (T := TX16) (N := 56) hx hb hts hi_dm_X16_write_X16 hown hK hP 0 rfl rfl 5 (by decide) (hts (.fieldLink RX16 135 "TimeMachineModel$Machine" "reserved" "I") (List.mem_of_getElem? (i := 8) rfl)) (fun _ h9 => h9) rfl dX16_write_56 ?_
  refine lv_iconst (v := (-1)) hx hb dX16_write_59 (by decide) ?_
  refine lv_icmp_eq (tgt := 80) hx hb dX16_write_60 (by decide) (fun c8 => ?_) (fun c8 => ?_)
  · have h := nd_pos h c8
    exact (db_X16_write_80 C K) (x1) (x2) s6 _ _ _ h hP hD hS (lv_sub hl [0, 1, 2] rfl)
  · have h := nd_neg h c8
    refine lv_iload_n hx hb dX16_write_63 rfl (lv_at hl 2 rfl) ?_
    refine lv_iconst (v := 4) hx hb dX16_write_64 (by decide) ?_
    refine lv_idiv hx hb dX16_write_65 (by decide) ?_
    refine lv_aload_n hx hb dX16_write_66 rfl (lv_at hl 0 rfl) ?_
    refine va_get (D := (dC, dI)) (ci := 17) (v := .int (sI s6.1 4)) (C := RX16) (T := TX16) (N := 56) hx hb hts hi_dm_X16_write_X16 hown hK hP 0 rfl rfl 5 (by decide) (hts (.fieldLink RX16 135 "TimeMachineModel$Machine" "reserved" "I") (List.mem_of_getElem? (i := 8) rfl)) (fun _ h9 => h9) rfl dX16_write_67 ?_
    refine lv_iconst (v := 4) hx hb dX16_write_70 (by decide) ?_
    refine lv_idiv hx hb dX16_write_71 (by decide) ?_
    refine lv_icmp_ne (tgt := 80) hx hb dX16_write_72 (by decide) (fun c15 => ?_) (fun c15 => ?_)
    · have h := nd_neg h c15
      exact (db_X16_write_80 C K) (x1) (x2) s6 _ _ _ h hP hD hS (lv_sub hl [0, 1, 2] rfl)
    · have h := nd_pos h c15
      refine lv_aload_n hx hb dX16_write_75 rfl (lv_at hl 0 rfl) ?_
      refine lv_iconst (v := (-1)) hx hb dX16_write_76 (by decide) ?_
      refine va_put (D := (dC, dI)) (ci := 17) (v := .int (-1)) (ty := .int) (C := RX16) (T := TX16) (N := 56) hx hb hts hi_dm_X16_write_X16 tyX16 tyX16_ok nmX16 hown hK hP hD hS 0 rfl rfl 5 (by decide) (hts (.fieldLink RX16 135 "TimeMachineModel$Machine" "reserved" "I") (List.mem_of_getElem? (i := 8) rfl)) (fun _ h9 => h9) rfl (by decide +kernel) rfl rfl (Nat.le_of_ble_eq_true rfl) dX16_write_77 (fun H locs hP hD hS => ?_)
      obtain ⟨s16, es16, h⟩ := nd_let_e h
      have hP : va_P (dC, dI) vwCl (dw_X16 a ac s16) H := by rw [es16]; exact hP
      have hD : va_D A (dw_X16 a ac s16) := by rw [es16]; exact hD
      exact (db_X16_write_80 C K) (x1) (x2) s16 _ _ _ h hP hD hS (lv_sub hl [0, 1, 2] rfl)
set_option maxHeartbeats 40000000 in
set_option maxRecDepth 100000 in
theorem db_X16_write_0 {p : Program} {l : Launch} {e : Env} {s : State} {m : MethodId} {args : Array Value} {below : List Frame} {meth : Method} {c : Code} {Q : State → Prop} {A : Nat → Prop} {dC : Nat → ClassId} {dI : Nat → Nat → Nat} {a : Nat → Nat} {ac : Nat → ClassId} {n : Nat} {r : St × (St)} (C : nd_C p l s m args c A (dC, dI) cX16_write 5 RX16 ow_dm_X16_write (dk_X16 ac)) (K : nd_Kv p l e (headSpec ow_dm_X16_write ({ frames := 1, cells := 0, slots := 0, locals := 22 })).room s m args below meth c Q A (dC, dI) cX16_write (St × (St)) (dw_X16 a ac) r) : dj_X16_write_0 p l e s m args below meth c Q A dC dI a ac (df_X16_write_0 n) r := by
  obtain ⟨hlt, hx, hb, hml, hown, hts, hN, hA, hK⟩ := id C
  intro v0 v1 v2 s0 H locs ls h hP hD hS hl
  unfold df_X16_write_0 at h
  refine lv_bipush (v := 64) hx hb dX16_write_0 (by decide) ?_
  refine lv_iload_n hx hb dX16_write_2 rfl (lv_at hl 1 rfl) ?_
  refine lv_imul hx hb dX16_write_3 ?_
  refine lv_iload_n hx hb dX16_write_4 rfl (lv_at hl 2 rfl) ?_
  refine lv_sipush (v := 1024) hx hb dX16_write_5 (by decide) ?_
  refine lv_idiv hx hb dX16_write_8 (by decide) ?_
  refine lv_iadd hx hb dX16_write_9 ?_
  refine lv_topi (fun z1 ez1 => ?_)
  have h := nd_at h ez1
  refine lv_istore (lv' := [(4, .int z1), (0, .ref (a 0)), (1, .int v0), (2, .int v1), (3, .int v2)]) hx hb dX16_write_10 hl (by decide) rfl (fun ls hl => ?_)
  refine lv_aload_n hx hb dX16_write_12 rfl (lv_at hl 1 rfl) ?_
  refine va_get (D := (dC, dI)) (ci := 17) (v := .ref (a 20)) (C := RX16) (T := TX16) (N := 56) hx hb hts hi_dm_X16_write_X16 hown hK hP 0 rfl rfl 28 (by decide) (hts (.fieldLink RX16 70 "TimeMachineModel$Machine" "holders" "[I") (List.mem_of_getElem? (i := 1) rfl)) (fun _ h9 => h9) rfl dX16_write_13 ?_
  refine lv_aload_n hx hb dX16_write_16 rfl (lv_at hl 1 rfl) ?_
  refine va_get (D := (dC, dI)) (ci := 17) (v := .ref (a 18)) (C := RX16) (T := TX16) (N := 56) hx hb hts hi_dm_X16_write_X16 hown hK hP 0 rfl rfl 26 (by decide) (hts (.fieldLink RX16 64 "TimeMachineModel$Machine" "frame" "[I") (List.mem_of_getElem? (i := 2) rfl)) (fun _ h9 => h9) rfl dX16_write_17 ?_
  refine lv_iload hx hb dX16_write_20 (lv_at hl 0 rfl) ?_
  obtain ⟨i2, h⟩ := nd_ck_e h
  refine va_iald (i := z1) hx hb hK hP 18 17 rfl rfl i2 dX16_write_22 ?_
  obtain ⟨i3, h⟩ := nd_ck_e h
  refine va_iald (i := (sR s0.1 16 (Int32.toNatClampNeg z1))) hx hb hK hP 20 19 rfl rfl i3 dX16_write_23 ?_
  refine lv_iconst (v := 1) hx hb dX16_write_24 (by decide) ?_
  refine lv_icmp_le (tgt := 44) hx hb dX16_write_25 (by decide) (fun c4 => ?_) (fun c4 => ?_)
  · have h := nd_pos h c4
    exact (db_X16_write_44 C K) (v0) (v1) (v2) s0 _ _ _ h hP hD hS (lv_sub hl [1, 2, 3, 4] rfl)
  · have h := nd_neg h c4
    refine lv_aload_n hx hb dX16_write_28 rfl (lv_at hl 1 rfl) ?_
    refine lv_iload hx hb dX16_write_29 (lv_at hl 0 rfl) ?_
    obtain ⟨s18, hq, h⟩ := nd_b1_e h
    have hPc := hP
    have hDc := hD
    have hKc := hK
    have hFc := nd_rs hD hS hA
    refine nd_cVv (As := [.int z1]) (rest := []) (w' := dw_X16 a ac s18) ⟨hx, hb, hml, hown, hts⟩ (fun sz => dm_X16_leave l hlt dC dI a ac n (z1) s0 hq sz) (cwV 1 hts gi_dm_X16_write_1 rfl rfl rfl (by decide +kernel) ⟨Nat.le_of_ble_eq_true rfl, Nat.le_of_ble_eq_true rfl⟩) hPc hDc hKc hS hA hN (va_recv hKc hPc (ci := 17) (q0 := 0) rfl rfl) rfl hl.1 rfl (Nat.le_of_ble_eq_true rfl) dX16_write_31 (fun H locs hP1 hD1 hk1 hS => ?_)
    have hP := hP1
    have hD := hD1.weaken (fun k q _ h => hFc q.1 h)
    refine lv_aload_n hx hb dX16_write_34 rfl (lv_at hl 1 rfl) ?_
    refine lv_iload hx hb dX16_write_35 (lv_at hl 0 rfl) ?_
    refine lv_aload_n hx hb dX16_write_37 rfl (lv_at hl 1 rfl) ?_
    obtain ⟨q20, s21, hq, h⟩ := nd_b2_e h
    have hPc := hP
    have hDc := hD
    have hKc := hK
    have hFc := nd_rs hD hS hA
    refine nd_cVi (As := []) (rest := [.int z1, .ref (a 0)]) (q := q20) (w' := dw_X16 a ac s21) ⟨hx, hb, hml, hown, hts⟩ (fun sz => dm_X16_freeFrame l hlt dC dI a ac n  s18 hq sz) (cwV 0 hts gi_dm_X16_write_2 rfl rfl rfl (by decide +kernel) ⟨Nat.le_of_ble_eq_true rfl, Nat.le_of_ble_eq_true rfl⟩) hPc hDc hKc hS hA hN (va_recv hKc hPc (ci := 17) (q0 := 0) rfl rfl) rfl hl.1 rfl (Nat.le_of_ble_eq_true rfl) dX16_write_38 (fun H locs hP1 hD1 hk1 hS => ?_)
    have hP := hP1
    have hD := hD1.weaken (fun k q _ h => hFc q.1 h)
    obtain ⟨s24, hq, h⟩ := nd_b1_e h
    have hPc := hP
    have hDc := hD
    have hKc := hK
    have hFc := nd_rs hD hS hA
    refine nd_cVv (As := [.int z1, .int q20]) (rest := []) (w' := dw_X16 a ac s24) ⟨hx, hb, hml, hown, hts⟩ (fun sz => dm_X16_stand l hlt dC dI a ac n (z1) (q20) s21 hq sz) (cwV 2 hts gi_dm_X16_write_3 rfl rfl rfl (by decide +kernel) ⟨Nat.le_of_ble_eq_true rfl, Nat.le_of_ble_eq_true rfl⟩) hPc hDc hKc hS hA hN (va_recv hKc hPc (ci := 17) (q0 := 0) rfl rfl) rfl hl.1 rfl (Nat.le_of_ble_eq_true rfl) dX16_write_41 (fun H locs hP1 hD1 hk1 hS => ?_)
    have hP := hP1
    have hD := hD1.weaken (fun k q _ h => hFc q.1 h)
    exact (db_X16_write_44 C K) (v0) (v1) (v2) s24 _ _ _ h hP hD hS (lv_sub hl [1, 2, 3, 4] rfl)
set_option maxHeartbeats 40000000 in
set_option maxRecDepth 100000 in
theorem dm_X16_write (l : Launch) (hlt : l.stackTraces = false) (dC : Nat → ClassId) (dI : Nat → Nat → Nat) (a : Nat → Nat) (ac : Nat → ClassId) (n : Nat) (v0 : Int32) (v1 : Int32) (v2 : Int32) (s0 : St × (St)) {r : St × (St)} (h : df_X16_write n v0 v1 v2 s0 = some r) (sz : Nat) : Met l yX16_write ow_dm_X16_write ({ frames := 1, cells := 0, slots := 0, locals := 22 }) (va_Pc [.ref (a 0), .int v0, .int v1, .int v2] (fun U => U.heap.size = sz ∧ va_P (dC, dI) vwCl (dw_X16 a ac s0) U.heap ∧ va_K (dC, dI) vwCl (dk_X16 ac) U ∧ va_D (fun _ => True) (dw_X16 a ac s0) ∧ nv_E dI (va_A (dw_X16 a ac s0) sz) U)) (va_Qv (fun _ => True) (fun (_ : Unit) t => va_P (dC, dI) vwCl (dw_X16 a ac r) t.heap ∧ va_K (dC, dI) vwCl (dk_X16 ac) t ∧ va_D (va_A (dw_X16 a ac s0) sz) (dw_X16 a ac r)) (va_A (dw_X16 a ac s0) sz)) 0 0 (va_A (dw_X16 a ac s0) sz) := by
  refine Met.ofW (cc := cX16_write) (maxL := 5) (ret := none) (by decide) rfl ?_
  intro p e s m args below meth c s₁ B hml hv
  obtain ⟨rfl, hsz, hP, hK, hD0, hN⟩ := hv
  have hx := B.exec
  have hb := B.bytes
  have hr := B.returns
  have hts := atoms_spec (ws := ow_dm_X16_write) B.pre
  have hown : s.vm.findClass RX16 = some m.cls := findClass_of_methodNamed B.named
  have hlocks := B.notSynchronized
  subst hsz
  have hD := hD0.self (sz := s.heap.size)
  generalize hAe : va_A (dw_X16 a ac s0) s.heap.size = A at hD hN ⊢
  have hA : ∀ q : Nat, s.heap.size ≤ q → A q := fun q h => by rw [← hAe]; exact Or.inr h
  have hl := lv_entry ([.ref (a 0), .int v0, .int v1, .int v2]) (n := 5) (Nat.le_of_ble_eq_true rfl)
  rw [lg_entry_eq]
  generalize (lg_sl ([.ref (a 0), .int v0, .int v1, .int v2]) ++ List.replicate (5 - (lg_sl ([.ref (a 0), .int v0, .int v1, .int v2])).length) Slot.unset).toArray = ls at hl ⊢
  have hl : lv_has ls 5 [(0, .ref (a 0)), (1, .int v0), (2, .int v1), (3, .int v2)] := hl
  exact db_X16_write_0 (dC := dC) (dI := dI) (a := a) (ac := ac) (n := n) (r := r) ⟨hlt, hx, hb, hml, hown, hts, hN, hA, hK⟩ (fun pc τ H locs ls d er hP hD hS => by subst er; exact W.vret hx hb hr (fun t ht hW => ⟨⟨(), rfl, trivial, by rw [ht]; exact hP, va_K.moved hW.alike hK, hD⟩, hS.F ht⟩) hS.2.2 d) v0 v1 v2 s0 _ _ _ h hP hD va_S.rf (lv_sub hl [0, 1, 2, 3] rfl)
def ow_dm_X16_get : List Cond := Cond.code yX16_get cX16_get 2 (some .int) :: ([Cond.fieldLink RX16 61 "TimeMachineModel$Machine" "bytes" "[I"] ++ (u_ws RX16 TX16 56 ++ []))
theorem gd_dm_X16_get : ∀ w ∈ ow_dm_X16_get, (w.onTables && w.keeps) = true ∨ ∃ ty, w = Cond.arrayClass ty := List.forall_mem_cons.mpr ⟨good_of_word rfl, List.forall_mem_append.mpr ⟨fun w h => good_of_word (List.all_eq_true.mp (by decide +kernel) w h), List.forall_mem_append.mpr ⟨gu_X16, fun _ h => nomatch h⟩⟩⟩
theorem hi_dm_X16_get_X16 : ∀ w ∈ u_ws RX16 TX16 56, w ∈ ow_dm_X16_get := fun w h => List.mem_cons_of_mem _ (List.mem_append_right _ (List.mem_append_left _ h))
def dj_X16_get_0 (p : Program) (l : Launch) (e : Env) (s : State) (m : MethodId) (args : Array Value) (below : List Frame) (meth : Method) (c : Code) (Q : State → Prop) (A : Nat → Prop) (dC : Nat → ClassId) (dI : Nat → Nat → Nat) (a : Nat → Nat) (ac : Nat → ClassId) (g : Int32 → (St × (St)) → Option (Int32 × (St × (St)))) (r : Int32 × (St × (St))) : Prop := ∀ (v0 : Int32) (s0 : St × (St)) (H : Heap) (locs : List Loc) (ls : Array Slot), g v0 s0 = some r → va_P (dC, dI) vwCl (dw_X16 a ac s0) H → va_D A (dw_X16 a ac s0) → va_S A s.heap H locs → lv_has ls 2 [(0, .ref (a 0)), (1, .int v0)] → W p l e (headSpec ow_dm_X16_get ({ frames := 0, cells := 0, slots := 0, locals := 0 })).room s m args below meth c H locs 0 0 Q (F0 m 0 ls [])
set_option maxHeartbeats 40000000 in
set_option maxRecDepth 100000 in
theorem db_X16_get_0 {p : Program} {l : Launch} {e : Env} {s : State} {m : MethodId} {args : Array Value} {below : List Frame} {meth : Method} {c : Code} {Q : State → Prop} {A : Nat → Prop} {dC : Nat → ClassId} {dI : Nat → Nat → Nat} {a : Nat → Nat} {ac : Nat → ClassId} {n : Nat} {r : Int32 × (St × (St))} (C : nd_C p l s m args c A (dC, dI) cX16_get 2 RX16 ow_dm_X16_get (dk_X16 ac)) (K : nd_Ki p l e (headSpec ow_dm_X16_get ({ frames := 0, cells := 0, slots := 0, locals := 0 })).room s m args below meth c Q A (dC, dI) cX16_get .int (St × (St)) (dw_X16 a ac) r) : dj_X16_get_0 p l e s m args below meth c Q A dC dI a ac (df_X16_get_0 n) r := by
  obtain ⟨hlt, hx, hb, hml, hown, hts, hN, hA, hK⟩ := id C
  intro v0 s0 H locs ls h hP hD hS hl
  unfold df_X16_get_0 at h
  refine lv_aload_n hx hb dX16_get_0 rfl (lv_at hl 0 rfl) ?_
  refine va_get (D := (dC, dI)) (ci := 17) (v := .ref (a 17)) (C := RX16) (T := TX16) (N := 56) hx hb hts hi_dm_X16_get_X16 hown hK hP 0 rfl rfl 25 (by decide) (hts (.fieldLink RX16 61 "TimeMachineModel$Machine" "bytes" "[I") (List.mem_of_getElem? (i := 1) rfl)) (fun _ h9 => h9) rfl dX16_get_1 ?_
  refine lv_iload_n hx hb dX16_get_4 rfl (lv_at hl 1 rfl) ?_
  refine lv_iconst (v := 2) hx hb dX16_get_5 (by decide) ?_
  refine lv_ishr hx hb dX16_get_6 ?_
  obtain ⟨i1, h⟩ := nd_ck_e h
  refine va_iald (i := ((v0 : Int32) >>> ((2 : Int32) &&& 31))) hx hb hK hP 17 16 rfl rfl i1 dX16_get_7 ?_
  refine lv_bipush (v := 8) hx hb dX16_get_8 (by decide) ?_
  refine lv_iload_n hx hb dX16_get_10 rfl (lv_at hl 1 rfl) ?_
  refine lv_iconst (v := 3) hx hb dX16_get_11 (by decide) ?_
  refine lv_iand hx hb dX16_get_12 ?_
  refine lv_imul hx hb dX16_get_13 ?_
  refine lv_iushr hx hb dX16_get_14 rfl ?_
  refine lv_sipush (v := 255) hx hb dX16_get_15 (by decide) ?_
  refine lv_iand hx hb dX16_get_18 ?_
  exact K _ _ _ _ _ _ dX16_get_19 rfl (Option.some.inj h).symm hP hD hS
set_option maxHeartbeats 40000000 in
set_option maxRecDepth 100000 in
theorem dm_X16_get (l : Launch) (hlt : l.stackTraces = false) (dC : Nat → ClassId) (dI : Nat → Nat → Nat) (a : Nat → Nat) (ac : Nat → ClassId) (n : Nat) (v0 : Int32) (s0 : St × (St)) {r : Int32 × (St × (St))} (h : df_X16_get n v0 s0 = some r) (sz : Nat) : Met l yX16_get ow_dm_X16_get ({ frames := 0, cells := 0, slots := 0, locals := 0 }) (va_Pc [.ref (a 0), .int v0] (fun U => U.heap.size = sz ∧ va_P (dC, dI) vwCl (dw_X16 a ac s0) U.heap ∧ va_K (dC, dI) vwCl (dk_X16 ac) U ∧ va_D (fun _ => True) (dw_X16 a ac s0) ∧ nv_E dI (va_A (dw_X16 a ac s0) sz) U)) (va_Qi (fun x _ => x = r.1) (fun (_ : Unit) t => va_P (dC, dI) vwCl (dw_X16 a ac r.2) t.heap ∧ va_K (dC, dI) vwCl (dk_X16 ac) t ∧ va_D (va_A (dw_X16 a ac s0) sz) (dw_X16 a ac r.2)) (va_A (dw_X16 a ac s0) sz)) 0 0 (va_A (dw_X16 a ac s0) sz) := by
  refine Met.ofW (cc := cX16_get) (maxL := 2) (ret := (some .int)) (by decide) rfl ?_
  intro p e s m args below meth c s₁ B hml hv
  obtain ⟨rfl, hsz, hP, hK, hD0, hN⟩ := hv
  have hx := B.exec
  have hb := B.bytes
  have hr := B.returns
  have hts := atoms_spec (ws := ow_dm_X16_get) B.pre
  have hown : s.vm.findClass RX16 = some m.cls := findClass_of_methodNamed B.named
  have hlocks := B.notSynchronized
  subst hsz
  have hD := hD0.self (sz := s.heap.size)
  generalize hAe : va_A (dw_X16 a ac s0) s.heap.size = A at hD hN ⊢
  have hA : ∀ q : Nat, s.heap.size ≤ q → A q := fun q h => by rw [← hAe]; exact Or.inr h
  have hl := lv_entry ([.ref (a 0), .int v0]) (n := 2) (Nat.le_of_ble_eq_true rfl)
  rw [lg_entry_eq]
  generalize (lg_sl ([.ref (a 0), .int v0]) ++ List.replicate (2 - (lg_sl ([.ref (a 0), .int v0])).length) Slot.unset).toArray = ls at hl ⊢
  have hl : lv_has ls 2 [(0, .ref (a 0)), (1, .int v0)] := hl
  exact db_X16_get_0 (dC := dC) (dI := dI) (a := a) (ac := ac) (n := n) (r := r) ⟨hlt, hx, hb, hml, hown, hts, hN, hA, hK⟩ (fun pc v τ H locs ls d z er hP hD hS => by subst er; exact W.zret (v := v) hx hb hr z (fun t ht hW => ⟨⟨v, (), rfl, rfl, by rw [ht]; exact hP, va_K.moved hW.alike hK, hD⟩, hS.F ht⟩) hS.2.2 d) v0 s0 _ _ _ h hP hD va_S.rf (lv_sub hl [0, 1] rfl)
def ow_dm_X16_peek : List Cond := Cond.code yX16_peek cX16_peek 3 (some .int) :: ([Cond.methodLink RX16 214 yX16_isThere, Cond.instanceMethod yX16_isThere, Cond.selects RX16 yX16_isThere yX16_isThere, Cond.initialized RX16, Cond.constant RX16 186 (65536), Cond.methodLink RX16 229 yX16_get, Cond.instanceMethod yX16_get, Cond.selects RX16 yX16_get yX16_get] ++ (ow_dm_X16_isThere ++ (ow_dm_X16_get ++ [])))
theorem gd_dm_X16_peek : ∀ w ∈ ow_dm_X16_peek, (w.onTables && w.keeps) = true ∨ ∃ ty, w = Cond.arrayClass ty := List.forall_mem_cons.mpr ⟨good_of_word rfl, List.forall_mem_append.mpr ⟨fun w h => good_of_word (List.all_eq_true.mp (by decide +kernel) w h), List.forall_mem_append.mpr ⟨gd_dm_X16_isThere, List.forall_mem_append.mpr ⟨gd_dm_X16_get, fun _ h => nomatch h⟩⟩⟩⟩
theorem gi_dm_X16_peek_0 : GoodIn ow_dm_X16_peek (wsV RX16 214 RX16 yX16_isThere ow_dm_X16_isThere) := goodIn_app (goodIn_of _ (by decide +kernel)) (fun w h => ⟨List.mem_cons_of_mem _ (List.mem_append_right _ (List.mem_append_left _ h)), gd_dm_X16_isThere w h⟩)
theorem gi_dm_X16_peek_1 : GoodIn ow_dm_X16_peek (wsV RX16 229 RX16 yX16_get ow_dm_X16_get) := goodIn_app (goodIn_of _ (by decide +kernel)) (fun w h => ⟨List.mem_cons_of_mem _ (List.mem_append_right _ (List.mem_append_right _ (List.mem_append_left _ h))), gd_dm_X16_get w h⟩)
def dj_X16_peek_23 (p : Program) (l : Launch) (e : Env) (s : State) (m : MethodId) (args : Array Value) (below : List Frame) (meth : Method) (c : Code) (Q : State → Prop) (A : Nat → Prop) (dC : Nat → ClassId) (dI : Nat → Nat → Nat) (a : Nat → Nat) (ac : Nat → ClassId) (g : Int32 → (St × (St)) → Option (Int32 × (St × (St)))) (r : Int32 × (St × (St))) : Prop := ∀ (y0 : Int32) (s0 : St × (St)) (H : Heap) (locs : List Loc) (ls : Array Slot), g y0 s0 = some r → va_P (dC, dI) vwCl (dw_X16 a ac s0) H → va_D A (dw_X16 a ac s0) → va_S A s.heap H locs → lv_has ls 3 [] → W p l e (headSpec ow_dm_X16_peek ({ frames := 1, cells := 0, slots := 0, locals := 22 })).room s m args below meth c H locs 0 0 Q (F0 m 23 ls [.int y0])
def dj_X16_peek_0 (p : Program) (l : Launch) (e : Env) (s : State) (m : MethodId) (args : Array Value) (below : List Frame) (meth : Method) (c : Code) (Q : State → Prop) (A : Nat → Prop) (dC : Nat → ClassId) (dI : Nat → Nat → Nat) (a : Nat → Nat) (ac : Nat → ClassId) (g : Int32 → Int32 → (St × (St)) → Option (Int32 × (St × (St)))) (r : Int32 × (St × (St))) : Prop := ∀ (v0 : Int32) (v1 : Int32) (s0 : St × (St)) (H : Heap) (locs : List Loc) (ls : Array Slot), g v0 v1 s0 = some r → va_P (dC, dI) vwCl (dw_X16 a ac s0) H → va_D A (dw_X16 a ac s0) → va_S A s.heap H locs → lv_has ls 3 [(0, .ref (a 0)), (1, .int v0), (2, .int v1)] → W p l e (headSpec ow_dm_X16_peek ({ frames := 1, cells := 0, slots := 0, locals := 22 })).room s m args below meth c H locs 0 0 Q (F0 m 0 ls [])
set_option maxHeartbeats 40000000 in
set_option maxRecDepth 100000 in
theorem db_X16_peek_23 {p : Program} {l : Launch} {e : Env} {s : State} {m : MethodId} {args : Array Value} {below : List Frame} {meth : Method} {c : Code} {Q : State → Prop} {A : Nat → Prop} {dC : Nat → ClassId} {dI : Nat → Nat → Nat} {a : Nat → Nat} {ac : Nat → ClassId} {n : Nat} {r : Int32 × (St × (St))} (C : nd_C p l s m args c A (dC, dI) cX16_peek 3 RX16 ow_dm_X16_peek (dk_X16 ac)) (K : nd_Ki p l e (headSpec ow_dm_X16_peek ({ frames := 1, cells := 0, slots := 0, locals := 22 })).room s m args below meth c Q A (dC, dI) cX16_peek .int (St × (St)) (dw_X16 a ac) r) : dj_X16_peek_23 p l e s m args below meth c Q A dC dI a ac (df_X16_peek_23 n) r := by
  obtain ⟨hlt, hx, hb, hml, hown, hts, hN, hA, hK⟩ := id C
  intro y0 s0 H locs ls h hP hD hS hl
  unfold df_X16_peek_23 at h
  exact K _ _ _ _ _ _ dX16_peek_23 rfl (Option.some.inj h).symm hP hD hS
set_option maxHeartbeats 40000000 in
set_option maxRecDepth 100000 in
theorem db_X16_peek_0 {p : Program} {l : Launch} {e : Env} {s : State} {m : MethodId} {args : Array Value} {below : List Frame} {meth : Method} {c : Code} {Q : State → Prop} {A : Nat → Prop} {dC : Nat → ClassId} {dI : Nat → Nat → Nat} {a : Nat → Nat} {ac : Nat → ClassId} {n : Nat} {r : Int32 × (St × (St))} (C : nd_C p l s m args c A (dC, dI) cX16_peek 3 RX16 ow_dm_X16_peek (dk_X16 ac)) (K : nd_Ki p l e (headSpec ow_dm_X16_peek ({ frames := 1, cells := 0, slots := 0, locals := 22 })).room s m args below meth c Q A (dC, dI) cX16_peek .int (St × (St)) (dw_X16 a ac) r) : dj_X16_peek_0 p l e s m args below meth c Q A dC dI a ac (df_X16_peek_0 n) r := by
  obtain ⟨hlt, hx, hb, hml, hown, hts, hN, hA, hK⟩ := id C
  intro v0 v1 s0 H locs ls h hP hD hS hl
  unfold df_X16_peek_0 at h
  refine lv_aload_n hx hb dX16_peek_0 rfl (lv_at hl 0 rfl) ?_
  refine lv_iload_n hx hb dX16_peek_1 rfl (lv_at hl 1 rfl) ?_
  refine lv_iload_n hx hb dX16_peek_2 rfl (lv_at hl 2 rfl) ?_
  obtain ⟨q1, s2, hq, h⟩ := nd_b2_e h
  have hPc := hP
  have hDc := hD
  have hKc := hK
  have hFc := nd_rs hD hS hA
  refine nd_cVi (As := [.int v0, .int v1]) (rest := []) (q := q1) (w' := dw_X16 a ac s2) ⟨hx, hb, hml, hown, hts⟩ (fun sz => dm_X16_isThere l hlt dC dI a ac n (v0) (v1) s0 hq sz) (cwV 2 hts gi_dm_X16_peek_0 rfl rfl rfl (by decide +kernel) ⟨Nat.le_of_ble_eq_true rfl, Nat.le_of_ble_eq_true rfl⟩) hPc hDc hKc hS hA hN (va_recv hKc hPc (ci := 17) (q0 := 0) rfl rfl) rfl hl.1 rfl (Nat.le_of_ble_eq_true rfl) dX16_peek_3 (fun H locs hP1 hD1 hk1 hS => ?_)
  have hP := hP1
  have hD := hD1.weaken (fun k q _ h => hFc q.1 h)
  refine lv_if_eq (tgt := 22) hx hb dX16_peek_6 (by decide) (fun c4 => ?_) (fun c4 => ?_)
  · have h := nd_pos h c4
    refine lv_iconst (v := (-1)) hx hb dX16_peek_22 (by decide) ?_
    exact (db_X16_peek_23 C K) ((-1)) s2 _ _ _ h hP hD hS (lv_sub hl [] rfl)
  · have h := nd_neg h c4
    refine lv_aload_n hx hb dX16_peek_9 rfl (lv_at hl 0 rfl) ?_
    refine lv_ldc hx hb hown (hts (.constant RX16 186 (65536)) (List.mem_of_getElem? (i := 5) rfl)) dX16_peek_10 ?_
    refine lv_iload_n hx hb dX16_peek_12 rfl (lv_at hl 1 rfl) ?_
    refine lv_imul hx hb dX16_peek_13 ?_
    refine lv_iload_n hx hb dX16_peek_14 rfl (lv_at hl 2 rfl) ?_
    refine lv_iadd hx hb dX16_peek_15 ?_
    obtain ⟨q5, s6, hq, h⟩ := nd_b2_e h
    have hPc := hP
    have hDc := hD
    have hKc := hK
    have hFc := nd_rs hD hS hA
    refine nd_cVi (As := [.int ((65536 * v0) + v1)]) (rest := []) (q := q5) (w' := dw_X16 a ac s6) ⟨hx, hb, hml, hown, hts⟩ (fun sz => dm_X16_get l hlt dC dI a ac n (((65536 * v0) + v1)) s2 hq sz) (cwV 1 hts gi_dm_X16_peek_1 rfl rfl rfl (by decide +kernel) ⟨Nat.le_of_ble_eq_true rfl, Nat.le_of_ble_eq_true rfl⟩) hPc hDc hKc hS hA hN (va_recv hKc hPc (ci := 17) (q0 := 0) rfl rfl) rfl hl.1 rfl (Nat.le_of_ble_eq_true rfl) dX16_peek_16 (fun H locs hP1 hD1 hk1 hS => ?_)
    have hP := hP1
    have hD := hD1.weaken (fun k q _ h => hFc q.1 h)
    refine lv_goto (tgt := 23) hx hb dX16_peek_19 (by decide) ?_
    exact (db_X16_peek_23 C K) (q5) s6 _ _ _ h hP hD hS (lv_sub hl [] rfl)
set_option maxHeartbeats 40000000 in
set_option maxRecDepth 100000 in
theorem dm_X16_peek (l : Launch) (hlt : l.stackTraces = false) (dC : Nat → ClassId) (dI : Nat → Nat → Nat) (a : Nat → Nat) (ac : Nat → ClassId) (n : Nat) (v0 : Int32) (v1 : Int32) (s0 : St × (St)) {r : Int32 × (St × (St))} (h : df_X16_peek n v0 v1 s0 = some r) (sz : Nat) : Met l yX16_peek ow_dm_X16_peek ({ frames := 1, cells := 0, slots := 0, locals := 22 }) (va_Pc [.ref (a 0), .int v0, .int v1] (fun U => U.heap.size = sz ∧ va_P (dC, dI) vwCl (dw_X16 a ac s0) U.heap ∧ va_K (dC, dI) vwCl (dk_X16 ac) U ∧ va_D (fun _ => True) (dw_X16 a ac s0) ∧ nv_E dI (va_A (dw_X16 a ac s0) sz) U)) (va_Qi (fun x _ => x = r.1) (fun (_ : Unit) t => va_P (dC, dI) vwCl (dw_X16 a ac r.2) t.heap ∧ va_K (dC, dI) vwCl (dk_X16 ac) t ∧ va_D (va_A (dw_X16 a ac s0) sz) (dw_X16 a ac r.2)) (va_A (dw_X16 a ac s0) sz)) 0 0 (va_A (dw_X16 a ac s0) sz) := by
  refine Met.ofW (cc := cX16_peek) (maxL := 3) (ret := (some .int)) (by decide) rfl ?_
  intro p e s m args below meth c s₁ B hml hv
  obtain ⟨rfl, hsz, hP, hK, hD0, hN⟩ := hv
  have hx := B.exec
  have hb := B.bytes
  have hr := B.returns
  have hts := atoms_spec (ws := ow_dm_X16_peek) B.pre
  have hown : s.vm.findClass RX16 = some m.cls := findClass_of_methodNamed B.named
  have hlocks := B.notSynchronized
  subst hsz
  have hD := hD0.self (sz := s.heap.size)
  generalize hAe : va_A (dw_X16 a ac s0) s.heap.size = A at hD hN ⊢
  have hA : ∀ q : Nat, s.heap.size ≤ q → A q := fun q h => by rw [← hAe]; exact Or.inr h
  have hl := lv_entry ([.ref (a 0), .int v0, .int v1]) (n := 3) (Nat.le_of_ble_eq_true rfl)
  rw [lg_entry_eq]
  generalize (lg_sl ([.ref (a 0), .int v0, .int v1]) ++ List.replicate (3 - (lg_sl ([.ref (a 0), .int v0, .int v1])).length) Slot.unset).toArray = ls at hl ⊢
  have hl : lv_has ls 3 [(0, .ref (a 0)), (1, .int v0), (2, .int v1)] := hl
  exact db_X16_peek_0 (dC := dC) (dI := dI) (a := a) (ac := ac) (n := n) (r := r) ⟨hlt, hx, hb, hml, hown, hts, hN, hA, hK⟩ (fun pc v τ H locs ls d z er hP hD hS => by subst er; exact W.zret (v := v) hx hb hr z (fun t ht hW => ⟨⟨v, (), rfl, rfl, by rw [ht]; exact hP, va_K.moved hW.alike hK, hD⟩, hS.F ht⟩) hS.2.2 d) v0 v1 s0 _ _ _ h hP hD va_S.rf (lv_sub hl [0, 1, 2] rfl)
def ow_dm_X16_byteAt : List Cond := Cond.code yX16_byteAt cX16_byteAt 2 (some .int) :: ([Cond.constant RX16 186 (65536), Cond.fieldLink RX16 232 "TimeMachineModel$Machine" "p" "I", Cond.methodLink RX16 229 yX16_get, Cond.instanceMethod yX16_get, Cond.selects RX16 yX16_get yX16_get, Cond.initialized RX16] ++ (u_ws RX16 TX16 56 ++ (ow_dm_X16_get ++ [])))
theorem gd_dm_X16_byteAt : ∀ w ∈ ow_dm_X16_byteAt, (w.onTables && w.keeps) = true ∨ ∃ ty, w = Cond.arrayClass ty := List.forall_mem_cons.mpr ⟨good_of_word rfl, List.forall_mem_append.mpr ⟨fun w h => good_of_word (List.all_eq_true.mp (by decide +kernel) w h), List.forall_mem_append.mpr ⟨gu_X16, List.forall_mem_append.mpr ⟨gd_dm_X16_get, fun _ h => nomatch h⟩⟩⟩⟩
theorem hi_dm_X16_byteAt_X16 : ∀ w ∈ u_ws RX16 TX16 56, w ∈ ow_dm_X16_byteAt := fun w h => List.mem_cons_of_mem _ (List.mem_append_right _ (List.mem_append_left _ h))
theorem gi_dm_X16_byteAt_0 : GoodIn ow_dm_X16_byteAt (wsV RX16 229 RX16 yX16_get ow_dm_X16_get) := goodIn_app (goodIn_of _ (by decide +kernel)) (fun w h => ⟨List.mem_cons_of_mem _ (List.mem_append_right _ (List.mem_append_right _ (List.mem_append_left _ h))), gd_dm_X16_get w h⟩)
def dj_X16_byteAt_0 (p : Program) (l : Launch) (e : Env) (s : State) (m : MethodId) (args : Array Value) (below : List Frame) (meth : Method) (c : Code) (Q : State → Prop) (A : Nat → Prop) (dC : Nat → ClassId) (dI : Nat → Nat → Nat) (a : Nat → Nat) (ac : Nat → ClassId) (g : Int32 → (St × (St)) → Option (Int32 × (St × (St)))) (r : Int32 × (St × (St))) : Prop := ∀ (v0 : Int32) (s0 : St × (St)) (H : Heap) (locs : List Loc) (ls : Array Slot), g v0 s0 = some r → va_P (dC, dI) vwCl (dw_X16 a ac s0) H → va_D A (dw_X16 a ac s0) → va_S A s.heap H locs → lv_has ls 2 [(0, .ref (a 0)), (1, .int v0)] → W p l e (headSpec ow_dm_X16_byteAt ({ frames := 1, cells := 0, slots := 0, locals := 21 })).room s m args below meth c H locs 0 0 Q (F0 m 0 ls [])
set_option maxHeartbeats 40000000 in
set_option maxRecDepth 100000 in
theorem db_X16_byteAt_0 {p : Program} {l : Launch} {e : Env} {s : State} {m : MethodId} {args : Array Value} {below : List Frame} {meth : Method} {c : Code} {Q : State → Prop} {A : Nat → Prop} {dC : Nat → ClassId} {dI : Nat → Nat → Nat} {a : Nat → Nat} {ac : Nat → ClassId} {n : Nat} {r : Int32 × (St × (St))} (C : nd_C p l s m args c A (dC, dI) cX16_byteAt 2 RX16 ow_dm_X16_byteAt (dk_X16 ac)) (K : nd_Ki p l e (headSpec ow_dm_X16_byteAt ({ frames := 1, cells := 0, slots := 0, locals := 21 })).room s m args below meth c Q A (dC, dI) cX16_byteAt .int (St × (St)) (dw_X16 a ac) r) : dj_X16_byteAt_0 p l e s m args below meth c Q A dC dI a ac (df_X16_byteAt_0 n) r := by
  obtain ⟨hlt, hx, hb, hml, hown, hts, hN, hA, hK⟩ := id C
  intro v0 s0 H locs ls h hP hD hS hl
  unfold df_X16_byteAt_0 at h
  refine lv_aload_n hx hb dX16_byteAt_0 rfl (lv_at hl 0 rfl) ?_
  refine lv_ldc hx hb hown (hts (.constant RX16 186 (65536)) (List.mem_of_getElem? (i := 1) rfl)) dX16_byteAt_1 ?_
  refine lv_aload_n hx hb dX16_byteAt_3 rfl (lv_at hl 0 rfl) ?_
  refine va_get (D := (dC, dI)) (ci := 17) (v := .int (sI s0.1 12)) (C := RX16) (T := TX16) (N := 56) hx hb hts hi_dm_X16_byteAt_X16 hown hK hP 0 rfl rfl 51 (by decide) (hts (.fieldLink RX16 232 "TimeMachineModel$Machine" "p" "I") (List.mem_of_getElem? (i := 2) rfl)) (fun _ h9 => h9) rfl dX16_byteAt_4 ?_
  refine lv_imul hx hb dX16_byteAt_7 ?_
  refine lv_iload_n hx hb dX16_byteAt_8 rfl (lv_at hl 1 rfl) ?_
  refine lv_iadd hx hb dX16_byteAt_9 ?_
  obtain ⟨q1, s2, hq, h⟩ := nd_b2_e h
  have hPc := hP
  have hDc := hD
  have hKc := hK
  have hFc := nd_rs hD hS hA
  refine nd_cVi (As := [.int ((65536 * (sI s0.1 12)) + v0)]) (rest := []) (q := q1) (w' := dw_X16 a ac s2) ⟨hx, hb, hml, hown, hts⟩ (fun sz => dm_X16_get l hlt dC dI a ac n (((65536 * (sI s0.1 12)) + v0)) s0 hq sz) (cwV 1 hts gi_dm_X16_byteAt_0 rfl rfl rfl (by decide +kernel) ⟨Nat.le_of_ble_eq_true rfl, Nat.le_of_ble_eq_true rfl⟩) hPc hDc hKc hS hA hN (va_recv hKc hPc (ci := 17) (q0 := 0) rfl rfl) rfl hl.1 rfl (Nat.le_of_ble_eq_true rfl) dX16_byteAt_10 (fun H locs hP1 hD1 hk1 hS => ?_)
  have hP := hP1
  have hD := hD1.weaken (fun k q _ h => hFc q.1 h)
  exact K _ _ _ _ _ _ dX16_byteAt_13 rfl (Option.some.inj h).symm hP hD hS
set_option maxHeartbeats 40000000 in
set_option maxRecDepth 100000 in
theorem dm_X16_byteAt (l : Launch) (hlt : l.stackTraces = false) (dC : Nat → ClassId) (dI : Nat → Nat → Nat) (a : Nat → Nat) (ac : Nat → ClassId) (n : Nat) (v0 : Int32) (s0 : St × (St)) {r : Int32 × (St × (St))} (h : df_X16_byteAt n v0 s0 = some r) (sz : Nat) : Met l yX16_byteAt ow_dm_X16_byteAt ({ frames := 1, cells := 0, slots := 0, locals := 21 }) (va_Pc [.ref (a 0), .int v0] (fun U => U.heap.size = sz ∧ va_P (dC, dI) vwCl (dw_X16 a ac s0) U.heap ∧ va_K (dC, dI) vwCl (dk_X16 ac) U ∧ va_D (fun _ => True) (dw_X16 a ac s0) ∧ nv_E dI (va_A (dw_X16 a ac s0) sz) U)) (va_Qi (fun x _ => x = r.1) (fun (_ : Unit) t => va_P (dC, dI) vwCl (dw_X16 a ac r.2) t.heap ∧ va_K (dC, dI) vwCl (dk_X16 ac) t ∧ va_D (va_A (dw_X16 a ac s0) sz) (dw_X16 a ac r.2)) (va_A (dw_X16 a ac s0) sz)) 0 0 (va_A (dw_X16 a ac s0) sz) := by
  refine Met.ofW (cc := cX16_byteAt) (maxL := 2) (ret := (some .int)) (by decide) rfl ?_
  intro p e s m args below meth c s₁ B hml hv
  obtain ⟨rfl, hsz, hP, hK, hD0, hN⟩ := hv
  have hx := B.exec
  have hb := B.bytes
  have hr := B.returns
  have hts := atoms_spec (ws := ow_dm_X16_byteAt) B.pre
  have hown : s.vm.findClass RX16 = some m.cls := findClass_of_methodNamed B.named
  have hlocks := B.notSynchronized
  subst hsz
  have hD := hD0.self (sz := s.heap.size)
  generalize hAe : va_A (dw_X16 a ac s0) s.heap.size = A at hD hN ⊢
  have hA : ∀ q : Nat, s.heap.size ≤ q → A q := fun q h => by rw [← hAe]; exact Or.inr h
  have hl := lv_entry ([.ref (a 0), .int v0]) (n := 2) (Nat.le_of_ble_eq_true rfl)
  rw [lg_entry_eq]
  generalize (lg_sl ([.ref (a 0), .int v0]) ++ List.replicate (2 - (lg_sl ([.ref (a 0), .int v0])).length) Slot.unset).toArray = ls at hl ⊢
  have hl : lv_has ls 2 [(0, .ref (a 0)), (1, .int v0)] := hl
  exact db_X16_byteAt_0 (dC := dC) (dI := dI) (a := a) (ac := ac) (n := n) (r := r) ⟨hlt, hx, hb, hml, hown, hts, hN, hA, hK⟩ (fun pc v τ H locs ls d z er hP hD hS => by subst er; exact W.zret (v := v) hx hb hr z (fun t ht hW => ⟨⟨v, (), rfl, rfl, by rw [ht]; exact hP, va_K.moved hW.alike hK, hD⟩, hS.F ht⟩) hS.2.2 d) v0 s0 _ _ _ h hP hD va_S.rf (lv_sub hl [0, 1] rfl)
def ow_dm_X16_half : List Cond := Cond.code yX16_half cX16_half 2 (some .int) :: ([Cond.methodLink RX16 235 yX16_byteAt, Cond.instanceMethod yX16_byteAt, Cond.selects RX16 yX16_byteAt yX16_byteAt, Cond.initialized RX16] ++ (ow_dm_X16_byteAt ++ []))
theorem gd_dm_X16_half : ∀ w ∈ ow_dm_X16_half, (w.onTables && w.keeps) = true ∨ ∃ ty, w = Cond.arrayClass ty := List.forall_mem_cons.mpr ⟨good_of_word rfl, List.forall_mem_append.mpr ⟨fun w h => good_of_word (List.all_eq_true.mp (by decide +kernel) w h), List.forall_mem_append.mpr ⟨gd_dm_X16_byteAt, fun _ h => nomatch h⟩⟩⟩
theorem gi_dm_X16_half_0 : GoodIn ow_dm_X16_half (wsV RX16 235 RX16 yX16_byteAt ow_dm_X16_byteAt) := goodIn_app (goodIn_of _ (by decide +kernel)) (fun w h => ⟨List.mem_cons_of_mem _ (List.mem_append_right _ (List.mem_append_left _ h)), gd_dm_X16_byteAt w h⟩)
def dj_X16_half_0 (p : Program) (l : Launch) (e : Env) (s : State) (m : MethodId) (args : Array Value) (below : List Frame) (meth : Method) (c : Code) (Q : State → Prop) (A : Nat → Prop) (dC : Nat → ClassId) (dI : Nat → Nat → Nat) (a : Nat → Nat) (ac : Nat → ClassId) (g : Int32 → (St × (St)) → Option (Int32 × (St × (St)))) (r : Int32 × (St × (St))) : Prop := ∀ (v0 : Int32) (s0 : St × (St)) (H : Heap) (locs : List Loc) (ls : Array Slot), g v0 s0 = some r → va_P (dC, dI) vwCl (dw_X16 a ac s0) H → va_D A (dw_X16 a ac s0) → va_S A s.heap H locs → lv_has ls 2 [(0, .ref (a 0)), (1, .int v0)] → W p l e (headSpec ow_dm_X16_half ({ frames := 2, cells := 0, slots := 0, locals := 42 })).room s m args below meth c H locs 0 0 Q (F0 m 0 ls [])
set_option maxHeartbeats 40000000 in
set_option maxRecDepth 100000 in
theorem db_X16_half_0 {p : Program} {l : Launch} {e : Env} {s : State} {m : MethodId} {args : Array Value} {below : List Frame} {meth : Method} {c : Code} {Q : State → Prop} {A : Nat → Prop} {dC : Nat → ClassId} {dI : Nat → Nat → Nat} {a : Nat → Nat} {ac : Nat → ClassId} {n : Nat} {r : Int32 × (St × (St))} (C : nd_C p l s m args c A (dC, dI) cX16_half 2 RX16 ow_dm_X16_half (dk_X16 ac)) (K : nd_Ki p l e (headSpec ow_dm_X16_half ({ frames := 2, cells := 0, slots := 0, locals := 42 })).room s m args below meth c Q A (dC, dI) cX16_half .int (St × (St)) (dw_X16 a ac) r) : dj_X16_half_0 p l e s m args below meth c Q A dC dI a ac (df_X16_half_0 n) r := by
  obtain ⟨hlt, hx, hb, hml, hown, hts, hN, hA, hK⟩ := id C
  intro v0 s0 H locs ls h hP hD hS hl
  unfold df_X16_half_0 at h
  refine lv_aload_n hx hb dX16_half_0 rfl (lv_at hl 0 rfl) ?_
  refine lv_iload_n hx hb dX16_half_1 rfl (lv_at hl 1 rfl) ?_
  obtain ⟨q1, s2, hq, h⟩ := nd_b2_e h
  have hPc := hP
  have hDc := hD
  have hKc := hK
  have hFc := nd_rs hD hS hA
  refine nd_cVi (As := [.int v0]) (rest := []) (q := q1) (w' := dw_X16 a ac s2) ⟨hx, hb, hml, hown, hts⟩ (fun sz => dm_X16_byteAt l hlt dC dI a ac n (v0) s0 hq sz) (cwV 1 hts gi_dm_X16_half_0 rfl rfl rfl (by decide +kernel) ⟨Nat.le_of_ble_eq_true rfl, Nat.le_of_ble_eq_true rfl⟩) hPc hDc hKc hS hA hN (va_recv hKc hPc (ci := 17) (q0 := 0) rfl rfl) rfl hl.1 rfl (Nat.le_of_ble_eq_true rfl) dX16_half_2 (fun H locs hP1 hD1 hk1 hS => ?_)
  have hP := hP1
  have hD := hD1.weaken (fun k q _ h => hFc q.1 h)
  refine lv_aload_n hx hb dX16_half_5 rfl (lv_at hl 0 rfl) ?_
  refine lv_iload_n hx hb dX16_half_6 rfl (lv_at hl 1 rfl) ?_
  refine lv_iconst (v := 1) hx hb dX16_half_7 (by decide) ?_
  refine lv_iadd hx hb dX16_half_8 ?_
  obtain ⟨q4, s5, hq, h⟩ := nd_b2_e h
  have hPc := hP
  have hDc := hD
  have hKc := hK
  have hFc := nd_rs hD hS hA
  refine nd_cVi (As := [.int (v0 + 1)]) (rest := [.int q1]) (q := q4) (w' := dw_X16 a ac s5) ⟨hx, hb, hml, hown, hts⟩ (fun sz => dm_X16_byteAt l hlt dC dI a ac n ((v0 + 1)) s2 hq sz) (cwV 1 hts gi_dm_X16_half_0 rfl rfl rfl (by decide +kernel) ⟨Nat.le_of_ble_eq_true rfl, Nat.le_of_ble_eq_true rfl⟩) hPc hDc hKc hS hA hN (va_recv hKc hPc (ci := 17) (q0 := 0) rfl rfl) rfl hl.1 rfl (Nat.le_of_ble_eq_true rfl) dX16_half_9 (fun H locs hP1 hD1 hk1 hS => ?_)
  have hP := hP1
  have hD := hD1.weaken (fun k q _ h => hFc q.1 h)
  refine lv_bipush (v := 8) hx hb dX16_half_12 (by decide) ?_
  refine lv_ishl hx hb dX16_half_14 ?_
  refine lv_ior hx hb dX16_half_15 ?_
  exact K _ _ _ _ _ _ dX16_half_16 rfl (Option.some.inj h).symm hP hD hS
set_option maxHeartbeats 40000000 in
set_option maxRecDepth 100000 in
theorem dm_X16_half (l : Launch) (hlt : l.stackTraces = false) (dC : Nat → ClassId) (dI : Nat → Nat → Nat) (a : Nat → Nat) (ac : Nat → ClassId) (n : Nat) (v0 : Int32) (s0 : St × (St)) {r : Int32 × (St × (St))} (h : df_X16_half n v0 s0 = some r) (sz : Nat) : Met l yX16_half ow_dm_X16_half ({ frames := 2, cells := 0, slots := 0, locals := 42 }) (va_Pc [.ref (a 0), .int v0] (fun U => U.heap.size = sz ∧ va_P (dC, dI) vwCl (dw_X16 a ac s0) U.heap ∧ va_K (dC, dI) vwCl (dk_X16 ac) U ∧ va_D (fun _ => True) (dw_X16 a ac s0) ∧ nv_E dI (va_A (dw_X16 a ac s0) sz) U)) (va_Qi (fun x _ => x = r.1) (fun (_ : Unit) t => va_P (dC, dI) vwCl (dw_X16 a ac r.2) t.heap ∧ va_K (dC, dI) vwCl (dk_X16 ac) t ∧ va_D (va_A (dw_X16 a ac s0) sz) (dw_X16 a ac r.2)) (va_A (dw_X16 a ac s0) sz)) 0 0 (va_A (dw_X16 a ac s0) sz) := by
  refine Met.ofW (cc := cX16_half) (maxL := 2) (ret := (some .int)) (by decide) rfl ?_
  intro p e s m args below meth c s₁ B hml hv
  obtain ⟨rfl, hsz, hP, hK, hD0, hN⟩ := hv
  have hx := B.exec
  have hb := B.bytes
  have hr := B.returns
  have hts := atoms_spec (ws := ow_dm_X16_half) B.pre
  have hown : s.vm.findClass RX16 = some m.cls := findClass_of_methodNamed B.named
  have hlocks := B.notSynchronized
  subst hsz
  have hD := hD0.self (sz := s.heap.size)
  generalize hAe : va_A (dw_X16 a ac s0) s.heap.size = A at hD hN ⊢
  have hA : ∀ q : Nat, s.heap.size ≤ q → A q := fun q h => by rw [← hAe]; exact Or.inr h
  have hl := lv_entry ([.ref (a 0), .int v0]) (n := 2) (Nat.le_of_ble_eq_true rfl)
  rw [lg_entry_eq]
  generalize (lg_sl ([.ref (a 0), .int v0]) ++ List.replicate (2 - (lg_sl ([.ref (a 0), .int v0])).length) Slot.unset).toArray = ls at hl ⊢
  have hl : lv_has ls 2 [(0, .ref (a 0)), (1, .int v0)] := hl
  exact db_X16_half_0 (dC := dC) (dI := dI) (a := a) (ac := ac) (n := n) (r := r) ⟨hlt, hx, hb, hml, hown, hts, hN, hA, hK⟩ (fun pc v τ H locs ls d z er hP hD hS => by subst er; exact W.zret (v := v) hx hb hr z (fun t ht hW => ⟨⟨v, (), rfl, rfl, by rw [ht]; exact hP, va_K.moved hW.alike hK, hD⟩, hS.F ht⟩) hS.2.2 d) v0 s0 _ _ _ h hP hD va_S.rf (lv_sub hl [0, 1] rfl)
def ow_dm_X16_word : List Cond := Cond.code yX16_word cX16_word 2 (some .int) :: ([Cond.methodLink RX16 237 yX16_half, Cond.instanceMethod yX16_half, Cond.selects RX16 yX16_half yX16_half, Cond.initialized RX16] ++ (ow_dm_X16_half ++ []))
theorem gd_dm_X16_word : ∀ w ∈ ow_dm_X16_word, (w.onTables && w.keeps) = true ∨ ∃ ty, w = Cond.arrayClass ty := List.forall_mem_cons.mpr ⟨good_of_word rfl, List.forall_mem_append.mpr ⟨fun w h => good_of_word (List.all_eq_true.mp (by decide +kernel) w h), List.forall_mem_append.mpr ⟨gd_dm_X16_half, fun _ h => nomatch h⟩⟩⟩
theorem gi_dm_X16_word_0 : GoodIn ow_dm_X16_word (wsV RX16 237 RX16 yX16_half ow_dm_X16_half) := goodIn_app (goodIn_of _ (by decide +kernel)) (fun w h => ⟨List.mem_cons_of_mem _ (List.mem_append_right _ (List.mem_append_left _ h)), gd_dm_X16_half w h⟩)
def dj_X16_word_0 (p : Program) (l : Launch) (e : Env) (s : State) (m : MethodId) (args : Array Value) (below : List Frame) (meth : Method) (c : Code) (Q : State → Prop) (A : Nat → Prop) (dC : Nat → ClassId) (dI : Nat → Nat → Nat) (a : Nat → Nat) (ac : Nat → ClassId) (g : Int32 → (St × (St)) → Option (Int32 × (St × (St)))) (r : Int32 × (St × (St))) : Prop := ∀ (v0 : Int32) (s0 : St × (St)) (H : Heap) (locs : List Loc) (ls : Array Slot), g v0 s0 = some r → va_P (dC, dI) vwCl (dw_X16 a ac s0) H → va_D A (dw_X16 a ac s0) → va_S A s.heap H locs → lv_has ls 2 [(0, .ref (a 0)), (1, .int v0)] → W p l e (headSpec ow_dm_X16_word ({ frames := 3, cells := 0, slots := 0, locals := 63 })).room s m args below meth c H locs 0 0 Q (F0 m 0 ls [])
set_option maxHeartbeats 40000000 in
set_option maxRecDepth 100000 in
theorem db_X16_word_0 {p : Program} {l : Launch} {e : Env} {s : State} {m : MethodId} {args : Array Value} {below : List Frame} {meth : Method} {c : Code} {Q : State → Prop} {A : Nat → Prop} {dC : Nat → ClassId} {dI : Nat → Nat → Nat} {a : Nat → Nat} {ac : Nat → ClassId} {n : Nat} {r : Int32 × (St × (St))} (C : nd_C p l s m args c A (dC, dI) cX16_word 2 RX16 ow_dm_X16_word (dk_X16 ac)) (K : nd_Ki p l e (headSpec ow_dm_X16_word ({ frames := 3, cells := 0, slots := 0, locals := 63 })).room s m args below meth c Q A (dC, dI) cX16_word .int (St × (St)) (dw_X16 a ac) r) : dj_X16_word_0 p l e s m args below meth c Q A dC dI a ac (df_X16_word_0 n) r := by
  obtain ⟨hlt, hx, hb, hml, hown, hts, hN, hA, hK⟩ := id C
  intro v0 s0 H locs ls h hP hD hS hl
  unfold df_X16_word_0 at h
  refine lv_aload_n hx hb dX16_word_0 rfl (lv_at hl 0 rfl) ?_
  refine lv_iload_n hx hb dX16_word_1 rfl (lv_at hl 1 rfl) ?_
  obtain ⟨q1, s2, hq, h⟩ := nd_b2_e h
  have hPc := hP
  have hDc := hD
  have hKc := hK
  have hFc := nd_rs hD hS hA
  refine nd_cVi (As := [.int v0]) (rest := []) (q := q1) (w' := dw_X16 a ac s2) ⟨hx, hb, hml, hown, hts⟩ (fun sz => dm_X16_half l hlt dC dI a ac n (v0) s0 hq sz) (cwV 1 hts gi_dm_X16_word_0 rfl rfl rfl (by decide +kernel) ⟨Nat.le_of_ble_eq_true rfl, Nat.le_of_ble_eq_true rfl⟩) hPc hDc hKc hS hA hN (va_recv hKc hPc (ci := 17) (q0 := 0) rfl rfl) rfl hl.1 rfl (Nat.le_of_ble_eq_true rfl) dX16_word_2 (fun H locs hP1 hD1 hk1 hS => ?_)
  have hP := hP1
  have hD := hD1.weaken (fun k q _ h => hFc q.1 h)
  refine lv_aload_n hx hb dX16_word_5 rfl (lv_at hl 0 rfl) ?_
  refine lv_iload_n hx hb dX16_word_6 rfl (lv_at hl 1 rfl) ?_
  refine lv_iconst (v := 2) hx hb dX16_word_7 (by decide) ?_
  refine lv_iadd hx hb dX16_word_8 ?_
  obtain ⟨q4, s5, hq, h⟩ := nd_b2_e h
  have hPc := hP
  have hDc := hD
  have hKc := hK
  have hFc := nd_rs hD hS hA
  refine nd_cVi (As := [.int (v0 + 2)]) (rest := [.int q1]) (q := q4) (w' := dw_X16 a ac s5) ⟨hx, hb, hml, hown, hts⟩ (fun sz => dm_X16_half l hlt dC dI a ac n ((v0 + 2)) s2 hq sz) (cwV 1 hts gi_dm_X16_word_0 rfl rfl rfl (by decide +kernel) ⟨Nat.le_of_ble_eq_true rfl, Nat.le_of_ble_eq_true rfl⟩) hPc hDc hKc hS hA hN (va_recv hKc hPc (ci := 17) (q0 := 0) rfl rfl) rfl hl.1 rfl (Nat.le_of_ble_eq_true rfl) dX16_word_9 (fun H locs hP1 hD1 hk1 hS => ?_)
  have hP := hP1
  have hD := hD1.weaken (fun k q _ h => hFc q.1 h)
  refine lv_bipush (v := 16) hx hb dX16_word_12 (by decide) ?_
  refine lv_ishl hx hb dX16_word_14 ?_
  refine lv_ior hx hb dX16_word_15 ?_
  exact K _ _ _ _ _ _ dX16_word_16 rfl (Option.some.inj h).symm hP hD hS
set_option maxHeartbeats 40000000 in
set_option maxRecDepth 100000 in
theorem dm_X16_word (l : Launch) (hlt : l.stackTraces = false) (dC : Nat → ClassId) (dI : Nat → Nat → Nat) (a : Nat → Nat) (ac : Nat → ClassId) (n : Nat) (v0 : Int32) (s0 : St × (St)) {r : Int32 × (St × (St))} (h : df_X16_word n v0 s0 = some r) (sz : Nat) : Met l yX16_word ow_dm_X16_word ({ frames := 3, cells := 0, slots := 0, locals := 63 }) (va_Pc [.ref (a 0), .int v0] (fun U => U.heap.size = sz ∧ va_P (dC, dI) vwCl (dw_X16 a ac s0) U.heap ∧ va_K (dC, dI) vwCl (dk_X16 ac) U ∧ va_D (fun _ => True) (dw_X16 a ac s0) ∧ nv_E dI (va_A (dw_X16 a ac s0) sz) U)) (va_Qi (fun x _ => x = r.1) (fun (_ : Unit) t => va_P (dC, dI) vwCl (dw_X16 a ac r.2) t.heap ∧ va_K (dC, dI) vwCl (dk_X16 ac) t ∧ va_D (va_A (dw_X16 a ac s0) sz) (dw_X16 a ac r.2)) (va_A (dw_X16 a ac s0) sz)) 0 0 (va_A (dw_X16 a ac s0) sz) := by
  refine Met.ofW (cc := cX16_word) (maxL := 2) (ret := (some .int)) (by decide) rfl ?_
  intro p e s m args below meth c s₁ B hml hv
  obtain ⟨rfl, hsz, hP, hK, hD0, hN⟩ := hv
  have hx := B.exec
  have hb := B.bytes
  have hr := B.returns
  have hts := atoms_spec (ws := ow_dm_X16_word) B.pre
  have hown : s.vm.findClass RX16 = some m.cls := findClass_of_methodNamed B.named
  have hlocks := B.notSynchronized
  subst hsz
  have hD := hD0.self (sz := s.heap.size)
  generalize hAe : va_A (dw_X16 a ac s0) s.heap.size = A at hD hN ⊢
  have hA : ∀ q : Nat, s.heap.size ≤ q → A q := fun q h => by rw [← hAe]; exact Or.inr h
  have hl := lv_entry ([.ref (a 0), .int v0]) (n := 2) (Nat.le_of_ble_eq_true rfl)
  rw [lg_entry_eq]
  generalize (lg_sl ([.ref (a 0), .int v0]) ++ List.replicate (2 - (lg_sl ([.ref (a 0), .int v0])).length) Slot.unset).toArray = ls at hl ⊢
  have hl : lv_has ls 2 [(0, .ref (a 0)), (1, .int v0)] := hl
  exact db_X16_word_0 (dC := dC) (dI := dI) (a := a) (ac := ac) (n := n) (r := r) ⟨hlt, hx, hb, hml, hown, hts, hN, hA, hK⟩ (fun pc v τ H locs ls d z er hP hD hS => by subst er; exact W.zret (v := v) hx hb hr z (fun t ht hW => ⟨⟨v, (), rfl, rfl, by rw [ht]; exact hP, va_K.moved hW.alike hK, hD⟩, hS.F ht⟩) hS.2.2 d) v0 s0 _ _ _ h hP hD va_S.rf (lv_sub hl [0, 1] rfl)
def ow_dm_X16_held : List Cond := Cond.code yX16_held cX16_held 4 (some .int) :: ([Cond.fieldLink RX16 57 "TimeMachineModel$Machine" "descriptor" "[I"] ++ (u_ws RX16 TX16 56 ++ []))
theorem gd_dm_X16_held : ∀ w ∈ ow_dm_X16_held, (w.onTables && w.keeps) = true ∨ ∃ ty, w = Cond.arrayClass ty := List.forall_mem_cons.mpr ⟨good_of_word rfl, List.forall_mem_append.mpr ⟨fun w h => good_of_word (List.all_eq_true.mp (by decide +kernel) w h), List.forall_mem_append.mpr ⟨gu_X16, fun _ h => nomatch h⟩⟩⟩
theorem hi_dm_X16_held_X16 : ∀ w ∈ u_ws RX16 TX16 56, w ∈ ow_dm_X16_held := fun w h => List.mem_cons_of_mem _ (List.mem_append_right _ (List.mem_append_left _ h))
def dj_X16_held_28 (p : Program) (l : Launch) (e : Env) (s : State) (m : MethodId) (args : Array Value) (below : List Frame) (meth : Method) (c : Code) (Q : State → Prop) (A : Nat → Prop) (dC : Nat → ClassId) (dI : Nat → Nat → Nat) (a : Nat → Nat) (ac : Nat → ClassId) (g : Int32 → Int32 → Int32 → (St × (St)) → Option (Int32 × (St × (St)))) (r : Int32 × (St × (St))) : Prop := ∀ (x1 : Int32) (x3 : Int32) (y0 : Int32) (s0 : St × (St)) (H : Heap) (locs : List Loc) (ls : Array Slot), g x1 x3 y0 s0 = some r → va_P (dC, dI) vwCl (dw_X16 a ac s0) H → va_D A (dw_X16 a ac s0) → va_S A s.heap H locs → lv_has ls 4 [(0, .ref (a 0)), (1, .int x1), (3, .int x3)] → W p l e (headSpec ow_dm_X16_held ({ frames := 0, cells := 0, slots := 0, locals := 0 })).room s m args below meth c H locs 0 0 Q (F0 m 28 ls [.int y0])
def dj_X16_held_4 (p : Program) (l : Launch) (e : Env) (s : State) (m : MethodId) (args : Array Value) (below : List Frame) (meth : Method) (c : Code) (Q : State → Prop) (A : Nat → Prop) (dC : Nat → ClassId) (dI : Nat → Nat → Nat) (a : Nat → Nat) (ac : Nat → ClassId) (g : Int32 → Int32 → Int32 → (St × (St)) → Option (Int32 × (St × (St)))) (r : Int32 × (St × (St))) : Prop := ∀ (x1 : Int32) (x2 : Int32) (x3 : Int32) (s0 : St × (St)) (H : Heap) (locs : List Loc) (ls : Array Slot), g x1 x2 x3 s0 = some r → va_P (dC, dI) vwCl (dw_X16 a ac s0) H → va_D A (dw_X16 a ac s0) → va_S A s.heap H locs → lv_has ls 4 [(0, .ref (a 0)), (1, .int x1), (2, .int x2), (3, .int x3)] → W p l e (headSpec ow_dm_X16_held ({ frames := 0, cells := 0, slots := 0, locals := 0 })).room s m args below meth c H locs 0 0 Q (F0 m 4 ls [])
def dj_X16_held_0 (p : Program) (l : Launch) (e : Env) (s : State) (m : MethodId) (args : Array Value) (below : List Frame) (meth : Method) (c : Code) (Q : State → Prop) (A : Nat → Prop) (dC : Nat → ClassId) (dI : Nat → Nat → Nat) (a : Nat → Nat) (ac : Nat → ClassId) (g : Int32 → (St × (St)) → Option (Int32 × (St × (St)))) (r : Int32 × (St × (St))) : Prop := ∀ (v0 : Int32) (s0 : St × (St)) (H : Heap) (locs : List Loc) (ls : Array Slot), g v0 s0 = some r → va_P (dC, dI) vwCl (dw_X16 a ac s0) H → va_D A (dw_X16 a ac s0) → va_S A s.heap H locs → lv_has ls 4 [(0, .ref (a 0)), (1, .int v0)] → W p l e (headSpec ow_dm_X16_held ({ frames := 0, cells := 0, slots := 0, locals := 0 })).room s m args below meth c H locs 0 0 Q (F0 m 0 ls [])
set_option maxHeartbeats 40000000 in
set_option maxRecDepth 100000 in
theorem db_X16_held_28 {p : Program} {l : Launch} {e : Env} {s : State} {m : MethodId} {args : Array Value} {below : List Frame} {meth : Method} {c : Code} {Q : State → Prop} {A : Nat → Prop} {dC : Nat → ClassId} {dI : Nat → Nat → Nat} {a : Nat → Nat} {ac : Nat → ClassId} {n : Nat} {r : Int32 × (St × (St))} (C : nd_C p l s m args c A (dC, dI) cX16_held 4 RX16 ow_dm_X16_held (dk_X16 ac)) (K : nd_Ki p l e (headSpec ow_dm_X16_held ({ frames := 0, cells := 0, slots := 0, locals := 0 })).room s m args below meth c Q A (dC, dI) cX16_held .int (St × (St)) (dw_X16 a ac) r) {g4 : Int32 → Int32 → Int32 → (St × (St)) → Option (Int32 × (St × (St)))} (J4 : dj_X16_held_4 p l e s m args below meth c Q A dC dI a ac g4 r) : dj_X16_held_28 p l e s m args below meth c Q A dC dI a ac (df_X16_held_28 n g4) r := by
  obtain ⟨hlt, hx, hb, hml, hown, hts, hN, hA, hK⟩ := id C
  intro x1 x3 y0 s0 H locs ls h hP hD hS hl
  unfold df_X16_held_28 at h
  refine lv_istore_n (lv' := [(2, .int y0), (0, .ref (a 0)), (1, .int x1), (3, .int x3)]) hx hb dX16_held_28 rfl hl (by decide) rfl (fun ls hl => ?_)
  obtain ⟨z4, ez4, h⟩ := nd_let_e h
  refine lv_iinc (v := z4) (lv' := [(3, .int z4), (2, .int y0), (0, .ref (a 0)), (1, .int x1)]) hx hb dX16_held_29 hl (k := 3) rfl (by rw [ez4]) (by decide) rfl (fun ls hl => ?_)
  refine lv_goto (tgt := 4) hx hb dX16_held_32 (by decide) ?_
  exact (J4) (x1) (y0) (z4) s0 _ _ _ h hP hD hS (lv_sub hl [2, 3, 1, 0] rfl)
set_option maxHeartbeats 40000000 in
set_option maxRecDepth 100000 in
theorem dB_X16_held_4 {p : Program} {l : Launch} {e : Env} {s : State} {m : MethodId} {args : Array Value} {below : List Frame} {meth : Method} {c : Code} {Q : State → Prop} {A : Nat → Prop} {dC : Nat → ClassId} {dI : Nat → Nat → Nat} {a : Nat → Nat} {ac : Nat → ClassId} {n : Nat} {r : Int32 × (St × (St))} (C : nd_C p l s m args c A (dC, dI) cX16_held 4 RX16 ow_dm_X16_held (dk_X16 ac)) (K : nd_Ki p l e (headSpec ow_dm_X16_held ({ frames := 0, cells := 0, slots := 0, locals := 0 })).room s m args below meth c Q A (dC, dI) cX16_held .int (St × (St)) (dw_X16 a ac) r) {g4 : Int32 → Int32 → Int32 → (St × (St)) → Option (Int32 × (St × (St)))} (J4 : dj_X16_held_4 p l e s m args below meth c Q A dC dI a ac g4 r) : dj_X16_held_4 p l e s m args below meth c Q A dC dI a ac (dF_X16_held_4 n g4) r := by
  obtain ⟨hlt, hx, hb, hml, hown, hts, hN, hA, hK⟩ := id C
  intro x1 x2 x3 s0 H locs ls h hP hD hS hl
  unfold dF_X16_held_4 at h
  refine lv_iload_n hx hb dX16_held_4 rfl (lv_at hl 3 rfl) ?_
  refine lv_sipush (v := 256) hx hb dX16_held_5 (by decide) ?_
  refine lv_icmp_ge (tgt := 35) hx hb dX16_held_8 (by decide) (fun c1 => ?_) (fun c1 => ?_)
  · have h := nd_pos h c1
    refine lv_iload_n hx hb dX16_held_35 rfl (lv_at hl 2 rfl) ?_
    exact K _ _ _ _ _ _ dX16_held_36 rfl (Option.some.inj h).symm hP hD hS
  · have h := nd_neg h c1
    refine lv_aload_n hx hb dX16_held_11 rfl (lv_at hl 0 rfl) ?_
    refine va_get (D := (dC, dI)) (ci := 17) (v := .ref (a 16)) (C := RX16) (T := TX16) (N := 56) hx hb hts hi_dm_X16_held_X16 hown hK hP 0 rfl rfl 24 (by decide) (hts (.fieldLink RX16 57 "TimeMachineModel$Machine" "descriptor" "[I") (List.mem_of_getElem? (i := 1) rfl)) (fun _ h9 => h9) rfl dX16_held_12 ?_
    refine lv_iload_n hx hb dX16_held_15 rfl (lv_at hl 3 rfl) ?_
    obtain ⟨i2, h⟩ := nd_ck_e h
    refine va_iald (i := x3) hx hb hK hP 16 15 rfl rfl i2 dX16_held_16 ?_
    refine lv_iload_n hx hb dX16_held_17 rfl (lv_at hl 1 rfl) ?_
    refine lv_icmp_ne (tgt := 27) hx hb dX16_held_18 (by decide) (fun c3 => ?_) (fun c3 => ?_)
    · have h := nd_neg h c3
      refine lv_iload_n hx hb dX16_held_27 rfl (lv_at hl 2 rfl) ?_
      exact (db_X16_held_28 C K J4) (x1) (x3) (x2) s0 _ _ _ h hP hD hS (lv_sub hl [0, 1, 3] rfl)
    · have h := nd_pos h c3
      refine lv_iload_n hx hb dX16_held_21 rfl (lv_at hl 2 rfl) ?_
      refine lv_iconst (v := 1) hx hb dX16_held_22 (by decide) ?_
      refine lv_iadd hx hb dX16_held_23 ?_
      refine lv_goto (tgt := 28) hx hb dX16_held_24 (by decide) ?_
      exact (db_X16_held_28 C K J4) (x1) (x3) ((x2 + 1)) s0 _ _ _ h hP hD hS (lv_sub hl [0, 1, 3] rfl)
set_option maxHeartbeats 40000000 in
set_option maxRecDepth 100000 in
theorem db_X16_held_4 {p : Program} {l : Launch} {e : Env} {s : State} {m : MethodId} {args : Array Value} {below : List Frame} {meth : Method} {c : Code} {Q : State → Prop} {A : Nat → Prop} {dC : Nat → ClassId} {dI : Nat → Nat → Nat} {a : Nat → Nat} {ac : Nat → ClassId} {n : Nat} {r : Int32 × (St × (St))} (C : nd_C p l s m args c A (dC, dI) cX16_held 4 RX16 ow_dm_X16_held (dk_X16 ac)) (K : nd_Ki p l e (headSpec ow_dm_X16_held ({ frames := 0, cells := 0, slots := 0, locals := 0 })).room s m args below meth c Q A (dC, dI) cX16_held .int (St × (St)) (dw_X16 a ac) r) (k : Nat) : dj_X16_held_4 p l e s m args below meth c Q A dC dI a ac (df_X16_held_4 n k) r := by
  induction k with
  | zero => intro x1 x2 x3 s0 H locs ls h; exact nomatch (show (none : Option (Int32 × (St × (St)))) = some r from h)
  | succ k ih => exact dB_X16_held_4 C K ih
set_option maxHeartbeats 40000000 in
set_option maxRecDepth 100000 in
theorem db_X16_held_0 {p : Program} {l : Launch} {e : Env} {s : State} {m : MethodId} {args : Array Value} {below : List Frame} {meth : Method} {c : Code} {Q : State → Prop} {A : Nat → Prop} {dC : Nat → ClassId} {dI : Nat → Nat → Nat} {a : Nat → Nat} {ac : Nat → ClassId} {n : Nat} {r : Int32 × (St × (St))} (C : nd_C p l s m args c A (dC, dI) cX16_held 4 RX16 ow_dm_X16_held (dk_X16 ac)) (K : nd_Ki p l e (headSpec ow_dm_X16_held ({ frames := 0, cells := 0, slots := 0, locals := 0 })).room s m args below meth c Q A (dC, dI) cX16_held .int (St × (St)) (dw_X16 a ac) r) : dj_X16_held_0 p l e s m args below meth c Q A dC dI a ac (df_X16_held_0 n) r := by
  obtain ⟨hlt, hx, hb, hml, hown, hts, hN, hA, hK⟩ := id C
  intro v0 s0 H locs ls h hP hD hS hl
  unfold df_X16_held_0 at h
  refine lv_iconst (v := 0) hx hb dX16_held_0 (by decide) ?_
  refine lv_istore_n (lv' := [(2, .int 0), (0, .ref (a 0)), (1, .int v0)]) hx hb dX16_held_1 rfl hl (by decide) rfl (fun ls hl => ?_)
  refine lv_iconst (v := 0) hx hb dX16_held_2 (by decide) ?_
  refine lv_istore_n (lv' := [(3, .int 0), (2, .int 0), (0, .ref (a 0)), (1, .int v0)]) hx hb dX16_held_3 rfl hl (by decide) rfl (fun ls hl => ?_)
  exact (db_X16_held_4 C K n) (v0) (0) (0) s0 _ _ _ h hP hD hS (lv_sub hl [2, 3, 1, 0] rfl)
set_option maxHeartbeats 40000000 in
set_option maxRecDepth 100000 in
theorem dm_X16_held (l : Launch) (hlt : l.stackTraces = false) (dC : Nat → ClassId) (dI : Nat → Nat → Nat) (a : Nat → Nat) (ac : Nat → ClassId) (n : Nat) (v0 : Int32) (s0 : St × (St)) {r : Int32 × (St × (St))} (h : df_X16_held n v0 s0 = some r) (sz : Nat) : Met l yX16_held ow_dm_X16_held ({ frames := 0, cells := 0, slots := 0, locals := 0 }) (va_Pc [.ref (a 0), .int v0] (fun U => U.heap.size = sz ∧ va_P (dC, dI) vwCl (dw_X16 a ac s0) U.heap ∧ va_K (dC, dI) vwCl (dk_X16 ac) U ∧ va_D (fun _ => True) (dw_X16 a ac s0) ∧ nv_E dI (va_A (dw_X16 a ac s0) sz) U)) (va_Qi (fun x _ => x = r.1) (fun (_ : Unit) t => va_P (dC, dI) vwCl (dw_X16 a ac r.2) t.heap ∧ va_K (dC, dI) vwCl (dk_X16 ac) t ∧ va_D (va_A (dw_X16 a ac s0) sz) (dw_X16 a ac r.2)) (va_A (dw_X16 a ac s0) sz)) 0 0 (va_A (dw_X16 a ac s0) sz) := by
  refine Met.ofW (cc := cX16_held) (maxL := 4) (ret := (some .int)) (by decide) rfl ?_
  intro p e s m args below meth c s₁ B hml hv
  obtain ⟨rfl, hsz, hP, hK, hD0, hN⟩ := hv
  have hx := B.exec
  have hb := B.bytes
  have hr := B.returns
  have hts := atoms_spec (ws := ow_dm_X16_held) B.pre
  have hown : s.vm.findClass RX16 = some m.cls := findClass_of_methodNamed B.named
  have hlocks := B.notSynchronized
  subst hsz
  have hD := hD0.self (sz := s.heap.size)
  generalize hAe : va_A (dw_X16 a ac s0) s.heap.size = A at hD hN ⊢
  have hA : ∀ q : Nat, s.heap.size ≤ q → A q := fun q h => by rw [← hAe]; exact Or.inr h
  have hl := lv_entry ([.ref (a 0), .int v0]) (n := 4) (Nat.le_of_ble_eq_true rfl)
  rw [lg_entry_eq]
  generalize (lg_sl ([.ref (a 0), .int v0]) ++ List.replicate (4 - (lg_sl ([.ref (a 0), .int v0])).length) Slot.unset).toArray = ls at hl ⊢
  have hl : lv_has ls 4 [(0, .ref (a 0)), (1, .int v0)] := hl
  exact db_X16_held_0 (dC := dC) (dI := dI) (a := a) (ac := ac) (n := n) (r := r) ⟨hlt, hx, hb, hml, hown, hts, hN, hA, hK⟩ (fun pc v τ H locs ls d z er hP hD hS => by subst er; exact W.zret (v := v) hx hb hr z (fun t ht hW => ⟨⟨v, (), rfl, rfl, by rw [ht]; exact hP, va_K.moved hW.alike hK, hD⟩, hS.F ht⟩) hS.2.2 d) v0 s0 _ _ _ h hP hD va_S.rf (lv_sub hl [0, 1] rfl)
def ow_dm_X16_sweep : List Cond := Cond.code yX16_sweep cX16_sweep 2 none :: ([Cond.fieldLink RX16 88 "TimeMachineModel$Machine" "isFile" "[Z", Cond.fieldLink RX16 91 "TimeMachineModel$Machine" "isNamed" "[Z", Cond.methodLink RX16 243 yX16_ends, Cond.instanceMethod yX16_ends, Cond.selects RX16 yX16_ends yX16_ends, Cond.initialized RX16, Cond.fieldLink RX16 85 "TimeMachineModel$Machine" "isPipe" "[Z", Cond.fieldLink RX16 73 "TimeMachineModel$Machine" "kind" "[I", Cond.methodLink RX16 240 yX16_held, Cond.instanceMethod yX16_held, Cond.selects RX16 yX16_held yX16_held] ++ (u_ws RX16 TX16 56 ++ (ow_dm_X16_ends ++ (ow_dm_X16_held ++ []))))
theorem gd_dm_X16_sweep : ∀ w ∈ ow_dm_X16_sweep, (w.onTables && w.keeps) = true ∨ ∃ ty, w = Cond.arrayClass ty := List.forall_mem_cons.mpr ⟨good_of_word rfl, List.forall_mem_append.mpr ⟨fun w h => good_of_word (List.all_eq_true.mp (by decide +kernel) w h), List.forall_mem_append.mpr ⟨gu_X16, List.forall_mem_append.mpr ⟨gd_dm_X16_ends, List.forall_mem_append.mpr ⟨gd_dm_X16_held, fun _ h => nomatch h⟩⟩⟩⟩⟩
theorem hi_dm_X16_sweep_X16 : ∀ w ∈ u_ws RX16 TX16 56, w ∈ ow_dm_X16_sweep := fun w h => List.mem_cons_of_mem _ (List.mem_append_right _ (List.mem_append_left _ h))
theorem gi_dm_X16_sweep_0 : GoodIn ow_dm_X16_sweep (wsV RX16 243 RX16 yX16_ends ow_dm_X16_ends) := goodIn_app (goodIn_of _ (by decide +kernel)) (fun w h => ⟨List.mem_cons_of_mem _ (List.mem_append_right _ (List.mem_append_right _ (List.mem_append_left _ h))), gd_dm_X16_ends w h⟩)
theorem gi_dm_X16_sweep_1 : GoodIn ow_dm_X16_sweep (wsV RX16 240 RX16 yX16_held ow_dm_X16_held) := goodIn_app (goodIn_of _ (by decide +kernel)) (fun w h => ⟨List.mem_cons_of_mem _ (List.mem_append_right _ (List.mem_append_right _ (List.mem_append_right _ (List.mem_append_left _ h)))), gd_dm_X16_held w h⟩)
def dj_X16_sweep_142 (p : Program) (l : Launch) (e : Env) (s : State) (m : MethodId) (args : Array Value) (below : List Frame) (meth : Method) (c : Code) (Q : State → Prop) (A : Nat → Prop) (dC : Nat → ClassId) (dI : Nat → Nat → Nat) (a : Nat → Nat) (ac : Nat → ClassId) (g : Int32 → Int32 → Int32 → (St × (St)) → Option (St × (St))) (r : St × (St)) : Prop := ∀ (x1 : Int32) (y1 : Int32) (y2 : Int32) (s0 : St × (St)) (H : Heap) (locs : List Loc) (ls : Array Slot), g x1 y1 y2 s0 = some r → va_P (dC, dI) vwCl (dw_X16 a ac s0) H → va_D A (dw_X16 a ac s0) → va_S A s.heap H locs → lv_has ls 2 [(0, .ref (a 0)), (1, .int x1)] → W p l e (headSpec ow_dm_X16_sweep ({ frames := 1, cells := 0, slots := 0, locals := 24 })).room s m args below meth c H locs 0 0 Q (F0 m 142 ls [.int y2, .int y1, .ref (a 26)])
def dj_X16_sweep_141 (p : Program) (l : Launch) (e : Env) (s : State) (m : MethodId) (args : Array Value) (below : List Frame) (meth : Method) (c : Code) (Q : State → Prop) (A : Nat → Prop) (dC : Nat → ClassId) (dI : Nat → Nat → Nat) (a : Nat → Nat) (ac : Nat → ClassId) (g : Int32 → Int32 → (St × (St)) → Option (St × (St))) (r : St × (St)) : Prop := ∀ (x1 : Int32) (y1 : Int32) (s0 : St × (St)) (H : Heap) (locs : List Loc) (ls : Array Slot), g x1 y1 s0 = some r → va_P (dC, dI) vwCl (dw_X16 a ac s0) H → va_D A (dw_X16 a ac s0) → va_S A s.heap H locs → lv_has ls 2 [(0, .ref (a 0)), (1, .int x1)] → W p l e (headSpec ow_dm_X16_sweep ({ frames := 1, cells := 0, slots := 0, locals := 24 })).room s m args below meth c H locs 0 0 Q (F0 m 141 ls [.int y1, .ref (a 26)])
def dj_X16_sweep_137 (p : Program) (l : Launch) (e : Env) (s : State) (m : MethodId) (args : Array Value) (below : List Frame) (meth : Method) (c : Code) (Q : State → Prop) (A : Nat → Prop) (dC : Nat → ClassId) (dI : Nat → Nat → Nat) (a : Nat → Nat) (ac : Nat → ClassId) (g : Int32 → Int32 → (St × (St)) → Option (St × (St))) (r : St × (St)) : Prop := ∀ (x1 : Int32) (y1 : Int32) (s0 : St × (St)) (H : Heap) (locs : List Loc) (ls : Array Slot), g x1 y1 s0 = some r → va_P (dC, dI) vwCl (dw_X16 a ac s0) H → va_D A (dw_X16 a ac s0) → va_S A s.heap H locs → lv_has ls 2 [(0, .ref (a 0)), (1, .int x1)] → W p l e (headSpec ow_dm_X16_sweep ({ frames := 1, cells := 0, slots := 0, locals := 24 })).room s m args below meth c H locs 0 0 Q (F0 m 137 ls [.int y1, .ref (a 26)])
def dj_X16_sweep_99 (p : Program) (l : Launch) (e : Env) (s : State) (m : MethodId) (args : Array Value) (below : List Frame) (meth : Method) (c : Code) (Q : State → Prop) (A : Nat → Prop) (dC : Nat → ClassId) (dI : Nat → Nat → Nat) (a : Nat → Nat) (ac : Nat → ClassId) (g : Int32 → (St × (St)) → Option (St × (St))) (r : St × (St)) : Prop := ∀ (x1 : Int32) (s0 : St × (St)) (H : Heap) (locs : List Loc) (ls : Array Slot), g x1 s0 = some r → va_P (dC, dI) vwCl (dw_X16 a ac s0) H → va_D A (dw_X16 a ac s0) → va_S A s.heap H locs → lv_has ls 2 [(0, .ref (a 0)), (1, .int x1)] → W p l e (headSpec ow_dm_X16_sweep ({ frames := 1, cells := 0, slots := 0, locals := 24 })).room s m args below meth c H locs 0 0 Q (F0 m 99 ls [])
def dj_X16_sweep_90 (p : Program) (l : Launch) (e : Env) (s : State) (m : MethodId) (args : Array Value) (below : List Frame) (meth : Method) (c : Code) (Q : State → Prop) (A : Nat → Prop) (dC : Nat → ClassId) (dI : Nat → Nat → Nat) (a : Nat → Nat) (ac : Nat → ClassId) (g : Int32 → Int32 → Int32 → (St × (St)) → Option (St × (St))) (r : St × (St)) : Prop := ∀ (x1 : Int32) (y1 : Int32) (y2 : Int32) (s0 : St × (St)) (H : Heap) (locs : List Loc) (ls : Array Slot), g x1 y1 y2 s0 = some r → va_P (dC, dI) vwCl (dw_X16 a ac s0) H → va_D A (dw_X16 a ac s0) → va_S A s.heap H locs → lv_has ls 2 [(0, .ref (a 0)), (1, .int x1)] → W p l e (headSpec ow_dm_X16_sweep ({ frames := 1, cells := 0, slots := 0, locals := 24 })).room s m args below meth c H locs 0 0 Q (F0 m 90 ls [.int y2, .int y1, .ref (a 25)])
def dj_X16_sweep_89 (p : Program) (l : Launch) (e : Env) (s : State) (m : MethodId) (args : Array Value) (below : List Frame) (meth : Method) (c : Code) (Q : State → Prop) (A : Nat → Prop) (dC : Nat → ClassId) (dI : Nat → Nat → Nat) (a : Nat → Nat) (ac : Nat → ClassId) (g : Int32 → Int32 → (St × (St)) → Option (St × (St))) (r : St × (St)) : Prop := ∀ (x1 : Int32) (y1 : Int32) (s0 : St × (St)) (H : Heap) (locs : List Loc) (ls : Array Slot), g x1 y1 s0 = some r → va_P (dC, dI) vwCl (dw_X16 a ac s0) H → va_D A (dw_X16 a ac s0) → va_S A s.heap H locs → lv_has ls 2 [(0, .ref (a 0)), (1, .int x1)] → W p l e (headSpec ow_dm_X16_sweep ({ frames := 1, cells := 0, slots := 0, locals := 24 })).room s m args below meth c H locs 0 0 Q (F0 m 89 ls [.int y1, .ref (a 25)])
def dj_X16_sweep_49 (p : Program) (l : Launch) (e : Env) (s : State) (m : MethodId) (args : Array Value) (below : List Frame) (meth : Method) (c : Code) (Q : State → Prop) (A : Nat → Prop) (dC : Nat → ClassId) (dI : Nat → Nat → Nat) (a : Nat → Nat) (ac : Nat → ClassId) (g : Int32 → (St × (St)) → Option (St × (St))) (r : St × (St)) : Prop := ∀ (x1 : Int32) (s0 : St × (St)) (H : Heap) (locs : List Loc) (ls : Array Slot), g x1 s0 = some r → va_P (dC, dI) vwCl (dw_X16 a ac s0) H → va_D A (dw_X16 a ac s0) → va_S A s.heap H locs → lv_has ls 2 [(0, .ref (a 0)), (1, .int x1)] → W p l e (headSpec ow_dm_X16_sweep ({ frames := 1, cells := 0, slots := 0, locals := 24 })).room s m args below meth c H locs 0 0 Q (F0 m 49 ls [])
def dj_X16_sweep_40 (p : Program) (l : Launch) (e : Env) (s : State) (m : MethodId) (args : Array Value) (below : List Frame) (meth : Method) (c : Code) (Q : State → Prop) (A : Nat → Prop) (dC : Nat → ClassId) (dI : Nat → Nat → Nat) (a : Nat → Nat) (ac : Nat → ClassId) (g : Int32 → Int32 → Int32 → (St × (St)) → Option (St × (St))) (r : St × (St)) : Prop := ∀ (x1 : Int32) (y1 : Int32) (y2 : Int32) (s0 : St × (St)) (H : Heap) (locs : List Loc) (ls : Array Slot), g x1 y1 y2 s0 = some r → va_P (dC, dI) vwCl (dw_X16 a ac s0) H → va_D A (dw_X16 a ac s0) → va_S A s.heap H locs → lv_has ls 2 [(0, .ref (a 0)), (1, .int x1)] → W p l e (headSpec ow_dm_X16_sweep ({ frames := 1, cells := 0, slots := 0, locals := 24 })).room s m args below meth c H locs 0 0 Q (F0 m 40 ls [.int y2, .int y1, .ref (a 21)])
def dj_X16_sweep_39 (p : Program) (l : Launch) (e : Env) (s : State) (m : MethodId) (args : Array Value) (below : List Frame) (meth : Method) (c : Code) (Q : State → Prop) (A : Nat → Prop) (dC : Nat → ClassId) (dI : Nat → Nat → Nat) (a : Nat → Nat) (ac : Nat → ClassId) (g : Int32 → Int32 → (St × (St)) → Option (St × (St))) (r : St × (St)) : Prop := ∀ (x1 : Int32) (y1 : Int32) (s0 : St × (St)) (H : Heap) (locs : List Loc) (ls : Array Slot), g x1 y1 s0 = some r → va_P (dC, dI) vwCl (dw_X16 a ac s0) H → va_D A (dw_X16 a ac s0) → va_S A s.heap H locs → lv_has ls 2 [(0, .ref (a 0)), (1, .int x1)] → W p l e (headSpec ow_dm_X16_sweep ({ frames := 1, cells := 0, slots := 0, locals := 24 })).room s m args below meth c H locs 0 0 Q (F0 m 39 ls [.int y1, .ref (a 21)])
def dj_X16_sweep_2 (p : Program) (l : Launch) (e : Env) (s : State) (m : MethodId) (args : Array Value) (below : List Frame) (meth : Method) (c : Code) (Q : State → Prop) (A : Nat → Prop) (dC : Nat → ClassId) (dI : Nat → Nat → Nat) (a : Nat → Nat) (ac : Nat → ClassId) (g : Int32 → (St × (St)) → Option (St × (St))) (r : St × (St)) : Prop := ∀ (x1 : Int32) (s0 : St × (St)) (H : Heap) (locs : List Loc) (ls : Array Slot), g x1 s0 = some r → va_P (dC, dI) vwCl (dw_X16 a ac s0) H → va_D A (dw_X16 a ac s0) → va_S A s.heap H locs → lv_has ls 2 [(0, .ref (a 0)), (1, .int x1)] → W p l e (headSpec ow_dm_X16_sweep ({ frames := 1, cells := 0, slots := 0, locals := 24 })).room s m args below meth c H locs 0 0 Q (F0 m 2 ls [])
def dj_X16_sweep_0 (p : Program) (l : Launch) (e : Env) (s : State) (m : MethodId) (args : Array Value) (below : List Frame) (meth : Method) (c : Code) (Q : State → Prop) (A : Nat → Prop) (dC : Nat → ClassId) (dI : Nat → Nat → Nat) (a : Nat → Nat) (ac : Nat → ClassId) (g : (St × (St)) → Option (St × (St))) (r : St × (St)) : Prop := ∀ (s0 : St × (St)) (H : Heap) (locs : List Loc) (ls : Array Slot), g s0 = some r → va_P (dC, dI) vwCl (dw_X16 a ac s0) H → va_D A (dw_X16 a ac s0) → va_S A s.heap H locs → lv_has ls 2 [(0, .ref (a 0))] → W p l e (headSpec ow_dm_X16_sweep ({ frames := 1, cells := 0, slots := 0, locals := 24 })).room s m args below meth c H locs 0 0 Q (F0 m 0 ls [])
set_option maxHeartbeats 40000000 in
set_option maxRecDepth 100000 in
theorem db_X16_sweep_142 {p : Program} {l : Launch} {e : Env} {s : State} {m : MethodId} {args : Array Value} {below : List Frame} {meth : Method} {c : Code} {Q : State → Prop} {A : Nat → Prop} {dC : Nat → ClassId} {dI : Nat → Nat → Nat} {a : Nat → Nat} {ac : Nat → ClassId} {n : Nat} {r : St × (St)} (C : nd_C p l s m args c A (dC, dI) cX16_sweep 2 RX16 ow_dm_X16_sweep (dk_X16 ac)) (K : nd_Kv p l e (headSpec ow_dm_X16_sweep ({ frames := 1, cells := 0, slots := 0, locals := 24 })).room s m args below meth c Q A (dC, dI) cX16_sweep (St × (St)) (dw_X16 a ac) r) {g99 : Int32 → (St × (St)) → Option (St × (St))} (J99 : dj_X16_sweep_99 p l e s m args below meth c Q A dC dI a ac g99 r) : dj_X16_sweep_142 p l e s m args below meth c Q A dC dI a ac (df_X16_sweep_142 n g99) r := by
  obtain ⟨hlt, hx, hb, hml, hown, hts, hN, hA, hK⟩ := id C
  intro x1 y1 y2 s0 H locs ls h hP hD hS hl
  unfold df_X16_sweep_142 at h
  obtain ⟨i6, h⟩ := nd_ck_e h
  refine va_zast (i := y1) (x := y2) hx hb hK hP hD hS 26 25 rfl rfl i6 dX16_sweep_142 (fun H locs hP hD hS => ?_)
  obtain ⟨s7, es7, h⟩ := nd_let_e h
  have hP : va_P (dC, dI) vwCl (dw_X16 a ac s7) H := by rw [es7]; exact hP
  have hD : va_D A (dw_X16 a ac s7) := by rw [es7]; exact hD
  obtain ⟨z8, ez8, h⟩ := nd_let_e h
  refine lv_iinc (v := z8) (lv' := [(1, .int z8), (0, .ref (a 0))]) hx hb dX16_sweep_143 hl (k := 1) rfl (by rw [ez8]) (by decide) rfl (fun ls hl => ?_)
  refine lv_goto (tgt := 99) hx hb dX16_sweep_146 (by decide) ?_
  exact (J99) (z8) s7 _ _ _ h hP hD hS (lv_sub hl [1, 0] rfl)
set_option maxHeartbeats 40000000 in
set_option maxRecDepth 100000 in
theorem db_X16_sweep_141 {p : Program} {l : Launch} {e : Env} {s : State} {m : MethodId} {args : Array Value} {below : List Frame} {meth : Method} {c : Code} {Q : State → Prop} {A : Nat → Prop} {dC : Nat → ClassId} {dI : Nat → Nat → Nat} {a : Nat → Nat} {ac : Nat → ClassId} {n : Nat} {r : St × (St)} (C : nd_C p l s m args c A (dC, dI) cX16_sweep 2 RX16 ow_dm_X16_sweep (dk_X16 ac)) (K : nd_Kv p l e (headSpec ow_dm_X16_sweep ({ frames := 1, cells := 0, slots := 0, locals := 24 })).room s m args below meth c Q A (dC, dI) cX16_sweep (St × (St)) (dw_X16 a ac) r) {g99 : Int32 → (St × (St)) → Option (St × (St))} (J99 : dj_X16_sweep_99 p l e s m args below meth c Q A dC dI a ac g99 r) : dj_X16_sweep_141 p l e s m args below meth c Q A dC dI a ac (df_X16_sweep_141 n g99) r := by
  obtain ⟨hlt, hx, hb, hml, hown, hts, hN, hA, hK⟩ := id C
  intro x1 y1 s0 H locs ls h hP hD hS hl
  unfold df_X16_sweep_141 at h
  refine lv_iconst (v := 0) hx hb dX16_sweep_141 (by decide) ?_
  exact (db_X16_sweep_142 C K J99) (x1) (y1) (0) s0 _ _ _ h hP hD hS (lv_sub hl [0, 1] rfl)
set_option maxHeartbeats 40000000 in
set_option maxRecDepth 100000 in
theorem db_X16_sweep_137 {p : Program} {l : Launch} {e : Env} {s : State} {m : MethodId} {args : Array Value} {below : List Frame} {meth : Method} {c : Code} {Q : State → Prop} {A : Nat → Prop} {dC : Nat → ClassId} {dI : Nat → Nat → Nat} {a : Nat → Nat} {ac : Nat → ClassId} {n : Nat} {r : St × (St)} (C : nd_C p l s m args c A (dC, dI) cX16_sweep 2 RX16 ow_dm_X16_sweep (dk_X16 ac)) (K : nd_Kv p l e (headSpec ow_dm_X16_sweep ({ frames := 1, cells := 0, slots := 0, locals := 24 })).room s m args below meth c Q A (dC, dI) cX16_sweep (St × (St)) (dw_X16 a ac) r) {g99 : Int32 → (St × (St)) → Option (St × (St))} (J99 : dj_X16_sweep_99 p l e s m args below meth c Q A dC dI a ac g99 r) : dj_X16_sweep_137 p l e s m args below meth c Q A dC dI a ac (df_X16_sweep_137 n g99) r := by
  obtain ⟨hlt, hx, hb, hml, hown, hts, hN, hA, hK⟩ := id C
  intro x1 y1 s0 H locs ls h hP hD hS hl
  unfold df_X16_sweep_137 at h
  refine lv_iconst (v := 1) hx hb dX16_sweep_137 (by decide) ?_
  refine lv_goto (tgt := 142) hx hb dX16_sweep_138 (by decide) ?_
  exact (db_X16_sweep_142 C K J99) (x1) (y1) (1) s0 _ _ _ h hP hD hS (lv_sub hl [0, 1] rfl)
set_option maxHeartbeats 40000000 in
set_option maxRecDepth 100000 in
theorem dB_X16_sweep_99 {p : Program} {l : Launch} {e : Env} {s : State} {m : MethodId} {args : Array Value} {below : List Frame} {meth : Method} {c : Code} {Q : State → Prop} {A : Nat → Prop} {dC : Nat → ClassId} {dI : Nat → Nat → Nat} {a : Nat → Nat} {ac : Nat → ClassId} {n : Nat} {r : St × (St)} (C : nd_C p l s m args c A (dC, dI) cX16_sweep 2 RX16 ow_dm_X16_sweep (dk_X16 ac)) (K : nd_Kv p l e (headSpec ow_dm_X16_sweep ({ frames := 1, cells := 0, slots := 0, locals := 24 })).room s m args below meth c Q A (dC, dI) cX16_sweep (St × (St)) (dw_X16 a ac) r) {g99 : Int32 → (St × (St)) → Option (St × (St))} (J99 : dj_X16_sweep_99 p l e s m args below meth c Q A dC dI a ac g99 r) : dj_X16_sweep_99 p l e s m args below meth c Q A dC dI a ac (dF_X16_sweep_99 n g99) r := by
  obtain ⟨hlt, hx, hb, hml, hown, hts, hN, hA, hK⟩ := id C
  intro x1 s0 H locs ls h hP hD hS hl
  unfold dF_X16_sweep_99 at h
  refine lv_iload_n hx hb dX16_sweep_99 rfl (lv_at hl 1 rfl) ?_
  refine lv_bipush (v := 16) hx hb dX16_sweep_100 (by decide) ?_
  refine lv_icmp_ge (tgt := 149) hx hb dX16_sweep_102 (by decide) (fun c3 => ?_) (fun c3 => ?_)
  · have h := nd_pos h c3
    exact K _ _ _ _ _ dX16_sweep_149 (Option.some.inj h).symm hP hD hS
  · have h := nd_neg h c3
    refine lv_aload_n hx hb dX16_sweep_105 rfl (lv_at hl 0 rfl) ?_
    refine va_get (D := (dC, dI)) (ci := 17) (v := .ref (a 26)) (C := RX16) (T := TX16) (N := 56) hx hb hts hi_dm_X16_sweep_X16 hown hK hP 0 rfl rfl 35 (by decide) (hts (.fieldLink RX16 88 "TimeMachineModel$Machine" "isFile" "[Z") (List.mem_of_getElem? (i := 1) rfl)) (fun _ h9 => h9) rfl dX16_sweep_106 ?_
    refine lv_iload_n hx hb dX16_sweep_109 rfl (lv_at hl 1 rfl) ?_
    refine lv_aload_n hx hb dX16_sweep_110 rfl (lv_at hl 0 rfl) ?_
    refine va_get (D := (dC, dI)) (ci := 17) (v := .ref (a 26)) (C := RX16) (T := TX16) (N := 56) hx hb hts hi_dm_X16_sweep_X16 hown hK hP 0 rfl rfl 35 (by decide) (hts (.fieldLink RX16 88 "TimeMachineModel$Machine" "isFile" "[Z") (List.mem_of_getElem? (i := 1) rfl)) (fun _ h9 => h9) rfl dX16_sweep_111 ?_
    refine lv_iload_n hx hb dX16_sweep_114 rfl (lv_at hl 1 rfl) ?_
    obtain ⟨i4, h⟩ := nd_ck_e h
    refine va_zald (i := x1) hx hb hK hP 26 25 rfl rfl i4 dX16_sweep_115 ?_
    refine lv_if_eq (tgt := 141) hx hb dX16_sweep_116 (by decide) (fun c5 => ?_) (fun c5 => ?_)
    · have h := nd_pos h c5
      exact (db_X16_sweep_141 C K J99) (x1) (x1) s0 _ _ _ h hP hD hS (lv_sub hl [0, 1] rfl)
    · have h := nd_neg h c5
      refine lv_aload_n hx hb dX16_sweep_119 rfl (lv_at hl 0 rfl) ?_
      refine va_get (D := (dC, dI)) (ci := 17) (v := .ref (a 27)) (C := RX16) (T := TX16) (N := 56) hx hb hts hi_dm_X16_sweep_X16 hown hK hP 0 rfl rfl 36 (by decide) (hts (.fieldLink RX16 91 "TimeMachineModel$Machine" "isNamed" "[Z") (List.mem_of_getElem? (i := 2) rfl)) (fun _ h9 => h9) rfl dX16_sweep_120 ?_
      refine lv_iload_n hx hb dX16_sweep_123 rfl (lv_at hl 1 rfl) ?_
      obtain ⟨i9, h⟩ := nd_ck_e h
      refine va_zald (i := x1) hx hb hK hP 27 26 rfl rfl i9 dX16_sweep_124 ?_
      refine lv_if_ne (tgt := 137) hx hb dX16_sweep_125 (by decide) (fun c10 => ?_) (fun c10 => ?_)
      · have h := nd_neg h c10
        exact (db_X16_sweep_137 C K J99) (x1) (x1) s0 _ _ _ h hP hD hS (lv_sub hl [0, 1] rfl)
      · have h := nd_pos h c10
        refine lv_aload_n hx hb dX16_sweep_128 rfl (lv_at hl 0 rfl) ?_
        refine lv_iconst (v := 3) hx hb dX16_sweep_129 (by decide) ?_
        refine lv_iload_n hx hb dX16_sweep_130 rfl (lv_at hl 1 rfl) ?_
        obtain ⟨q11, s12, hq, h⟩ := nd_b2_e h
        have hPc := hP
        have hDc := hD
        have hKc := hK
        have hFc := nd_rs hD hS hA
        refine nd_cVi (As := [.int 3, .int x1]) (rest := [.int x1, .ref (a 26)]) (q := q11) (w' := dw_X16 a ac s12) ⟨hx, hb, hml, hown, hts⟩ (fun sz => dm_X16_ends l hlt dC dI a ac n (3) (x1) s0 hq sz) (cwV 2 hts gi_dm_X16_sweep_0 rfl rfl rfl (by decide +kernel) ⟨Nat.le_of_ble_eq_true rfl, Nat.le_of_ble_eq_true rfl⟩) hPc hDc hKc hS hA hN (va_recv hKc hPc (ci := 17) (q0 := 0) rfl rfl) rfl hl.1 rfl (Nat.le_of_ble_eq_true rfl) dX16_sweep_131 (fun H locs hP1 hD1 hk1 hS => ?_)
        have hP := hP1
        have hD := hD1.weaken (fun k q _ h => hFc q.1 h)
        refine lv_if_le (tgt := 141) hx hb dX16_sweep_134 (by decide) (fun c14 => ?_) (fun c14 => ?_)
        · have h := nd_pos h c14
          exact (db_X16_sweep_141 C K J99) (x1) (x1) s12 _ _ _ h hP hD hS (lv_sub hl [0, 1] rfl)
        · have h := nd_neg h c14
          exact (db_X16_sweep_137 C K J99) (x1) (x1) s12 _ _ _ h hP hD hS (lv_sub hl [0, 1] rfl)
set_option maxHeartbeats 40000000 in
set_option maxRecDepth 100000 in
theorem db_X16_sweep_99 {p : Program} {l : Launch} {e : Env} {s : State} {m : MethodId} {args : Array Value} {below : List Frame} {meth : Method} {c : Code} {Q : State → Prop} {A : Nat → Prop} {dC : Nat → ClassId} {dI : Nat → Nat → Nat} {a : Nat → Nat} {ac : Nat → ClassId} {n : Nat} {r : St × (St)} (C : nd_C p l s m args c A (dC, dI) cX16_sweep 2 RX16 ow_dm_X16_sweep (dk_X16 ac)) (K : nd_Kv p l e (headSpec ow_dm_X16_sweep ({ frames := 1, cells := 0, slots := 0, locals := 24 })).room s m args below meth c Q A (dC, dI) cX16_sweep (St × (St)) (dw_X16 a ac) r) (k : Nat) : dj_X16_sweep_99 p l e s m args below meth c Q A dC dI a ac (df_X16_sweep_99 n k) r := by
  induction k with
  | zero => intro x1 s0 H locs ls h; exact nomatch (show (none : Option (St × (St))) = some r from h)
  | succ k ih => exact dB_X16_sweep_99 C K ih
set_option maxHeartbeats 40000000 in
set_option maxRecDepth 100000 in
theorem db_X16_sweep_90 {p : Program} {l : Launch} {e : Env} {s : State} {m : MethodId} {args : Array Value} {below : List Frame} {meth : Method} {c : Code} {Q : State → Prop} {A : Nat → Prop} {dC : Nat → ClassId} {dI : Nat → Nat → Nat} {a : Nat → Nat} {ac : Nat → ClassId} {n : Nat} {r : St × (St)} (C : nd_C p l s m args c A (dC, dI) cX16_sweep 2 RX16 ow_dm_X16_sweep (dk_X16 ac)) (K : nd_Kv p l e (headSpec ow_dm_X16_sweep ({ frames := 1, cells := 0, slots := 0, locals := 24 })).room s m args below meth c Q A (dC, dI) cX16_sweep (St × (St)) (dw_X16 a ac) r) {g49 : Int32 → (St × (St)) → Option (St × (St))} (J49 : dj_X16_sweep_49 p l e s m args below meth c Q A dC dI a ac g49 r) : dj_X16_sweep_90 p l e s m args below meth c Q A dC dI a ac (df_X16_sweep_90 n g49) r := by
  obtain ⟨hlt, hx, hb, hml, hown, hts, hN, hA, hK⟩ := id C
  intro x1 y1 y2 s0 H locs ls h hP hD hS hl
  unfold df_X16_sweep_90 at h
  obtain ⟨i17, h⟩ := nd_ck_e h
  refine va_zast (i := y1) (x := y2) hx hb hK hP hD hS 25 24 rfl rfl i17 dX16_sweep_90 (fun H locs hP hD hS => ?_)
  obtain ⟨s18, es18, h⟩ := nd_let_e h
  have hP : va_P (dC, dI) vwCl (dw_X16 a ac s18) H := by rw [es18]; exact hP
  have hD : va_D A (dw_X16 a ac s18) := by rw [es18]; exact hD
  obtain ⟨z19, ez19, h⟩ := nd_let_e h
  refine lv_iinc (v := z19) (lv' := [(1, .int z19), (0, .ref (a 0))]) hx hb dX16_sweep_91 hl (k := 1) rfl (by rw [ez19]) (by decide) rfl (fun ls hl => ?_)
  refine lv_goto (tgt := 49) hx hb dX16_sweep_94 (by decide) ?_
  exact (J49) (z19) s18 _ _ _ h hP hD hS (lv_sub hl [1, 0] rfl)
set_option maxHeartbeats 40000000 in
set_option maxRecDepth 100000 in
theorem db_X16_sweep_89 {p : Program} {l : Launch} {e : Env} {s : State} {m : MethodId} {args : Array Value} {below : List Frame} {meth : Method} {c : Code} {Q : State → Prop} {A : Nat → Prop} {dC : Nat → ClassId} {dI : Nat → Nat → Nat} {a : Nat → Nat} {ac : Nat → ClassId} {n : Nat} {r : St × (St)} (C : nd_C p l s m args c A (dC, dI) cX16_sweep 2 RX16 ow_dm_X16_sweep (dk_X16 ac)) (K : nd_Kv p l e (headSpec ow_dm_X16_sweep ({ frames := 1, cells := 0, slots := 0, locals := 24 })).room s m args below meth c Q A (dC, dI) cX16_sweep (St × (St)) (dw_X16 a ac) r) {g49 : Int32 → (St × (St)) → Option (St × (St))} (J49 : dj_X16_sweep_49 p l e s m args below meth c Q A dC dI a ac g49 r) : dj_X16_sweep_89 p l e s m args below meth c Q A dC dI a ac (df_X16_sweep_89 n g49) r := by
  obtain ⟨hlt, hx, hb, hml, hown, hts, hN, hA, hK⟩ := id C
  intro x1 y1 s0 H locs ls h hP hD hS hl
  unfold df_X16_sweep_89 at h
  refine lv_iconst (v := 0) hx hb dX16_sweep_89 (by decide) ?_
  exact (db_X16_sweep_90 C K J49) (x1) (y1) (0) s0 _ _ _ h hP hD hS (lv_sub hl [0, 1] rfl)
set_option maxHeartbeats 40000000 in
set_option maxRecDepth 100000 in
theorem dB_X16_sweep_49 {p : Program} {l : Launch} {e : Env} {s : State} {m : MethodId} {args : Array Value} {below : List Frame} {meth : Method} {c : Code} {Q : State → Prop} {A : Nat → Prop} {dC : Nat → ClassId} {dI : Nat → Nat → Nat} {a : Nat → Nat} {ac : Nat → ClassId} {n : Nat} {r : St × (St)} (C : nd_C p l s m args c A (dC, dI) cX16_sweep 2 RX16 ow_dm_X16_sweep (dk_X16 ac)) (K : nd_Kv p l e (headSpec ow_dm_X16_sweep ({ frames := 1, cells := 0, slots := 0, locals := 24 })).room s m args below meth c Q A (dC, dI) cX16_sweep (St × (St)) (dw_X16 a ac) r) {g49 : Int32 → (St × (St)) → Option (St × (St))} (J49 : dj_X16_sweep_49 p l e s m args below meth c Q A dC dI a ac g49 r) : dj_X16_sweep_49 p l e s m args below meth c Q A dC dI a ac (dF_X16_sweep_49 n g49) r := by
  obtain ⟨hlt, hx, hb, hml, hown, hts, hN, hA, hK⟩ := id C
  intro x1 s0 H locs ls h hP hD hS hl
  unfold dF_X16_sweep_49 at h
  refine lv_iload_n hx hb dX16_sweep_49 rfl (lv_at hl 1 rfl) ?_
  refine lv_bipush (v := 8) hx hb dX16_sweep_50 (by decide) ?_
  refine lv_icmp_ge (tgt := 97) hx hb dX16_sweep_52 (by decide) (fun c2 => ?_) (fun c2 => ?_)
  · have h := nd_pos h c2
    refine lv_iconst (v := 0) hx hb dX16_sweep_97 (by decide) ?_
    refine lv_istore_n (lv' := [(1, .int 0), (0, .ref (a 0))]) hx hb dX16_sweep_98 rfl hl (by decide) rfl (fun ls hl => ?_)
    exact (db_X16_sweep_99 C K n) (0) s0 _ _ _ h hP hD hS (lv_sub hl [1, 0] rfl)
  · have h := nd_neg h c2
    refine lv_aload_n hx hb dX16_sweep_55 rfl (lv_at hl 0 rfl) ?_
    refine va_get (D := (dC, dI)) (ci := 17) (v := .ref (a 25)) (C := RX16) (T := TX16) (N := 56) hx hb hts hi_dm_X16_sweep_X16 hown hK hP 0 rfl rfl 34 (by decide) (hts (.fieldLink RX16 85 "TimeMachineModel$Machine" "isPipe" "[Z") (List.mem_of_getElem? (i := 7) rfl)) (fun _ h9 => h9) rfl dX16_sweep_56 ?_
    refine lv_iload_n hx hb dX16_sweep_59 rfl (lv_at hl 1 rfl) ?_
    refine lv_aload_n hx hb dX16_sweep_60 rfl (lv_at hl 0 rfl) ?_
    refine va_get (D := (dC, dI)) (ci := 17) (v := .ref (a 25)) (C := RX16) (T := TX16) (N := 56) hx hb hts hi_dm_X16_sweep_X16 hown hK hP 0 rfl rfl 34 (by decide) (hts (.fieldLink RX16 85 "TimeMachineModel$Machine" "isPipe" "[Z") (List.mem_of_getElem? (i := 7) rfl)) (fun _ h9 => h9) rfl dX16_sweep_61 ?_
    refine lv_iload_n hx hb dX16_sweep_64 rfl (lv_at hl 1 rfl) ?_
    obtain ⟨i15, h⟩ := nd_ck_e h
    refine va_zald (i := x1) hx hb hK hP 25 24 rfl rfl i15 dX16_sweep_65 ?_
    refine lv_if_eq (tgt := 89) hx hb dX16_sweep_66 (by decide) (fun c16 => ?_) (fun c16 => ?_)
    · have h := nd_pos h c16
      exact (db_X16_sweep_89 C K J49) (x1) (x1) s0 _ _ _ h hP hD hS (lv_sub hl [0, 1] rfl)
    · have h := nd_neg h c16
      refine lv_aload_n hx hb dX16_sweep_69 rfl (lv_at hl 0 rfl) ?_
      refine lv_iconst (v := 1) hx hb dX16_sweep_70 (by decide) ?_
      refine lv_iload_n hx hb dX16_sweep_71 rfl (lv_at hl 1 rfl) ?_
      obtain ⟨q20, s21, hq, h⟩ := nd_b2_e h
      have hPc := hP
      have hDc := hD
      have hKc := hK
      have hFc := nd_rs hD hS hA
      refine nd_cVi (As := [.int 1, .int x1]) (rest := [.int x1, .ref (a 25)]) (q := q20) (w' := dw_X16 a ac s21) ⟨hx, hb, hml, hown, hts⟩ (fun sz => dm_X16_ends l hlt dC dI a ac n (1) (x1) s0 hq sz) (cwV 2 hts gi_dm_X16_sweep_0 rfl rfl rfl (by decide +kernel) ⟨Nat.le_of_ble_eq_true rfl, Nat.le_of_ble_eq_true rfl⟩) hPc hDc hKc hS hA hN (va_recv hKc hPc (ci := 17) (q0 := 0) rfl rfl) rfl hl.1 rfl (Nat.le_of_ble_eq_true rfl) dX16_sweep_72 (fun H locs hP1 hD1 hk1 hS => ?_)
      have hP := hP1
      have hD := hD1.weaken (fun k q _ h => hFc q.1 h)
      refine lv_aload_n hx hb dX16_sweep_75 rfl (lv_at hl 0 rfl) ?_
      refine lv_iconst (v := 2) hx hb dX16_sweep_76 (by decide) ?_
      refine lv_iload_n hx hb dX16_sweep_77 rfl (lv_at hl 1 rfl) ?_
      obtain ⟨q23, s24, hq, h⟩ := nd_b2_e h
      have hPc := hP
      have hDc := hD
      have hKc := hK
      have hFc := nd_rs hD hS hA
      refine nd_cVi (As := [.int 2, .int x1]) (rest := [.int q20, .int x1, .ref (a 25)]) (q := q23) (w' := dw_X16 a ac s24) ⟨hx, hb, hml, hown, hts⟩ (fun sz => dm_X16_ends l hlt dC dI a ac n (2) (x1) s21 hq sz) (cwV 2 hts gi_dm_X16_sweep_0 rfl rfl rfl (by decide +kernel) ⟨Nat.le_of_ble_eq_true rfl, Nat.le_of_ble_eq_true rfl⟩) hPc hDc hKc hS hA hN (va_recv hKc hPc (ci := 17) (q0 := 0) rfl rfl) rfl hl.1 rfl (Nat.le_of_ble_eq_true rfl) dX16_sweep_78 (fun H locs hP1 hD1 hk1 hS => ?_)
      have hP := hP1
      have hD := hD1.weaken (fun k q _ h => hFc q.1 h)
      refine lv_iadd hx hb dX16_sweep_81 ?_
      refine lv_if_le (tgt := 89) hx hb dX16_sweep_82 (by decide) (fun c26 => ?_) (fun c26 => ?_)
      · have h := nd_pos h c26
        exact (db_X16_sweep_89 C K J49) (x1) (x1) s24 _ _ _ h hP hD hS (lv_sub hl [0, 1] rfl)
      · have h := nd_neg h c26
        refine lv_iconst (v := 1) hx hb dX16_sweep_85 (by decide) ?_
        refine lv_goto (tgt := 90) hx hb dX16_sweep_86 (by decide) ?_
        exact (db_X16_sweep_90 C K J49) (x1) (x1) (1) s24 _ _ _ h hP hD hS (lv_sub hl [0, 1] rfl)
set_option maxHeartbeats 40000000 in
set_option maxRecDepth 100000 in
theorem db_X16_sweep_49 {p : Program} {l : Launch} {e : Env} {s : State} {m : MethodId} {args : Array Value} {below : List Frame} {meth : Method} {c : Code} {Q : State → Prop} {A : Nat → Prop} {dC : Nat → ClassId} {dI : Nat → Nat → Nat} {a : Nat → Nat} {ac : Nat → ClassId} {n : Nat} {r : St × (St)} (C : nd_C p l s m args c A (dC, dI) cX16_sweep 2 RX16 ow_dm_X16_sweep (dk_X16 ac)) (K : nd_Kv p l e (headSpec ow_dm_X16_sweep ({ frames := 1, cells := 0, slots := 0, locals := 24 })).room s m args below meth c Q A (dC, dI) cX16_sweep (St × (St)) (dw_X16 a ac) r) (k : Nat) : dj_X16_sweep_49 p l e s m args below meth c Q A dC dI a ac (df_X16_sweep_49 n k) r := by
  induction k with
  | zero => intro x1 s0 H locs ls h; exact nomatch (show (none : Option (St × (St))) = some r from h)
  | succ k ih => exact dB_X16_sweep_49 C K ih
set_option maxHeartbeats 40000000 in
set_option maxRecDepth 100000 in
theorem db_X16_sweep_40 {p : Program} {l : Launch} {e : Env} {s : State} {m : MethodId} {args : Array Value} {below : List Frame} {meth : Method} {c : Code} {Q : State → Prop} {A : Nat → Prop} {dC : Nat → ClassId} {dI : Nat → Nat → Nat} {a : Nat → Nat} {ac : Nat → ClassId} {n : Nat} {r : St × (St)} (C : nd_C p l s m args c A (dC, dI) cX16_sweep 2 RX16 ow_dm_X16_sweep (dk_X16 ac)) (K : nd_Kv p l e (headSpec ow_dm_X16_sweep ({ frames := 1, cells := 0, slots := 0, locals := 24 })).room s m args below meth c Q A (dC, dI) cX16_sweep (St × (St)) (dw_X16 a ac) r) {g2 : Int32 → (St × (St)) → Option (St × (St))} (J2 : dj_X16_sweep_2 p l e s m args below meth c Q A dC dI a ac g2 r) : dj_X16_sweep_40 p l e s m args below meth c Q A dC dI a ac (df_X16_sweep_40 n g2) r := by
  obtain ⟨hlt, hx, hb, hml, hown, hts, hN, hA, hK⟩ := id C
  intro x1 y1 y2 s0 H locs ls h hP hD hS hl
  unfold df_X16_sweep_40 at h
  obtain ⟨i29, h⟩ := nd_ck_e h
  refine va_iast (i := y1) (x := y2) hx hb hK hP hD hS 21 20 rfl rfl i29 dX16_sweep_40 (fun H locs hP hD hS => ?_)
  obtain ⟨s30, es30, h⟩ := nd_let_e h
  have hP : va_P (dC, dI) vwCl (dw_X16 a ac s30) H := by rw [es30]; exact hP
  have hD : va_D A (dw_X16 a ac s30) := by rw [es30]; exact hD
  obtain ⟨z31, ez31, h⟩ := nd_let_e h
  refine lv_iinc (v := z31) (lv' := [(1, .int z31), (0, .ref (a 0))]) hx hb dX16_sweep_41 hl (k := 1) rfl (by rw [ez31]) (by decide) rfl (fun ls hl => ?_)
  refine lv_goto (tgt := 2) hx hb dX16_sweep_44 (by decide) ?_
  exact (J2) (z31) s30 _ _ _ h hP hD hS (lv_sub hl [1, 0] rfl)
set_option maxHeartbeats 40000000 in
set_option maxRecDepth 100000 in
theorem db_X16_sweep_39 {p : Program} {l : Launch} {e : Env} {s : State} {m : MethodId} {args : Array Value} {below : List Frame} {meth : Method} {c : Code} {Q : State → Prop} {A : Nat → Prop} {dC : Nat → ClassId} {dI : Nat → Nat → Nat} {a : Nat → Nat} {ac : Nat → ClassId} {n : Nat} {r : St × (St)} (C : nd_C p l s m args c A (dC, dI) cX16_sweep 2 RX16 ow_dm_X16_sweep (dk_X16 ac)) (K : nd_Kv p l e (headSpec ow_dm_X16_sweep ({ frames := 1, cells := 0, slots := 0, locals := 24 })).room s m args below meth c Q A (dC, dI) cX16_sweep (St × (St)) (dw_X16 a ac) r) {g2 : Int32 → (St × (St)) → Option (St × (St))} (J2 : dj_X16_sweep_2 p l e s m args below meth c Q A dC dI a ac g2 r) : dj_X16_sweep_39 p l e s m args below meth c Q A dC dI a ac (df_X16_sweep_39 n g2) r := by
  obtain ⟨hlt, hx, hb, hml, hown, hts, hN, hA, hK⟩ := id C
  intro x1 y1 s0 H locs ls h hP hD hS hl
  unfold df_X16_sweep_39 at h
  refine lv_iconst (v := 0) hx hb dX16_sweep_39 (by decide) ?_
  exact (db_X16_sweep_40 C K J2) (x1) (y1) (0) s0 _ _ _ h hP hD hS (lv_sub hl [0, 1] rfl)
set_option maxHeartbeats 40000000 in
set_option maxRecDepth 100000 in
theorem dB_X16_sweep_2 {p : Program} {l : Launch} {e : Env} {s : State} {m : MethodId} {args : Array Value} {below : List Frame} {meth : Method} {c : Code} {Q : State → Prop} {A : Nat → Prop} {dC : Nat → ClassId} {dI : Nat → Nat → Nat} {a : Nat → Nat} {ac : Nat → ClassId} {n : Nat} {r : St × (St)} (C : nd_C p l s m args c A (dC, dI) cX16_sweep 2 RX16 ow_dm_X16_sweep (dk_X16 ac)) (K : nd_Kv p l e (headSpec ow_dm_X16_sweep ({ frames := 1, cells := 0, slots := 0, locals := 24 })).room s m args below meth c Q A (dC, dI) cX16_sweep (St × (St)) (dw_X16 a ac) r) {g2 : Int32 → (St × (St)) → Option (St × (St))} (J2 : dj_X16_sweep_2 p l e s m args below meth c Q A dC dI a ac g2 r) : dj_X16_sweep_2 p l e s m args below meth c Q A dC dI a ac (dF_X16_sweep_2 n g2) r := by
  obtain ⟨hlt, hx, hb, hml, hown, hts, hN, hA, hK⟩ := id C
  intro x1 s0 H locs ls h hP hD hS hl
  unfold dF_X16_sweep_2 at h
  refine lv_iload_n hx hb dX16_sweep_2 rfl (lv_at hl 1 rfl) ?_
  refine lv_bipush (v := 48) hx hb dX16_sweep_3 (by decide) ?_
  refine lv_icmp_ge (tgt := 47) hx hb dX16_sweep_5 (by decide) (fun c1 => ?_) (fun c1 => ?_)
  · have h := nd_pos h c1
    refine lv_iconst (v := 0) hx hb dX16_sweep_47 (by decide) ?_
    refine lv_istore_n (lv' := [(1, .int 0), (0, .ref (a 0))]) hx hb dX16_sweep_48 rfl hl (by decide) rfl (fun ls hl => ?_)
    exact (db_X16_sweep_49 C K n) (0) s0 _ _ _ h hP hD hS (lv_sub hl [1, 0] rfl)
  · have h := nd_neg h c1
    refine lv_aload_n hx hb dX16_sweep_8 rfl (lv_at hl 0 rfl) ?_
    refine va_get (D := (dC, dI)) (ci := 17) (v := .ref (a 21)) (C := RX16) (T := TX16) (N := 56) hx hb hts hi_dm_X16_sweep_X16 hown hK hP 0 rfl rfl 30 (by decide) (hts (.fieldLink RX16 73 "TimeMachineModel$Machine" "kind" "[I") (List.mem_of_getElem? (i := 8) rfl)) (fun _ h9 => h9) rfl dX16_sweep_9 ?_
    refine lv_iload_n hx hb dX16_sweep_12 rfl (lv_at hl 1 rfl) ?_
    refine lv_aload_n hx hb dX16_sweep_13 rfl (lv_at hl 0 rfl) ?_
    refine va_get (D := (dC, dI)) (ci := 17) (v := .ref (a 21)) (C := RX16) (T := TX16) (N := 56) hx hb hts hi_dm_X16_sweep_X16 hown hK hP 0 rfl rfl 30 (by decide) (hts (.fieldLink RX16 73 "TimeMachineModel$Machine" "kind" "[I") (List.mem_of_getElem? (i := 8) rfl)) (fun _ h9 => h9) rfl dX16_sweep_14 ?_
    refine lv_iload_n hx hb dX16_sweep_17 rfl (lv_at hl 1 rfl) ?_
    obtain ⟨i27, h⟩ := nd_ck_e h
    refine va_iald (i := x1) hx hb hK hP 21 20 rfl rfl i27 dX16_sweep_18 ?_
    refine lv_if_le (tgt := 39) hx hb dX16_sweep_19 (by decide) (fun c28 => ?_) (fun c28 => ?_)
    · have h := nd_pos h c28
      exact (db_X16_sweep_39 C K J2) (x1) (x1) s0 _ _ _ h hP hD hS (lv_sub hl [0, 1] rfl)
    · have h := nd_neg h c28
      refine lv_aload_n hx hb dX16_sweep_22 rfl (lv_at hl 0 rfl) ?_
      refine lv_iload_n hx hb dX16_sweep_23 rfl (lv_at hl 1 rfl) ?_
      obtain ⟨q32, s33, hq, h⟩ := nd_b2_e h
      have hPc := hP
      have hDc := hD
      have hKc := hK
      have hFc := nd_rs hD hS hA
      refine nd_cVi (As := [.int x1]) (rest := [.int x1, .ref (a 21)]) (q := q32) (w' := dw_X16 a ac s33) ⟨hx, hb, hml, hown, hts⟩ (fun sz => dm_X16_held l hlt dC dI a ac n (x1) s0 hq sz) (cwV 1 hts gi_dm_X16_sweep_1 rfl rfl rfl (by decide +kernel) ⟨Nat.le_of_ble_eq_true rfl, Nat.le_of_ble_eq_true rfl⟩) hPc hDc hKc hS hA hN (va_recv hKc hPc (ci := 17) (q0 := 0) rfl rfl) rfl hl.1 rfl (Nat.le_of_ble_eq_true rfl) dX16_sweep_24 (fun H locs hP1 hD1 hk1 hS => ?_)
      have hP := hP1
      have hD := hD1.weaken (fun k q _ h => hFc q.1 h)
      refine lv_if_le (tgt := 39) hx hb dX16_sweep_27 (by decide) (fun c35 => ?_) (fun c35 => ?_)
      · have h := nd_pos h c35
        exact (db_X16_sweep_39 C K J2) (x1) (x1) s33 _ _ _ h hP hD hS (lv_sub hl [0, 1] rfl)
      · have h := nd_neg h c35
        refine lv_aload_n hx hb dX16_sweep_30 rfl (lv_at hl 0 rfl) ?_
        refine va_get (D := (dC, dI)) (ci := 17) (v := .ref (a 21)) (C := RX16) (T := TX16) (N := 56) hx hb hts hi_dm_X16_sweep_X16 hown hK hP 0 rfl rfl 30 (by decide) (hts (.fieldLink RX16 73 "TimeMachineModel$Machine" "kind" "[I") (List.mem_of_getElem? (i := 8) rfl)) (fun _ h9 => h9) rfl dX16_sweep_31 ?_
        refine lv_iload_n hx hb dX16_sweep_34 rfl (lv_at hl 1 rfl) ?_
        obtain ⟨i36, h⟩ := nd_ck_e h
        refine va_iald (i := x1) hx hb hK hP 21 20 rfl rfl i36 dX16_sweep_35 ?_
        refine lv_goto (tgt := 40) hx hb dX16_sweep_36 (by decide) ?_
        exact (db_X16_sweep_40 C K J2) (x1) (x1) ((sR s33.1 19 (Int32.toNatClampNeg x1))) s33 _ _ _ h hP hD hS (lv_sub hl [0, 1] rfl)
set_option maxHeartbeats 40000000 in
set_option maxRecDepth 100000 in
theorem db_X16_sweep_2 {p : Program} {l : Launch} {e : Env} {s : State} {m : MethodId} {args : Array Value} {below : List Frame} {meth : Method} {c : Code} {Q : State → Prop} {A : Nat → Prop} {dC : Nat → ClassId} {dI : Nat → Nat → Nat} {a : Nat → Nat} {ac : Nat → ClassId} {n : Nat} {r : St × (St)} (C : nd_C p l s m args c A (dC, dI) cX16_sweep 2 RX16 ow_dm_X16_sweep (dk_X16 ac)) (K : nd_Kv p l e (headSpec ow_dm_X16_sweep ({ frames := 1, cells := 0, slots := 0, locals := 24 })).room s m args below meth c Q A (dC, dI) cX16_sweep (St × (St)) (dw_X16 a ac) r) (k : Nat) : dj_X16_sweep_2 p l e s m args below meth c Q A dC dI a ac (df_X16_sweep_2 n k) r := by
  induction k with
  | zero => intro x1 s0 H locs ls h; exact nomatch (show (none : Option (St × (St))) = some r from h)
  | succ k ih => exact dB_X16_sweep_2 C K ih
set_option maxHeartbeats 40000000 in
set_option maxRecDepth 100000 in
theorem db_X16_sweep_0 {p : Program} {l : Launch} {e : Env} {s : State} {m : MethodId} {args : Array Value} {below : List Frame} {meth : Method} {c : Code} {Q : State → Prop} {A : Nat → Prop} {dC : Nat → ClassId} {dI : Nat → Nat → Nat} {a : Nat → Nat} {ac : Nat → ClassId} {n : Nat} {r : St × (St)} (C : nd_C p l s m args c A (dC, dI) cX16_sweep 2 RX16 ow_dm_X16_sweep (dk_X16 ac)) (K : nd_Kv p l e (headSpec ow_dm_X16_sweep ({ frames := 1, cells := 0, slots := 0, locals := 24 })).room s m args below meth c Q A (dC, dI) cX16_sweep (St × (St)) (dw_X16 a ac) r) : dj_X16_sweep_0 p l e s m args below meth c Q A dC dI a ac (df_X16_sweep_0 n) r := by
  obtain ⟨hlt, hx, hb, hml, hown, hts, hN, hA, hK⟩ := id C
  intro s0 H locs ls h hP hD hS hl
  unfold df_X16_sweep_0 at h
  refine lv_iconst (v := 0) hx hb dX16_sweep_0 (by decide) ?_
  refine lv_istore_n (lv' := [(1, .int 0), (0, .ref (a 0))]) hx hb dX16_sweep_1 rfl hl (by decide) rfl (fun ls hl => ?_)
  exact (db_X16_sweep_2 C K n) (0) s0 _ _ _ h hP hD hS (lv_sub hl [1, 0] rfl)
set_option maxHeartbeats 40000000 in
set_option maxRecDepth 100000 in
theorem dm_X16_sweep (l : Launch) (hlt : l.stackTraces = false) (dC : Nat → ClassId) (dI : Nat → Nat → Nat) (a : Nat → Nat) (ac : Nat → ClassId) (n : Nat) (s0 : St × (St)) {r : St × (St)} (h : df_X16_sweep n s0 = some r) (sz : Nat) : Met l yX16_sweep ow_dm_X16_sweep ({ frames := 1, cells := 0, slots := 0, locals := 24 }) (va_Pc [.ref (a 0)] (fun U => U.heap.size = sz ∧ va_P (dC, dI) vwCl (dw_X16 a ac s0) U.heap ∧ va_K (dC, dI) vwCl (dk_X16 ac) U ∧ va_D (fun _ => True) (dw_X16 a ac s0) ∧ nv_E dI (va_A (dw_X16 a ac s0) sz) U)) (va_Qv (fun _ => True) (fun (_ : Unit) t => va_P (dC, dI) vwCl (dw_X16 a ac r) t.heap ∧ va_K (dC, dI) vwCl (dk_X16 ac) t ∧ va_D (va_A (dw_X16 a ac s0) sz) (dw_X16 a ac r)) (va_A (dw_X16 a ac s0) sz)) 0 0 (va_A (dw_X16 a ac s0) sz) := by
  refine Met.ofW (cc := cX16_sweep) (maxL := 2) (ret := none) (by decide) rfl ?_
  intro p e s m args below meth c s₁ B hml hv
  obtain ⟨rfl, hsz, hP, hK, hD0, hN⟩ := hv
  have hx := B.exec
  have hb := B.bytes
  have hr := B.returns
  have hts := atoms_spec (ws := ow_dm_X16_sweep) B.pre
  have hown : s.vm.findClass RX16 = some m.cls := findClass_of_methodNamed B.named
  have hlocks := B.notSynchronized
  subst hsz
  have hD := hD0.self (sz := s.heap.size)
  generalize hAe : va_A (dw_X16 a ac s0) s.heap.size = A at hD hN ⊢
  have hA : ∀ q : Nat, s.heap.size ≤ q → A q := fun q h => by rw [← hAe]; exact Or.inr h
  have hl := lv_entry ([.ref (a 0)]) (n := 2) (Nat.le_of_ble_eq_true rfl)
  rw [lg_entry_eq]
  generalize (lg_sl ([.ref (a 0)]) ++ List.replicate (2 - (lg_sl ([.ref (a 0)])).length) Slot.unset).toArray = ls at hl ⊢
  have hl : lv_has ls 2 [(0, .ref (a 0))] := hl
  exact db_X16_sweep_0 (dC := dC) (dI := dI) (a := a) (ac := ac) (n := n) (r := r) ⟨hlt, hx, hb, hml, hown, hts, hN, hA, hK⟩ (fun pc τ H locs ls d er hP hD hS => by subst er; exact W.vret hx hb hr (fun t ht hW => ⟨⟨(), rfl, trivial, by rw [ht]; exact hP, va_K.moved hW.alike hK, hD⟩, hS.F ht⟩) hS.2.2 d) s0 _ _ _ h hP hD va_S.rf (lv_sub hl [0] rfl)
def ow_dm_X16_openings : List Cond := Cond.code yX16_openings cX16_openings 3 (some .int) :: ([Cond.fieldLink RX16 73 "TimeMachineModel$Machine" "kind" "[I"] ++ (u_ws RX16 TX16 56 ++ []))
theorem gd_dm_X16_openings : ∀ w ∈ ow_dm_X16_openings, (w.onTables && w.keeps) = true ∨ ∃ ty, w = Cond.arrayClass ty := List.forall_mem_cons.mpr ⟨good_of_word rfl, List.forall_mem_append.mpr ⟨fun w h => good_of_word (List.all_eq_true.mp (by decide +kernel) w h), List.forall_mem_append.mpr ⟨gu_X16, fun _ h => nomatch h⟩⟩⟩
theorem hi_dm_X16_openings_X16 : ∀ w ∈ u_ws RX16 TX16 56, w ∈ ow_dm_X16_openings := fun w h => List.mem_cons_of_mem _ (List.mem_append_right _ (List.mem_append_left _ h))
def dj_X16_openings_26 (p : Program) (l : Launch) (e : Env) (s : State) (m : MethodId) (args : Array Value) (below : List Frame) (meth : Method) (c : Code) (Q : State → Prop) (A : Nat → Prop) (dC : Nat → ClassId) (dI : Nat → Nat → Nat) (a : Nat → Nat) (ac : Nat → ClassId) (g : Int32 → Int32 → (St × (St)) → Option (Int32 × (St × (St)))) (r : Int32 × (St × (St))) : Prop := ∀ (x2 : Int32) (y0 : Int32) (s0 : St × (St)) (H : Heap) (locs : List Loc) (ls : Array Slot), g x2 y0 s0 = some r → va_P (dC, dI) vwCl (dw_X16 a ac s0) H → va_D A (dw_X16 a ac s0) → va_S A s.heap H locs → lv_has ls 3 [(0, .ref (a 0)), (2, .int x2)] → W p l e (headSpec ow_dm_X16_openings ({ frames := 0, cells := 0, slots := 0, locals := 0 })).room s m args below meth c H locs 0 0 Q (F0 m 26 ls [.int y0])
def dj_X16_openings_4 (p : Program) (l : Launch) (e : Env) (s : State) (m : MethodId) (args : Array Value) (below : List Frame) (meth : Method) (c : Code) (Q : State → Prop) (A : Nat → Prop) (dC : Nat → ClassId) (dI : Nat → Nat → Nat) (a : Nat → Nat) (ac : Nat → ClassId) (g : Int32 → Int32 → (St × (St)) → Option (Int32 × (St × (St)))) (r : Int32 × (St × (St))) : Prop := ∀ (x1 : Int32) (x2 : Int32) (s0 : St × (St)) (H : Heap) (locs : List Loc) (ls : Array Slot), g x1 x2 s0 = some r → va_P (dC, dI) vwCl (dw_X16 a ac s0) H → va_D A (dw_X16 a ac s0) → va_S A s.heap H locs → lv_has ls 3 [(0, .ref (a 0)), (1, .int x1), (2, .int x2)] → W p l e (headSpec ow_dm_X16_openings ({ frames := 0, cells := 0, slots := 0, locals := 0 })).room s m args below meth c H locs 0 0 Q (F0 m 4 ls [])
def dj_X16_openings_0 (p : Program) (l : Launch) (e : Env) (s : State) (m : MethodId) (args : Array Value) (below : List Frame) (meth : Method) (c : Code) (Q : State → Prop) (A : Nat → Prop) (dC : Nat → ClassId) (dI : Nat → Nat → Nat) (a : Nat → Nat) (ac : Nat → ClassId) (g : (St × (St)) → Option (Int32 × (St × (St)))) (r : Int32 × (St × (St))) : Prop := ∀ (s0 : St × (St)) (H : Heap) (locs : List Loc) (ls : Array Slot), g s0 = some r → va_P (dC, dI) vwCl (dw_X16 a ac s0) H → va_D A (dw_X16 a ac s0) → va_S A s.heap H locs → lv_has ls 3 [(0, .ref (a 0))] → W p l e (headSpec ow_dm_X16_openings ({ frames := 0, cells := 0, slots := 0, locals := 0 })).room s m args below meth c H locs 0 0 Q (F0 m 0 ls [])
set_option maxHeartbeats 40000000 in
set_option maxRecDepth 100000 in
theorem db_X16_openings_26 {p : Program} {l : Launch} {e : Env} {s : State} {m : MethodId} {args : Array Value} {below : List Frame} {meth : Method} {c : Code} {Q : State → Prop} {A : Nat → Prop} {dC : Nat → ClassId} {dI : Nat → Nat → Nat} {a : Nat → Nat} {ac : Nat → ClassId} {n : Nat} {r : Int32 × (St × (St))} (C : nd_C p l s m args c A (dC, dI) cX16_openings 3 RX16 ow_dm_X16_openings (dk_X16 ac)) (K : nd_Ki p l e (headSpec ow_dm_X16_openings ({ frames := 0, cells := 0, slots := 0, locals := 0 })).room s m args below meth c Q A (dC, dI) cX16_openings .int (St × (St)) (dw_X16 a ac) r) {g4 : Int32 → Int32 → (St × (St)) → Option (Int32 × (St × (St)))} (J4 : dj_X16_openings_4 p l e s m args below meth c Q A dC dI a ac g4 r) : dj_X16_openings_26 p l e s m args below meth c Q A dC dI a ac (df_X16_openings_26 n g4) r := by
  obtain ⟨hlt, hx, hb, hml, hown, hts, hN, hA, hK⟩ := id C
  intro x2 y0 s0 H locs ls h hP hD hS hl
  unfold df_X16_openings_26 at h
  refine lv_istore_n (lv' := [(1, .int y0), (0, .ref (a 0)), (2, .int x2)]) hx hb dX16_openings_26 rfl hl (by decide) rfl (fun ls hl => ?_)
  obtain ⟨z4, ez4, h⟩ := nd_let_e h
  refine lv_iinc (v := z4) (lv' := [(2, .int z4), (1, .int y0), (0, .ref (a 0))]) hx hb dX16_openings_27 hl (k := 2) rfl (by rw [ez4]) (by decide) rfl (fun ls hl => ?_)
  refine lv_goto (tgt := 4) hx hb dX16_openings_30 (by decide) ?_
  exact (J4) (y0) (z4) s0 _ _ _ h hP hD hS (lv_sub hl [2, 1, 0] rfl)
set_option maxHeartbeats 40000000 in
set_option maxRecDepth 100000 in
theorem dB_X16_openings_4 {p : Program} {l : Launch} {e : Env} {s : State} {m : MethodId} {args : Array Value} {below : List Frame} {meth : Method} {c : Code} {Q : State → Prop} {A : Nat → Prop} {dC : Nat → ClassId} {dI : Nat → Nat → Nat} {a : Nat → Nat} {ac : Nat → ClassId} {n : Nat} {r : Int32 × (St × (St))} (C : nd_C p l s m args c A (dC, dI) cX16_openings 3 RX16 ow_dm_X16_openings (dk_X16 ac)) (K : nd_Ki p l e (headSpec ow_dm_X16_openings ({ frames := 0, cells := 0, slots := 0, locals := 0 })).room s m args below meth c Q A (dC, dI) cX16_openings .int (St × (St)) (dw_X16 a ac) r) {g4 : Int32 → Int32 → (St × (St)) → Option (Int32 × (St × (St)))} (J4 : dj_X16_openings_4 p l e s m args below meth c Q A dC dI a ac g4 r) : dj_X16_openings_4 p l e s m args below meth c Q A dC dI a ac (dF_X16_openings_4 n g4) r := by
  obtain ⟨hlt, hx, hb, hml, hown, hts, hN, hA, hK⟩ := id C
  intro x1 x2 s0 H locs ls h hP hD hS hl
  unfold dF_X16_openings_4 at h
  refine lv_iload_n hx hb dX16_openings_4 rfl (lv_at hl 2 rfl) ?_
  refine lv_bipush (v := 48) hx hb dX16_openings_5 (by decide) ?_
  refine lv_icmp_ge (tgt := 33) hx hb dX16_openings_7 (by decide) (fun c1 => ?_) (fun c1 => ?_)
  · have h := nd_pos h c1
    refine lv_iload_n hx hb dX16_openings_33 rfl (lv_at hl 1 rfl) ?_
    exact K _ _ _ _ _ _ dX16_openings_34 rfl (Option.some.inj h).symm hP hD hS
  · have h := nd_neg h c1
    refine lv_aload_n hx hb dX16_openings_10 rfl (lv_at hl 0 rfl) ?_
    refine va_get (D := (dC, dI)) (ci := 17) (v := .ref (a 21)) (C := RX16) (T := TX16) (N := 56) hx hb hts hi_dm_X16_openings_X16 hown hK hP 0 rfl rfl 30 (by decide) (hts (.fieldLink RX16 73 "TimeMachineModel$Machine" "kind" "[I") (List.mem_of_getElem? (i := 1) rfl)) (fun _ h9 => h9) rfl dX16_openings_11 ?_
    refine lv_iload_n hx hb dX16_openings_14 rfl (lv_at hl 2 rfl) ?_
    obtain ⟨i2, h⟩ := nd_ck_e h
    refine va_iald (i := x2) hx hb hK hP 21 20 rfl rfl i2 dX16_openings_15 ?_
    refine lv_if_le (tgt := 25) hx hb dX16_openings_16 (by decide) (fun c3 => ?_) (fun c3 => ?_)
    · have h := nd_pos h c3
      refine lv_iload_n hx hb dX16_openings_25 rfl (lv_at hl 1 rfl) ?_
      exact (db_X16_openings_26 C K J4) (x2) (x1) s0 _ _ _ h hP hD hS (lv_sub hl [0, 2] rfl)
    · have h := nd_neg h c3
      refine lv_iload_n hx hb dX16_openings_19 rfl (lv_at hl 1 rfl) ?_
      refine lv_iconst (v := 1) hx hb dX16_openings_20 (by decide) ?_
      refine lv_iadd hx hb dX16_openings_21 ?_
      refine lv_goto (tgt := 26) hx hb dX16_openings_22 (by decide) ?_
      exact (db_X16_openings_26 C K J4) (x2) ((x1 + 1)) s0 _ _ _ h hP hD hS (lv_sub hl [0, 2] rfl)
set_option maxHeartbeats 40000000 in
set_option maxRecDepth 100000 in
theorem db_X16_openings_4 {p : Program} {l : Launch} {e : Env} {s : State} {m : MethodId} {args : Array Value} {below : List Frame} {meth : Method} {c : Code} {Q : State → Prop} {A : Nat → Prop} {dC : Nat → ClassId} {dI : Nat → Nat → Nat} {a : Nat → Nat} {ac : Nat → ClassId} {n : Nat} {r : Int32 × (St × (St))} (C : nd_C p l s m args c A (dC, dI) cX16_openings 3 RX16 ow_dm_X16_openings (dk_X16 ac)) (K : nd_Ki p l e (headSpec ow_dm_X16_openings ({ frames := 0, cells := 0, slots := 0, locals := 0 })).room s m args below meth c Q A (dC, dI) cX16_openings .int (St × (St)) (dw_X16 a ac) r) (k : Nat) : dj_X16_openings_4 p l e s m args below meth c Q A dC dI a ac (df_X16_openings_4 n k) r := by
  induction k with
  | zero => intro x1 x2 s0 H locs ls h; exact nomatch (show (none : Option (Int32 × (St × (St)))) = some r from h)
  | succ k ih => exact dB_X16_openings_4 C K ih
set_option maxHeartbeats 40000000 in
set_option maxRecDepth 100000 in
theorem db_X16_openings_0 {p : Program} {l : Launch} {e : Env} {s : State} {m : MethodId} {args : Array Value} {below : List Frame} {meth : Method} {c : Code} {Q : State → Prop} {A : Nat → Prop} {dC : Nat → ClassId} {dI : Nat → Nat → Nat} {a : Nat → Nat} {ac : Nat → ClassId} {n : Nat} {r : Int32 × (St × (St))} (C : nd_C p l s m args c A (dC, dI) cX16_openings 3 RX16 ow_dm_X16_openings (dk_X16 ac)) (K : nd_Ki p l e (headSpec ow_dm_X16_openings ({ frames := 0, cells := 0, slots := 0, locals := 0 })).room s m args below meth c Q A (dC, dI) cX16_openings .int (St × (St)) (dw_X16 a ac) r) : dj_X16_openings_0 p l e s m args below meth c Q A dC dI a ac (df_X16_openings_0 n) r := by
  obtain ⟨hlt, hx, hb, hml, hown, hts, hN, hA, hK⟩ := id C
  intro s0 H locs ls h hP hD hS hl
  unfold df_X16_openings_0 at h
  refine lv_iconst (v := 0) hx hb dX16_openings_0 (by decide) ?_
  refine lv_istore_n (lv' := [(1, .int 0), (0, .ref (a 0))]) hx hb dX16_openings_1 rfl hl (by decide) rfl (fun ls hl => ?_)
  refine lv_iconst (v := 0) hx hb dX16_openings_2 (by decide) ?_
  refine lv_istore_n (lv' := [(2, .int 0), (1, .int 0), (0, .ref (a 0))]) hx hb dX16_openings_3 rfl hl (by decide) rfl (fun ls hl => ?_)
  exact (db_X16_openings_4 C K n) (0) (0) s0 _ _ _ h hP hD hS (lv_sub hl [2, 1, 0] rfl)
set_option maxHeartbeats 40000000 in
set_option maxRecDepth 100000 in
theorem dm_X16_openings (l : Launch) (hlt : l.stackTraces = false) (dC : Nat → ClassId) (dI : Nat → Nat → Nat) (a : Nat → Nat) (ac : Nat → ClassId) (n : Nat) (s0 : St × (St)) {r : Int32 × (St × (St))} (h : df_X16_openings n s0 = some r) (sz : Nat) : Met l yX16_openings ow_dm_X16_openings ({ frames := 0, cells := 0, slots := 0, locals := 0 }) (va_Pc [.ref (a 0)] (fun U => U.heap.size = sz ∧ va_P (dC, dI) vwCl (dw_X16 a ac s0) U.heap ∧ va_K (dC, dI) vwCl (dk_X16 ac) U ∧ va_D (fun _ => True) (dw_X16 a ac s0) ∧ nv_E dI (va_A (dw_X16 a ac s0) sz) U)) (va_Qi (fun x _ => x = r.1) (fun (_ : Unit) t => va_P (dC, dI) vwCl (dw_X16 a ac r.2) t.heap ∧ va_K (dC, dI) vwCl (dk_X16 ac) t ∧ va_D (va_A (dw_X16 a ac s0) sz) (dw_X16 a ac r.2)) (va_A (dw_X16 a ac s0) sz)) 0 0 (va_A (dw_X16 a ac s0) sz) := by
  refine Met.ofW (cc := cX16_openings) (maxL := 3) (ret := (some .int)) (by decide) rfl ?_
  intro p e s m args below meth c s₁ B hml hv
  obtain ⟨rfl, hsz, hP, hK, hD0, hN⟩ := hv
  have hx := B.exec
  have hb := B.bytes
  have hr := B.returns
  have hts := atoms_spec (ws := ow_dm_X16_openings) B.pre
  have hown : s.vm.findClass RX16 = some m.cls := findClass_of_methodNamed B.named
  have hlocks := B.notSynchronized
  subst hsz
  have hD := hD0.self (sz := s.heap.size)
  generalize hAe : va_A (dw_X16 a ac s0) s.heap.size = A at hD hN ⊢
  have hA : ∀ q : Nat, s.heap.size ≤ q → A q := fun q h => by rw [← hAe]; exact Or.inr h
  have hl := lv_entry ([.ref (a 0)]) (n := 3) (Nat.le_of_ble_eq_true rfl)
  rw [lg_entry_eq]
  generalize (lg_sl ([.ref (a 0)]) ++ List.replicate (3 - (lg_sl ([.ref (a 0)])).length) Slot.unset).toArray = ls at hl ⊢
  have hl : lv_has ls 3 [(0, .ref (a 0))] := hl
  exact db_X16_openings_0 (dC := dC) (dI := dI) (a := a) (ac := ac) (n := n) (r := r) ⟨hlt, hx, hb, hml, hown, hts, hN, hA, hK⟩ (fun pc v τ H locs ls d z er hP hD hS => by subst er; exact W.zret (v := v) hx hb hr z (fun t ht hW => ⟨⟨v, (), rfl, rfl, by rw [ht]; exact hP, va_K.moved hW.alike hK, hD⟩, hS.F ht⟩) hS.2.2 d) s0 _ _ _ h hP hD va_S.rf (lv_sub hl [0] rfl)
def ow_dm_X16_freeDescriptor : List Cond := Cond.code yX16_freeDescriptor cX16_freeDescriptor 2 (some .int) :: ([Cond.fieldLink RX16 57 "TimeMachineModel$Machine" "descriptor" "[I", Cond.fieldLink RX16 232 "TimeMachineModel$Machine" "p" "I"] ++ (u_ws RX16 TX16 56 ++ []))
theorem gd_dm_X16_freeDescriptor : ∀ w ∈ ow_dm_X16_freeDescriptor, (w.onTables && w.keeps) = true ∨ ∃ ty, w = Cond.arrayClass ty := List.forall_mem_cons.mpr ⟨good_of_word rfl, List.forall_mem_append.mpr ⟨fun w h => good_of_word (List.all_eq_true.mp (by decide +kernel) w h), List.forall_mem_append.mpr ⟨gu_X16, fun _ h => nomatch h⟩⟩⟩
theorem hi_dm_X16_freeDescriptor_X16 : ∀ w ∈ u_ws RX16 TX16 56, w ∈ ow_dm_X16_freeDescriptor := fun w h => List.mem_cons_of_mem _ (List.mem_append_right _ (List.mem_append_left _ h))
def dj_X16_freeDescriptor_43 (p : Program) (l : Launch) (e : Env) (s : State) (m : MethodId) (args : Array Value) (below : List Frame) (meth : Method) (c : Code) (Q : State → Prop) (A : Nat → Prop) (dC : Nat → ClassId) (dI : Nat → Nat → Nat) (a : Nat → Nat) (ac : Nat → ClassId) (g : Int32 → (St × (St)) → Option (Int32 × (St × (St)))) (r : Int32 × (St × (St))) : Prop := ∀ (y0 : Int32) (s0 : St × (St)) (H : Heap) (locs : List Loc) (ls : Array Slot), g y0 s0 = some r → va_P (dC, dI) vwCl (dw_X16 a ac s0) H → va_D A (dw_X16 a ac s0) → va_S A s.heap H locs → lv_has ls 2 [] → W p l e (headSpec ow_dm_X16_freeDescriptor ({ frames := 0, cells := 0, slots := 0, locals := 0 })).room s m args below meth c H locs 0 0 Q (F0 m 43 ls [.int y0])
def dj_X16_freeDescriptor_32 (p : Program) (l : Launch) (e : Env) (s : State) (m : MethodId) (args : Array Value) (below : List Frame) (meth : Method) (c : Code) (Q : State → Prop) (A : Nat → Prop) (dC : Nat → ClassId) (dI : Nat → Nat → Nat) (a : Nat → Nat) (ac : Nat → ClassId) (g : Int32 → (St × (St)) → Option (Int32 × (St × (St)))) (r : Int32 × (St × (St))) : Prop := ∀ (x1 : Int32) (s0 : St × (St)) (H : Heap) (locs : List Loc) (ls : Array Slot), g x1 s0 = some r → va_P (dC, dI) vwCl (dw_X16 a ac s0) H → va_D A (dw_X16 a ac s0) → va_S A s.heap H locs → lv_has ls 2 [(1, .int x1)] → W p l e (headSpec ow_dm_X16_freeDescriptor ({ frames := 0, cells := 0, slots := 0, locals := 0 })).room s m args below meth c H locs 0 0 Q (F0 m 32 ls [])
def dj_X16_freeDescriptor_2 (p : Program) (l : Launch) (e : Env) (s : State) (m : MethodId) (args : Array Value) (below : List Frame) (meth : Method) (c : Code) (Q : State → Prop) (A : Nat → Prop) (dC : Nat → ClassId) (dI : Nat → Nat → Nat) (a : Nat → Nat) (ac : Nat → ClassId) (g : Int32 → (St × (St)) → Option (Int32 × (St × (St)))) (r : Int32 × (St × (St))) : Prop := ∀ (x1 : Int32) (s0 : St × (St)) (H : Heap) (locs : List Loc) (ls : Array Slot), g x1 s0 = some r → va_P (dC, dI) vwCl (dw_X16 a ac s0) H → va_D A (dw_X16 a ac s0) → va_S A s.heap H locs → lv_has ls 2 [(0, .ref (a 0)), (1, .int x1)] → W p l e (headSpec ow_dm_X16_freeDescriptor ({ frames := 0, cells := 0, slots := 0, locals := 0 })).room s m args below meth c H locs 0 0 Q (F0 m 2 ls [])
def dj_X16_freeDescriptor_0 (p : Program) (l : Launch) (e : Env) (s : State) (m : MethodId) (args : Array Value) (below : List Frame) (meth : Method) (c : Code) (Q : State → Prop) (A : Nat → Prop) (dC : Nat → ClassId) (dI : Nat → Nat → Nat) (a : Nat → Nat) (ac : Nat → ClassId) (g : (St × (St)) → Option (Int32 × (St × (St)))) (r : Int32 × (St × (St))) : Prop := ∀ (s0 : St × (St)) (H : Heap) (locs : List Loc) (ls : Array Slot), g s0 = some r → va_P (dC, dI) vwCl (dw_X16 a ac s0) H → va_D A (dw_X16 a ac s0) → va_S A s.heap H locs → lv_has ls 2 [(0, .ref (a 0))] → W p l e (headSpec ow_dm_X16_freeDescriptor ({ frames := 0, cells := 0, slots := 0, locals := 0 })).room s m args below meth c H locs 0 0 Q (F0 m 0 ls [])
set_option maxHeartbeats 40000000 in
set_option maxRecDepth 100000 in
theorem db_X16_freeDescriptor_43 {p : Program} {l : Launch} {e : Env} {s : State} {m : MethodId} {args : Array Value} {below : List Frame} {meth : Method} {c : Code} {Q : State → Prop} {A : Nat → Prop} {dC : Nat → ClassId} {dI : Nat → Nat → Nat} {a : Nat → Nat} {ac : Nat → ClassId} {n : Nat} {r : Int32 × (St × (St))} (C : nd_C p l s m args c A (dC, dI) cX16_freeDescriptor 2 RX16 ow_dm_X16_freeDescriptor (dk_X16 ac)) (K : nd_Ki p l e (headSpec ow_dm_X16_freeDescriptor ({ frames := 0, cells := 0, slots := 0, locals := 0 })).room s m args below meth c Q A (dC, dI) cX16_freeDescriptor .int (St × (St)) (dw_X16 a ac) r) : dj_X16_freeDescriptor_43 p l e s m args below meth c Q A dC dI a ac (df_X16_freeDescriptor_43 n) r := by
  obtain ⟨hlt, hx, hb, hml, hown, hts, hN, hA, hK⟩ := id C
  intro y0 s0 H locs ls h hP hD hS hl
  unfold df_X16_freeDescriptor_43 at h
  exact K _ _ _ _ _ _ dX16_freeDescriptor_43 rfl (Option.some.inj h).symm hP hD hS
set_option maxHeartbeats 40000000 in
set_option maxRecDepth 100000 in
theorem db_X16_freeDescriptor_32 {p : Program} {l : Launch} {e : Env} {s : State} {m : MethodId} {args : Array Value} {below : List Frame} {meth : Method} {c : Code} {Q : State → Prop} {A : Nat → Prop} {dC : Nat → ClassId} {dI : Nat → Nat → Nat} {a : Nat → Nat} {ac : Nat → ClassId} {n : Nat} {r : Int32 × (St × (St))} (C : nd_C p l s m args c A (dC, dI) cX16_freeDescriptor 2 RX16 ow_dm_X16_freeDescriptor (dk_X16 ac)) (K : nd_Ki p l e (headSpec ow_dm_X16_freeDescriptor ({ frames := 0, cells := 0, slots := 0, locals := 0 })).room s m args below meth c Q A (dC, dI) cX16_freeDescriptor .int (St × (St)) (dw_X16 a ac) r) : dj_X16_freeDescriptor_32 p l e s m args below meth c Q A dC dI a ac (df_X16_freeDescriptor_32 n) r := by
  obtain ⟨hlt, hx, hb, hml, hown, hts, hN, hA, hK⟩ := id C
  intro x1 s0 H locs ls h hP hD hS hl
  unfold df_X16_freeDescriptor_32 at h
  refine lv_iload_n hx hb dX16_freeDescriptor_32 rfl (lv_at hl 0 rfl) ?_
  refine lv_bipush (v := 16) hx hb dX16_freeDescriptor_33 (by decide) ?_
  refine lv_icmp_ge (tgt := 42) hx hb dX16_freeDescriptor_35 (by decide) (fun c2 => ?_) (fun c2 => ?_)
  · have h := nd_pos h c2
    refine lv_iconst (v := (-1)) hx hb dX16_freeDescriptor_42 (by decide) ?_
    exact (db_X16_freeDescriptor_43 C K) ((-1)) s0 _ _ _ h hP hD hS (lv_sub hl [] rfl)
  · have h := nd_neg h c2
    refine lv_iload_n hx hb dX16_freeDescriptor_38 rfl (lv_at hl 0 rfl) ?_
    refine lv_goto (tgt := 43) hx hb dX16_freeDescriptor_39 (by decide) ?_
    exact (db_X16_freeDescriptor_43 C K) (x1) s0 _ _ _ h hP hD hS (lv_sub hl [] rfl)
set_option maxHeartbeats 40000000 in
set_option maxRecDepth 100000 in
theorem dB_X16_freeDescriptor_2 {p : Program} {l : Launch} {e : Env} {s : State} {m : MethodId} {args : Array Value} {below : List Frame} {meth : Method} {c : Code} {Q : State → Prop} {A : Nat → Prop} {dC : Nat → ClassId} {dI : Nat → Nat → Nat} {a : Nat → Nat} {ac : Nat → ClassId} {n : Nat} {r : Int32 × (St × (St))} (C : nd_C p l s m args c A (dC, dI) cX16_freeDescriptor 2 RX16 ow_dm_X16_freeDescriptor (dk_X16 ac)) (K : nd_Ki p l e (headSpec ow_dm_X16_freeDescriptor ({ frames := 0, cells := 0, slots := 0, locals := 0 })).room s m args below meth c Q A (dC, dI) cX16_freeDescriptor .int (St × (St)) (dw_X16 a ac) r) {g2 : Int32 → (St × (St)) → Option (Int32 × (St × (St)))} (J2 : dj_X16_freeDescriptor_2 p l e s m args below meth c Q A dC dI a ac g2 r) : dj_X16_freeDescriptor_2 p l e s m args below meth c Q A dC dI a ac (dF_X16_freeDescriptor_2 n g2) r := by
  obtain ⟨hlt, hx, hb, hml, hown, hts, hN, hA, hK⟩ := id C
  intro x1 s0 H locs ls h hP hD hS hl
  unfold dF_X16_freeDescriptor_2 at h
  refine lv_iload_n hx hb dX16_freeDescriptor_2 rfl (lv_at hl 1 rfl) ?_
  refine lv_bipush (v := 16) hx hb dX16_freeDescriptor_3 (by decide) ?_
  refine lv_icmp_ge (tgt := 32) hx hb dX16_freeDescriptor_5 (by decide) (fun c1 => ?_) (fun c1 => ?_)
  · have h := nd_pos h c1
    exact (db_X16_freeDescriptor_32 C K) (x1) s0 _ _ _ h hP hD hS (lv_sub hl [1] rfl)
  · have h := nd_neg h c1
    refine lv_aload_n hx hb dX16_freeDescriptor_8 rfl (lv_at hl 0 rfl) ?_
    refine va_get (D := (dC, dI)) (ci := 17) (v := .ref (a 16)) (C := RX16) (T := TX16) (N := 56) hx hb hts hi_dm_X16_freeDescriptor_X16 hown hK hP 0 rfl rfl 24 (by decide) (hts (.fieldLink RX16 57 "TimeMachineModel$Machine" "descriptor" "[I") (List.mem_of_getElem? (i := 1) rfl)) (fun _ h9 => h9) rfl dX16_freeDescriptor_9 ?_
    refine lv_bipush (v := 16) hx hb dX16_freeDescriptor_12 (by decide) ?_
    refine lv_aload_n hx hb dX16_freeDescriptor_14 rfl (lv_at hl 0 rfl) ?_
    refine va_get (D := (dC, dI)) (ci := 17) (v := .int (sI s0.1 12)) (C := RX16) (T := TX16) (N := 56) hx hb hts hi_dm_X16_freeDescriptor_X16 hown hK hP 0 rfl rfl 51 (by decide) (hts (.fieldLink RX16 232 "TimeMachineModel$Machine" "p" "I") (List.mem_of_getElem? (i := 2) rfl)) (fun _ h9 => h9) rfl dX16_freeDescriptor_15 ?_
    refine lv_imul hx hb dX16_freeDescriptor_18 ?_
    refine lv_iload_n hx hb dX16_freeDescriptor_19 rfl (lv_at hl 1 rfl) ?_
    refine lv_iadd hx hb dX16_freeDescriptor_20 ?_
    obtain ⟨i3, h⟩ := nd_ck_e h
    refine va_iald (i := ((16 * (sI s0.1 12)) + x1)) hx hb hK hP 16 15 rfl rfl i3 dX16_freeDescriptor_21 ?_
    refine lv_iconst (v := (-1)) hx hb dX16_freeDescriptor_22 (by decide) ?_
    refine lv_icmp_eq (tgt := 32) hx hb dX16_freeDescriptor_23 (by decide) (fun c4 => ?_) (fun c4 => ?_)
    · have h := nd_pos h c4
      exact (db_X16_freeDescriptor_32 C K) (x1) s0 _ _ _ h hP hD hS (lv_sub hl [1] rfl)
    · have h := nd_neg h c4
      obtain ⟨z5, ez5, h⟩ := nd_let_e h
      refine lv_iinc (v := z5) (lv' := [(1, .int z5), (0, .ref (a 0))]) hx hb dX16_freeDescriptor_26 hl (k := 1) rfl (by rw [ez5]) (by decide) rfl (fun ls hl => ?_)
      refine lv_goto (tgt := 2) hx hb dX16_freeDescriptor_29 (by decide) ?_
      exact (J2) (z5) s0 _ _ _ h hP hD hS (lv_sub hl [1, 0] rfl)
set_option maxHeartbeats 40000000 in
set_option maxRecDepth 100000 in
theorem db_X16_freeDescriptor_2 {p : Program} {l : Launch} {e : Env} {s : State} {m : MethodId} {args : Array Value} {below : List Frame} {meth : Method} {c : Code} {Q : State → Prop} {A : Nat → Prop} {dC : Nat → ClassId} {dI : Nat → Nat → Nat} {a : Nat → Nat} {ac : Nat → ClassId} {n : Nat} {r : Int32 × (St × (St))} (C : nd_C p l s m args c A (dC, dI) cX16_freeDescriptor 2 RX16 ow_dm_X16_freeDescriptor (dk_X16 ac)) (K : nd_Ki p l e (headSpec ow_dm_X16_freeDescriptor ({ frames := 0, cells := 0, slots := 0, locals := 0 })).room s m args below meth c Q A (dC, dI) cX16_freeDescriptor .int (St × (St)) (dw_X16 a ac) r) (k : Nat) : dj_X16_freeDescriptor_2 p l e s m args below meth c Q A dC dI a ac (df_X16_freeDescriptor_2 n k) r := by
  induction k with
  | zero => intro x1 s0 H locs ls h; exact nomatch (show (none : Option (Int32 × (St × (St)))) = some r from h)
  | succ k ih => exact dB_X16_freeDescriptor_2 C K ih
set_option maxHeartbeats 40000000 in
set_option maxRecDepth 100000 in
theorem db_X16_freeDescriptor_0 {p : Program} {l : Launch} {e : Env} {s : State} {m : MethodId} {args : Array Value} {below : List Frame} {meth : Method} {c : Code} {Q : State → Prop} {A : Nat → Prop} {dC : Nat → ClassId} {dI : Nat → Nat → Nat} {a : Nat → Nat} {ac : Nat → ClassId} {n : Nat} {r : Int32 × (St × (St))} (C : nd_C p l s m args c A (dC, dI) cX16_freeDescriptor 2 RX16 ow_dm_X16_freeDescriptor (dk_X16 ac)) (K : nd_Ki p l e (headSpec ow_dm_X16_freeDescriptor ({ frames := 0, cells := 0, slots := 0, locals := 0 })).room s m args below meth c Q A (dC, dI) cX16_freeDescriptor .int (St × (St)) (dw_X16 a ac) r) : dj_X16_freeDescriptor_0 p l e s m args below meth c Q A dC dI a ac (df_X16_freeDescriptor_0 n) r := by
  obtain ⟨hlt, hx, hb, hml, hown, hts, hN, hA, hK⟩ := id C
  intro s0 H locs ls h hP hD hS hl
  unfold df_X16_freeDescriptor_0 at h
  refine lv_iconst (v := 0) hx hb dX16_freeDescriptor_0 (by decide) ?_
  refine lv_istore_n (lv' := [(1, .int 0), (0, .ref (a 0))]) hx hb dX16_freeDescriptor_1 rfl hl (by decide) rfl (fun ls hl => ?_)
  exact (db_X16_freeDescriptor_2 C K n) (0) s0 _ _ _ h hP hD hS (lv_sub hl [1, 0] rfl)
set_option maxHeartbeats 40000000 in
set_option maxRecDepth 100000 in
theorem dm_X16_freeDescriptor (l : Launch) (hlt : l.stackTraces = false) (dC : Nat → ClassId) (dI : Nat → Nat → Nat) (a : Nat → Nat) (ac : Nat → ClassId) (n : Nat) (s0 : St × (St)) {r : Int32 × (St × (St))} (h : df_X16_freeDescriptor n s0 = some r) (sz : Nat) : Met l yX16_freeDescriptor ow_dm_X16_freeDescriptor ({ frames := 0, cells := 0, slots := 0, locals := 0 }) (va_Pc [.ref (a 0)] (fun U => U.heap.size = sz ∧ va_P (dC, dI) vwCl (dw_X16 a ac s0) U.heap ∧ va_K (dC, dI) vwCl (dk_X16 ac) U ∧ va_D (fun _ => True) (dw_X16 a ac s0) ∧ nv_E dI (va_A (dw_X16 a ac s0) sz) U)) (va_Qi (fun x _ => x = r.1) (fun (_ : Unit) t => va_P (dC, dI) vwCl (dw_X16 a ac r.2) t.heap ∧ va_K (dC, dI) vwCl (dk_X16 ac) t ∧ va_D (va_A (dw_X16 a ac s0) sz) (dw_X16 a ac r.2)) (va_A (dw_X16 a ac s0) sz)) 0 0 (va_A (dw_X16 a ac s0) sz) := by
  refine Met.ofW (cc := cX16_freeDescriptor) (maxL := 2) (ret := (some .int)) (by decide) rfl ?_
  intro p e s m args below meth c s₁ B hml hv
  obtain ⟨rfl, hsz, hP, hK, hD0, hN⟩ := hv
  have hx := B.exec
  have hb := B.bytes
  have hr := B.returns
  have hts := atoms_spec (ws := ow_dm_X16_freeDescriptor) B.pre
  have hown : s.vm.findClass RX16 = some m.cls := findClass_of_methodNamed B.named
  have hlocks := B.notSynchronized
  subst hsz
  have hD := hD0.self (sz := s.heap.size)
  generalize hAe : va_A (dw_X16 a ac s0) s.heap.size = A at hD hN ⊢
  have hA : ∀ q : Nat, s.heap.size ≤ q → A q := fun q h => by rw [← hAe]; exact Or.inr h
  have hl := lv_entry ([.ref (a 0)]) (n := 2) (Nat.le_of_ble_eq_true rfl)
  rw [lg_entry_eq]
  generalize (lg_sl ([.ref (a 0)]) ++ List.replicate (2 - (lg_sl ([.ref (a 0)])).length) Slot.unset).toArray = ls at hl ⊢
  have hl : lv_has ls 2 [(0, .ref (a 0))] := hl
  exact db_X16_freeDescriptor_0 (dC := dC) (dI := dI) (a := a) (ac := ac) (n := n) (r := r) ⟨hlt, hx, hb, hml, hown, hts, hN, hA, hK⟩ (fun pc v τ H locs ls d z er hP hD hS => by subst er; exact W.zret (v := v) hx hb hr z (fun t ht hW => ⟨⟨v, (), rfl, rfl, by rw [ht]; exact hP, va_K.moved hW.alike hK, hD⟩, hS.F ht⟩) hS.2.2 d) s0 _ _ _ h hP hD va_S.rf (lv_sub hl [0] rfl)
def ow_dm_X16_freeDescriptors : List Cond := Cond.code yX16_freeDescriptors cX16_freeDescriptors 3 (some .int) :: ([Cond.fieldLink RX16 57 "TimeMachineModel$Machine" "descriptor" "[I", Cond.fieldLink RX16 232 "TimeMachineModel$Machine" "p" "I"] ++ (u_ws RX16 TX16 56 ++ []))
theorem gd_dm_X16_freeDescriptors : ∀ w ∈ ow_dm_X16_freeDescriptors, (w.onTables && w.keeps) = true ∨ ∃ ty, w = Cond.arrayClass ty := List.forall_mem_cons.mpr ⟨good_of_word rfl, List.forall_mem_append.mpr ⟨fun w h => good_of_word (List.all_eq_true.mp (by decide +kernel) w h), List.forall_mem_append.mpr ⟨gu_X16, fun _ h => nomatch h⟩⟩⟩
theorem hi_dm_X16_freeDescriptors_X16 : ∀ w ∈ u_ws RX16 TX16 56, w ∈ ow_dm_X16_freeDescriptors := fun w h => List.mem_cons_of_mem _ (List.mem_append_right _ (List.mem_append_left _ h))
def dj_X16_freeDescriptors_35 (p : Program) (l : Launch) (e : Env) (s : State) (m : MethodId) (args : Array Value) (below : List Frame) (meth : Method) (c : Code) (Q : State → Prop) (A : Nat → Prop) (dC : Nat → ClassId) (dI : Nat → Nat → Nat) (a : Nat → Nat) (ac : Nat → ClassId) (g : Int32 → Int32 → (St × (St)) → Option (Int32 × (St × (St)))) (r : Int32 × (St × (St))) : Prop := ∀ (x2 : Int32) (y0 : Int32) (s0 : St × (St)) (H : Heap) (locs : List Loc) (ls : Array Slot), g x2 y0 s0 = some r → va_P (dC, dI) vwCl (dw_X16 a ac s0) H → va_D A (dw_X16 a ac s0) → va_S A s.heap H locs → lv_has ls 3 [(0, .ref (a 0)), (2, .int x2)] → W p l e (headSpec ow_dm_X16_freeDescriptors ({ frames := 0, cells := 0, slots := 0, locals := 0 })).room s m args below meth c H locs 0 0 Q (F0 m 35 ls [.int y0])
def dj_X16_freeDescriptors_4 (p : Program) (l : Launch) (e : Env) (s : State) (m : MethodId) (args : Array Value) (below : List Frame) (meth : Method) (c : Code) (Q : State → Prop) (A : Nat → Prop) (dC : Nat → ClassId) (dI : Nat → Nat → Nat) (a : Nat → Nat) (ac : Nat → ClassId) (g : Int32 → Int32 → (St × (St)) → Option (Int32 × (St × (St)))) (r : Int32 × (St × (St))) : Prop := ∀ (x1 : Int32) (x2 : Int32) (s0 : St × (St)) (H : Heap) (locs : List Loc) (ls : Array Slot), g x1 x2 s0 = some r → va_P (dC, dI) vwCl (dw_X16 a ac s0) H → va_D A (dw_X16 a ac s0) → va_S A s.heap H locs → lv_has ls 3 [(0, .ref (a 0)), (1, .int x1), (2, .int x2)] → W p l e (headSpec ow_dm_X16_freeDescriptors ({ frames := 0, cells := 0, slots := 0, locals := 0 })).room s m args below meth c H locs 0 0 Q (F0 m 4 ls [])
def dj_X16_freeDescriptors_0 (p : Program) (l : Launch) (e : Env) (s : State) (m : MethodId) (args : Array Value) (below : List Frame) (meth : Method) (c : Code) (Q : State → Prop) (A : Nat → Prop) (dC : Nat → ClassId) (dI : Nat → Nat → Nat) (a : Nat → Nat) (ac : Nat → ClassId) (g : (St × (St)) → Option (Int32 × (St × (St)))) (r : Int32 × (St × (St))) : Prop := ∀ (s0 : St × (St)) (H : Heap) (locs : List Loc) (ls : Array Slot), g s0 = some r → va_P (dC, dI) vwCl (dw_X16 a ac s0) H → va_D A (dw_X16 a ac s0) → va_S A s.heap H locs → lv_has ls 3 [(0, .ref (a 0))] → W p l e (headSpec ow_dm_X16_freeDescriptors ({ frames := 0, cells := 0, slots := 0, locals := 0 })).room s m args below meth c H locs 0 0 Q (F0 m 0 ls [])
set_option maxHeartbeats 40000000 in
set_option maxRecDepth 100000 in
theorem db_X16_freeDescriptors_35 {p : Program} {l : Launch} {e : Env} {s : State} {m : MethodId} {args : Array Value} {below : List Frame} {meth : Method} {c : Code} {Q : State → Prop} {A : Nat → Prop} {dC : Nat → ClassId} {dI : Nat → Nat → Nat} {a : Nat → Nat} {ac : Nat → ClassId} {n : Nat} {r : Int32 × (St × (St))} (C : nd_C p l s m args c A (dC, dI) cX16_freeDescriptors 3 RX16 ow_dm_X16_freeDescriptors (dk_X16 ac)) (K : nd_Ki p l e (headSpec ow_dm_X16_freeDescriptors ({ frames := 0, cells := 0, slots := 0, locals := 0 })).room s m args below meth c Q A (dC, dI) cX16_freeDescriptors .int (St × (St)) (dw_X16 a ac) r) {g4 : Int32 → Int32 → (St × (St)) → Option (Int32 × (St × (St)))} (J4 : dj_X16_freeDescriptors_4 p l e s m args below meth c Q A dC dI a ac g4 r) : dj_X16_freeDescriptors_35 p l e s m args below meth c Q A dC dI a ac (df_X16_freeDescriptors_35 n g4) r := by
  obtain ⟨hlt, hx, hb, hml, hown, hts, hN, hA, hK⟩ := id C
  intro x2 y0 s0 H locs ls h hP hD hS hl
  unfold df_X16_freeDescriptors_35 at h
  refine lv_istore_n (lv' := [(1, .int y0), (0, .ref (a 0)), (2, .int x2)]) hx hb dX16_freeDescriptors_35 rfl hl (by decide) rfl (fun ls hl => ?_)
  obtain ⟨z4, ez4, h⟩ := nd_let_e h
  refine lv_iinc (v := z4) (lv' := [(2, .int z4), (1, .int y0), (0, .ref (a 0))]) hx hb dX16_freeDescriptors_36 hl (k := 2) rfl (by rw [ez4]) (by decide) rfl (fun ls hl => ?_)
  refine lv_goto (tgt := 4) hx hb dX16_freeDescriptors_39 (by decide) ?_
  exact (J4) (y0) (z4) s0 _ _ _ h hP hD hS (lv_sub hl [2, 1, 0] rfl)
set_option maxHeartbeats 40000000 in
set_option maxRecDepth 100000 in
theorem dB_X16_freeDescriptors_4 {p : Program} {l : Launch} {e : Env} {s : State} {m : MethodId} {args : Array Value} {below : List Frame} {meth : Method} {c : Code} {Q : State → Prop} {A : Nat → Prop} {dC : Nat → ClassId} {dI : Nat → Nat → Nat} {a : Nat → Nat} {ac : Nat → ClassId} {n : Nat} {r : Int32 × (St × (St))} (C : nd_C p l s m args c A (dC, dI) cX16_freeDescriptors 3 RX16 ow_dm_X16_freeDescriptors (dk_X16 ac)) (K : nd_Ki p l e (headSpec ow_dm_X16_freeDescriptors ({ frames := 0, cells := 0, slots := 0, locals := 0 })).room s m args below meth c Q A (dC, dI) cX16_freeDescriptors .int (St × (St)) (dw_X16 a ac) r) {g4 : Int32 → Int32 → (St × (St)) → Option (Int32 × (St × (St)))} (J4 : dj_X16_freeDescriptors_4 p l e s m args below meth c Q A dC dI a ac g4 r) : dj_X16_freeDescriptors_4 p l e s m args below meth c Q A dC dI a ac (dF_X16_freeDescriptors_4 n g4) r := by
  obtain ⟨hlt, hx, hb, hml, hown, hts, hN, hA, hK⟩ := id C
  intro x1 x2 s0 H locs ls h hP hD hS hl
  unfold dF_X16_freeDescriptors_4 at h
  refine lv_iload_n hx hb dX16_freeDescriptors_4 rfl (lv_at hl 2 rfl) ?_
  refine lv_bipush (v := 16) hx hb dX16_freeDescriptors_5 (by decide) ?_
  refine lv_icmp_ge (tgt := 42) hx hb dX16_freeDescriptors_7 (by decide) (fun c1 => ?_) (fun c1 => ?_)
  · have h := nd_pos h c1
    refine lv_iload_n hx hb dX16_freeDescriptors_42 rfl (lv_at hl 1 rfl) ?_
    exact K _ _ _ _ _ _ dX16_freeDescriptors_43 rfl (Option.some.inj h).symm hP hD hS
  · have h := nd_neg h c1
    refine lv_aload_n hx hb dX16_freeDescriptors_10 rfl (lv_at hl 0 rfl) ?_
    refine va_get (D := (dC, dI)) (ci := 17) (v := .ref (a 16)) (C := RX16) (T := TX16) (N := 56) hx hb hts hi_dm_X16_freeDescriptors_X16 hown hK hP 0 rfl rfl 24 (by decide) (hts (.fieldLink RX16 57 "TimeMachineModel$Machine" "descriptor" "[I") (List.mem_of_getElem? (i := 1) rfl)) (fun _ h9 => h9) rfl dX16_freeDescriptors_11 ?_
    refine lv_bipush (v := 16) hx hb dX16_freeDescriptors_14 (by decide) ?_
    refine lv_aload_n hx hb dX16_freeDescriptors_16 rfl (lv_at hl 0 rfl) ?_
    refine va_get (D := (dC, dI)) (ci := 17) (v := .int (sI s0.1 12)) (C := RX16) (T := TX16) (N := 56) hx hb hts hi_dm_X16_freeDescriptors_X16 hown hK hP 0 rfl rfl 51 (by decide) (hts (.fieldLink RX16 232 "TimeMachineModel$Machine" "p" "I") (List.mem_of_getElem? (i := 2) rfl)) (fun _ h9 => h9) rfl dX16_freeDescriptors_17 ?_
    refine lv_imul hx hb dX16_freeDescriptors_20 ?_
    refine lv_iload_n hx hb dX16_freeDescriptors_21 rfl (lv_at hl 2 rfl) ?_
    refine lv_iadd hx hb dX16_freeDescriptors_22 ?_
    obtain ⟨i2, h⟩ := nd_ck_e h
    refine va_iald (i := ((16 * (sI s0.1 12)) + x2)) hx hb hK hP 16 15 rfl rfl i2 dX16_freeDescriptors_23 ?_
    refine lv_iconst (v := (-1)) hx hb dX16_freeDescriptors_24 (by decide) ?_
    refine lv_icmp_ne (tgt := 34) hx hb dX16_freeDescriptors_25 (by decide) (fun c3 => ?_) (fun c3 => ?_)
    · have h := nd_neg h c3
      refine lv_iload_n hx hb dX16_freeDescriptors_34 rfl (lv_at hl 1 rfl) ?_
      exact (db_X16_freeDescriptors_35 C K J4) (x2) (x1) s0 _ _ _ h hP hD hS (lv_sub hl [0, 2] rfl)
    · have h := nd_pos h c3
      refine lv_iload_n hx hb dX16_freeDescriptors_28 rfl (lv_at hl 1 rfl) ?_
      refine lv_iconst (v := 1) hx hb dX16_freeDescriptors_29 (by decide) ?_
      refine lv_iadd hx hb dX16_freeDescriptors_30 ?_
      refine lv_goto (tgt := 35) hx hb dX16_freeDescriptors_31 (by decide) ?_
      exact (db_X16_freeDescriptors_35 C K J4) (x2) ((x1 + 1)) s0 _ _ _ h hP hD hS (lv_sub hl [0, 2] rfl)
set_option maxHeartbeats 40000000 in
set_option maxRecDepth 100000 in
theorem db_X16_freeDescriptors_4 {p : Program} {l : Launch} {e : Env} {s : State} {m : MethodId} {args : Array Value} {below : List Frame} {meth : Method} {c : Code} {Q : State → Prop} {A : Nat → Prop} {dC : Nat → ClassId} {dI : Nat → Nat → Nat} {a : Nat → Nat} {ac : Nat → ClassId} {n : Nat} {r : Int32 × (St × (St))} (C : nd_C p l s m args c A (dC, dI) cX16_freeDescriptors 3 RX16 ow_dm_X16_freeDescriptors (dk_X16 ac)) (K : nd_Ki p l e (headSpec ow_dm_X16_freeDescriptors ({ frames := 0, cells := 0, slots := 0, locals := 0 })).room s m args below meth c Q A (dC, dI) cX16_freeDescriptors .int (St × (St)) (dw_X16 a ac) r) (k : Nat) : dj_X16_freeDescriptors_4 p l e s m args below meth c Q A dC dI a ac (df_X16_freeDescriptors_4 n k) r := by
  induction k with
  | zero => intro x1 x2 s0 H locs ls h; exact nomatch (show (none : Option (Int32 × (St × (St)))) = some r from h)
  | succ k ih => exact dB_X16_freeDescriptors_4 C K ih
set_option maxHeartbeats 40000000 in
set_option maxRecDepth 100000 in
theorem db_X16_freeDescriptors_0 {p : Program} {l : Launch} {e : Env} {s : State} {m : MethodId} {args : Array Value} {below : List Frame} {meth : Method} {c : Code} {Q : State → Prop} {A : Nat → Prop} {dC : Nat → ClassId} {dI : Nat → Nat → Nat} {a : Nat → Nat} {ac : Nat → ClassId} {n : Nat} {r : Int32 × (St × (St))} (C : nd_C p l s m args c A (dC, dI) cX16_freeDescriptors 3 RX16 ow_dm_X16_freeDescriptors (dk_X16 ac)) (K : nd_Ki p l e (headSpec ow_dm_X16_freeDescriptors ({ frames := 0, cells := 0, slots := 0, locals := 0 })).room s m args below meth c Q A (dC, dI) cX16_freeDescriptors .int (St × (St)) (dw_X16 a ac) r) : dj_X16_freeDescriptors_0 p l e s m args below meth c Q A dC dI a ac (df_X16_freeDescriptors_0 n) r := by
  obtain ⟨hlt, hx, hb, hml, hown, hts, hN, hA, hK⟩ := id C
  intro s0 H locs ls h hP hD hS hl
  unfold df_X16_freeDescriptors_0 at h
  refine lv_iconst (v := 0) hx hb dX16_freeDescriptors_0 (by decide) ?_
  refine lv_istore_n (lv' := [(1, .int 0), (0, .ref (a 0))]) hx hb dX16_freeDescriptors_1 rfl hl (by decide) rfl (fun ls hl => ?_)
  refine lv_iconst (v := 0) hx hb dX16_freeDescriptors_2 (by decide) ?_
  refine lv_istore_n (lv' := [(2, .int 0), (1, .int 0), (0, .ref (a 0))]) hx hb dX16_freeDescriptors_3 rfl hl (by decide) rfl (fun ls hl => ?_)
  exact (db_X16_freeDescriptors_4 C K n) (0) (0) s0 _ _ _ h hP hD hS (lv_sub hl [2, 1, 0] rfl)
set_option maxHeartbeats 40000000 in
set_option maxRecDepth 100000 in
theorem dm_X16_freeDescriptors (l : Launch) (hlt : l.stackTraces = false) (dC : Nat → ClassId) (dI : Nat → Nat → Nat) (a : Nat → Nat) (ac : Nat → ClassId) (n : Nat) (s0 : St × (St)) {r : Int32 × (St × (St))} (h : df_X16_freeDescriptors n s0 = some r) (sz : Nat) : Met l yX16_freeDescriptors ow_dm_X16_freeDescriptors ({ frames := 0, cells := 0, slots := 0, locals := 0 }) (va_Pc [.ref (a 0)] (fun U => U.heap.size = sz ∧ va_P (dC, dI) vwCl (dw_X16 a ac s0) U.heap ∧ va_K (dC, dI) vwCl (dk_X16 ac) U ∧ va_D (fun _ => True) (dw_X16 a ac s0) ∧ nv_E dI (va_A (dw_X16 a ac s0) sz) U)) (va_Qi (fun x _ => x = r.1) (fun (_ : Unit) t => va_P (dC, dI) vwCl (dw_X16 a ac r.2) t.heap ∧ va_K (dC, dI) vwCl (dk_X16 ac) t ∧ va_D (va_A (dw_X16 a ac s0) sz) (dw_X16 a ac r.2)) (va_A (dw_X16 a ac s0) sz)) 0 0 (va_A (dw_X16 a ac s0) sz) := by
  refine Met.ofW (cc := cX16_freeDescriptors) (maxL := 3) (ret := (some .int)) (by decide) rfl ?_
  intro p e s m args below meth c s₁ B hml hv
  obtain ⟨rfl, hsz, hP, hK, hD0, hN⟩ := hv
  have hx := B.exec
  have hb := B.bytes
  have hr := B.returns
  have hts := atoms_spec (ws := ow_dm_X16_freeDescriptors) B.pre
  have hown : s.vm.findClass RX16 = some m.cls := findClass_of_methodNamed B.named
  have hlocks := B.notSynchronized
  subst hsz
  have hD := hD0.self (sz := s.heap.size)
  generalize hAe : va_A (dw_X16 a ac s0) s.heap.size = A at hD hN ⊢
  have hA : ∀ q : Nat, s.heap.size ≤ q → A q := fun q h => by rw [← hAe]; exact Or.inr h
  have hl := lv_entry ([.ref (a 0)]) (n := 3) (Nat.le_of_ble_eq_true rfl)
  rw [lg_entry_eq]
  generalize (lg_sl ([.ref (a 0)]) ++ List.replicate (3 - (lg_sl ([.ref (a 0)])).length) Slot.unset).toArray = ls at hl ⊢
  have hl : lv_has ls 3 [(0, .ref (a 0))] := hl
  exact db_X16_freeDescriptors_0 (dC := dC) (dI := dI) (a := a) (ac := ac) (n := n) (r := r) ⟨hlt, hx, hb, hml, hown, hts, hN, hA, hK⟩ (fun pc v τ H locs ls d z er hP hD hS => by subst er; exact W.zret (v := v) hx hb hr z (fun t ht hW => ⟨⟨v, (), rfl, rfl, by rw [ht]; exact hP, va_K.moved hW.alike hK, hD⟩, hS.F ht⟩) hS.2.2 d) s0 _ _ _ h hP hD va_S.rf (lv_sub hl [0] rfl)
def ow_dm_X16_give : List Cond := Cond.code yX16_give cX16_give 3 (some .int) :: ([Cond.methodLink RX16 249 yX16_freeDescriptor, Cond.instanceMethod yX16_freeDescriptor, Cond.selects RX16 yX16_freeDescriptor yX16_freeDescriptor, Cond.initialized RX16, Cond.fieldLink RX16 57 "TimeMachineModel$Machine" "descriptor" "[I", Cond.fieldLink RX16 232 "TimeMachineModel$Machine" "p" "I"] ++ (u_ws RX16 TX16 56 ++ (ow_dm_X16_freeDescriptor ++ [])))
theorem gd_dm_X16_give : ∀ w ∈ ow_dm_X16_give, (w.onTables && w.keeps) = true ∨ ∃ ty, w = Cond.arrayClass ty := List.forall_mem_cons.mpr ⟨good_of_word rfl, List.forall_mem_append.mpr ⟨fun w h => good_of_word (List.all_eq_true.mp (by decide +kernel) w h), List.forall_mem_append.mpr ⟨gu_X16, List.forall_mem_append.mpr ⟨gd_dm_X16_freeDescriptor, fun _ h => nomatch h⟩⟩⟩⟩
theorem hi_dm_X16_give_X16 : ∀ w ∈ u_ws RX16 TX16 56, w ∈ ow_dm_X16_give := fun w h => List.mem_cons_of_mem _ (List.mem_append_right _ (List.mem_append_left _ h))
theorem gi_dm_X16_give_0 : GoodIn ow_dm_X16_give (wsV RX16 249 RX16 yX16_freeDescriptor ow_dm_X16_freeDescriptor) := goodIn_app (goodIn_of _ (by decide +kernel)) (fun w h => ⟨List.mem_cons_of_mem _ (List.mem_append_right _ (List.mem_append_right _ (List.mem_append_left _ h))), gd_dm_X16_freeDescriptor w h⟩)
def dj_X16_give_0 (p : Program) (l : Launch) (e : Env) (s : State) (m : MethodId) (args : Array Value) (below : List Frame) (meth : Method) (c : Code) (Q : State → Prop) (A : Nat → Prop) (dC : Nat → ClassId) (dI : Nat → Nat → Nat) (a : Nat → Nat) (ac : Nat → ClassId) (g : Int32 → (St × (St)) → Option (Int32 × (St × (St)))) (r : Int32 × (St × (St))) : Prop := ∀ (v0 : Int32) (s0 : St × (St)) (H : Heap) (locs : List Loc) (ls : Array Slot), g v0 s0 = some r → va_P (dC, dI) vwCl (dw_X16 a ac s0) H → va_D A (dw_X16 a ac s0) → va_S A s.heap H locs → lv_has ls 3 [(0, .ref (a 0)), (1, .int v0)] → W p l e (headSpec ow_dm_X16_give ({ frames := 1, cells := 0, slots := 0, locals := 21 })).room s m args below meth c H locs 0 0 Q (F0 m 0 ls [])
set_option maxHeartbeats 40000000 in
set_option maxRecDepth 100000 in
theorem db_X16_give_0 {p : Program} {l : Launch} {e : Env} {s : State} {m : MethodId} {args : Array Value} {below : List Frame} {meth : Method} {c : Code} {Q : State → Prop} {A : Nat → Prop} {dC : Nat → ClassId} {dI : Nat → Nat → Nat} {a : Nat → Nat} {ac : Nat → ClassId} {n : Nat} {r : Int32 × (St × (St))} (C : nd_C p l s m args c A (dC, dI) cX16_give 3 RX16 ow_dm_X16_give (dk_X16 ac)) (K : nd_Ki p l e (headSpec ow_dm_X16_give ({ frames := 1, cells := 0, slots := 0, locals := 21 })).room s m args below meth c Q A (dC, dI) cX16_give .int (St × (St)) (dw_X16 a ac) r) : dj_X16_give_0 p l e s m args below meth c Q A dC dI a ac (df_X16_give_0 n) r := by
  obtain ⟨hlt, hx, hb, hml, hown, hts, hN, hA, hK⟩ := id C
  intro v0 s0 H locs ls h hP hD hS hl
  unfold df_X16_give_0 at h
  refine lv_aload_n hx hb dX16_give_0 rfl (lv_at hl 0 rfl) ?_
  obtain ⟨q1, s2, hq, h⟩ := nd_b2_e h
  have hPc := hP
  have hDc := hD
  have hKc := hK
  have hFc := nd_rs hD hS hA
  refine nd_cVi (As := []) (rest := []) (q := q1) (w' := dw_X16 a ac s2) ⟨hx, hb, hml, hown, hts⟩ (fun sz => dm_X16_freeDescriptor l hlt dC dI a ac n  s0 hq sz) (cwV 0 hts gi_dm_X16_give_0 rfl rfl rfl (by decide +kernel) ⟨Nat.le_of_ble_eq_true rfl, Nat.le_of_ble_eq_true rfl⟩) hPc hDc hKc hS hA hN (va_recv hKc hPc (ci := 17) (q0 := 0) rfl rfl) rfl hl.1 rfl (Nat.le_of_ble_eq_true rfl) dX16_give_1 (fun H locs hP1 hD1 hk1 hS => ?_)
  have hP := hP1
  have hD := hD1.weaken (fun k q _ h => hFc q.1 h)
  refine lv_istore_n (lv' := [(2, .int q1), (0, .ref (a 0)), (1, .int v0)]) hx hb dX16_give_4 rfl hl (by decide) rfl (fun ls hl => ?_)
  refine lv_aload_n hx hb dX16_give_5 rfl (lv_at hl 1 rfl) ?_
  refine va_get (D := (dC, dI)) (ci := 17) (v := .ref (a 16)) (C := RX16) (T := TX16) (N := 56) hx hb hts hi_dm_X16_give_X16 hown hK hP 0 rfl rfl 24 (by decide) (hts (.fieldLink RX16 57 "TimeMachineModel$Machine" "descriptor" "[I") (List.mem_of_getElem? (i := 5) rfl)) (fun _ h9 => h9) rfl dX16_give_6 ?_
  refine lv_bipush (v := 16) hx hb dX16_give_9 (by decide) ?_
  refine lv_aload_n hx hb dX16_give_11 rfl (lv_at hl 1 rfl) ?_
  refine va_get (D := (dC, dI)) (ci := 17) (v := .int (sI s2.1 12)) (C := RX16) (T := TX16) (N := 56) hx hb hts hi_dm_X16_give_X16 hown hK hP 0 rfl rfl 51 (by decide) (hts (.fieldLink RX16 232 "TimeMachineModel$Machine" "p" "I") (List.mem_of_getElem? (i := 6) rfl)) (fun _ h9 => h9) rfl dX16_give_12 ?_
  refine lv_imul hx hb dX16_give_15 ?_
  refine lv_iload_n hx hb dX16_give_16 rfl (lv_at hl 0 rfl) ?_
  refine lv_iadd hx hb dX16_give_17 ?_
  refine lv_iload_n hx hb dX16_give_18 rfl (lv_at hl 2 rfl) ?_
  obtain ⟨i4, h⟩ := nd_ck_e h
  refine va_iast (i := ((16 * (sI s2.1 12)) + q1)) (x := v0) hx hb hK hP hD hS 16 15 rfl rfl i4 dX16_give_19 (fun H locs hP hD hS => ?_)
  obtain ⟨s5, es5, h⟩ := nd_let_e h
  have hP : va_P (dC, dI) vwCl (dw_X16 a ac s5) H := by rw [es5]; exact hP
  have hD : va_D A (dw_X16 a ac s5) := by rw [es5]; exact hD
  refine lv_iload_n hx hb dX16_give_20 rfl (lv_at hl 0 rfl) ?_
  exact K _ _ _ _ _ _ dX16_give_21 rfl (Option.some.inj h).symm hP hD hS
set_option maxHeartbeats 40000000 in
set_option maxRecDepth 100000 in
theorem dm_X16_give (l : Launch) (hlt : l.stackTraces = false) (dC : Nat → ClassId) (dI : Nat → Nat → Nat) (a : Nat → Nat) (ac : Nat → ClassId) (n : Nat) (v0 : Int32) (s0 : St × (St)) {r : Int32 × (St × (St))} (h : df_X16_give n v0 s0 = some r) (sz : Nat) : Met l yX16_give ow_dm_X16_give ({ frames := 1, cells := 0, slots := 0, locals := 21 }) (va_Pc [.ref (a 0), .int v0] (fun U => U.heap.size = sz ∧ va_P (dC, dI) vwCl (dw_X16 a ac s0) U.heap ∧ va_K (dC, dI) vwCl (dk_X16 ac) U ∧ va_D (fun _ => True) (dw_X16 a ac s0) ∧ nv_E dI (va_A (dw_X16 a ac s0) sz) U)) (va_Qi (fun x _ => x = r.1) (fun (_ : Unit) t => va_P (dC, dI) vwCl (dw_X16 a ac r.2) t.heap ∧ va_K (dC, dI) vwCl (dk_X16 ac) t ∧ va_D (va_A (dw_X16 a ac s0) sz) (dw_X16 a ac r.2)) (va_A (dw_X16 a ac s0) sz)) 0 0 (va_A (dw_X16 a ac s0) sz) := by
  refine Met.ofW (cc := cX16_give) (maxL := 3) (ret := (some .int)) (by decide) rfl ?_
  intro p e s m args below meth c s₁ B hml hv
  obtain ⟨rfl, hsz, hP, hK, hD0, hN⟩ := hv
  have hx := B.exec
  have hb := B.bytes
  have hr := B.returns
  have hts := atoms_spec (ws := ow_dm_X16_give) B.pre
  have hown : s.vm.findClass RX16 = some m.cls := findClass_of_methodNamed B.named
  have hlocks := B.notSynchronized
  subst hsz
  have hD := hD0.self (sz := s.heap.size)
  generalize hAe : va_A (dw_X16 a ac s0) s.heap.size = A at hD hN ⊢
  have hA : ∀ q : Nat, s.heap.size ≤ q → A q := fun q h => by rw [← hAe]; exact Or.inr h
  have hl := lv_entry ([.ref (a 0), .int v0]) (n := 3) (Nat.le_of_ble_eq_true rfl)
  rw [lg_entry_eq]
  generalize (lg_sl ([.ref (a 0), .int v0]) ++ List.replicate (3 - (lg_sl ([.ref (a 0), .int v0])).length) Slot.unset).toArray = ls at hl ⊢
  have hl : lv_has ls 3 [(0, .ref (a 0)), (1, .int v0)] := hl
  exact db_X16_give_0 (dC := dC) (dI := dI) (a := a) (ac := ac) (n := n) (r := r) ⟨hlt, hx, hb, hml, hown, hts, hN, hA, hK⟩ (fun pc v τ H locs ls d z er hP hD hS => by subst er; exact W.zret (v := v) hx hb hr z (fun t ht hW => ⟨⟨v, (), rfl, rfl, by rw [ht]; exact hP, va_K.moved hW.alike hK, hD⟩, hS.F ht⟩) hS.2.2 d) v0 s0 _ _ _ h hP hD va_S.rf (lv_sub hl [0, 1] rfl)
def ow_dm_X16_openingOf : List Cond := Cond.code yX16_openingOf cX16_openingOf 3 (some .int) :: ([Cond.fieldLink RX16 57 "TimeMachineModel$Machine" "descriptor" "[I"] ++ (u_ws RX16 TX16 56 ++ []))
theorem gd_dm_X16_openingOf : ∀ w ∈ ow_dm_X16_openingOf, (w.onTables && w.keeps) = true ∨ ∃ ty, w = Cond.arrayClass ty := List.forall_mem_cons.mpr ⟨good_of_word rfl, List.forall_mem_append.mpr ⟨fun w h => good_of_word (List.all_eq_true.mp (by decide +kernel) w h), List.forall_mem_append.mpr ⟨gu_X16, fun _ h => nomatch h⟩⟩⟩
theorem hi_dm_X16_openingOf_X16 : ∀ w ∈ u_ws RX16 TX16 56, w ∈ ow_dm_X16_openingOf := fun w h => List.mem_cons_of_mem _ (List.mem_append_right _ (List.mem_append_left _ h))
def dj_X16_openingOf_25 (p : Program) (l : Launch) (e : Env) (s : State) (m : MethodId) (args : Array Value) (below : List Frame) (meth : Method) (c : Code) (Q : State → Prop) (A : Nat → Prop) (dC : Nat → ClassId) (dI : Nat → Nat → Nat) (a : Nat → Nat) (ac : Nat → ClassId) (g : Int32 → (St × (St)) → Option (Int32 × (St × (St)))) (r : Int32 × (St × (St))) : Prop := ∀ (y0 : Int32) (s0 : St × (St)) (H : Heap) (locs : List Loc) (ls : Array Slot), g y0 s0 = some r → va_P (dC, dI) vwCl (dw_X16 a ac s0) H → va_D A (dw_X16 a ac s0) → va_S A s.heap H locs → lv_has ls 3 [] → W p l e (headSpec ow_dm_X16_openingOf ({ frames := 0, cells := 0, slots := 0, locals := 0 })).room s m args below meth c H locs 0 0 Q (F0 m 25 ls [.int y0])
def dj_X16_openingOf_24 (p : Program) (l : Launch) (e : Env) (s : State) (m : MethodId) (args : Array Value) (below : List Frame) (meth : Method) (c : Code) (Q : State → Prop) (A : Nat → Prop) (dC : Nat → ClassId) (dI : Nat → Nat → Nat) (a : Nat → Nat) (ac : Nat → ClassId) (g : (St × (St)) → Option (Int32 × (St × (St)))) (r : Int32 × (St × (St))) : Prop := ∀ (s0 : St × (St)) (H : Heap) (locs : List Loc) (ls : Array Slot), g s0 = some r → va_P (dC, dI) vwCl (dw_X16 a ac s0) H → va_D A (dw_X16 a ac s0) → va_S A s.heap H locs → lv_has ls 3 [] → W p l e (headSpec ow_dm_X16_openingOf ({ frames := 0, cells := 0, slots := 0, locals := 0 })).room s m args below meth c H locs 0 0 Q (F0 m 24 ls [])
def dj_X16_openingOf_0 (p : Program) (l : Launch) (e : Env) (s : State) (m : MethodId) (args : Array Value) (below : List Frame) (meth : Method) (c : Code) (Q : State → Prop) (A : Nat → Prop) (dC : Nat → ClassId) (dI : Nat → Nat → Nat) (a : Nat → Nat) (ac : Nat → ClassId) (g : Int32 → Int32 → (St × (St)) → Option (Int32 × (St × (St)))) (r : Int32 × (St × (St))) : Prop := ∀ (v0 : Int32) (v1 : Int32) (s0 : St × (St)) (H : Heap) (locs : List Loc) (ls : Array Slot), g v0 v1 s0 = some r → va_P (dC, dI) vwCl (dw_X16 a ac s0) H → va_D A (dw_X16 a ac s0) → va_S A s.heap H locs → lv_has ls 3 [(0, .ref (a 0)), (1, .int v0), (2, .int v1)] → W p l e (headSpec ow_dm_X16_openingOf ({ frames := 0, cells := 0, slots := 0, locals := 0 })).room s m args below meth c H locs 0 0 Q (F0 m 0 ls [])
set_option maxHeartbeats 40000000 in
set_option maxRecDepth 100000 in
theorem db_X16_openingOf_25 {p : Program} {l : Launch} {e : Env} {s : State} {m : MethodId} {args : Array Value} {below : List Frame} {meth : Method} {c : Code} {Q : State → Prop} {A : Nat → Prop} {dC : Nat → ClassId} {dI : Nat → Nat → Nat} {a : Nat → Nat} {ac : Nat → ClassId} {n : Nat} {r : Int32 × (St × (St))} (C : nd_C p l s m args c A (dC, dI) cX16_openingOf 3 RX16 ow_dm_X16_openingOf (dk_X16 ac)) (K : nd_Ki p l e (headSpec ow_dm_X16_openingOf ({ frames := 0, cells := 0, slots := 0, locals := 0 })).room s m args below meth c Q A (dC, dI) cX16_openingOf .int (St × (St)) (dw_X16 a ac) r) : dj_X16_openingOf_25 p l e s m args below meth c Q A dC dI a ac (df_X16_openingOf_25 n) r := by
  obtain ⟨hlt, hx, hb, hml, hown, hts, hN, hA, hK⟩ := id C
  intro y0 s0 H locs ls h hP hD hS hl
  unfold df_X16_openingOf_25 at h
  exact K _ _ _ _ _ _ dX16_openingOf_25 rfl (Option.some.inj h).symm hP hD hS
set_option maxHeartbeats 40000000 in
set_option maxRecDepth 100000 in
theorem db_X16_openingOf_24 {p : Program} {l : Launch} {e : Env} {s : State} {m : MethodId} {args : Array Value} {below : List Frame} {meth : Method} {c : Code} {Q : State → Prop} {A : Nat → Prop} {dC : Nat → ClassId} {dI : Nat → Nat → Nat} {a : Nat → Nat} {ac : Nat → ClassId} {n : Nat} {r : Int32 × (St × (St))} (C : nd_C p l s m args c A (dC, dI) cX16_openingOf 3 RX16 ow_dm_X16_openingOf (dk_X16 ac)) (K : nd_Ki p l e (headSpec ow_dm_X16_openingOf ({ frames := 0, cells := 0, slots := 0, locals := 0 })).room s m args below meth c Q A (dC, dI) cX16_openingOf .int (St × (St)) (dw_X16 a ac) r) : dj_X16_openingOf_24 p l e s m args below meth c Q A dC dI a ac (df_X16_openingOf_24 n) r := by
  obtain ⟨hlt, hx, hb, hml, hown, hts, hN, hA, hK⟩ := id C
  intro s0 H locs ls h hP hD hS hl
  unfold df_X16_openingOf_24 at h
  refine lv_iconst (v := (-1)) hx hb dX16_openingOf_24 (by decide) ?_
  exact (db_X16_openingOf_25 C K) ((-1)) s0 _ _ _ h hP hD hS (lv_sub hl [] rfl)
set_option maxHeartbeats 40000000 in
set_option maxRecDepth 100000 in
theorem db_X16_openingOf_0 {p : Program} {l : Launch} {e : Env} {s : State} {m : MethodId} {args : Array Value} {below : List Frame} {meth : Method} {c : Code} {Q : State → Prop} {A : Nat → Prop} {dC : Nat → ClassId} {dI : Nat → Nat → Nat} {a : Nat → Nat} {ac : Nat → ClassId} {n : Nat} {r : Int32 × (St × (St))} (C : nd_C p l s m args c A (dC, dI) cX16_openingOf 3 RX16 ow_dm_X16_openingOf (dk_X16 ac)) (K : nd_Ki p l e (headSpec ow_dm_X16_openingOf ({ frames := 0, cells := 0, slots := 0, locals := 0 })).room s m args below meth c Q A (dC, dI) cX16_openingOf .int (St × (St)) (dw_X16 a ac) r) : dj_X16_openingOf_0 p l e s m args below meth c Q A dC dI a ac (df_X16_openingOf_0 n) r := by
  obtain ⟨hlt, hx, hb, hml, hown, hts, hN, hA, hK⟩ := id C
  intro v0 v1 s0 H locs ls h hP hD hS hl
  unfold df_X16_openingOf_0 at h
  refine lv_iload_n hx hb dX16_openingOf_0 rfl (lv_at hl 2 rfl) ?_
  refine lv_if_lt (tgt := 24) hx hb dX16_openingOf_1 (by decide) (fun c1 => ?_) (fun c1 => ?_)
  · have h := nd_pos h c1
    exact (db_X16_openingOf_24 C K)  s0 _ _ _ h hP hD hS (lv_sub hl [] rfl)
  · have h := nd_neg h c1
    refine lv_iload_n hx hb dX16_openingOf_4 rfl (lv_at hl 2 rfl) ?_
    refine lv_bipush (v := 16) hx hb dX16_openingOf_5 (by decide) ?_
    refine lv_icmp_ge (tgt := 24) hx hb dX16_openingOf_7 (by decide) (fun c2 => ?_) (fun c2 => ?_)
    · have h := nd_pos h c2
      exact (db_X16_openingOf_24 C K)  s0 _ _ _ h hP hD hS (lv_sub hl [] rfl)
    · have h := nd_neg h c2
      refine lv_aload_n hx hb dX16_openingOf_10 rfl (lv_at hl 0 rfl) ?_
      refine va_get (D := (dC, dI)) (ci := 17) (v := .ref (a 16)) (C := RX16) (T := TX16) (N := 56) hx hb hts hi_dm_X16_openingOf_X16 hown hK hP 0 rfl rfl 24 (by decide) (hts (.fieldLink RX16 57 "TimeMachineModel$Machine" "descriptor" "[I") (List.mem_of_getElem? (i := 1) rfl)) (fun _ h9 => h9) rfl dX16_openingOf_11 ?_
      refine lv_bipush (v := 16) hx hb dX16_openingOf_14 (by decide) ?_
      refine lv_iload_n hx hb dX16_openingOf_16 rfl (lv_at hl 1 rfl) ?_
      refine lv_imul hx hb dX16_openingOf_17 ?_
      refine lv_iload_n hx hb dX16_openingOf_18 rfl (lv_at hl 2 rfl) ?_
      refine lv_iadd hx hb dX16_openingOf_19 ?_
      obtain ⟨i3, h⟩ := nd_ck_e h
      refine va_iald (i := ((16 * v0) + v1)) hx hb hK hP 16 15 rfl rfl i3 dX16_openingOf_20 ?_
      refine lv_goto (tgt := 25) hx hb dX16_openingOf_21 (by decide) ?_
      exact (db_X16_openingOf_25 C K) ((sR s0.1 14 (Int32.toNatClampNeg ((16 * v0) + v1)))) s0 _ _ _ h hP hD hS (lv_sub hl [] rfl)
set_option maxHeartbeats 40000000 in
set_option maxRecDepth 100000 in
theorem dm_X16_openingOf (l : Launch) (hlt : l.stackTraces = false) (dC : Nat → ClassId) (dI : Nat → Nat → Nat) (a : Nat → Nat) (ac : Nat → ClassId) (n : Nat) (v0 : Int32) (v1 : Int32) (s0 : St × (St)) {r : Int32 × (St × (St))} (h : df_X16_openingOf n v0 v1 s0 = some r) (sz : Nat) : Met l yX16_openingOf ow_dm_X16_openingOf ({ frames := 0, cells := 0, slots := 0, locals := 0 }) (va_Pc [.ref (a 0), .int v0, .int v1] (fun U => U.heap.size = sz ∧ va_P (dC, dI) vwCl (dw_X16 a ac s0) U.heap ∧ va_K (dC, dI) vwCl (dk_X16 ac) U ∧ va_D (fun _ => True) (dw_X16 a ac s0) ∧ nv_E dI (va_A (dw_X16 a ac s0) sz) U)) (va_Qi (fun x _ => x = r.1) (fun (_ : Unit) t => va_P (dC, dI) vwCl (dw_X16 a ac r.2) t.heap ∧ va_K (dC, dI) vwCl (dk_X16 ac) t ∧ va_D (va_A (dw_X16 a ac s0) sz) (dw_X16 a ac r.2)) (va_A (dw_X16 a ac s0) sz)) 0 0 (va_A (dw_X16 a ac s0) sz) := by
  refine Met.ofW (cc := cX16_openingOf) (maxL := 3) (ret := (some .int)) (by decide) rfl ?_
  intro p e s m args below meth c s₁ B hml hv
  obtain ⟨rfl, hsz, hP, hK, hD0, hN⟩ := hv
  have hx := B.exec
  have hb := B.bytes
  have hr := B.returns
  have hts := atoms_spec (ws := ow_dm_X16_openingOf) B.pre
  have hown : s.vm.findClass RX16 = some m.cls := findClass_of_methodNamed B.named
  have hlocks := B.notSynchronized
  subst hsz
  have hD := hD0.self (sz := s.heap.size)
  generalize hAe : va_A (dw_X16 a ac s0) s.heap.size = A at hD hN ⊢
  have hA : ∀ q : Nat, s.heap.size ≤ q → A q := fun q h => by rw [← hAe]; exact Or.inr h
  have hl := lv_entry ([.ref (a 0), .int v0, .int v1]) (n := 3) (Nat.le_of_ble_eq_true rfl)
  rw [lg_entry_eq]
  generalize (lg_sl ([.ref (a 0), .int v0, .int v1]) ++ List.replicate (3 - (lg_sl ([.ref (a 0), .int v0, .int v1])).length) Slot.unset).toArray = ls at hl ⊢
  have hl : lv_has ls 3 [(0, .ref (a 0)), (1, .int v0), (2, .int v1)] := hl
  exact db_X16_openingOf_0 (dC := dC) (dI := dI) (a := a) (ac := ac) (n := n) (r := r) ⟨hlt, hx, hb, hml, hown, hts, hN, hA, hK⟩ (fun pc v τ H locs ls d z er hP hD hS => by subst er; exact W.zret (v := v) hx hb hr z (fun t ht hW => ⟨⟨v, (), rfl, rfl, by rw [ht]; exact hP, va_K.moved hW.alike hK, hD⟩, hS.F ht⟩) hS.2.2 d) v0 v1 s0 _ _ _ h hP hD va_S.rf (lv_sub hl [0, 1, 2] rfl)
def ow_dm_X16_end : List Cond := Cond.code yX16_end cX16_end 4 none :: ([Cond.methodLink RX16 252 yX16_sweep, Cond.instanceMethod yX16_sweep, Cond.selects RX16 yX16_sweep yX16_sweep, Cond.initialized RX16, Cond.methodLink RX16 255 yX16_leaveAll, Cond.instanceMethod yX16_leaveAll, Cond.selects RX16 yX16_leaveAll yX16_leaveAll, Cond.fieldLink RX16 22 "TimeMachineModel$Machine" "pending" "[I", Cond.fieldLink RX16 25 "TimeMachineModel$Machine" "heapBegin" "[I", Cond.fieldLink RX16 28 "TimeMachineModel$Machine" "heapEnd" "[I", Cond.fieldLink RX16 34 "TimeMachineModel$Machine" "within" "[Z", Cond.fieldLink RX16 31 "TimeMachineModel$Machine" "calling" "[I", Cond.fieldLink RX16 13 "TimeMachineModel$Machine" "state" "[I", Cond.fieldLink RX16 19 "TimeMachineModel$Machine" "ending" "[I", Cond.fieldLink RX16 16 "TimeMachineModel$Machine" "parent" "[I", Cond.methodLink RX16 160 yX16_begin, Cond.instanceMethod yX16_begin, Cond.selects RX16 yX16_begin yX16_begin, Cond.fieldLink RX16 57 "TimeMachineModel$Machine" "descriptor" "[I"] ++ (u_ws RX16 TX16 56 ++ (ow_dm_X16_sweep ++ (ow_dm_X16_leaveAll ++ (ow_dm_X16_begin ++ [])))))
theorem gd_dm_X16_end : ∀ w ∈ ow_dm_X16_end, (w.onTables && w.keeps) = true ∨ ∃ ty, w = Cond.arrayClass ty := List.forall_mem_cons.mpr ⟨good_of_word rfl, List.forall_mem_append.mpr ⟨fun w h => good_of_word (List.all_eq_true.mp (by decide +kernel) w h), List.forall_mem_append.mpr ⟨gu_X16, List.forall_mem_append.mpr ⟨gd_dm_X16_sweep, List.forall_mem_append.mpr ⟨gd_dm_X16_leaveAll, List.forall_mem_append.mpr ⟨gd_dm_X16_begin, fun _ h => nomatch h⟩⟩⟩⟩⟩⟩
theorem hi_dm_X16_end_X16 : ∀ w ∈ u_ws RX16 TX16 56, w ∈ ow_dm_X16_end := fun w h => List.mem_cons_of_mem _ (List.mem_append_right _ (List.mem_append_left _ h))
theorem gi_dm_X16_end_0 : GoodIn ow_dm_X16_end (wsV RX16 252 RX16 yX16_sweep ow_dm_X16_sweep) := goodIn_app (goodIn_of _ (by decide +kernel)) (fun w h => ⟨List.mem_cons_of_mem _ (List.mem_append_right _ (List.mem_append_right _ (List.mem_append_left _ h))), gd_dm_X16_sweep w h⟩)
theorem gi_dm_X16_end_1 : GoodIn ow_dm_X16_end (wsV RX16 255 RX16 yX16_leaveAll ow_dm_X16_leaveAll) := goodIn_app (goodIn_of _ (by decide +kernel)) (fun w h => ⟨List.mem_cons_of_mem _ (List.mem_append_right _ (List.mem_append_right _ (List.mem_append_right _ (List.mem_append_left _ h)))), gd_dm_X16_leaveAll w h⟩)
theorem gi_dm_X16_end_2 : GoodIn ow_dm_X16_end (wsV RX16 160 RX16 yX16_begin ow_dm_X16_begin) := goodIn_app (goodIn_of _ (by decide +kernel)) (fun w h => ⟨List.mem_cons_of_mem _ (List.mem_append_right _ (List.mem_append_right _ (List.mem_append_right _ (List.mem_append_right _ (List.mem_append_left _ h))))), gd_dm_X16_begin w h⟩)
def dj_X16_end_157 (p : Program) (l : Launch) (e : Env) (s : State) (m : MethodId) (args : Array Value) (below : List Frame) (meth : Method) (c : Code) (Q : State → Prop) (A : Nat → Prop) (dC : Nat → ClassId) (dI : Nat → Nat → Nat) (a : Nat → Nat) (ac : Nat → ClassId) (g : (St × (St)) → Option (St × (St))) (r : St × (St)) : Prop := ∀ (s0 : St × (St)) (H : Heap) (locs : List Loc) (ls : Array Slot), g s0 = some r → va_P (dC, dI) vwCl (dw_X16 a ac s0) H → va_D A (dw_X16 a ac s0) → va_S A s.heap H locs → lv_has ls 4 [] → W p l e (headSpec ow_dm_X16_end ({ frames := 2, cells := 0, slots := 0, locals := 45 })).room s m args below meth c H locs 0 0 Q (F0 m 157 ls [])
def dj_X16_end_87 (p : Program) (l : Launch) (e : Env) (s : State) (m : MethodId) (args : Array Value) (below : List Frame) (meth : Method) (c : Code) (Q : State → Prop) (A : Nat → Prop) (dC : Nat → ClassId) (dI : Nat → Nat → Nat) (a : Nat → Nat) (ac : Nat → ClassId) (g : Int32 → Int32 → Int32 → (St × (St)) → Option (St × (St))) (r : St × (St)) : Prop := ∀ (x1 : Int32) (x2 : Int32) (x3 : Int32) (s0 : St × (St)) (H : Heap) (locs : List Loc) (ls : Array Slot), g x1 x2 x3 s0 = some r → va_P (dC, dI) vwCl (dw_X16 a ac s0) H → va_D A (dw_X16 a ac s0) → va_S A s.heap H locs → lv_has ls 4 [(0, .ref (a 0)), (1, .int x1), (2, .int x2), (3, .int x3)] → W p l e (headSpec ow_dm_X16_end ({ frames := 2, cells := 0, slots := 0, locals := 45 })).room s m args below meth c H locs 0 0 Q (F0 m 87 ls [])
def dj_X16_end_37 (p : Program) (l : Launch) (e : Env) (s : State) (m : MethodId) (args : Array Value) (below : List Frame) (meth : Method) (c : Code) (Q : State → Prop) (A : Nat → Prop) (dC : Nat → ClassId) (dI : Nat → Nat → Nat) (a : Nat → Nat) (ac : Nat → ClassId) (g : Int32 → Int32 → Int32 → (St × (St)) → Option (St × (St))) (r : St × (St)) : Prop := ∀ (x1 : Int32) (x2 : Int32) (x3 : Int32) (s0 : St × (St)) (H : Heap) (locs : List Loc) (ls : Array Slot), g x1 x2 x3 s0 = some r → va_P (dC, dI) vwCl (dw_X16 a ac s0) H → va_D A (dw_X16 a ac s0) → va_S A s.heap H locs → lv_has ls 4 [(0, .ref (a 0)), (1, .int x1), (2, .int x2), (3, .int x3)] → W p l e (headSpec ow_dm_X16_end ({ frames := 2, cells := 0, slots := 0, locals := 45 })).room s m args below meth c H locs 0 0 Q (F0 m 37 ls [])
def dj_X16_end_2 (p : Program) (l : Launch) (e : Env) (s : State) (m : MethodId) (args : Array Value) (below : List Frame) (meth : Method) (c : Code) (Q : State → Prop) (A : Nat → Prop) (dC : Nat → ClassId) (dI : Nat → Nat → Nat) (a : Nat → Nat) (ac : Nat → ClassId) (g : Int32 → Int32 → Int32 → (St × (St)) → Option (St × (St))) (r : St × (St)) : Prop := ∀ (x1 : Int32) (x2 : Int32) (x3 : Int32) (s0 : St × (St)) (H : Heap) (locs : List Loc) (ls : Array Slot), g x1 x2 x3 s0 = some r → va_P (dC, dI) vwCl (dw_X16 a ac s0) H → va_D A (dw_X16 a ac s0) → va_S A s.heap H locs → lv_has ls 4 [(0, .ref (a 0)), (1, .int x1), (2, .int x2), (3, .int x3)] → W p l e (headSpec ow_dm_X16_end ({ frames := 2, cells := 0, slots := 0, locals := 45 })).room s m args below meth c H locs 0 0 Q (F0 m 2 ls [])
def dj_X16_end_0 (p : Program) (l : Launch) (e : Env) (s : State) (m : MethodId) (args : Array Value) (below : List Frame) (meth : Method) (c : Code) (Q : State → Prop) (A : Nat → Prop) (dC : Nat → ClassId) (dI : Nat → Nat → Nat) (a : Nat → Nat) (ac : Nat → ClassId) (g : Int32 → Int32 → (St × (St)) → Option (St × (St))) (r : St × (St)) : Prop := ∀ (v0 : Int32) (v1 : Int32) (s0 : St × (St)) (H : Heap) (locs : List Loc) (ls : Array Slot), g v0 v1 s0 = some r → va_P (dC, dI) vwCl (dw_X16 a ac s0) H → va_D A (dw_X16 a ac s0) → va_S A s.heap H locs → lv_has ls 4 [(0, .ref (a 0)), (1, .int v0), (2, .int v1)] → W p l e (headSpec ow_dm_X16_end ({ frames := 2, cells := 0, slots := 0, locals := 45 })).room s m args below meth c H locs 0 0 Q (F0 m 0 ls [])
set_option maxHeartbeats 40000000 in
set_option maxRecDepth 100000 in
theorem db_X16_end_157 {p : Program} {l : Launch} {e : Env} {s : State} {m : MethodId} {args : Array Value} {below : List Frame} {meth : Method} {c : Code} {Q : State → Prop} {A : Nat → Prop} {dC : Nat → ClassId} {dI : Nat → Nat → Nat} {a : Nat → Nat} {ac : Nat → ClassId} {n : Nat} {r : St × (St)} (C : nd_C p l s m args c A (dC, dI) cX16_end 4 RX16 ow_dm_X16_end (dk_X16 ac)) (K : nd_Kv p l e (headSpec ow_dm_X16_end ({ frames := 2, cells := 0, slots := 0, locals := 45 })).room s m args below meth c Q A (dC, dI) cX16_end (St × (St)) (dw_X16 a ac) r) : dj_X16_end_157 p l e s m args below meth c Q A dC dI a ac (df_X16_end_157 n) r := by
  obtain ⟨hlt, hx, hb, hml, hown, hts, hN, hA, hK⟩ := id C
  intro s0 H locs ls h hP hD hS hl
  unfold df_X16_end_157 at h
  exact K _ _ _ _ _ dX16_end_157 (Option.some.inj h).symm hP hD hS
set_option maxHeartbeats 40000000 in
set_option maxRecDepth 100000 in
theorem db_X16_end_87 {p : Program} {l : Launch} {e : Env} {s : State} {m : MethodId} {args : Array Value} {below : List Frame} {meth : Method} {c : Code} {Q : State → Prop} {A : Nat → Prop} {dC : Nat → ClassId} {dI : Nat → Nat → Nat} {a : Nat → Nat} {ac : Nat → ClassId} {n : Nat} {r : St × (St)} (C : nd_C p l s m args c A (dC, dI) cX16_end 4 RX16 ow_dm_X16_end (dk_X16 ac)) (K : nd_Kv p l e (headSpec ow_dm_X16_end ({ frames := 2, cells := 0, slots := 0, locals := 45 })).room s m args below meth c Q A (dC, dI) cX16_end (St × (St)) (dw_X16 a ac) r) {g37 : Int32 → Int32 → Int32 → (St × (St)) → Option (St × (St))} (J37 : dj_X16_end_37 p l e s m args below meth c Q A dC dI a ac g37 r) : dj_X16_end_87 p l e s m args below meth c Q A dC dI a ac (df_X16_end_87 n g37) r := by
  obtain ⟨hlt, hx, hb, hml, hown, hts, hN, hA, hK⟩ := id C
  intro x1 x2 x3 s0 H locs ls h hP hD hS hl
  unfold df_X16_end_87 at h
  obtain ⟨z30, ez30, h⟩ := nd_let_e h
  refine lv_iinc (v := z30) (lv' := [(3, .int z30), (0, .ref (a 0)), (1, .int x1), (2, .int x2)]) hx hb dX16_end_87 hl (k := 3) rfl (by rw [ez30]) (by decide) rfl (fun ls hl => ?_)
  refine lv_goto (tgt := 37) hx hb dX16_end_90 (by decide) ?_
  exact (J37) (x1) (x2) (z30) s0 _ _ _ h hP hD hS (lv_sub hl [1, 2, 3, 0] rfl)
set_option maxHeartbeats 40000000 in
set_option maxRecDepth 100000 in
theorem dB_X16_end_37 {p : Program} {l : Launch} {e : Env} {s : State} {m : MethodId} {args : Array Value} {below : List Frame} {meth : Method} {c : Code} {Q : State → Prop} {A : Nat → Prop} {dC : Nat → ClassId} {dI : Nat → Nat → Nat} {a : Nat → Nat} {ac : Nat → ClassId} {n : Nat} {r : St × (St)} (C : nd_C p l s m args c A (dC, dI) cX16_end 4 RX16 ow_dm_X16_end (dk_X16 ac)) (K : nd_Kv p l e (headSpec ow_dm_X16_end ({ frames := 2, cells := 0, slots := 0, locals := 45 })).room s m args below meth c Q A (dC, dI) cX16_end (St × (St)) (dw_X16 a ac) r) {g37 : Int32 → Int32 → Int32 → (St × (St)) → Option (St × (St))} (J37 : dj_X16_end_37 p l e s m args below meth c Q A dC dI a ac g37 r) : dj_X16_end_37 p l e s m args below meth c Q A dC dI a ac (dF_X16_end_37 n g37) r := by
  obtain ⟨hlt, hx, hb, hml, hown, hts, hN, hA, hK⟩ := id C
  intro x1 x2 x3 s0 H locs ls h hP hD hS hl
  unfold dF_X16_end_37 at h
  refine lv_iload_n hx hb dX16_end_37 rfl (lv_at hl 3 rfl) ?_
  refine lv_bipush (v := 16) hx hb dX16_end_38 (by decide) ?_
  refine lv_icmp_ge (tgt := 93) hx hb dX16_end_40 (by decide) (fun c8 => ?_) (fun c8 => ?_)
  · have h := nd_pos h c8
    refine lv_aload_n hx hb dX16_end_93 rfl (lv_at hl 0 rfl) ?_
    refine va_get (D := (dC, dI)) (ci := 17) (v := .ref (a 5)) (C := RX16) (T := TX16) (N := 56) hx hb hts hi_dm_X16_end_X16 hown hK hP 0 rfl rfl 13 (by decide) (hts (.fieldLink RX16 22 "TimeMachineModel$Machine" "pending" "[I") (List.mem_of_getElem? (i := 8) rfl)) (fun _ h9 => h9) rfl dX16_end_94 ?_
    refine lv_iload_n hx hb dX16_end_97 rfl (lv_at hl 1 rfl) ?_
    refine lv_aload_n hx hb dX16_end_98 rfl (lv_at hl 0 rfl) ?_
    refine va_get (D := (dC, dI)) (ci := 17) (v := .ref (a 6)) (C := RX16) (T := TX16) (N := 56) hx hb hts hi_dm_X16_end_X16 hown hK hP 0 rfl rfl 14 (by decide) (hts (.fieldLink RX16 25 "TimeMachineModel$Machine" "heapBegin" "[I") (List.mem_of_getElem? (i := 9) rfl)) (fun _ h9 => h9) rfl dX16_end_99 ?_
    refine lv_iload_n hx hb dX16_end_102 rfl (lv_at hl 1 rfl) ?_
    refine lv_aload_n hx hb dX16_end_103 rfl (lv_at hl 0 rfl) ?_
    refine va_get (D := (dC, dI)) (ci := 17) (v := .ref (a 7)) (C := RX16) (T := TX16) (N := 56) hx hb hts hi_dm_X16_end_X16 hown hK hP 0 rfl rfl 15 (by decide) (hts (.fieldLink RX16 28 "TimeMachineModel$Machine" "heapEnd" "[I") (List.mem_of_getElem? (i := 10) rfl)) (fun _ h9 => h9) rfl dX16_end_104 ?_
    refine lv_iload_n hx hb dX16_end_107 rfl (lv_at hl 1 rfl) ?_
    refine lv_iconst (v := 0) hx hb dX16_end_108 (by decide) ?_
    refine lv_dup_x2 hx hb dX16_end_109 rfl rfl rfl ?_
    obtain ⟨i9, h⟩ := nd_ck_e h
    refine va_iast (i := x1) (x := 0) hx hb hK hP hD hS 7 6 rfl rfl i9 dX16_end_110 (fun H locs hP hD hS => ?_)
    obtain ⟨s10, es10, h⟩ := nd_let_e h
    have hP : va_P (dC, dI) vwCl (dw_X16 a ac s10) H := by rw [es10]; exact hP
    have hD : va_D A (dw_X16 a ac s10) := by rw [es10]; exact hD
    refine lv_dup_x2 hx hb dX16_end_111 rfl rfl rfl ?_
    obtain ⟨i11, h⟩ := nd_ck_e h
    refine va_iast (i := x1) (x := 0) hx hb hK hP hD hS 6 5 rfl rfl i11 dX16_end_112 (fun H locs hP hD hS => ?_)
    obtain ⟨s12, es12, h⟩ := nd_let_e h
    have hP : va_P (dC, dI) vwCl (dw_X16 a ac s12) H := by rw [es12]; exact hP
    have hD : va_D A (dw_X16 a ac s12) := by rw [es12]; exact hD
    obtain ⟨i13, h⟩ := nd_ck_e h
    refine va_iast (i := x1) (x := 0) hx hb hK hP hD hS 5 4 rfl rfl i13 dX16_end_113 (fun H locs hP hD hS => ?_)
    obtain ⟨s14, es14, h⟩ := nd_let_e h
    have hP : va_P (dC, dI) vwCl (dw_X16 a ac s14) H := by rw [es14]; exact hP
    have hD : va_D A (dw_X16 a ac s14) := by rw [es14]; exact hD
    refine lv_aload_n hx hb dX16_end_114 rfl (lv_at hl 0 rfl) ?_
    refine va_get (D := (dC, dI)) (ci := 17) (v := .ref (a 9)) (C := RX16) (T := TX16) (N := 56) hx hb hts hi_dm_X16_end_X16 hown hK hP 0 rfl rfl 17 (by decide) (hts (.fieldLink RX16 34 "TimeMachineModel$Machine" "within" "[Z") (List.mem_of_getElem? (i := 11) rfl)) (fun _ h9 => h9) rfl dX16_end_115 ?_
    refine lv_iload_n hx hb dX16_end_118 rfl (lv_at hl 1 rfl) ?_
    refine lv_iconst (v := 0) hx hb dX16_end_119 (by decide) ?_
    obtain ⟨i15, h⟩ := nd_ck_e h
    refine va_zast (i := x1) (x := 0) hx hb hK hP hD hS 9 8 rfl rfl i15 dX16_end_120 (fun H locs hP hD hS => ?_)
    obtain ⟨s16, es16, h⟩ := nd_let_e h
    have hP : va_P (dC, dI) vwCl (dw_X16 a ac s16) H := by rw [es16]; exact hP
    have hD : va_D A (dw_X16 a ac s16) := by rw [es16]; exact hD
    refine lv_aload_n hx hb dX16_end_121 rfl (lv_at hl 0 rfl) ?_
    refine va_get (D := (dC, dI)) (ci := 17) (v := .ref (a 8)) (C := RX16) (T := TX16) (N := 56) hx hb hts hi_dm_X16_end_X16 hown hK hP 0 rfl rfl 16 (by decide) (hts (.fieldLink RX16 31 "TimeMachineModel$Machine" "calling" "[I") (List.mem_of_getElem? (i := 12) rfl)) (fun _ h9 => h9) rfl dX16_end_122 ?_
    refine lv_iload_n hx hb dX16_end_125 rfl (lv_at hl 1 rfl) ?_
    refine lv_iconst (v := (-1)) hx hb dX16_end_126 (by decide) ?_
    obtain ⟨i17, h⟩ := nd_ck_e h
    refine va_iast (i := x1) (x := (-1)) hx hb hK hP hD hS 8 7 rfl rfl i17 dX16_end_127 (fun H locs hP hD hS => ?_)
    obtain ⟨s18, es18, h⟩ := nd_let_e h
    have hP : va_P (dC, dI) vwCl (dw_X16 a ac s18) H := by rw [es18]; exact hP
    have hD : va_D A (dw_X16 a ac s18) := by rw [es18]; exact hD
    refine lv_aload_n hx hb dX16_end_128 rfl (lv_at hl 0 rfl) ?_
    refine va_get (D := (dC, dI)) (ci := 17) (v := .ref (a 2)) (C := RX16) (T := TX16) (N := 56) hx hb hts hi_dm_X16_end_X16 hown hK hP 0 rfl rfl 10 (by decide) (hts (.fieldLink RX16 13 "TimeMachineModel$Machine" "state" "[I") (List.mem_of_getElem? (i := 13) rfl)) (fun _ h9 => h9) rfl dX16_end_129 ?_
    refine lv_iload_n hx hb dX16_end_132 rfl (lv_at hl 1 rfl) ?_
    refine lv_iconst (v := 3) hx hb dX16_end_133 (by decide) ?_
    obtain ⟨i19, h⟩ := nd_ck_e h
    refine va_iast (i := x1) (x := 3) hx hb hK hP hD hS 2 1 rfl rfl i19 dX16_end_134 (fun H locs hP hD hS => ?_)
    obtain ⟨s20, es20, h⟩ := nd_let_e h
    have hP : va_P (dC, dI) vwCl (dw_X16 a ac s20) H := by rw [es20]; exact hP
    have hD : va_D A (dw_X16 a ac s20) := by rw [es20]; exact hD
    refine lv_aload_n hx hb dX16_end_135 rfl (lv_at hl 0 rfl) ?_
    refine va_get (D := (dC, dI)) (ci := 17) (v := .ref (a 4)) (C := RX16) (T := TX16) (N := 56) hx hb hts hi_dm_X16_end_X16 hown hK hP 0 rfl rfl 12 (by decide) (hts (.fieldLink RX16 19 "TimeMachineModel$Machine" "ending" "[I") (List.mem_of_getElem? (i := 14) rfl)) (fun _ h9 => h9) rfl dX16_end_136 ?_
    refine lv_iload_n hx hb dX16_end_139 rfl (lv_at hl 1 rfl) ?_
    refine lv_iload_n hx hb dX16_end_140 rfl (lv_at hl 2 rfl) ?_
    obtain ⟨i21, h⟩ := nd_ck_e h
    refine va_iast (i := x1) (x := x2) hx hb hK hP hD hS 4 3 rfl rfl i21 dX16_end_141 (fun H locs hP hD hS => ?_)
    obtain ⟨s22, es22, h⟩ := nd_let_e h
    have hP : va_P (dC, dI) vwCl (dw_X16 a ac s22) H := by rw [es22]; exact hP
    have hD : va_D A (dw_X16 a ac s22) := by rw [es22]; exact hD
    refine lv_aload_n hx hb dX16_end_142 rfl (lv_at hl 0 rfl) ?_
    refine va_get (D := (dC, dI)) (ci := 17) (v := .ref (a 3)) (C := RX16) (T := TX16) (N := 56) hx hb hts hi_dm_X16_end_X16 hown hK hP 0 rfl rfl 11 (by decide) (hts (.fieldLink RX16 16 "TimeMachineModel$Machine" "parent" "[I") (List.mem_of_getElem? (i := 15) rfl)) (fun _ h9 => h9) rfl dX16_end_143 ?_
    refine lv_iload_n hx hb dX16_end_146 rfl (lv_at hl 1 rfl) ?_
    obtain ⟨i23, h⟩ := nd_ck_e h
    refine va_iald (i := x1) hx hb hK hP 3 2 rfl rfl i23 dX16_end_147 ?_
    refine lv_iconst (v := (-1)) hx hb dX16_end_148 (by decide) ?_
    refine lv_icmp_ne (tgt := 157) hx hb dX16_end_149 (by decide) (fun c24 => ?_) (fun c24 => ?_)
    · have h := nd_neg h c24
      exact (db_X16_end_157 C K)  s22 _ _ _ h hP hD hS (lv_sub hl [] rfl)
    · have h := nd_pos h c24
      refine lv_aload_n hx hb dX16_end_152 rfl (lv_at hl 0 rfl) ?_
      refine lv_iload_n hx hb dX16_end_153 rfl (lv_at hl 1 rfl) ?_
      obtain ⟨s26, hq, h⟩ := nd_b1_e h
      have hPc := hP
      have hDc := hD
      have hKc := hK
      have hFc := nd_rs hD hS hA
      refine nd_cVv (As := [.int x1]) (rest := []) (w' := dw_X16 a ac s26) ⟨hx, hb, hml, hown, hts⟩ (fun sz => dm_X16_begin l hlt dC dI a ac n (x1) s22 hq sz) (cwV 1 hts gi_dm_X16_end_2 rfl rfl rfl (by decide +kernel) ⟨Nat.le_of_ble_eq_true rfl, Nat.le_of_ble_eq_true rfl⟩) hPc hDc hKc hS hA hN (va_recv hKc hPc (ci := 17) (q0 := 0) rfl rfl) rfl hl.1 rfl (Nat.le_of_ble_eq_true rfl) dX16_end_154 (fun H locs hP1 hD1 hk1 hS => ?_)
      have hP := hP1
      have hD := hD1.weaken (fun k q _ h => hFc q.1 h)
      exact (db_X16_end_157 C K)  s26 _ _ _ h hP hD hS (lv_sub hl [] rfl)
  · have h := nd_neg h c8
    refine lv_aload_n hx hb dX16_end_43 rfl (lv_at hl 0 rfl) ?_
    refine va_get (D := (dC, dI)) (ci := 17) (v := .ref (a 2)) (C := RX16) (T := TX16) (N := 56) hx hb hts hi_dm_X16_end_X16 hown hK hP 0 rfl rfl 10 (by decide) (hts (.fieldLink RX16 13 "TimeMachineModel$Machine" "state" "[I") (List.mem_of_getElem? (i := 13) rfl)) (fun _ h9 => h9) rfl dX16_end_44 ?_
    refine lv_iload_n hx hb dX16_end_47 rfl (lv_at hl 3 rfl) ?_
    obtain ⟨i28, h⟩ := nd_ck_e h
    refine va_iald (i := x3) hx hb hK hP 2 1 rfl rfl i28 dX16_end_48 ?_
    refine lv_if_eq (tgt := 87) hx hb dX16_end_49 (by decide) (fun c29 => ?_) (fun c29 => ?_)
    · have h := nd_pos h c29
      exact (db_X16_end_87 C K J37) (x1) (x2) (x3) s0 _ _ _ h hP hD hS (lv_sub hl [0, 1, 2, 3] rfl)
    · have h := nd_neg h c29
      refine lv_aload_n hx hb dX16_end_52 rfl (lv_at hl 0 rfl) ?_
      refine va_get (D := (dC, dI)) (ci := 17) (v := .ref (a 3)) (C := RX16) (T := TX16) (N := 56) hx hb hts hi_dm_X16_end_X16 hown hK hP 0 rfl rfl 11 (by decide) (hts (.fieldLink RX16 16 "TimeMachineModel$Machine" "parent" "[I") (List.mem_of_getElem? (i := 15) rfl)) (fun _ h9 => h9) rfl dX16_end_53 ?_
      refine lv_iload_n hx hb dX16_end_56 rfl (lv_at hl 3 rfl) ?_
      obtain ⟨i31, h⟩ := nd_ck_e h
      refine va_iald (i := x3) hx hb hK hP 3 2 rfl rfl i31 dX16_end_57 ?_
      refine lv_iload_n hx hb dX16_end_58 rfl (lv_at hl 1 rfl) ?_
      refine lv_icmp_eq (tgt := 65) hx hb dX16_end_59 (by decide) (fun c32 => ?_) (fun c32 => ?_)
      · have h := nd_pos h c32
        refine lv_aload_n hx hb dX16_end_65 rfl (lv_at hl 0 rfl) ?_
        refine va_get (D := (dC, dI)) (ci := 17) (v := .ref (a 3)) (C := RX16) (T := TX16) (N := 56) hx hb hts hi_dm_X16_end_X16 hown hK hP 0 rfl rfl 11 (by decide) (hts (.fieldLink RX16 16 "TimeMachineModel$Machine" "parent" "[I") (List.mem_of_getElem? (i := 15) rfl)) (fun _ h9 => h9) rfl dX16_end_66 ?_
        refine lv_iload_n hx hb dX16_end_69 rfl (lv_at hl 3 rfl) ?_
        refine lv_iconst (v := (-1)) hx hb dX16_end_70 (by decide) ?_
        obtain ⟨i33, h⟩ := nd_ck_e h
        refine va_iast (i := x3) (x := (-1)) hx hb hK hP hD hS 3 2 rfl rfl i33 dX16_end_71 (fun H locs hP hD hS => ?_)
        obtain ⟨s34, es34, h⟩ := nd_let_e h
        have hP : va_P (dC, dI) vwCl (dw_X16 a ac s34) H := by rw [es34]; exact hP
        have hD : va_D A (dw_X16 a ac s34) := by rw [es34]; exact hD
        refine lv_aload_n hx hb dX16_end_72 rfl (lv_at hl 0 rfl) ?_
        refine va_get (D := (dC, dI)) (ci := 17) (v := .ref (a 2)) (C := RX16) (T := TX16) (N := 56) hx hb hts hi_dm_X16_end_X16 hown hK hP 0 rfl rfl 10 (by decide) (hts (.fieldLink RX16 13 "TimeMachineModel$Machine" "state" "[I") (List.mem_of_getElem? (i := 13) rfl)) (fun _ h9 => h9) rfl dX16_end_73 ?_
        refine lv_iload_n hx hb dX16_end_76 rfl (lv_at hl 3 rfl) ?_
        obtain ⟨i35, h⟩ := nd_ck_e h
        refine va_iald (i := x3) hx hb hK hP 2 1 rfl rfl i35 dX16_end_77 ?_
        refine lv_iconst (v := 3) hx hb dX16_end_78 (by decide) ?_
        refine lv_icmp_ne (tgt := 87) hx hb dX16_end_79 (by decide) (fun c36 => ?_) (fun c36 => ?_)
        · have h := nd_neg h c36
          exact (db_X16_end_87 C K J37) (x1) (x2) (x3) s34 _ _ _ h hP hD hS (lv_sub hl [0, 1, 2, 3] rfl)
        · have h := nd_pos h c36
          refine lv_aload_n hx hb dX16_end_82 rfl (lv_at hl 0 rfl) ?_
          refine lv_iload_n hx hb dX16_end_83 rfl (lv_at hl 3 rfl) ?_
          obtain ⟨s38, hq, h⟩ := nd_b1_e h
          have hPc := hP
          have hDc := hD
          have hKc := hK
          have hFc := nd_rs hD hS hA
          refine nd_cVv (As := [.int x3]) (rest := []) (w' := dw_X16 a ac s38) ⟨hx, hb, hml, hown, hts⟩ (fun sz => dm_X16_begin l hlt dC dI a ac n (x3) s34 hq sz) (cwV 1 hts gi_dm_X16_end_2 rfl rfl rfl (by decide +kernel) ⟨Nat.le_of_ble_eq_true rfl, Nat.le_of_ble_eq_true rfl⟩) hPc hDc hKc hS hA hN (va_recv hKc hPc (ci := 17) (q0 := 0) rfl rfl) rfl hl.1 rfl (Nat.le_of_ble_eq_true rfl) dX16_end_84 (fun H locs hP1 hD1 hk1 hS => ?_)
          have hP := hP1
          have hD := hD1.weaken (fun k q _ h => hFc q.1 h)
          exact (db_X16_end_87 C K J37) (x1) (x2) (x3) s38 _ _ _ h hP hD hS (lv_sub hl [0, 1, 2, 3] rfl)
      · have h := nd_neg h c32
        refine lv_goto (tgt := 87) hx hb dX16_end_62 (by decide) ?_
        exact (db_X16_end_87 C K J37) (x1) (x2) (x3) s0 _ _ _ h hP hD hS (lv_sub hl [0, 1, 2, 3] rfl)
set_option maxHeartbeats 40000000 in
set_option maxRecDepth 100000 in
theorem db_X16_end_37 {p : Program} {l : Launch} {e : Env} {s : State} {m : MethodId} {args : Array Value} {below : List Frame} {meth : Method} {c : Code} {Q : State → Prop} {A : Nat → Prop} {dC : Nat → ClassId} {dI : Nat → Nat → Nat} {a : Nat → Nat} {ac : Nat → ClassId} {n : Nat} {r : St × (St)} (C : nd_C p l s m args c A (dC, dI) cX16_end 4 RX16 ow_dm_X16_end (dk_X16 ac)) (K : nd_Kv p l e (headSpec ow_dm_X16_end ({ frames := 2, cells := 0, slots := 0, locals := 45 })).room s m args below meth c Q A (dC, dI) cX16_end (St × (St)) (dw_X16 a ac) r) (k : Nat) : dj_X16_end_37 p l e s m args below meth c Q A dC dI a ac (df_X16_end_37 n k) r := by
  induction k with
  | zero => intro x1 x2 x3 s0 H locs ls h; exact nomatch (show (none : Option (St × (St))) = some r from h)
  | succ k ih => exact dB_X16_end_37 C K ih
set_option maxHeartbeats 40000000 in
set_option maxRecDepth 100000 in
theorem dB_X16_end_2 {p : Program} {l : Launch} {e : Env} {s : State} {m : MethodId} {args : Array Value} {below : List Frame} {meth : Method} {c : Code} {Q : State → Prop} {A : Nat → Prop} {dC : Nat → ClassId} {dI : Nat → Nat → Nat} {a : Nat → Nat} {ac : Nat → ClassId} {n : Nat} {r : St × (St)} (C : nd_C p l s m args c A (dC, dI) cX16_end 4 RX16 ow_dm_X16_end (dk_X16 ac)) (K : nd_Kv p l e (headSpec ow_dm_X16_end ({ frames := 2, cells := 0, slots := 0, locals := 45 })).room s m args below meth c Q A (dC, dI) cX16_end (St × (St)) (dw_X16 a ac) r) {g2 : Int32 → Int32 → Int32 → (St × (St)) → Option (St × (St))} (J2 : dj_X16_end_2 p l e s m args below meth c Q A dC dI a ac g2 r) : dj_X16_end_2 p l e s m args below meth c Q A dC dI a ac (dF_X16_end_2 n g2) r := by
  obtain ⟨hlt, hx, hb, hml, hown, hts, hN, hA, hK⟩ := id C
  intro x1 x2 x3 s0 H locs ls h hP hD hS hl
  unfold dF_X16_end_2 at h
  refine lv_iload_n hx hb dX16_end_2 rfl (lv_at hl 3 rfl) ?_
  refine lv_bipush (v := 16) hx hb dX16_end_3 (by decide) ?_
  refine lv_icmp_ge (tgt := 26) hx hb dX16_end_5 (by decide) (fun c1 => ?_) (fun c1 => ?_)
  · have h := nd_pos h c1
    refine lv_aload_n hx hb dX16_end_26 rfl (lv_at hl 0 rfl) ?_
    obtain ⟨s3, hq, h⟩ := nd_b1_e h
    have hPc := hP
    have hDc := hD
    have hKc := hK
    have hFc := nd_rs hD hS hA
    refine nd_cVv (As := []) (rest := []) (w' := dw_X16 a ac s3) ⟨hx, hb, hml, hown, hts⟩ (fun sz => dm_X16_sweep l hlt dC dI a ac n  s0 hq sz) (cwV 0 hts gi_dm_X16_end_0 rfl rfl rfl (by decide +kernel) ⟨Nat.le_of_ble_eq_true rfl, Nat.le_of_ble_eq_true rfl⟩) hPc hDc hKc hS hA hN (va_recv hKc hPc (ci := 17) (q0 := 0) rfl rfl) rfl hl.1 rfl (Nat.le_of_ble_eq_true rfl) dX16_end_27 (fun H locs hP1 hD1 hk1 hS => ?_)
    have hP := hP1
    have hD := hD1.weaken (fun k q _ h => hFc q.1 h)
    refine lv_aload_n hx hb dX16_end_30 rfl (lv_at hl 0 rfl) ?_
    refine lv_iload_n hx hb dX16_end_31 rfl (lv_at hl 1 rfl) ?_
    obtain ⟨s6, hq, h⟩ := nd_b1_e h
    have hPc := hP
    have hDc := hD
    have hKc := hK
    have hFc := nd_rs hD hS hA
    refine nd_cVv (As := [.int x1]) (rest := []) (w' := dw_X16 a ac s6) ⟨hx, hb, hml, hown, hts⟩ (fun sz => dm_X16_leaveAll l hlt dC dI a ac n (x1) s3 hq sz) (cwV 1 hts gi_dm_X16_end_1 rfl rfl rfl (by decide +kernel) ⟨Nat.le_of_ble_eq_true rfl, Nat.le_of_ble_eq_true rfl⟩) hPc hDc hKc hS hA hN (va_recv hKc hPc (ci := 17) (q0 := 0) rfl rfl) rfl hl.1 rfl (Nat.le_of_ble_eq_true rfl) dX16_end_32 (fun H locs hP1 hD1 hk1 hS => ?_)
    have hP := hP1
    have hD := hD1.weaken (fun k q _ h => hFc q.1 h)
    refine lv_iconst (v := 0) hx hb dX16_end_35 (by decide) ?_
    refine lv_istore_n (lv' := [(3, .int 0), (0, .ref (a 0)), (1, .int x1), (2, .int x2)]) hx hb dX16_end_36 rfl hl (by decide) rfl (fun ls hl => ?_)
    exact (db_X16_end_37 C K n) (x1) (x2) (0) s6 _ _ _ h hP hD hS (lv_sub hl [1, 2, 3, 0] rfl)
  · have h := nd_neg h c1
    refine lv_aload_n hx hb dX16_end_8 rfl (lv_at hl 0 rfl) ?_
    refine va_get (D := (dC, dI)) (ci := 17) (v := .ref (a 16)) (C := RX16) (T := TX16) (N := 56) hx hb hts hi_dm_X16_end_X16 hown hK hP 0 rfl rfl 24 (by decide) (hts (.fieldLink RX16 57 "TimeMachineModel$Machine" "descriptor" "[I") (List.mem_of_getElem? (i := 19) rfl)) (fun _ h9 => h9) rfl dX16_end_9 ?_
    refine lv_bipush (v := 16) hx hb dX16_end_12 (by decide) ?_
    refine lv_iload_n hx hb dX16_end_14 rfl (lv_at hl 1 rfl) ?_
    refine lv_imul hx hb dX16_end_15 ?_
    refine lv_iload_n hx hb dX16_end_16 rfl (lv_at hl 3 rfl) ?_
    refine lv_iadd hx hb dX16_end_17 ?_
    refine lv_iconst (v := (-1)) hx hb dX16_end_18 (by decide) ?_
    obtain ⟨i40, h⟩ := nd_ck_e h
    refine va_iast (i := ((16 * x1) + x3)) (x := (-1)) hx hb hK hP hD hS 16 15 rfl rfl i40 dX16_end_19 (fun H locs hP hD hS => ?_)
    obtain ⟨s41, es41, h⟩ := nd_let_e h
    have hP : va_P (dC, dI) vwCl (dw_X16 a ac s41) H := by rw [es41]; exact hP
    have hD : va_D A (dw_X16 a ac s41) := by rw [es41]; exact hD
    obtain ⟨z42, ez42, h⟩ := nd_let_e h
    refine lv_iinc (v := z42) (lv' := [(3, .int z42), (0, .ref (a 0)), (1, .int x1), (2, .int x2)]) hx hb dX16_end_20 hl (k := 3) rfl (by rw [ez42]) (by decide) rfl (fun ls hl => ?_)
    refine lv_goto (tgt := 2) hx hb dX16_end_23 (by decide) ?_
    exact (J2) (x1) (x2) (z42) s41 _ _ _ h hP hD hS (lv_sub hl [1, 2, 3, 0] rfl)
set_option maxHeartbeats 40000000 in
set_option maxRecDepth 100000 in
theorem db_X16_end_2 {p : Program} {l : Launch} {e : Env} {s : State} {m : MethodId} {args : Array Value} {below : List Frame} {meth : Method} {c : Code} {Q : State → Prop} {A : Nat → Prop} {dC : Nat → ClassId} {dI : Nat → Nat → Nat} {a : Nat → Nat} {ac : Nat → ClassId} {n : Nat} {r : St × (St)} (C : nd_C p l s m args c A (dC, dI) cX16_end 4 RX16 ow_dm_X16_end (dk_X16 ac)) (K : nd_Kv p l e (headSpec ow_dm_X16_end ({ frames := 2, cells := 0, slots := 0, locals := 45 })).room s m args below meth c Q A (dC, dI) cX16_end (St × (St)) (dw_X16 a ac) r) (k : Nat) : dj_X16_end_2 p l e s m args below meth c Q A dC dI a ac (df_X16_end_2 n k) r := by
  induction k with
  | zero => intro x1 x2 x3 s0 H locs ls h; exact nomatch (show (none : Option (St × (St))) = some r from h)
  | succ k ih => exact dB_X16_end_2 C K ih
set_option maxHeartbeats 40000000 in
set_option maxRecDepth 100000 in
theorem db_X16_end_0 {p : Program} {l : Launch} {e : Env} {s : State} {m : MethodId} {args : Array Value} {below : List Frame} {meth : Method} {c : Code} {Q : State → Prop} {A : Nat → Prop} {dC : Nat → ClassId} {dI : Nat → Nat → Nat} {a : Nat → Nat} {ac : Nat → ClassId} {n : Nat} {r : St × (St)} (C : nd_C p l s m args c A (dC, dI) cX16_end 4 RX16 ow_dm_X16_end (dk_X16 ac)) (K : nd_Kv p l e (headSpec ow_dm_X16_end ({ frames := 2, cells := 0, slots := 0, locals := 45 })).room s m args below meth c Q A (dC, dI) cX16_end (St × (St)) (dw_X16 a ac) r) : dj_X16_end_0 p l e s m args below meth c Q A dC dI a ac (df_X16_end_0 n) r := by
  obtain ⟨hlt, hx, hb, hml, hown, hts, hN, hA, hK⟩ := id C
  intro v0 v1 s0 H locs ls h hP hD hS hl
  unfold df_X16_end_0 at h
  refine lv_iconst (v := 0) hx hb dX16_end_0 (by decide) ?_
  refine lv_istore_n (lv' := [(3, .int 0), (0, .ref (a 0)), (1, .int v0), (2, .int v1)]) hx hb dX16_end_1 rfl hl (by decide) rfl (fun ls hl => ?_)
  exact (db_X16_end_2 C K n) (v0) (v1) (0) s0 _ _ _ h hP hD hS (lv_sub hl [1, 2, 3, 0] rfl)
set_option maxHeartbeats 40000000 in
set_option maxRecDepth 100000 in
theorem dm_X16_end (l : Launch) (hlt : l.stackTraces = false) (dC : Nat → ClassId) (dI : Nat → Nat → Nat) (a : Nat → Nat) (ac : Nat → ClassId) (n : Nat) (v0 : Int32) (v1 : Int32) (s0 : St × (St)) {r : St × (St)} (h : df_X16_end n v0 v1 s0 = some r) (sz : Nat) : Met l yX16_end ow_dm_X16_end ({ frames := 2, cells := 0, slots := 0, locals := 45 }) (va_Pc [.ref (a 0), .int v0, .int v1] (fun U => U.heap.size = sz ∧ va_P (dC, dI) vwCl (dw_X16 a ac s0) U.heap ∧ va_K (dC, dI) vwCl (dk_X16 ac) U ∧ va_D (fun _ => True) (dw_X16 a ac s0) ∧ nv_E dI (va_A (dw_X16 a ac s0) sz) U)) (va_Qv (fun _ => True) (fun (_ : Unit) t => va_P (dC, dI) vwCl (dw_X16 a ac r) t.heap ∧ va_K (dC, dI) vwCl (dk_X16 ac) t ∧ va_D (va_A (dw_X16 a ac s0) sz) (dw_X16 a ac r)) (va_A (dw_X16 a ac s0) sz)) 0 0 (va_A (dw_X16 a ac s0) sz) := by
  refine Met.ofW (cc := cX16_end) (maxL := 4) (ret := none) (by decide) rfl ?_
  intro p e s m args below meth c s₁ B hml hv
  obtain ⟨rfl, hsz, hP, hK, hD0, hN⟩ := hv
  have hx := B.exec
  have hb := B.bytes
  have hr := B.returns
  have hts := atoms_spec (ws := ow_dm_X16_end) B.pre
  have hown : s.vm.findClass RX16 = some m.cls := findClass_of_methodNamed B.named
  have hlocks := B.notSynchronized
  subst hsz
  have hD := hD0.self (sz := s.heap.size)
  generalize hAe : va_A (dw_X16 a ac s0) s.heap.size = A at hD hN ⊢
  have hA : ∀ q : Nat, s.heap.size ≤ q → A q := fun q h => by rw [← hAe]; exact Or.inr h
  have hl := lv_entry ([.ref (a 0), .int v0, .int v1]) (n := 4) (Nat.le_of_ble_eq_true rfl)
  rw [lg_entry_eq]
  generalize (lg_sl ([.ref (a 0), .int v0, .int v1]) ++ List.replicate (4 - (lg_sl ([.ref (a 0), .int v0, .int v1])).length) Slot.unset).toArray = ls at hl ⊢
  have hl : lv_has ls 4 [(0, .ref (a 0)), (1, .int v0), (2, .int v1)] := hl
  exact db_X16_end_0 (dC := dC) (dI := dI) (a := a) (ac := ac) (n := n) (r := r) ⟨hlt, hx, hb, hml, hown, hts, hN, hA, hK⟩ (fun pc τ H locs ls d er hP hD hS => by subst er; exact W.vret hx hb hr (fun t ht hW => ⟨⟨(), rfl, trivial, by rw [ht]; exact hP, va_K.moved hW.alike hK, hD⟩, hS.F ht⟩) hS.2.2 d) v0 v1 s0 _ _ _ h hP hD va_S.rf (lv_sub hl [0, 1, 2] rfl)
def ow_dm_X16_plain : List Cond := Cond.code yX16_plain cX16_plain 1 (some .long) :: ([Cond.constantLong RX16 258 (4294967295)] ++ [])
theorem gd_dm_X16_plain : ∀ w ∈ ow_dm_X16_plain, (w.onTables && w.keeps) = true ∨ ∃ ty, w = Cond.arrayClass ty := List.forall_mem_cons.mpr ⟨good_of_word rfl, List.forall_mem_append.mpr ⟨fun w h => good_of_word (List.all_eq_true.mp (by decide +kernel) w h), fun _ h => nomatch h⟩⟩
def dj_X16_plain_0 (p : Program) (l : Launch) (e : Env) (s : State) (m : MethodId) (args : Array Value) (below : List Frame) (meth : Method) (c : Code) (Q : State → Prop) (A : Nat → Prop) (dC : Nat → ClassId) (dI : Nat → Nat → Nat) (a : Nat → Nat) (ac : Nat → ClassId) (g : Int32 → (Unit) → Option (Int64 × (Unit))) (r : Int64 × (Unit)) : Prop := ∀ (v0 : Int32) (s0 : Unit) (H : Heap) (locs : List Loc) (ls : Array Slot), g v0 s0 = some r → va_P (dC, dI) vwCl (dw_P a ac s0) H → va_D A (dw_P a ac s0) → va_S A s.heap H locs → lv_has ls 1 [(0, .int v0)] → W p l e (headSpec ow_dm_X16_plain ({ frames := 0, cells := 0, slots := 0, locals := 0 })).room s m args below meth c H locs 0 0 Q (F0 m 0 ls [])
set_option maxHeartbeats 40000000 in
set_option maxRecDepth 100000 in
theorem db_X16_plain_0 {p : Program} {l : Launch} {e : Env} {s : State} {m : MethodId} {args : Array Value} {below : List Frame} {meth : Method} {c : Code} {Q : State → Prop} {A : Nat → Prop} {dC : Nat → ClassId} {dI : Nat → Nat → Nat} {a : Nat → Nat} {ac : Nat → ClassId} {n : Nat} {r : Int64 × (Unit)} (C : nd_C p l s m args c A (dC, dI) cX16_plain 1 RX16 ow_dm_X16_plain (dk_P ac)) (K : nd_Kl p l e (headSpec ow_dm_X16_plain ({ frames := 0, cells := 0, slots := 0, locals := 0 })).room s m args below meth c Q A (dC, dI) cX16_plain (Unit) (dw_P a ac) r) : dj_X16_plain_0 p l e s m args below meth c Q A dC dI a ac (df_X16_plain_0 n) r := by
  obtain ⟨hlt, hx, hb, hml, hown, hts, hN, hA, hK⟩ := id C
  intro v0 s0 H locs ls h hP hD hS hl
  unfold df_X16_plain_0 at h
  refine lv_iload_n hx hb dX16_plain_0 rfl (lv_at hl 0 rfl) ?_
  refine lv_i2l hx hb dX16_plain_1 rfl ?_
  refine lv_ldc2 hx hb hown (hts (.constantLong RX16 258 (4294967295)) (List.mem_of_getElem? (i := 1) rfl)) dX16_plain_2 ?_
  refine lv_land hx hb dX16_plain_5 ?_
  exact K _ _ _ _ _ _ dX16_plain_6 (Option.some.inj h).symm hP hD hS
set_option maxHeartbeats 40000000 in
set_option maxRecDepth 100000 in
theorem dm_X16_plain (l : Launch) (hlt : l.stackTraces = false) (dC : Nat → ClassId) (dI : Nat → Nat → Nat) (a : Nat → Nat) (ac : Nat → ClassId) (n : Nat) (v0 : Int32) (s0 : Unit) {r : Int64 × (Unit)} (h : df_X16_plain n v0 s0 = some r) (sz : Nat) : Met l yX16_plain ow_dm_X16_plain ({ frames := 0, cells := 0, slots := 0, locals := 0 }) (va_Pc [.int v0] (fun U => U.heap.size = sz ∧ va_P (dC, dI) vwCl (dw_P a ac s0) U.heap ∧ va_K (dC, dI) vwCl (dk_P ac) U ∧ va_D (fun _ => True) (dw_P a ac s0) ∧ nv_E dI (va_A (dw_P a ac s0) sz) U)) (va_Ql (fun x _ => x = r.1) (fun (_ : Unit) t => va_P (dC, dI) vwCl (dw_P a ac r.2) t.heap ∧ va_K (dC, dI) vwCl (dk_P ac) t ∧ va_D (va_A (dw_P a ac s0) sz) (dw_P a ac r.2)) (va_A (dw_P a ac s0) sz)) 0 0 (va_A (dw_P a ac s0) sz) := by
  refine Met.ofW (cc := cX16_plain) (maxL := 1) (ret := (some .long)) (by decide) rfl ?_
  intro p e s m args below meth c s₁ B hml hv
  obtain ⟨rfl, hsz, hP, hK, hD0, hN⟩ := hv
  have hx := B.exec
  have hb := B.bytes
  have hr := B.returns
  have hts := atoms_spec (ws := ow_dm_X16_plain) B.pre
  have hown : s.vm.findClass RX16 = some m.cls := findClass_of_methodNamed B.named
  have hlocks := B.notSynchronized
  subst hsz
  have hD := hD0.self (sz := s.heap.size)
  generalize hAe : va_A (dw_P a ac s0) s.heap.size = A at hD hN ⊢
  have hA : ∀ q : Nat, s.heap.size ≤ q → A q := fun q h => by rw [← hAe]; exact Or.inr h
  have hl := lv_entry ([.int v0]) (n := 1) (Nat.le_of_ble_eq_true rfl)
  rw [lg_entry_eq]
  generalize (lg_sl ([.int v0]) ++ List.replicate (1 - (lg_sl ([.int v0])).length) Slot.unset).toArray = ls at hl ⊢
  have hl : lv_has ls 1 [(0, .int v0)] := hl
  exact db_X16_plain_0 (dC := dC) (dI := dI) (a := a) (ac := ac) (n := n) (r := r) ⟨hlt, hx, hb, hml, hown, hts, hN, hA, hK⟩ (fun pc v τ H locs ls d er hP hD hS => by subst er; exact W.lret (v := v) hx hb hr (fun t ht hW => ⟨⟨v, (), rfl, rfl, by rw [ht]; exact hP, va_K.moved hW.alike hK, hD⟩, hS.F ht⟩) hS.2.2 d) v0 s0 _ _ _ h hP hD va_S.rf (lv_sub hl [0] rfl)
def ow_dm_X16_can : List Cond := Cond.code yX16_can cX16_can 5 (some .boolean) :: ([Cond.fieldLink RX16 13 "TimeMachineModel$Machine" "state" "[I", Cond.fieldLink RX16 122 "TimeMachineModel$Machine" "typed" "I", Cond.fieldLink RX16 126 "TimeMachineModel$Machine" "waitingWords" "I"] ++ (u_ws RX16 TX16 56 ++ []))
theorem gd_dm_X16_can : ∀ w ∈ ow_dm_X16_can, (w.onTables && w.keeps) = true ∨ ∃ ty, w = Cond.arrayClass ty := List.forall_mem_cons.mpr ⟨good_of_word rfl, List.forall_mem_append.mpr ⟨fun w h => good_of_word (List.all_eq_true.mp (by decide +kernel) w h), List.forall_mem_append.mpr ⟨gu_X16, fun _ h => nomatch h⟩⟩⟩
theorem hi_dm_X16_can_X16 : ∀ w ∈ u_ws RX16 TX16 56, w ∈ ow_dm_X16_can := fun w h => List.mem_cons_of_mem _ (List.mem_append_right _ (List.mem_append_left _ h))
def dj_X16_can_48 (p : Program) (l : Launch) (e : Env) (s : State) (m : MethodId) (args : Array Value) (below : List Frame) (meth : Method) (c : Code) (Q : State → Prop) (A : Nat → Prop) (dC : Nat → ClassId) (dI : Nat → Nat → Nat) (a : Nat → Nat) (ac : Nat → ClassId) (g : Int32 → (St × (St)) → Option (Int32 × (St × (St)))) (r : Int32 × (St × (St))) : Prop := ∀ (y0 : Int32) (s0 : St × (St)) (H : Heap) (locs : List Loc) (ls : Array Slot), g y0 s0 = some r → va_P (dC, dI) vwCl (dw_X16 a ac s0) H → va_D A (dw_X16 a ac s0) → va_S A s.heap H locs → lv_has ls 5 [] → W p l e (headSpec ow_dm_X16_can ({ frames := 0, cells := 0, slots := 0, locals := 0 })).room s m args below meth c H locs 0 0 Q (F0 m 48 ls [.int y0])
def dj_X16_can_67 (p : Program) (l : Launch) (e : Env) (s : State) (m : MethodId) (args : Array Value) (below : List Frame) (meth : Method) (c : Code) (Q : State → Prop) (A : Nat → Prop) (dC : Nat → ClassId) (dI : Nat → Nat → Nat) (a : Nat → Nat) (ac : Nat → ClassId) (g : Int32 → (St × (St)) → Option (Int32 × (St × (St)))) (r : Int32 × (St × (St))) : Prop := ∀ (y0 : Int32) (s0 : St × (St)) (H : Heap) (locs : List Loc) (ls : Array Slot), g y0 s0 = some r → va_P (dC, dI) vwCl (dw_X16 a ac s0) H → va_D A (dw_X16 a ac s0) → va_S A s.heap H locs → lv_has ls 5 [] → W p l e (headSpec ow_dm_X16_can ({ frames := 0, cells := 0, slots := 0, locals := 0 })).room s m args below meth c H locs 0 0 Q (F0 m 67 ls [.int y0])
def dj_X16_can_102 (p : Program) (l : Launch) (e : Env) (s : State) (m : MethodId) (args : Array Value) (below : List Frame) (meth : Method) (c : Code) (Q : State → Prop) (A : Nat → Prop) (dC : Nat → ClassId) (dI : Nat → Nat → Nat) (a : Nat → Nat) (ac : Nat → ClassId) (g : Int32 → (St × (St)) → Option (Int32 × (St × (St)))) (r : Int32 × (St × (St))) : Prop := ∀ (y0 : Int32) (s0 : St × (St)) (H : Heap) (locs : List Loc) (ls : Array Slot), g y0 s0 = some r → va_P (dC, dI) vwCl (dw_X16 a ac s0) H → va_D A (dw_X16 a ac s0) → va_S A s.heap H locs → lv_has ls 5 [] → W p l e (headSpec ow_dm_X16_can ({ frames := 0, cells := 0, slots := 0, locals := 0 })).room s m args below meth c H locs 0 0 Q (F0 m 102 ls [.int y0])
def dj_X16_can_101 (p : Program) (l : Launch) (e : Env) (s : State) (m : MethodId) (args : Array Value) (below : List Frame) (meth : Method) (c : Code) (Q : State → Prop) (A : Nat → Prop) (dC : Nat → ClassId) (dI : Nat → Nat → Nat) (a : Nat → Nat) (ac : Nat → ClassId) (g : (St × (St)) → Option (Int32 × (St × (St)))) (r : Int32 × (St × (St))) : Prop := ∀ (s0 : St × (St)) (H : Heap) (locs : List Loc) (ls : Array Slot), g s0 = some r → va_P (dC, dI) vwCl (dw_X16 a ac s0) H → va_D A (dw_X16 a ac s0) → va_S A s.heap H locs → lv_has ls 5 [] → W p l e (headSpec ow_dm_X16_can ({ frames := 0, cells := 0, slots := 0, locals := 0 })).room s m args below meth c H locs 0 0 Q (F0 m 101 ls [])
def dj_X16_can_97 (p : Program) (l : Launch) (e : Env) (s : State) (m : MethodId) (args : Array Value) (below : List Frame) (meth : Method) (c : Code) (Q : State → Prop) (A : Nat → Prop) (dC : Nat → ClassId) (dI : Nat → Nat → Nat) (a : Nat → Nat) (ac : Nat → ClassId) (g : (St × (St)) → Option (Int32 × (St × (St)))) (r : Int32 × (St × (St))) : Prop := ∀ (s0 : St × (St)) (H : Heap) (locs : List Loc) (ls : Array Slot), g s0 = some r → va_P (dC, dI) vwCl (dw_X16 a ac s0) H → va_D A (dw_X16 a ac s0) → va_S A s.heap H locs → lv_has ls 5 [] → W p l e (headSpec ow_dm_X16_can ({ frames := 0, cells := 0, slots := 0, locals := 0 })).room s m args below meth c H locs 0 0 Q (F0 m 97 ls [])
def dj_X16_can_119 (p : Program) (l : Launch) (e : Env) (s : State) (m : MethodId) (args : Array Value) (below : List Frame) (meth : Method) (c : Code) (Q : State → Prop) (A : Nat → Prop) (dC : Nat → ClassId) (dI : Nat → Nat → Nat) (a : Nat → Nat) (ac : Nat → ClassId) (g : Int32 → (St × (St)) → Option (Int32 × (St × (St)))) (r : Int32 × (St × (St))) : Prop := ∀ (y0 : Int32) (s0 : St × (St)) (H : Heap) (locs : List Loc) (ls : Array Slot), g y0 s0 = some r → va_P (dC, dI) vwCl (dw_X16 a ac s0) H → va_D A (dw_X16 a ac s0) → va_S A s.heap H locs → lv_has ls 5 [] → W p l e (headSpec ow_dm_X16_can ({ frames := 0, cells := 0, slots := 0, locals := 0 })).room s m args below meth c H locs 0 0 Q (F0 m 119 ls [.int y0])
def dj_X16_can_0 (p : Program) (l : Launch) (e : Env) (s : State) (m : MethodId) (args : Array Value) (below : List Frame) (meth : Method) (c : Code) (Q : State → Prop) (A : Nat → Prop) (dC : Nat → ClassId) (dI : Nat → Nat → Nat) (a : Nat → Nat) (ac : Nat → ClassId) (g : Int32 → Int64 → Int32 → (St × (St)) → Option (Int32 × (St × (St)))) (r : Int32 × (St × (St))) : Prop := ∀ (v0 : Int32) (v1 : Int64) (v2 : Int32) (s0 : St × (St)) (H : Heap) (locs : List Loc) (ls : Array Slot), g v0 v1 v2 s0 = some r → va_P (dC, dI) vwCl (dw_X16 a ac s0) H → va_D A (dw_X16 a ac s0) → va_S A s.heap H locs → lv_has ls 5 [(0, .ref (a 0)), (1, .int v0), (2, .long v1), (4, .int v2)] → W p l e (headSpec ow_dm_X16_can ({ frames := 0, cells := 0, slots := 0, locals := 0 })).room s m args below meth c H locs 0 0 Q (F0 m 0 ls [])
set_option maxHeartbeats 40000000 in
set_option maxRecDepth 100000 in
theorem db_X16_can_48 {p : Program} {l : Launch} {e : Env} {s : State} {m : MethodId} {args : Array Value} {below : List Frame} {meth : Method} {c : Code} {Q : State → Prop} {A : Nat → Prop} {dC : Nat → ClassId} {dI : Nat → Nat → Nat} {a : Nat → Nat} {ac : Nat → ClassId} {n : Nat} {r : Int32 × (St × (St))} (C : nd_C p l s m args c A (dC, dI) cX16_can 5 RX16 ow_dm_X16_can (dk_X16 ac)) (K : nd_Ki p l e (headSpec ow_dm_X16_can ({ frames := 0, cells := 0, slots := 0, locals := 0 })).room s m args below meth c Q A (dC, dI) cX16_can .boolean (St × (St)) (dw_X16 a ac) r) : dj_X16_can_48 p l e s m args below meth c Q A dC dI a ac (df_X16_can_48 n) r := by
  obtain ⟨hlt, hx, hb, hml, hown, hts, hN, hA, hK⟩ := id C
  intro y0 s0 H locs ls h hP hD hS hl
  unfold df_X16_can_48 at h
  obtain ⟨n4, h⟩ := nd_z_e ⟨_, rfl⟩ h
  exact K _ _ _ _ _ _ dX16_can_48 n4 (Option.some.inj h).symm hP hD hS
set_option maxHeartbeats 40000000 in
set_option maxRecDepth 100000 in
theorem db_X16_can_67 {p : Program} {l : Launch} {e : Env} {s : State} {m : MethodId} {args : Array Value} {below : List Frame} {meth : Method} {c : Code} {Q : State → Prop} {A : Nat → Prop} {dC : Nat → ClassId} {dI : Nat → Nat → Nat} {a : Nat → Nat} {ac : Nat → ClassId} {n : Nat} {r : Int32 × (St × (St))} (C : nd_C p l s m args c A (dC, dI) cX16_can 5 RX16 ow_dm_X16_can (dk_X16 ac)) (K : nd_Ki p l e (headSpec ow_dm_X16_can ({ frames := 0, cells := 0, slots := 0, locals := 0 })).room s m args below meth c Q A (dC, dI) cX16_can .boolean (St × (St)) (dw_X16 a ac) r) : dj_X16_can_67 p l e s m args below meth c Q A dC dI a ac (df_X16_can_67 n) r := by
  obtain ⟨hlt, hx, hb, hml, hown, hts, hN, hA, hK⟩ := id C
  intro y0 s0 H locs ls h hP hD hS hl
  unfold df_X16_can_67 at h
  obtain ⟨n7, h⟩ := nd_z_e ⟨_, rfl⟩ h
  exact K _ _ _ _ _ _ dX16_can_67 n7 (Option.some.inj h).symm hP hD hS
set_option maxHeartbeats 40000000 in
set_option maxRecDepth 100000 in
theorem db_X16_can_102 {p : Program} {l : Launch} {e : Env} {s : State} {m : MethodId} {args : Array Value} {below : List Frame} {meth : Method} {c : Code} {Q : State → Prop} {A : Nat → Prop} {dC : Nat → ClassId} {dI : Nat → Nat → Nat} {a : Nat → Nat} {ac : Nat → ClassId} {n : Nat} {r : Int32 × (St × (St))} (C : nd_C p l s m args c A (dC, dI) cX16_can 5 RX16 ow_dm_X16_can (dk_X16 ac)) (K : nd_Ki p l e (headSpec ow_dm_X16_can ({ frames := 0, cells := 0, slots := 0, locals := 0 })).room s m args below meth c Q A (dC, dI) cX16_can .boolean (St × (St)) (dw_X16 a ac) r) : dj_X16_can_102 p l e s m args below meth c Q A dC dI a ac (df_X16_can_102 n) r := by
  obtain ⟨hlt, hx, hb, hml, hown, hts, hN, hA, hK⟩ := id C
  intro y0 s0 H locs ls h hP hD hS hl
  unfold df_X16_can_102 at h
  obtain ⟨n10, h⟩ := nd_z_e ⟨_, rfl⟩ h
  exact K _ _ _ _ _ _ dX16_can_102 n10 (Option.some.inj h).symm hP hD hS
set_option maxHeartbeats 40000000 in
set_option maxRecDepth 100000 in
theorem db_X16_can_101 {p : Program} {l : Launch} {e : Env} {s : State} {m : MethodId} {args : Array Value} {below : List Frame} {meth : Method} {c : Code} {Q : State → Prop} {A : Nat → Prop} {dC : Nat → ClassId} {dI : Nat → Nat → Nat} {a : Nat → Nat} {ac : Nat → ClassId} {n : Nat} {r : Int32 × (St × (St))} (C : nd_C p l s m args c A (dC, dI) cX16_can 5 RX16 ow_dm_X16_can (dk_X16 ac)) (K : nd_Ki p l e (headSpec ow_dm_X16_can ({ frames := 0, cells := 0, slots := 0, locals := 0 })).room s m args below meth c Q A (dC, dI) cX16_can .boolean (St × (St)) (dw_X16 a ac) r) : dj_X16_can_101 p l e s m args below meth c Q A dC dI a ac (df_X16_can_101 n) r := by
  obtain ⟨hlt, hx, hb, hml, hown, hts, hN, hA, hK⟩ := id C
  intro s0 H locs ls h hP hD hS hl
  unfold df_X16_can_101 at h
  refine lv_iconst (v := 0) hx hb dX16_can_101 (by decide) ?_
  exact (db_X16_can_102 C K) (0) s0 _ _ _ h hP hD hS (lv_sub hl [] rfl)
set_option maxHeartbeats 40000000 in
set_option maxRecDepth 100000 in
theorem db_X16_can_97 {p : Program} {l : Launch} {e : Env} {s : State} {m : MethodId} {args : Array Value} {below : List Frame} {meth : Method} {c : Code} {Q : State → Prop} {A : Nat → Prop} {dC : Nat → ClassId} {dI : Nat → Nat → Nat} {a : Nat → Nat} {ac : Nat → ClassId} {n : Nat} {r : Int32 × (St × (St))} (C : nd_C p l s m args c A (dC, dI) cX16_can 5 RX16 ow_dm_X16_can (dk_X16 ac)) (K : nd_Ki p l e (headSpec ow_dm_X16_can ({ frames := 0, cells := 0, slots := 0, locals := 0 })).room s m args below meth c Q A (dC, dI) cX16_can .boolean (St × (St)) (dw_X16 a ac) r) : dj_X16_can_97 p l e s m args below meth c Q A dC dI a ac (df_X16_can_97 n) r := by
  obtain ⟨hlt, hx, hb, hml, hown, hts, hN, hA, hK⟩ := id C
  intro s0 H locs ls h hP hD hS hl
  unfold df_X16_can_97 at h
  refine lv_iconst (v := 1) hx hb dX16_can_97 (by decide) ?_
  refine lv_goto (tgt := 102) hx hb dX16_can_98 (by decide) ?_
  exact (db_X16_can_102 C K) (1) s0 _ _ _ h hP hD hS (lv_sub hl [] rfl)
set_option maxHeartbeats 40000000 in
set_option maxRecDepth 100000 in
theorem db_X16_can_119 {p : Program} {l : Launch} {e : Env} {s : State} {m : MethodId} {args : Array Value} {below : List Frame} {meth : Method} {c : Code} {Q : State → Prop} {A : Nat → Prop} {dC : Nat → ClassId} {dI : Nat → Nat → Nat} {a : Nat → Nat} {ac : Nat → ClassId} {n : Nat} {r : Int32 × (St × (St))} (C : nd_C p l s m args c A (dC, dI) cX16_can 5 RX16 ow_dm_X16_can (dk_X16 ac)) (K : nd_Ki p l e (headSpec ow_dm_X16_can ({ frames := 0, cells := 0, slots := 0, locals := 0 })).room s m args below meth c Q A (dC, dI) cX16_can .boolean (St × (St)) (dw_X16 a ac) r) : dj_X16_can_119 p l e s m args below meth c Q A dC dI a ac (df_X16_can_119 n) r := by
  obtain ⟨hlt, hx, hb, hml, hown, hts, hN, hA, hK⟩ := id C
  intro y0 s0 H locs ls h hP hD hS hl
  unfold df_X16_can_119 at h
  obtain ⟨n17, h⟩ := nd_z_e ⟨_, rfl⟩ h
  exact K _ _ _ _ _ _ dX16_can_119 n17 (Option.some.inj h).symm hP hD hS
set_option maxHeartbeats 40000000 in
set_option maxRecDepth 100000 in
theorem db_X16_can_0 {p : Program} {l : Launch} {e : Env} {s : State} {m : MethodId} {args : Array Value} {below : List Frame} {meth : Method} {c : Code} {Q : State → Prop} {A : Nat → Prop} {dC : Nat → ClassId} {dI : Nat → Nat → Nat} {a : Nat → Nat} {ac : Nat → ClassId} {n : Nat} {r : Int32 × (St × (St))} (C : nd_C p l s m args c A (dC, dI) cX16_can 5 RX16 ow_dm_X16_can (dk_X16 ac)) (K : nd_Ki p l e (headSpec ow_dm_X16_can ({ frames := 0, cells := 0, slots := 0, locals := 0 })).room s m args below meth c Q A (dC, dI) cX16_can .boolean (St × (St)) (dw_X16 a ac) r) : dj_X16_can_0 p l e s m args below meth c Q A dC dI a ac (df_X16_can_0 n) r := by
  obtain ⟨hlt, hx, hb, hml, hown, hts, hN, hA, hK⟩ := id C
  intro v0 v1 v2 s0 H locs ls h hP hD hS hl
  unfold df_X16_can_0 at h
  refine lv_iload_n hx hb dX16_can_0 rfl (lv_at hl 1 rfl) ?_
  by_cases c1 : v0 = 0
  · have h := nd_pos h c1
    refine lv_tableIn (off := 31) (tgt := 32) hx hb dX16_can_1 (by rw [c1]; decide) (by rw [c1]; decide) (by rw [c1]; decide) (by decide) ?_
    refine lv_aload_n hx hb dX16_can_32 rfl (lv_at hl 0 rfl) ?_
    refine va_get (D := (dC, dI)) (ci := 17) (v := .ref (a 2)) (C := RX16) (T := TX16) (N := 56) hx hb hts hi_dm_X16_can_X16 hown hK hP 0 rfl rfl 10 (by decide) (hts (.fieldLink RX16 13 "TimeMachineModel$Machine" "state" "[I") (List.mem_of_getElem? (i := 1) rfl)) (fun _ h9 => h9) rfl dX16_can_33 ?_
    refine lv_lload_n hx hb dX16_can_36 rfl (lv_at hl 2 rfl) ?_
    refine lv_l2i hx hb dX16_can_37 rfl ?_
    obtain ⟨i2, h⟩ := nd_ck_e h
    refine va_iald (i := (v1.toInt32)) hx hb hK hP 2 1 rfl rfl i2 dX16_can_38 ?_
    refine lv_iconst (v := 1) hx hb dX16_can_39 (by decide) ?_
    refine lv_icmp_ne (tgt := 47) hx hb dX16_can_40 (by decide) (fun c3 => ?_) (fun c3 => ?_)
    · have h := nd_neg h c3
      refine lv_iconst (v := 0) hx hb dX16_can_47 (by decide) ?_
      exact (db_X16_can_48 C K) (0) s0 _ _ _ h hP hD hS (lv_sub hl [] rfl)
    · have h := nd_pos h c3
      refine lv_iconst (v := 1) hx hb dX16_can_43 (by decide) ?_
      refine lv_goto (tgt := 48) hx hb dX16_can_44 (by decide) ?_
      exact (db_X16_can_48 C K) (1) s0 _ _ _ h hP hD hS (lv_sub hl [] rfl)
  have h := nd_neg h c1
  by_cases c5 : v0 = 1
  · have h := nd_pos h c5
    refine lv_tableIn (off := 48) (tgt := 49) hx hb dX16_can_1 (by rw [c5]; decide) (by rw [c5]; decide) (by rw [c5]; decide) (by decide) ?_
    refine lv_aload_n hx hb dX16_can_49 rfl (lv_at hl 0 rfl) ?_
    refine va_get (D := (dC, dI)) (ci := 17) (v := .int (sI s0.1 7)) (C := RX16) (T := TX16) (N := 56) hx hb hts hi_dm_X16_can_X16 hown hK hP 0 rfl rfl 42 (by decide) (hts (.fieldLink RX16 122 "TimeMachineModel$Machine" "typed" "I") (List.mem_of_getElem? (i := 2) rfl)) (fun _ h9 => h9) rfl dX16_can_50 ?_
    refine lv_iload hx hb dX16_can_53 (lv_at hl 3 rfl) ?_
    refine lv_iadd hx hb dX16_can_55 ?_
    refine lv_sipush (v := 512) hx hb dX16_can_56 (by decide) ?_
    refine lv_icmp_gt (tgt := 66) hx hb dX16_can_59 (by decide) (fun c6 => ?_) (fun c6 => ?_)
    · have h := nd_pos h c6
      refine lv_iconst (v := 0) hx hb dX16_can_66 (by decide) ?_
      exact (db_X16_can_67 C K) (0) s0 _ _ _ h hP hD hS (lv_sub hl [] rfl)
    · have h := nd_neg h c6
      refine lv_iconst (v := 1) hx hb dX16_can_62 (by decide) ?_
      refine lv_goto (tgt := 67) hx hb dX16_can_63 (by decide) ?_
      exact (db_X16_can_67 C K) (1) s0 _ _ _ h hP hD hS (lv_sub hl [] rfl)
  have h := nd_neg h c5
  by_cases c8 : v0 = 2
  · have h := nd_pos h c8
    refine lv_tableIn (off := 67) (tgt := 68) hx hb dX16_can_1 (by rw [c8]; decide) (by rw [c8]; decide) (by rw [c8]; decide) (by decide) ?_
    refine lv_iload hx hb dX16_can_68 (lv_at hl 3 rfl) ?_
    refine lv_bipush (v := 16) hx hb dX16_can_70 (by decide) ?_
    refine lv_icmp_ge (tgt := 101) hx hb dX16_can_72 (by decide) (fun c9 => ?_) (fun c9 => ?_)
    · have h := nd_pos h c9
      exact (db_X16_can_101 C K)  s0 _ _ _ h hP hD hS (lv_sub hl [] rfl)
    · have h := nd_neg h c9
      refine lv_aload_n hx hb dX16_can_75 rfl (lv_at hl 0 rfl) ?_
      refine va_get (D := (dC, dI)) (ci := 17) (v := .ref (a 2)) (C := RX16) (T := TX16) (N := 56) hx hb hts hi_dm_X16_can_X16 hown hK hP 0 rfl rfl 10 (by decide) (hts (.fieldLink RX16 13 "TimeMachineModel$Machine" "state" "[I") (List.mem_of_getElem? (i := 1) rfl)) (fun _ h9 => h9) rfl dX16_can_76 ?_
      refine lv_lload_n hx hb dX16_can_79 rfl (lv_at hl 2 rfl) ?_
      refine lv_l2i hx hb dX16_can_80 rfl ?_
      obtain ⟨i11, h⟩ := nd_ck_e h
      refine va_iald (i := (v1.toInt32)) hx hb hK hP 2 1 rfl rfl i11 dX16_can_81 ?_
      refine lv_iconst (v := 1) hx hb dX16_can_82 (by decide) ?_
      refine lv_icmp_eq (tgt := 97) hx hb dX16_can_83 (by decide) (fun c12 => ?_) (fun c12 => ?_)
      · have h := nd_pos h c12
        exact (db_X16_can_97 C K)  s0 _ _ _ h hP hD hS (lv_sub hl [] rfl)
      · have h := nd_neg h c12
        refine lv_aload_n hx hb dX16_can_86 rfl (lv_at hl 0 rfl) ?_
        refine va_get (D := (dC, dI)) (ci := 17) (v := .ref (a 2)) (C := RX16) (T := TX16) (N := 56) hx hb hts hi_dm_X16_can_X16 hown hK hP 0 rfl rfl 10 (by decide) (hts (.fieldLink RX16 13 "TimeMachineModel$Machine" "state" "[I") (List.mem_of_getElem? (i := 1) rfl)) (fun _ h9 => h9) rfl dX16_can_87 ?_
        refine lv_lload_n hx hb dX16_can_90 rfl (lv_at hl 2 rfl) ?_
        refine lv_l2i hx hb dX16_can_91 rfl ?_
        obtain ⟨i13, h⟩ := nd_ck_e h
        refine va_iald (i := (v1.toInt32)) hx hb hK hP 2 1 rfl rfl i13 dX16_can_92 ?_
        refine lv_iconst (v := 2) hx hb dX16_can_93 (by decide) ?_
        refine lv_icmp_ne (tgt := 101) hx hb dX16_can_94 (by decide) (fun c14 => ?_) (fun c14 => ?_)
        · have h := nd_neg h c14
          exact (db_X16_can_101 C K)  s0 _ _ _ h hP hD hS (lv_sub hl [] rfl)
        · have h := nd_pos h c14
          exact (db_X16_can_97 C K)  s0 _ _ _ h hP hD hS (lv_sub hl [] rfl)
  have h := nd_neg h c8
  by_cases c15 : v0 = 3
  · have h := nd_pos h c15
    refine lv_tableIn (off := 102) (tgt := 103) hx hb dX16_can_1 (by rw [c15]; decide) (by rw [c15]; decide) (by rw [c15]; decide) (by decide) ?_
    refine lv_iconst (v := 1) hx hb dX16_can_103 (by decide) ?_
    exact K _ _ _ _ _ _ dX16_can_104 (by first | rfl | decide) (Option.some.inj h).symm hP hD hS
  have h := nd_neg h c15
  refine lv_tableOut (tgt := 105) hx hb dX16_can_1 (by have g0 := nv_nei c1 (k := 0) (by decide); have g1 := nv_nei c5 (k := 1) (by decide); have g2 := nv_nei c8 (k := 2) (by decide); have g3 := nv_nei c15 (k := 3) (by decide); omega) (by decide) ?_
  refine lv_aload_n hx hb dX16_can_105 rfl (lv_at hl 0 rfl) ?_
  refine va_get (D := (dC, dI)) (ci := 17) (v := .int (sI s0.1 5)) (C := RX16) (T := TX16) (N := 56) hx hb hts hi_dm_X16_can_X16 hown hK hP 0 rfl rfl 9 (by decide) (hts (.fieldLink RX16 126 "TimeMachineModel$Machine" "waitingWords" "I") (List.mem_of_getElem? (i := 3) rfl)) (fun _ h9 => h9) rfl dX16_can_106 ?_
  refine lv_bipush (v := 16) hx hb dX16_can_109 (by decide) ?_
  refine lv_icmp_ge (tgt := 118) hx hb dX16_can_111 (by decide) (fun c16 => ?_) (fun c16 => ?_)
  · have h := nd_pos h c16
    refine lv_iconst (v := 0) hx hb dX16_can_118 (by decide) ?_
    exact (db_X16_can_119 C K) (0) s0 _ _ _ h hP hD hS (lv_sub hl [] rfl)
  · have h := nd_neg h c16
    refine lv_iconst (v := 1) hx hb dX16_can_114 (by decide) ?_
    refine lv_goto (tgt := 119) hx hb dX16_can_115 (by decide) ?_
    exact (db_X16_can_119 C K) (1) s0 _ _ _ h hP hD hS (lv_sub hl [] rfl)
set_option maxHeartbeats 40000000 in
set_option maxRecDepth 100000 in
theorem dm_X16_can (l : Launch) (hlt : l.stackTraces = false) (dC : Nat → ClassId) (dI : Nat → Nat → Nat) (a : Nat → Nat) (ac : Nat → ClassId) (n : Nat) (v0 : Int32) (v1 : Int64) (v2 : Int32) (s0 : St × (St)) {r : Int32 × (St × (St))} (h : df_X16_can n v0 v1 v2 s0 = some r) (sz : Nat) : Met l yX16_can ow_dm_X16_can ({ frames := 0, cells := 0, slots := 0, locals := 0 }) (va_Pc [.ref (a 0), .int v0, .long v1, .int v2] (fun U => U.heap.size = sz ∧ va_P (dC, dI) vwCl (dw_X16 a ac s0) U.heap ∧ va_K (dC, dI) vwCl (dk_X16 ac) U ∧ va_D (fun _ => True) (dw_X16 a ac s0) ∧ nv_E dI (va_A (dw_X16 a ac s0) sz) U)) (va_Qi (fun x _ => x = r.1) (fun (_ : Unit) t => va_P (dC, dI) vwCl (dw_X16 a ac r.2) t.heap ∧ va_K (dC, dI) vwCl (dk_X16 ac) t ∧ va_D (va_A (dw_X16 a ac s0) sz) (dw_X16 a ac r.2)) (va_A (dw_X16 a ac s0) sz)) 0 0 (va_A (dw_X16 a ac s0) sz) := by
  refine Met.ofW (cc := cX16_can) (maxL := 5) (ret := (some .boolean)) (by decide) rfl ?_
  intro p e s m args below meth c s₁ B hml hv
  obtain ⟨rfl, hsz, hP, hK, hD0, hN⟩ := hv
  have hx := B.exec
  have hb := B.bytes
  have hr := B.returns
  have hts := atoms_spec (ws := ow_dm_X16_can) B.pre
  have hown : s.vm.findClass RX16 = some m.cls := findClass_of_methodNamed B.named
  have hlocks := B.notSynchronized
  subst hsz
  have hD := hD0.self (sz := s.heap.size)
  generalize hAe : va_A (dw_X16 a ac s0) s.heap.size = A at hD hN ⊢
  have hA : ∀ q : Nat, s.heap.size ≤ q → A q := fun q h => by rw [← hAe]; exact Or.inr h
  have hl := lv_entry ([.ref (a 0), .int v0, .long v1, .int v2]) (n := 5) (Nat.le_of_ble_eq_true rfl)
  rw [lg_entry_eq]
  generalize (lg_sl ([.ref (a 0), .int v0, .long v1, .int v2]) ++ List.replicate (5 - (lg_sl ([.ref (a 0), .int v0, .long v1, .int v2])).length) Slot.unset).toArray = ls at hl ⊢
  have hl : lv_has ls 5 [(0, .ref (a 0)), (1, .int v0), (2, .long v1), (4, .int v2)] := hl
  exact db_X16_can_0 (dC := dC) (dI := dI) (a := a) (ac := ac) (n := n) (r := r) ⟨hlt, hx, hb, hml, hown, hts, hN, hA, hK⟩ (fun pc v τ H locs ls d z er hP hD hS => by subst er; exact W.zret (v := v) hx hb hr z (fun t ht hW => ⟨⟨v, (), rfl, rfl, by rw [ht]; exact hP, va_K.moved hW.alike hK, hD⟩, hS.F ht⟩) hS.2.2 d) v0 v1 v2 s0 _ _ _ h hP hD va_S.rf (lv_sub hl [0, 1, 2, 3] rfl)
def ow_dm_X16_event : List Cond := Cond.code yX16_event cX16_event 8 (some .boolean) :: ([Cond.methodLink RX16 278 yX16_can, Cond.instanceMethod yX16_can, Cond.selects RX16 yX16_can yX16_can, Cond.initialized RX16, Cond.methodLink RX16 172 yX16_settle, Cond.instanceMethod yX16_settle, Cond.selects RX16 yX16_settle yX16_settle, Cond.fieldLink RX16 9 "TimeMachineModel$Machine" "words" "[I", Cond.fieldLink RX16 126 "TimeMachineModel$Machine" "waitingWords" "I", Cond.fieldLink RX16 109 "TimeMachineModel$Machine" "typedBytes" "[I", Cond.fieldLink RX16 122 "TimeMachineModel$Machine" "typed" "I", Cond.fieldLink RX16 151 "TimeMachineModel$Machine" "clock" "J", Cond.fieldLink RX16 22 "TimeMachineModel$Machine" "pending" "[I", Cond.fieldLink RX16 144 "TimeMachineModel$Machine" "last" "I", Cond.fieldLink RX16 141 "TimeMachineModel$Machine" "current" "I"] ++ (u_ws RX16 TX16 56 ++ (ow_dm_X16_can ++ (ow_dm_X16_settle ++ []))))
theorem gd_dm_X16_event : ∀ w ∈ ow_dm_X16_event, (w.onTables && w.keeps) = true ∨ ∃ ty, w = Cond.arrayClass ty := List.forall_mem_cons.mpr ⟨good_of_word rfl, List.forall_mem_append.mpr ⟨fun w h => good_of_word (List.all_eq_true.mp (by decide +kernel) w h), List.forall_mem_append.mpr ⟨gu_X16, List.forall_mem_append.mpr ⟨gd_dm_X16_can, List.forall_mem_append.mpr ⟨gd_dm_X16_settle, fun _ h => nomatch h⟩⟩⟩⟩⟩
theorem hi_dm_X16_event_X16 : ∀ w ∈ u_ws RX16 TX16 56, w ∈ ow_dm_X16_event := fun w h => List.mem_cons_of_mem _ (List.mem_append_right _ (List.mem_append_left _ h))
theorem gi_dm_X16_event_0 : GoodIn ow_dm_X16_event (wsV RX16 278 RX16 yX16_can ow_dm_X16_can) := goodIn_app (goodIn_of _ (by decide +kernel)) (fun w h => ⟨List.mem_cons_of_mem _ (List.mem_append_right _ (List.mem_append_right _ (List.mem_append_left _ h))), gd_dm_X16_can w h⟩)
theorem gi_dm_X16_event_1 : GoodIn ow_dm_X16_event (wsV RX16 172 RX16 yX16_settle ow_dm_X16_settle) := goodIn_app (goodIn_of _ (by decide +kernel)) (fun w h => ⟨List.mem_cons_of_mem _ (List.mem_append_right _ (List.mem_append_right _ (List.mem_append_right _ (List.mem_append_left _ h)))), gd_dm_X16_settle w h⟩)
def dj_X16_event_149 (p : Program) (l : Launch) (e : Env) (s : State) (m : MethodId) (args : Array Value) (below : List Frame) (meth : Method) (c : Code) (Q : State → Prop) (A : Nat → Prop) (dC : Nat → ClassId) (dI : Nat → Nat → Nat) (a : Nat → Nat) (ac : Nat → ClassId) (g : (St × (St)) → Option (Int32 × (St × (St)))) (r : Int32 × (St × (St))) : Prop := ∀ (s0 : St × (St)) (H : Heap) (locs : List Loc) (ls : Array Slot), g s0 = some r → va_P (dC, dI) vwCl (dw_X16 a ac s0) H → va_D A (dw_X16 a ac s0) → va_S A s.heap H locs → lv_has ls 8 [(0, .ref (a 0))] → W p l e (headSpec ow_dm_X16_event ({ frames := 4, cells := 0, slots := 0, locals := 92 })).room s m args below meth c H locs 0 0 Q (F0 m 149 ls [])
def dj_X16_event_123 (p : Program) (l : Launch) (e : Env) (s : State) (m : MethodId) (args : Array Value) (below : List Frame) (meth : Method) (c : Code) (Q : State → Prop) (A : Nat → Prop) (dC : Nat → ClassId) (dI : Nat → Nat → Nat) (a : Nat → Nat) (ac : Nat → ClassId) (g : Int32 → Int64 → (St × (St)) → Option (Int32 × (St × (St)))) (r : Int32 × (St × (St))) : Prop := ∀ (x1 : Int32) (x2 : Int64) (s0 : St × (St)) (H : Heap) (locs : List Loc) (ls : Array Slot), g x1 x2 s0 = some r → va_P (dC, dI) vwCl (dw_X16 a ac s0) H → va_D A (dw_X16 a ac s0) → va_S A s.heap H locs → lv_has ls 8 [(0, .ref (a 0)), (1, .int x1), (2, .long x2)] → W p l e (headSpec ow_dm_X16_event ({ frames := 4, cells := 0, slots := 0, locals := 92 })).room s m args below meth c H locs 0 0 Q (F0 m 123 ls [])
def dj_X16_event_76 (p : Program) (l : Launch) (e : Env) (s : State) (m : MethodId) (args : Array Value) (below : List Frame) (meth : Method) (c : Code) (Q : State → Prop) (A : Nat → Prop) (dC : Nat → ClassId) (dI : Nat → Nat → Nat) (a : Nat → Nat) (ac : Nat → ClassId) (g : Int32 → Int64 → Int32 → (St × (St)) → Option (Int32 × (St × (St)))) (r : Int32 × (St × (St))) : Prop := ∀ (x1 : Int32) (x2 : Int64) (x7 : Int32) (s0 : St × (St)) (H : Heap) (locs : List Loc) (ls : Array Slot), g x1 x2 x7 s0 = some r → va_P (dC, dI) vwCl (dw_X16 a ac s0) H → va_D A (dw_X16 a ac s0) → va_S A s.heap H locs → lv_has ls 8 [(0, .ref (a 0)), (1, .int x1), (2, .long x2), (7, .int x7)] → W p l e (headSpec ow_dm_X16_event ({ frames := 4, cells := 0, slots := 0, locals := 92 })).room s m args below meth c H locs 0 0 Q (F0 m 76 ls [])
def dj_X16_event_70 (p : Program) (l : Launch) (e : Env) (s : State) (m : MethodId) (args : Array Value) (below : List Frame) (meth : Method) (c : Code) (Q : State → Prop) (A : Nat → Prop) (dC : Nat → ClassId) (dI : Nat → Nat → Nat) (a : Nat → Nat) (ac : Nat → ClassId) (g : Int32 → Int64 → Int32 → (St × (St)) → Option (Int32 × (St × (St)))) (r : Int32 × (St × (St))) : Prop := ∀ (x1 : Int32) (x2 : Int64) (x4 : Int32) (s0 : St × (St)) (H : Heap) (locs : List Loc) (ls : Array Slot), g x1 x2 x4 s0 = some r → va_P (dC, dI) vwCl (dw_X16 a ac s0) H → va_D A (dw_X16 a ac s0) → va_S A s.heap H locs → lv_has ls 8 [(0, .ref (a 0)), (1, .int x1), (2, .long x2), (4, .int x4)] → W p l e (headSpec ow_dm_X16_event ({ frames := 4, cells := 0, slots := 0, locals := 92 })).room s m args below meth c H locs 0 0 Q (F0 m 70 ls [])
def dj_X16_event_55 (p : Program) (l : Launch) (e : Env) (s : State) (m : MethodId) (args : Array Value) (below : List Frame) (meth : Method) (c : Code) (Q : State → Prop) (A : Nat → Prop) (dC : Nat → ClassId) (dI : Nat → Nat → Nat) (a : Nat → Nat) (ac : Nat → ClassId) (g : Int32 → Int64 → Int32 → (St × (St)) → Option (Int32 × (St × (St)))) (r : Int32 × (St × (St))) : Prop := ∀ (x1 : Int32) (x2 : Int64) (x4 : Int32) (s0 : St × (St)) (H : Heap) (locs : List Loc) (ls : Array Slot), g x1 x2 x4 s0 = some r → va_P (dC, dI) vwCl (dw_X16 a ac s0) H → va_D A (dw_X16 a ac s0) → va_S A s.heap H locs → lv_has ls 8 [(0, .ref (a 0)), (1, .int x1), (2, .long x2), (4, .int x4)] → W p l e (headSpec ow_dm_X16_event ({ frames := 4, cells := 0, slots := 0, locals := 92 })).room s m args below meth c H locs 0 0 Q (F0 m 55 ls [])
def dj_X16_event_36 (p : Program) (l : Launch) (e : Env) (s : State) (m : MethodId) (args : Array Value) (below : List Frame) (meth : Method) (c : Code) (Q : State → Prop) (A : Nat → Prop) (dC : Nat → ClassId) (dI : Nat → Nat → Nat) (a : Nat → Nat) (ac : Nat → ClassId) (g : Int32 → Int64 → Int32 → Int32 → (St × (St)) → Option (Int32 × (St × (St)))) (r : Int32 × (St × (St))) : Prop := ∀ (x1 : Int32) (x2 : Int64) (x4 : Int32) (x6 : Int32) (s0 : St × (St)) (H : Heap) (locs : List Loc) (ls : Array Slot), g x1 x2 x4 x6 s0 = some r → va_P (dC, dI) vwCl (dw_X16 a ac s0) H → va_D A (dw_X16 a ac s0) → va_S A s.heap H locs → lv_has ls 8 [(0, .ref (a 0)), (1, .int x1), (2, .long x2), (4, .int x4), (6, .int x6)] → W p l e (headSpec ow_dm_X16_event ({ frames := 4, cells := 0, slots := 0, locals := 92 })).room s m args below meth c H locs 0 0 Q (F0 m 36 ls [])
def dj_X16_event_0 (p : Program) (l : Launch) (e : Env) (s : State) (m : MethodId) (args : Array Value) (below : List Frame) (meth : Method) (c : Code) (Q : State → Prop) (A : Nat → Prop) (dC : Nat → ClassId) (dI : Nat → Nat → Nat) (a : Nat → Nat) (ac : Nat → ClassId) (g : Int32 → Int64 → Int32 → (St × (St)) → Option (Int32 × (St × (St)))) (r : Int32 × (St × (St))) : Prop := ∀ (v0 : Int32) (v1 : Int64) (v2 : Int32) (s0 : St × (St)) (H : Heap) (locs : List Loc) (ls : Array Slot), g v0 v1 v2 s0 = some r → va_P (dC, dI) vwCl (dw_X16 a ac s0) H → va_D A (dw_X16 a ac s0) → va_S A s.heap H locs → lv_has ls 8 [(0, .ref (a 0)), (1, .int v0), (2, .long v1), (4, .int v2)] → W p l e (headSpec ow_dm_X16_event ({ frames := 4, cells := 0, slots := 0, locals := 92 })).room s m args below meth c H locs 0 0 Q (F0 m 0 ls [])
set_option maxHeartbeats 40000000 in
set_option maxRecDepth 100000 in
theorem db_X16_event_149 {p : Program} {l : Launch} {e : Env} {s : State} {m : MethodId} {args : Array Value} {below : List Frame} {meth : Method} {c : Code} {Q : State → Prop} {A : Nat → Prop} {dC : Nat → ClassId} {dI : Nat → Nat → Nat} {a : Nat → Nat} {ac : Nat → ClassId} {n : Nat} {r : Int32 × (St × (St))} (C : nd_C p l s m args c A (dC, dI) cX16_event 8 RX16 ow_dm_X16_event (dk_X16 ac)) (K : nd_Ki p l e (headSpec ow_dm_X16_event ({ frames := 4, cells := 0, slots := 0, locals := 92 })).room s m args below meth c Q A (dC, dI) cX16_event .boolean (St × (St)) (dw_X16 a ac) r) : dj_X16_event_149 p l e s m args below meth c Q A dC dI a ac (df_X16_event_149 n) r := by
  obtain ⟨hlt, hx, hb, hml, hown, hts, hN, hA, hK⟩ := id C
  intro s0 H locs ls h hP hD hS hl
  unfold df_X16_event_149 at h
  refine lv_aload_n hx hb dX16_event_149 rfl (lv_at hl 0 rfl) ?_
  obtain ⟨s13, hq, h⟩ := nd_b1_e h
  have hPc := hP
  have hDc := hD
  have hKc := hK
  have hFc := nd_rs hD hS hA
  refine nd_cVv (As := []) (rest := []) (w' := dw_X16 a ac s13) ⟨hx, hb, hml, hown, hts⟩ (fun sz => dm_X16_settle l hlt dC dI a ac n  s0 hq sz) (cwV 0 hts gi_dm_X16_event_1 rfl rfl rfl (by decide +kernel) ⟨Nat.le_of_ble_eq_true rfl, Nat.le_of_ble_eq_true rfl⟩) hPc hDc hKc hS hA hN (va_recv hKc hPc (ci := 17) (q0 := 0) rfl rfl) rfl hl.1 rfl (Nat.le_of_ble_eq_true rfl) dX16_event_150 (fun H locs hP1 hD1 hk1 hS => ?_)
  have hP := hP1
  have hD := hD1.weaken (fun k q _ h => hFc q.1 h)
  refine lv_iconst (v := 1) hx hb dX16_event_153 (by decide) ?_
  exact K _ _ _ _ _ _ dX16_event_154 (by first | rfl | decide) (Option.some.inj h).symm hP hD hS
set_option maxHeartbeats 40000000 in
set_option maxRecDepth 100000 in
theorem db_X16_event_123 {p : Program} {l : Launch} {e : Env} {s : State} {m : MethodId} {args : Array Value} {below : List Frame} {meth : Method} {c : Code} {Q : State → Prop} {A : Nat → Prop} {dC : Nat → ClassId} {dI : Nat → Nat → Nat} {a : Nat → Nat} {ac : Nat → ClassId} {n : Nat} {r : Int32 × (St × (St))} (C : nd_C p l s m args c A (dC, dI) cX16_event 8 RX16 ow_dm_X16_event (dk_X16 ac)) (K : nd_Ki p l e (headSpec ow_dm_X16_event ({ frames := 4, cells := 0, slots := 0, locals := 92 })).room s m args below meth c Q A (dC, dI) cX16_event .boolean (St × (St)) (dw_X16 a ac) r) : dj_X16_event_123 p l e s m args below meth c Q A dC dI a ac (df_X16_event_123 n) r := by
  obtain ⟨hlt, hx, hb, hml, hown, hts, hN, hA, hK⟩ := id C
  intro x1 x2 s0 H locs ls h hP hD hS hl
  unfold df_X16_event_123 at h
  refine lv_iload_n hx hb dX16_event_123 rfl (lv_at hl 1 rfl) ?_
  refine lv_iconst (v := 4) hx hb dX16_event_124 (by decide) ?_
  refine lv_icmp_ne (tgt := 149) hx hb dX16_event_125 (by decide) (fun c11 => ?_) (fun c11 => ?_)
  · have h := nd_neg h c11
    exact (db_X16_event_149 C K)  s0 _ _ _ h hP hD hS (lv_sub hl [0] rfl)
  · have h := nd_pos h c11
    refine lv_aload_n hx hb dX16_event_128 rfl (lv_at hl 0 rfl) ?_
    refine va_get (D := (dC, dI)) (ci := 17) (v := .ref (a 1)) (C := RX16) (T := TX16) (N := 56) hx hb hts hi_dm_X16_event_X16 hown hK hP 0 rfl rfl 8 (by decide) (hts (.fieldLink RX16 9 "TimeMachineModel$Machine" "words" "[I") (List.mem_of_getElem? (i := 8) rfl)) (fun _ h9 => h9) rfl dX16_event_129 ?_
    refine lv_aload_n hx hb dX16_event_132 rfl (lv_at hl 0 rfl) ?_
    refine va_get (D := (dC, dI)) (ci := 17) (v := .int (sI s0.1 5)) (C := RX16) (T := TX16) (N := 56) hx hb hts hi_dm_X16_event_X16 hown hK hP 0 rfl rfl 9 (by decide) (hts (.fieldLink RX16 126 "TimeMachineModel$Machine" "waitingWords" "I") (List.mem_of_getElem? (i := 9) rfl)) (fun _ h9 => h9) rfl dX16_event_133 ?_
    refine lv_lload_n hx hb dX16_event_136 rfl (lv_at hl 2 rfl) ?_
    refine lv_l2i hx hb dX16_event_137 rfl ?_
    obtain ⟨i15, h⟩ := nd_ck_e h
    refine va_iast (i := (sI s0.1 5)) (x := (x2.toInt32)) hx hb hK hP hD hS 1 0 rfl rfl i15 dX16_event_138 (fun H locs hP hD hS => ?_)
    obtain ⟨s16, es16, h⟩ := nd_let_e h
    have hP : va_P (dC, dI) vwCl (dw_X16 a ac s16) H := by rw [es16]; exact hP
    have hD : va_D A (dw_X16 a ac s16) := by rw [es16]; exact hD
    refine lv_aload_n hx hb dX16_event_139 rfl (lv_at hl 0 rfl) ?_
    refine lv_dup hx hb dX16_event_140 rfl ?_
    refine va_get (D := (dC, dI)) (ci := 17) (v := .int (sI s16.1 5)) (C := RX16) (T := TX16) (N := 56) hx hb hts hi_dm_X16_event_X16 hown hK hP 0 rfl rfl 9 (by decide) (hts (.fieldLink RX16 126 "TimeMachineModel$Machine" "waitingWords" "I") (List.mem_of_getElem? (i := 9) rfl)) (fun _ h9 => h9) rfl dX16_event_141 ?_
    refine lv_iconst (v := 1) hx hb dX16_event_144 (by decide) ?_
    refine lv_iadd hx hb dX16_event_145 ?_
    refine va_put (D := (dC, dI)) (ci := 17) (v := .int ((sI s16.1 5) + 1)) (ty := .int) (C := RX16) (T := TX16) (N := 56) hx hb hts hi_dm_X16_event_X16 tyX16 tyX16_ok nmX16 hown hK hP hD hS 0 rfl rfl 9 (by decide) (hts (.fieldLink RX16 126 "TimeMachineModel$Machine" "waitingWords" "I") (List.mem_of_getElem? (i := 9) rfl)) (fun _ h9 => h9) rfl (by decide +kernel) rfl rfl (Nat.le_of_ble_eq_true rfl) dX16_event_146 (fun H locs hP hD hS => ?_)
    obtain ⟨s17, es17, h⟩ := nd_let_e h
    have hP : va_P (dC, dI) vwCl (dw_X16 a ac s17) H := by rw [es17]; exact hP
    have hD : va_D A (dw_X16 a ac s17) := by rw [es17]; exact hD
    exact (db_X16_event_149 C K)  s17 _ _ _ h hP hD hS (lv_sub hl [0] rfl)
set_option maxHeartbeats 40000000 in
set_option maxRecDepth 100000 in
theorem dB_X16_event_76 {p : Program} {l : Launch} {e : Env} {s : State} {m : MethodId} {args : Array Value} {below : List Frame} {meth : Method} {c : Code} {Q : State → Prop} {A : Nat → Prop} {dC : Nat → ClassId} {dI : Nat → Nat → Nat} {a : Nat → Nat} {ac : Nat → ClassId} {n : Nat} {r : Int32 × (St × (St))} (C : nd_C p l s m args c A (dC, dI) cX16_event 8 RX16 ow_dm_X16_event (dk_X16 ac)) (K : nd_Ki p l e (headSpec ow_dm_X16_event ({ frames := 4, cells := 0, slots := 0, locals := 92 })).room s m args below meth c Q A (dC, dI) cX16_event .boolean (St × (St)) (dw_X16 a ac) r) {g76 : Int32 → Int64 → Int32 → (St × (St)) → Option (Int32 × (St × (St)))} (J76 : dj_X16_event_76 p l e s m args below meth c Q A dC dI a ac g76 r) : dj_X16_event_76 p l e s m args below meth c Q A dC dI a ac (dF_X16_event_76 n g76) r := by
  obtain ⟨hlt, hx, hb, hml, hown, hts, hN, hA, hK⟩ := id C
  intro x1 x2 x7 s0 H locs ls h hP hD hS hl
  unfold dF_X16_event_76 at h
  refine lv_iload hx hb dX16_event_76 (lv_at hl 3 rfl) ?_
  refine lv_if_lt (tgt := 123) hx hb dX16_event_78 (by decide) (fun c10 => ?_) (fun c10 => ?_)
  · have h := nd_pos h c10
    exact (db_X16_event_123 C K) (x1) (x2) s0 _ _ _ h hP hD hS (lv_sub hl [0, 1, 2] rfl)
  · have h := nd_neg h c10
    refine lv_iload_n hx hb dX16_event_81 rfl (lv_at hl 1 rfl) ?_
    refine lv_iconst (v := 1) hx hb dX16_event_82 (by decide) ?_
    refine lv_icmp_ne (tgt := 123) hx hb dX16_event_83 (by decide) (fun c18 => ?_) (fun c18 => ?_)
    · have h := nd_neg h c18
      exact (db_X16_event_123 C K) (x1) (x2) s0 _ _ _ h hP hD hS (lv_sub hl [0, 1, 2] rfl)
    · have h := nd_pos h c18
      refine lv_aload_n hx hb dX16_event_86 rfl (lv_at hl 0 rfl) ?_
      refine va_get (D := (dC, dI)) (ci := 17) (v := .ref (a 33)) (C := RX16) (T := TX16) (N := 56) hx hb hts hi_dm_X16_event_X16 hown hK hP 0 rfl rfl 43 (by decide) (hts (.fieldLink RX16 109 "TimeMachineModel$Machine" "typedBytes" "[I") (List.mem_of_getElem? (i := 10) rfl)) (fun _ h9 => h9) rfl dX16_event_87 ?_
      refine lv_aload_n hx hb dX16_event_90 rfl (lv_at hl 0 rfl) ?_
      refine va_get (D := (dC, dI)) (ci := 17) (v := .int (sI s0.1 7)) (C := RX16) (T := TX16) (N := 56) hx hb hts hi_dm_X16_event_X16 hown hK hP 0 rfl rfl 42 (by decide) (hts (.fieldLink RX16 122 "TimeMachineModel$Machine" "typed" "I") (List.mem_of_getElem? (i := 11) rfl)) (fun _ h9 => h9) rfl dX16_event_91 ?_
      refine lv_lload_n hx hb dX16_event_94 rfl (lv_at hl 2 rfl) ?_
      refine lv_bipush (v := 8) hx hb dX16_event_95 (by decide) ?_
      refine lv_iload hx hb dX16_event_97 (lv_at hl 3 rfl) ?_
      refine lv_imul hx hb dX16_event_99 ?_
      refine lv_lshr hx hb dX16_event_100 rfl ?_
      refine lv_l2i hx hb dX16_event_101 rfl ?_
      refine lv_sipush (v := 255) hx hb dX16_event_102 (by decide) ?_
      refine lv_iand hx hb dX16_event_105 ?_
      obtain ⟨i19, h⟩ := nd_ck_e h
      refine va_iast (i := (sI s0.1 7)) (x := ((((x2 : Int64) >>> (((8 * x7) : Int32).toInt64 &&& 63)).toInt32) &&& 255)) hx hb hK hP hD hS 33 32 rfl rfl i19 dX16_event_106 (fun H locs hP hD hS => ?_)
      obtain ⟨s20, es20, h⟩ := nd_let_e h
      have hP : va_P (dC, dI) vwCl (dw_X16 a ac s20) H := by rw [es20]; exact hP
      have hD : va_D A (dw_X16 a ac s20) := by rw [es20]; exact hD
      refine lv_aload_n hx hb dX16_event_107 rfl (lv_at hl 0 rfl) ?_
      refine lv_dup hx hb dX16_event_108 rfl ?_
      refine va_get (D := (dC, dI)) (ci := 17) (v := .int (sI s20.1 7)) (C := RX16) (T := TX16) (N := 56) hx hb hts hi_dm_X16_event_X16 hown hK hP 0 rfl rfl 42 (by decide) (hts (.fieldLink RX16 122 "TimeMachineModel$Machine" "typed" "I") (List.mem_of_getElem? (i := 11) rfl)) (fun _ h9 => h9) rfl dX16_event_109 ?_
      refine lv_iconst (v := 1) hx hb dX16_event_112 (by decide) ?_
      refine lv_iadd hx hb dX16_event_113 ?_
      refine va_put (D := (dC, dI)) (ci := 17) (v := .int ((sI s20.1 7) + 1)) (ty := .int) (C := RX16) (T := TX16) (N := 56) hx hb hts hi_dm_X16_event_X16 tyX16 tyX16_ok nmX16 hown hK hP hD hS 0 rfl rfl 42 (by decide) (hts (.fieldLink RX16 122 "TimeMachineModel$Machine" "typed" "I") (List.mem_of_getElem? (i := 11) rfl)) (fun _ h9 => h9) rfl (by decide +kernel) rfl rfl (Nat.le_of_ble_eq_true rfl) dX16_event_114 (fun H locs hP hD hS => ?_)
      obtain ⟨s21, es21, h⟩ := nd_let_e h
      have hP : va_P (dC, dI) vwCl (dw_X16 a ac s21) H := by rw [es21]; exact hP
      have hD : va_D A (dw_X16 a ac s21) := by rw [es21]; exact hD
      obtain ⟨z22, ez22, h⟩ := nd_let_e h
      refine lv_iinc (v := z22) (lv' := [(7, .int z22), (0, .ref (a 0)), (1, .int x1), (2, .long x2)]) hx hb dX16_event_117 hl (k := 3) rfl (by rw [ez22]) (by decide) rfl (fun ls hl => ?_)
      refine lv_goto (tgt := 76) hx hb dX16_event_120 (by decide) ?_
      exact (J76) (x1) (x2) (z22) s21 _ _ _ h hP hD hS (lv_sub hl [1, 2, 3, 0] rfl)
set_option maxHeartbeats 40000000 in
set_option maxRecDepth 100000 in
theorem db_X16_event_76 {p : Program} {l : Launch} {e : Env} {s : State} {m : MethodId} {args : Array Value} {below : List Frame} {meth : Method} {c : Code} {Q : State → Prop} {A : Nat → Prop} {dC : Nat → ClassId} {dI : Nat → Nat → Nat} {a : Nat → Nat} {ac : Nat → ClassId} {n : Nat} {r : Int32 × (St × (St))} (C : nd_C p l s m args c A (dC, dI) cX16_event 8 RX16 ow_dm_X16_event (dk_X16 ac)) (K : nd_Ki p l e (headSpec ow_dm_X16_event ({ frames := 4, cells := 0, slots := 0, locals := 92 })).room s m args below meth c Q A (dC, dI) cX16_event .boolean (St × (St)) (dw_X16 a ac) r) (k : Nat) : dj_X16_event_76 p l e s m args below meth c Q A dC dI a ac (df_X16_event_76 n k) r := by
  induction k with
  | zero => intro x1 x2 x7 s0 H locs ls h; exact nomatch (show (none : Option (Int32 × (St × (St)))) = some r from h)
  | succ k ih => exact dB_X16_event_76 C K ih
set_option maxHeartbeats 40000000 in
set_option maxRecDepth 100000 in
theorem db_X16_event_70 {p : Program} {l : Launch} {e : Env} {s : State} {m : MethodId} {args : Array Value} {below : List Frame} {meth : Method} {c : Code} {Q : State → Prop} {A : Nat → Prop} {dC : Nat → ClassId} {dI : Nat → Nat → Nat} {a : Nat → Nat} {ac : Nat → ClassId} {n : Nat} {r : Int32 × (St × (St))} (C : nd_C p l s m args c A (dC, dI) cX16_event 8 RX16 ow_dm_X16_event (dk_X16 ac)) (K : nd_Ki p l e (headSpec ow_dm_X16_event ({ frames := 4, cells := 0, slots := 0, locals := 92 })).room s m args below meth c Q A (dC, dI) cX16_event .boolean (St × (St)) (dw_X16 a ac) r) : dj_X16_event_70 p l e s m args below meth c Q A dC dI a ac (df_X16_event_70 n) r := by
  obtain ⟨hlt, hx, hb, hml, hown, hts, hN, hA, hK⟩ := id C
  intro x1 x2 x4 s0 H locs ls h hP hD hS hl
  unfold df_X16_event_70 at h
  refine lv_iload hx hb dX16_event_70 (lv_at hl 3 rfl) ?_
  refine lv_iconst (v := 1) hx hb dX16_event_72 (by decide) ?_
  refine lv_isub hx hb dX16_event_73 ?_
  refine lv_topi (fun z9 ez9 => ?_)
  have h := nd_at h ez9
  refine lv_istore (lv' := [(7, .int z9), (0, .ref (a 0)), (1, .int x1), (2, .long x2), (4, .int x4)]) hx hb dX16_event_74 hl (by decide) rfl (fun ls hl => ?_)
  exact (db_X16_event_76 C K n) (x1) (x2) (z9) s0 _ _ _ h hP hD hS (lv_sub hl [1, 2, 3, 0] rfl)
set_option maxHeartbeats 40000000 in
set_option maxRecDepth 100000 in
theorem db_X16_event_55 {p : Program} {l : Launch} {e : Env} {s : State} {m : MethodId} {args : Array Value} {below : List Frame} {meth : Method} {c : Code} {Q : State → Prop} {A : Nat → Prop} {dC : Nat → ClassId} {dI : Nat → Nat → Nat} {a : Nat → Nat} {ac : Nat → ClassId} {n : Nat} {r : Int32 × (St × (St))} (C : nd_C p l s m args c A (dC, dI) cX16_event 8 RX16 ow_dm_X16_event (dk_X16 ac)) (K : nd_Ki p l e (headSpec ow_dm_X16_event ({ frames := 4, cells := 0, slots := 0, locals := 92 })).room s m args below meth c Q A (dC, dI) cX16_event .boolean (St × (St)) (dw_X16 a ac) r) : dj_X16_event_55 p l e s m args below meth c Q A dC dI a ac (df_X16_event_55 n) r := by
  obtain ⟨hlt, hx, hb, hml, hown, hts, hN, hA, hK⟩ := id C
  intro x1 x2 x4 s0 H locs ls h hP hD hS hl
  unfold df_X16_event_55 at h
  refine lv_iload_n hx hb dX16_event_55 rfl (lv_at hl 1 rfl) ?_
  refine lv_iconst (v := 3) hx hb dX16_event_56 (by decide) ?_
  refine lv_icmp_ne (tgt := 70) hx hb dX16_event_57 (by decide) (fun c8 => ?_) (fun c8 => ?_)
  · have h := nd_neg h c8
    exact (db_X16_event_70 C K) (x1) (x2) (x4) s0 _ _ _ h hP hD hS (lv_sub hl [0, 1, 2, 3] rfl)
  · have h := nd_pos h c8
    refine lv_aload_n hx hb dX16_event_60 rfl (lv_at hl 0 rfl) ?_
    refine lv_dup hx hb dX16_event_61 rfl ?_
    refine va_get (D := (dC, dI)) (ci := 17) (v := .long (sL s0.1 1)) (C := RX16) (T := TX16) (N := 56) hx hb hts hi_dm_X16_event_X16 hown hK hP 0 rfl rfl 7 (by decide) (hts (.fieldLink RX16 151 "TimeMachineModel$Machine" "clock" "J") (List.mem_of_getElem? (i := 12) rfl)) (fun _ h9 => h9) rfl dX16_event_62 ?_
    refine lv_lload_n hx hb dX16_event_65 rfl (lv_at hl 2 rfl) ?_
    refine lv_ladd hx hb dX16_event_66 ?_
    refine va_put (D := (dC, dI)) (ci := 17) (v := .long (((sL s0.1 1) : Int64) + x2)) (ty := .long) (C := RX16) (T := TX16) (N := 56) hx hb hts hi_dm_X16_event_X16 tyX16 tyX16_ok nmX16 hown hK hP hD hS 0 rfl rfl 7 (by decide) (hts (.fieldLink RX16 151 "TimeMachineModel$Machine" "clock" "J") (List.mem_of_getElem? (i := 12) rfl)) (fun _ h9 => h9) rfl (by decide +kernel) rfl rfl (Nat.le_of_ble_eq_true rfl) dX16_event_67 (fun H locs hP hD hS => ?_)
    obtain ⟨s23, es23, h⟩ := nd_let_e h
    have hP : va_P (dC, dI) vwCl (dw_X16 a ac s23) H := by rw [es23]; exact hP
    have hD : va_D A (dw_X16 a ac s23) := by rw [es23]; exact hD
    exact (db_X16_event_70 C K) (x1) (x2) (x4) s23 _ _ _ h hP hD hS (lv_sub hl [0, 1, 2, 3] rfl)
set_option maxHeartbeats 40000000 in
set_option maxRecDepth 100000 in
theorem db_X16_event_36 {p : Program} {l : Launch} {e : Env} {s : State} {m : MethodId} {args : Array Value} {below : List Frame} {meth : Method} {c : Code} {Q : State → Prop} {A : Nat → Prop} {dC : Nat → ClassId} {dI : Nat → Nat → Nat} {a : Nat → Nat} {ac : Nat → ClassId} {n : Nat} {r : Int32 × (St × (St))} (C : nd_C p l s m args c A (dC, dI) cX16_event 8 RX16 ow_dm_X16_event (dk_X16 ac)) (K : nd_Ki p l e (headSpec ow_dm_X16_event ({ frames := 4, cells := 0, slots := 0, locals := 92 })).room s m args below meth c Q A (dC, dI) cX16_event .boolean (St × (St)) (dw_X16 a ac) r) : dj_X16_event_36 p l e s m args below meth c Q A dC dI a ac (df_X16_event_36 n) r := by
  obtain ⟨hlt, hx, hb, hml, hown, hts, hN, hA, hK⟩ := id C
  intro x1 x2 x4 x6 s0 H locs ls h hP hD hS hl
  unfold df_X16_event_36 at h
  refine lv_iload_n hx hb dX16_event_36 rfl (lv_at hl 1 rfl) ?_
  refine lv_iconst (v := 2) hx hb dX16_event_37 (by decide) ?_
  refine lv_icmp_ne (tgt := 55) hx hb dX16_event_38 (by decide) (fun c7 => ?_) (fun c7 => ?_)
  · have h := nd_neg h c7
    exact (db_X16_event_55 C K) (x1) (x2) (x4) s0 _ _ _ h hP hD hS (lv_sub hl [0, 1, 2, 3] rfl)
  · have h := nd_pos h c7
    refine lv_aload_n hx hb dX16_event_41 rfl (lv_at hl 0 rfl) ?_
    refine va_get (D := (dC, dI)) (ci := 17) (v := .ref (a 5)) (C := RX16) (T := TX16) (N := 56) hx hb hts hi_dm_X16_event_X16 hown hK hP 0 rfl rfl 13 (by decide) (hts (.fieldLink RX16 22 "TimeMachineModel$Machine" "pending" "[I") (List.mem_of_getElem? (i := 13) rfl)) (fun _ h9 => h9) rfl dX16_event_42 ?_
    refine lv_iload hx hb dX16_event_45 (lv_at hl 4 rfl) ?_
    refine lv_dup2_11 hx hb dX16_event_47 rfl rfl ?_
    obtain ⟨i24, h⟩ := nd_ck_e h
    refine va_iald (i := x6) hx hb hK hP 5 4 rfl rfl i24 dX16_event_48 ?_
    refine lv_iconst (v := 1) hx hb dX16_event_49 (by decide) ?_
    refine lv_iload hx hb dX16_event_50 (lv_at hl 3 rfl) ?_
    refine lv_ishl hx hb dX16_event_52 ?_
    refine lv_ior hx hb dX16_event_53 ?_
    obtain ⟨i25, h⟩ := nd_ck_e h
    refine va_iast (i := x6) (x := ((sR s0.1 4 (Int32.toNatClampNeg x6)) ||| ((1 : Int32) <<< ((x4 : Int32) &&& 31)))) hx hb hK hP hD hS 5 4 rfl rfl i25 dX16_event_54 (fun H locs hP hD hS => ?_)
    obtain ⟨s26, es26, h⟩ := nd_let_e h
    have hP : va_P (dC, dI) vwCl (dw_X16 a ac s26) H := by rw [es26]; exact hP
    have hD : va_D A (dw_X16 a ac s26) := by rw [es26]; exact hD
    exact (db_X16_event_55 C K) (x1) (x2) (x4) s26 _ _ _ h hP hD hS (lv_sub hl [0, 1, 2, 3] rfl)
set_option maxHeartbeats 40000000 in
set_option maxRecDepth 100000 in
theorem db_X16_event_0 {p : Program} {l : Launch} {e : Env} {s : State} {m : MethodId} {args : Array Value} {below : List Frame} {meth : Method} {c : Code} {Q : State → Prop} {A : Nat → Prop} {dC : Nat → ClassId} {dI : Nat → Nat → Nat} {a : Nat → Nat} {ac : Nat → ClassId} {n : Nat} {r : Int32 × (St × (St))} (C : nd_C p l s m args c A (dC, dI) cX16_event 8 RX16 ow_dm_X16_event (dk_X16 ac)) (K : nd_Ki p l e (headSpec ow_dm_X16_event ({ frames := 4, cells := 0, slots := 0, locals := 92 })).room s m args below meth c Q A (dC, dI) cX16_event .boolean (St × (St)) (dw_X16 a ac) r) : dj_X16_event_0 p l e s m args below meth c Q A dC dI a ac (df_X16_event_0 n) r := by
  obtain ⟨hlt, hx, hb, hml, hown, hts, hN, hA, hK⟩ := id C
  intro v0 v1 v2 s0 H locs ls h hP hD hS hl
  unfold df_X16_event_0 at h
  refine lv_aload_n hx hb dX16_event_0 rfl (lv_at hl 0 rfl) ?_
  refine lv_iload_n hx hb dX16_event_1 rfl (lv_at hl 1 rfl) ?_
  refine lv_lload_n hx hb dX16_event_2 rfl (lv_at hl 2 rfl) ?_
  refine lv_iload hx hb dX16_event_3 (lv_at hl 3 rfl) ?_
  obtain ⟨q1, s2, hq, h⟩ := nd_b2_e h
  have hPc := hP
  have hDc := hD
  have hKc := hK
  have hFc := nd_rs hD hS hA
  refine nd_cVi (As := [.int v0, .long v1, .int v2]) (rest := []) (q := q1) (w' := dw_X16 a ac s2) ⟨hx, hb, hml, hown, hts⟩ (fun sz => dm_X16_can l hlt dC dI a ac n (v0) (v1) (v2) s0 hq sz) (cwV 3 hts gi_dm_X16_event_0 rfl rfl rfl (by decide +kernel) ⟨Nat.le_of_ble_eq_true rfl, Nat.le_of_ble_eq_true rfl⟩) hPc hDc hKc hS hA hN (va_recv hKc hPc (ci := 17) (q0 := 0) rfl rfl) rfl hl.1 rfl (Nat.le_of_ble_eq_true rfl) dX16_event_5 (fun H locs hP1 hD1 hk1 hS => ?_)
  have hP := hP1
  have hD := hD1.weaken (fun k q _ h => hFc q.1 h)
  refine lv_istore (lv' := [(5, .int q1), (0, .ref (a 0)), (1, .int v0), (2, .long v1), (4, .int v2)]) hx hb dX16_event_8 hl (by decide) rfl (fun ls hl => ?_)
  refine lv_iload hx hb dX16_event_10 (lv_at hl 0 rfl) ?_
  refine lv_if_ne (tgt := 17) hx hb dX16_event_12 (by decide) (fun c4 => ?_) (fun c4 => ?_)
  · have h := nd_neg h c4
    refine lv_lload_n hx hb dX16_event_17 rfl (lv_at hl 3 rfl) ?_
    refine lv_l2i hx hb dX16_event_18 rfl ?_
    refine lv_topi (fun z5 ez5 => ?_)
    have h := nd_at h ez5
    refine lv_istore (lv' := [(6, .int z5), (5, .int q1), (0, .ref (a 0)), (1, .int v0), (2, .long v1), (4, .int v2)]) hx hb dX16_event_19 hl (by decide) rfl (fun ls hl => ?_)
    refine lv_iload_n hx hb dX16_event_21 rfl (lv_at hl 3 rfl) ?_
    refine lv_if_ne (tgt := 36) hx hb dX16_event_22 (by decide) (fun c6 => ?_) (fun c6 => ?_)
    · have h := nd_neg h c6
      exact (db_X16_event_36 C K) (v0) (v1) (v2) (z5) s2 _ _ _ h hP hD hS (lv_sub hl [2, 3, 4, 5, 0] rfl)
    · have h := nd_pos h c6
      refine lv_aload_n hx hb dX16_event_25 rfl (lv_at hl 2 rfl) ?_
      refine lv_aload_n hx hb dX16_event_26 rfl (lv_at hl 2 rfl) ?_
      refine lv_iload hx hb dX16_event_27 (lv_at hl 0 rfl) ?_
      refine lv_dup_x1 hx hb dX16_event_29 rfl rfl ?_
      refine va_put (D := (dC, dI)) (ci := 17) (v := .int z5) (ty := .int) (C := RX16) (T := TX16) (N := 56) hx hb hts hi_dm_X16_event_X16 tyX16 tyX16_ok nmX16 hown hK hP hD hS 0 rfl rfl 3 (by decide) (hts (.fieldLink RX16 144 "TimeMachineModel$Machine" "last" "I") (List.mem_of_getElem? (i := 14) rfl)) (fun _ h9 => h9) rfl (by decide +kernel) rfl rfl (Nat.le_of_ble_eq_true rfl) dX16_event_30 (fun H locs hP hD hS => ?_)
      obtain ⟨s27, es27, h⟩ := nd_let_e h
      have hP : va_P (dC, dI) vwCl (dw_X16 a ac s27) H := by rw [es27]; exact hP
      have hD : va_D A (dw_X16 a ac s27) := by rw [es27]; exact hD
      refine va_put (D := (dC, dI)) (ci := 17) (v := .int z5) (ty := .int) (C := RX16) (T := TX16) (N := 56) hx hb hts hi_dm_X16_event_X16 tyX16 tyX16_ok nmX16 hown hK hP hD hS 0 rfl rfl 2 (by decide) (hts (.fieldLink RX16 141 "TimeMachineModel$Machine" "current" "I") (List.mem_of_getElem? (i := 15) rfl)) (fun _ h9 => h9) rfl (by decide +kernel) rfl rfl (Nat.le_of_ble_eq_true rfl) dX16_event_33 (fun H locs hP hD hS => ?_)
      obtain ⟨s28, es28, h⟩ := nd_let_e h
      have hP : va_P (dC, dI) vwCl (dw_X16 a ac s28) H := by rw [es28]; exact hP
      have hD : va_D A (dw_X16 a ac s28) := by rw [es28]; exact hD
      exact (db_X16_event_36 C K) (v0) (v1) (v2) (z5) s28 _ _ _ h hP hD hS (lv_sub hl [2, 3, 4, 5, 0] rfl)
  · have h := nd_pos h c4
    refine lv_iconst (v := 0) hx hb dX16_event_15 (by decide) ?_
    exact K _ _ _ _ _ _ dX16_event_16 (by first | rfl | decide) (Option.some.inj h).symm hP hD hS
set_option maxHeartbeats 40000000 in
set_option maxRecDepth 100000 in
theorem dm_X16_event (l : Launch) (hlt : l.stackTraces = false) (dC : Nat → ClassId) (dI : Nat → Nat → Nat) (a : Nat → Nat) (ac : Nat → ClassId) (n : Nat) (v0 : Int32) (v1 : Int64) (v2 : Int32) (s0 : St × (St)) {r : Int32 × (St × (St))} (h : df_X16_event n v0 v1 v2 s0 = some r) (sz : Nat) : Met l yX16_event ow_dm_X16_event ({ frames := 4, cells := 0, slots := 0, locals := 92 }) (va_Pc [.ref (a 0), .int v0, .long v1, .int v2] (fun U => U.heap.size = sz ∧ va_P (dC, dI) vwCl (dw_X16 a ac s0) U.heap ∧ va_K (dC, dI) vwCl (dk_X16 ac) U ∧ va_D (fun _ => True) (dw_X16 a ac s0) ∧ nv_E dI (va_A (dw_X16 a ac s0) sz) U)) (va_Qi (fun x _ => x = r.1) (fun (_ : Unit) t => va_P (dC, dI) vwCl (dw_X16 a ac r.2) t.heap ∧ va_K (dC, dI) vwCl (dk_X16 ac) t ∧ va_D (va_A (dw_X16 a ac s0) sz) (dw_X16 a ac r.2)) (va_A (dw_X16 a ac s0) sz)) 0 0 (va_A (dw_X16 a ac s0) sz) := by
  refine Met.ofW (cc := cX16_event) (maxL := 8) (ret := (some .boolean)) (by decide) rfl ?_
  intro p e s m args below meth c s₁ B hml hv
  obtain ⟨rfl, hsz, hP, hK, hD0, hN⟩ := hv
  have hx := B.exec
  have hb := B.bytes
  have hr := B.returns
  have hts := atoms_spec (ws := ow_dm_X16_event) B.pre
  have hown : s.vm.findClass RX16 = some m.cls := findClass_of_methodNamed B.named
  have hlocks := B.notSynchronized
  subst hsz
  have hD := hD0.self (sz := s.heap.size)
  generalize hAe : va_A (dw_X16 a ac s0) s.heap.size = A at hD hN ⊢
  have hA : ∀ q : Nat, s.heap.size ≤ q → A q := fun q h => by rw [← hAe]; exact Or.inr h
  have hl := lv_entry ([.ref (a 0), .int v0, .long v1, .int v2]) (n := 8) (Nat.le_of_ble_eq_true rfl)
  rw [lg_entry_eq]
  generalize (lg_sl ([.ref (a 0), .int v0, .long v1, .int v2]) ++ List.replicate (8 - (lg_sl ([.ref (a 0), .int v0, .long v1, .int v2])).length) Slot.unset).toArray = ls at hl ⊢
  have hl : lv_has ls 8 [(0, .ref (a 0)), (1, .int v0), (2, .long v1), (4, .int v2)] := hl
  exact db_X16_event_0 (dC := dC) (dI := dI) (a := a) (ac := ac) (n := n) (r := r) ⟨hlt, hx, hb, hml, hown, hts, hN, hA, hK⟩ (fun pc v τ H locs ls d z er hP hD hS => by subst er; exact W.zret (v := v) hx hb hr z (fun t ht hW => ⟨⟨v, (), rfl, rfl, by rw [ht]; exact hP, va_K.moved hW.alike hK, hD⟩, hS.F ht⟩) hS.2.2 d) v0 v1 v2 s0 _ _ _ h hP hD va_S.rf (lv_sub hl [0, 1, 2, 3] rfl)
def ow_dm_X16_fetches : List Cond := Cond.code yX16_fetches cX16_fetches 2 (some .boolean) :: ([Cond.fieldLink RX16 232 "TimeMachineModel$Machine" "p" "I", Cond.methodLink RX16 218 yX16_may, Cond.instanceMethod yX16_may, Cond.selects RX16 yX16_may yX16_may, Cond.initialized RX16] ++ (u_ws RX16 TX16 56 ++ (ow_dm_X16_may ++ [])))
theorem gd_dm_X16_fetches : ∀ w ∈ ow_dm_X16_fetches, (w.onTables && w.keeps) = true ∨ ∃ ty, w = Cond.arrayClass ty := List.forall_mem_cons.mpr ⟨good_of_word rfl, List.forall_mem_append.mpr ⟨fun w h => good_of_word (List.all_eq_true.mp (by decide +kernel) w h), List.forall_mem_append.mpr ⟨gu_X16, List.forall_mem_append.mpr ⟨gd_dm_X16_may, fun _ h => nomatch h⟩⟩⟩⟩
theorem hi_dm_X16_fetches_X16 : ∀ w ∈ u_ws RX16 TX16 56, w ∈ ow_dm_X16_fetches := fun w h => List.mem_cons_of_mem _ (List.mem_append_right _ (List.mem_append_left _ h))
theorem gi_dm_X16_fetches_0 : GoodIn ow_dm_X16_fetches (wsV RX16 218 RX16 yX16_may ow_dm_X16_may) := goodIn_app (goodIn_of _ (by decide +kernel)) (fun w h => ⟨List.mem_cons_of_mem _ (List.mem_append_right _ (List.mem_append_right _ (List.mem_append_left _ h))), gd_dm_X16_may w h⟩)
def dj_X16_fetches_33 (p : Program) (l : Launch) (e : Env) (s : State) (m : MethodId) (args : Array Value) (below : List Frame) (meth : Method) (c : Code) (Q : State → Prop) (A : Nat → Prop) (dC : Nat → ClassId) (dI : Nat → Nat → Nat) (a : Nat → Nat) (ac : Nat → ClassId) (g : Int32 → (St × (St)) → Option (Int32 × (St × (St)))) (r : Int32 × (St × (St))) : Prop := ∀ (y0 : Int32) (s0 : St × (St)) (H : Heap) (locs : List Loc) (ls : Array Slot), g y0 s0 = some r → va_P (dC, dI) vwCl (dw_X16 a ac s0) H → va_D A (dw_X16 a ac s0) → va_S A s.heap H locs → lv_has ls 2 [] → W p l e (headSpec ow_dm_X16_fetches ({ frames := 2, cells := 0, slots := 0, locals := 45 })).room s m args below meth c H locs 0 0 Q (F0 m 33 ls [.int y0])
def dj_X16_fetches_32 (p : Program) (l : Launch) (e : Env) (s : State) (m : MethodId) (args : Array Value) (below : List Frame) (meth : Method) (c : Code) (Q : State → Prop) (A : Nat → Prop) (dC : Nat → ClassId) (dI : Nat → Nat → Nat) (a : Nat → Nat) (ac : Nat → ClassId) (g : (St × (St)) → Option (Int32 × (St × (St)))) (r : Int32 × (St × (St))) : Prop := ∀ (s0 : St × (St)) (H : Heap) (locs : List Loc) (ls : Array Slot), g s0 = some r → va_P (dC, dI) vwCl (dw_X16 a ac s0) H → va_D A (dw_X16 a ac s0) → va_S A s.heap H locs → lv_has ls 2 [] → W p l e (headSpec ow_dm_X16_fetches ({ frames := 2, cells := 0, slots := 0, locals := 45 })).room s m args below meth c H locs 0 0 Q (F0 m 32 ls [])
def dj_X16_fetches_0 (p : Program) (l : Launch) (e : Env) (s : State) (m : MethodId) (args : Array Value) (below : List Frame) (meth : Method) (c : Code) (Q : State → Prop) (A : Nat → Prop) (dC : Nat → ClassId) (dI : Nat → Nat → Nat) (a : Nat → Nat) (ac : Nat → ClassId) (g : Int32 → (St × (St)) → Option (Int32 × (St × (St)))) (r : Int32 × (St × (St))) : Prop := ∀ (v0 : Int32) (s0 : St × (St)) (H : Heap) (locs : List Loc) (ls : Array Slot), g v0 s0 = some r → va_P (dC, dI) vwCl (dw_X16 a ac s0) H → va_D A (dw_X16 a ac s0) → va_S A s.heap H locs → lv_has ls 2 [(0, .ref (a 0)), (1, .int v0)] → W p l e (headSpec ow_dm_X16_fetches ({ frames := 2, cells := 0, slots := 0, locals := 45 })).room s m args below meth c H locs 0 0 Q (F0 m 0 ls [])
set_option maxHeartbeats 40000000 in
set_option maxRecDepth 100000 in
theorem db_X16_fetches_33 {p : Program} {l : Launch} {e : Env} {s : State} {m : MethodId} {args : Array Value} {below : List Frame} {meth : Method} {c : Code} {Q : State → Prop} {A : Nat → Prop} {dC : Nat → ClassId} {dI : Nat → Nat → Nat} {a : Nat → Nat} {ac : Nat → ClassId} {n : Nat} {r : Int32 × (St × (St))} (C : nd_C p l s m args c A (dC, dI) cX16_fetches 2 RX16 ow_dm_X16_fetches (dk_X16 ac)) (K : nd_Ki p l e (headSpec ow_dm_X16_fetches ({ frames := 2, cells := 0, slots := 0, locals := 45 })).room s m args below meth c Q A (dC, dI) cX16_fetches .boolean (St × (St)) (dw_X16 a ac) r) : dj_X16_fetches_33 p l e s m args below meth c Q A dC dI a ac (df_X16_fetches_33 n) r := by
  obtain ⟨hlt, hx, hb, hml, hown, hts, hN, hA, hK⟩ := id C
  intro y0 s0 H locs ls h hP hD hS hl
  unfold df_X16_fetches_33 at h
  obtain ⟨n5, h⟩ := nd_z_e ⟨_, rfl⟩ h
  exact K _ _ _ _ _ _ dX16_fetches_33 n5 (Option.some.inj h).symm hP hD hS
set_option maxHeartbeats 40000000 in
set_option maxRecDepth 100000 in
theorem db_X16_fetches_32 {p : Program} {l : Launch} {e : Env} {s : State} {m : MethodId} {args : Array Value} {below : List Frame} {meth : Method} {c : Code} {Q : State → Prop} {A : Nat → Prop} {dC : Nat → ClassId} {dI : Nat → Nat → Nat} {a : Nat → Nat} {ac : Nat → ClassId} {n : Nat} {r : Int32 × (St × (St))} (C : nd_C p l s m args c A (dC, dI) cX16_fetches 2 RX16 ow_dm_X16_fetches (dk_X16 ac)) (K : nd_Ki p l e (headSpec ow_dm_X16_fetches ({ frames := 2, cells := 0, slots := 0, locals := 45 })).room s m args below meth c Q A (dC, dI) cX16_fetches .boolean (St × (St)) (dw_X16 a ac) r) : dj_X16_fetches_32 p l e s m args below meth c Q A dC dI a ac (df_X16_fetches_32 n) r := by
  obtain ⟨hlt, hx, hb, hml, hown, hts, hN, hA, hK⟩ := id C
  intro s0 H locs ls h hP hD hS hl
  unfold df_X16_fetches_32 at h
  refine lv_iconst (v := 0) hx hb dX16_fetches_32 (by decide) ?_
  exact (db_X16_fetches_33 C K) (0) s0 _ _ _ h hP hD hS (lv_sub hl [] rfl)
set_option maxHeartbeats 40000000 in
set_option maxRecDepth 100000 in
theorem db_X16_fetches_0 {p : Program} {l : Launch} {e : Env} {s : State} {m : MethodId} {args : Array Value} {below : List Frame} {meth : Method} {c : Code} {Q : State → Prop} {A : Nat → Prop} {dC : Nat → ClassId} {dI : Nat → Nat → Nat} {a : Nat → Nat} {ac : Nat → ClassId} {n : Nat} {r : Int32 × (St × (St))} (C : nd_C p l s m args c A (dC, dI) cX16_fetches 2 RX16 ow_dm_X16_fetches (dk_X16 ac)) (K : nd_Ki p l e (headSpec ow_dm_X16_fetches ({ frames := 2, cells := 0, slots := 0, locals := 45 })).room s m args below meth c Q A (dC, dI) cX16_fetches .boolean (St × (St)) (dw_X16 a ac) r) : dj_X16_fetches_0 p l e s m args below meth c Q A dC dI a ac (df_X16_fetches_0 n) r := by
  obtain ⟨hlt, hx, hb, hml, hown, hts, hN, hA, hK⟩ := id C
  intro v0 s0 H locs ls h hP hD hS hl
  unfold df_X16_fetches_0 at h
  refine lv_aload_n hx hb dX16_fetches_0 rfl (lv_at hl 0 rfl) ?_
  refine lv_aload_n hx hb dX16_fetches_1 rfl (lv_at hl 0 rfl) ?_
  refine va_get (D := (dC, dI)) (ci := 17) (v := .int (sI s0.1 12)) (C := RX16) (T := TX16) (N := 56) hx hb hts hi_dm_X16_fetches_X16 hown hK hP 0 rfl rfl 51 (by decide) (hts (.fieldLink RX16 232 "TimeMachineModel$Machine" "p" "I") (List.mem_of_getElem? (i := 1) rfl)) (fun _ h9 => h9) rfl dX16_fetches_2 ?_
  refine lv_iload_n hx hb dX16_fetches_5 rfl (lv_at hl 1 rfl) ?_
  refine lv_iconst (v := 4) hx hb dX16_fetches_6 (by decide) ?_
  obtain ⟨q1, s2, hq, h⟩ := nd_b2_e h
  have hPc := hP
  have hDc := hD
  have hKc := hK
  have hFc := nd_rs hD hS hA
  refine nd_cVi (As := [.int (sI s0.1 12), .int v0, .int 4]) (rest := []) (q := q1) (w' := dw_X16 a ac s2) ⟨hx, hb, hml, hown, hts⟩ (fun sz => dm_X16_may l hlt dC dI a ac n ((sI s0.1 12)) (v0) (4) s0 hq sz) (cwV 3 hts gi_dm_X16_fetches_0 rfl rfl rfl (by decide +kernel) ⟨Nat.le_of_ble_eq_true rfl, Nat.le_of_ble_eq_true rfl⟩) hPc hDc hKc hS hA hN (va_recv hKc hPc (ci := 17) (q0 := 0) rfl rfl) rfl hl.1 rfl (Nat.le_of_ble_eq_true rfl) dX16_fetches_7 (fun H locs hP1 hD1 hk1 hS => ?_)
  have hP := hP1
  have hD := hD1.weaken (fun k q _ h => hFc q.1 h)
  refine lv_if_eq (tgt := 32) hx hb dX16_fetches_10 (by decide) (fun c4 => ?_) (fun c4 => ?_)
  · have h := nd_pos h c4
    exact (db_X16_fetches_32 C K)  s2 _ _ _ h hP hD hS (lv_sub hl [] rfl)
  · have h := nd_neg h c4
    refine lv_aload_n hx hb dX16_fetches_13 rfl (lv_at hl 0 rfl) ?_
    refine lv_aload_n hx hb dX16_fetches_14 rfl (lv_at hl 0 rfl) ?_
    refine va_get (D := (dC, dI)) (ci := 17) (v := .int (sI s2.1 12)) (C := RX16) (T := TX16) (N := 56) hx hb hts hi_dm_X16_fetches_X16 hown hK hP 0 rfl rfl 51 (by decide) (hts (.fieldLink RX16 232 "TimeMachineModel$Machine" "p" "I") (List.mem_of_getElem? (i := 1) rfl)) (fun _ h9 => h9) rfl dX16_fetches_15 ?_
    refine lv_iload_n hx hb dX16_fetches_18 rfl (lv_at hl 1 rfl) ?_
    refine lv_iconst (v := 1) hx hb dX16_fetches_19 (by decide) ?_
    refine lv_iadd hx hb dX16_fetches_20 ?_
    refine lv_iconst (v := 4) hx hb dX16_fetches_21 (by decide) ?_
    obtain ⟨q6, s7, hq, h⟩ := nd_b2_e h
    have hPc := hP
    have hDc := hD
    have hKc := hK
    have hFc := nd_rs hD hS hA
    refine nd_cVi (As := [.int (sI s2.1 12), .int (v0 + 1), .int 4]) (rest := []) (q := q6) (w' := dw_X16 a ac s7) ⟨hx, hb, hml, hown, hts⟩ (fun sz => dm_X16_may l hlt dC dI a ac n ((sI s2.1 12)) ((v0 + 1)) (4) s2 hq sz) (cwV 3 hts gi_dm_X16_fetches_0 rfl rfl rfl (by decide +kernel) ⟨Nat.le_of_ble_eq_true rfl, Nat.le_of_ble_eq_true rfl⟩) hPc hDc hKc hS hA hN (va_recv hKc hPc (ci := 17) (q0 := 0) rfl rfl) rfl hl.1 rfl (Nat.le_of_ble_eq_true rfl) dX16_fetches_22 (fun H locs hP1 hD1 hk1 hS => ?_)
    have hP := hP1
    have hD := hD1.weaken (fun k q _ h => hFc q.1 h)
    refine lv_if_eq (tgt := 32) hx hb dX16_fetches_25 (by decide) (fun c9 => ?_) (fun c9 => ?_)
    · have h := nd_pos h c9
      exact (db_X16_fetches_32 C K)  s7 _ _ _ h hP hD hS (lv_sub hl [] rfl)
    · have h := nd_neg h c9
      refine lv_iconst (v := 1) hx hb dX16_fetches_28 (by decide) ?_
      refine lv_goto (tgt := 33) hx hb dX16_fetches_29 (by decide) ?_
      exact (db_X16_fetches_33 C K) (1) s7 _ _ _ h hP hD hS (lv_sub hl [] rfl)
set_option maxHeartbeats 40000000 in
set_option maxRecDepth 100000 in
theorem dm_X16_fetches (l : Launch) (hlt : l.stackTraces = false) (dC : Nat → ClassId) (dI : Nat → Nat → Nat) (a : Nat → Nat) (ac : Nat → ClassId) (n : Nat) (v0 : Int32) (s0 : St × (St)) {r : Int32 × (St × (St))} (h : df_X16_fetches n v0 s0 = some r) (sz : Nat) : Met l yX16_fetches ow_dm_X16_fetches ({ frames := 2, cells := 0, slots := 0, locals := 45 }) (va_Pc [.ref (a 0), .int v0] (fun U => U.heap.size = sz ∧ va_P (dC, dI) vwCl (dw_X16 a ac s0) U.heap ∧ va_K (dC, dI) vwCl (dk_X16 ac) U ∧ va_D (fun _ => True) (dw_X16 a ac s0) ∧ nv_E dI (va_A (dw_X16 a ac s0) sz) U)) (va_Qi (fun x _ => x = r.1) (fun (_ : Unit) t => va_P (dC, dI) vwCl (dw_X16 a ac r.2) t.heap ∧ va_K (dC, dI) vwCl (dk_X16 ac) t ∧ va_D (va_A (dw_X16 a ac s0) sz) (dw_X16 a ac r.2)) (va_A (dw_X16 a ac s0) sz)) 0 0 (va_A (dw_X16 a ac s0) sz) := by
  refine Met.ofW (cc := cX16_fetches) (maxL := 2) (ret := (some .boolean)) (by decide) rfl ?_
  intro p e s m args below meth c s₁ B hml hv
  obtain ⟨rfl, hsz, hP, hK, hD0, hN⟩ := hv
  have hx := B.exec
  have hb := B.bytes
  have hr := B.returns
  have hts := atoms_spec (ws := ow_dm_X16_fetches) B.pre
  have hown : s.vm.findClass RX16 = some m.cls := findClass_of_methodNamed B.named
  have hlocks := B.notSynchronized
  subst hsz
  have hD := hD0.self (sz := s.heap.size)
  generalize hAe : va_A (dw_X16 a ac s0) s.heap.size = A at hD hN ⊢
  have hA : ∀ q : Nat, s.heap.size ≤ q → A q := fun q h => by rw [← hAe]; exact Or.inr h
  have hl := lv_entry ([.ref (a 0), .int v0]) (n := 2) (Nat.le_of_ble_eq_true rfl)
  rw [lg_entry_eq]
  generalize (lg_sl ([.ref (a 0), .int v0]) ++ List.replicate (2 - (lg_sl ([.ref (a 0), .int v0])).length) Slot.unset).toArray = ls at hl ⊢
  have hl : lv_has ls 2 [(0, .ref (a 0)), (1, .int v0)] := hl
  exact db_X16_fetches_0 (dC := dC) (dI := dI) (a := a) (ac := ac) (n := n) (r := r) ⟨hlt, hx, hb, hml, hown, hts, hN, hA, hK⟩ (fun pc v τ H locs ls d z er hP hD hS => by subst er; exact W.zret (v := v) hx hb hr z (fun t ht hW => ⟨⟨v, (), rfl, rfl, by rw [ht]; exact hP, va_K.moved hW.alike hK, hD⟩, hS.F ht⟩) hS.2.2 d) v0 s0 _ _ _ h hP hD va_S.rf (lv_sub hl [0, 1] rfl)
def ow_dm_X16_part : List Cond := Cond.code yX16_part cX16_part 3 (some .int) :: ([] ++ [])
theorem gd_dm_X16_part : ∀ w ∈ ow_dm_X16_part, (w.onTables && w.keeps) = true ∨ ∃ ty, w = Cond.arrayClass ty := List.forall_mem_cons.mpr ⟨good_of_word rfl, List.forall_mem_append.mpr ⟨fun w h => good_of_word (List.all_eq_true.mp (by decide +kernel) w h), fun _ h => nomatch h⟩⟩
def dj_X16_part_0 (p : Program) (l : Launch) (e : Env) (s : State) (m : MethodId) (args : Array Value) (below : List Frame) (meth : Method) (c : Code) (Q : State → Prop) (A : Nat → Prop) (dC : Nat → ClassId) (dI : Nat → Nat → Nat) (a : Nat → Nat) (ac : Nat → ClassId) (g : Int32 → Int32 → Int32 → (Unit) → Option (Int32 × (Unit))) (r : Int32 × (Unit)) : Prop := ∀ (v0 : Int32) (v1 : Int32) (v2 : Int32) (s0 : Unit) (H : Heap) (locs : List Loc) (ls : Array Slot), g v0 v1 v2 s0 = some r → va_P (dC, dI) vwCl (dw_P a ac s0) H → va_D A (dw_P a ac s0) → va_S A s.heap H locs → lv_has ls 3 [(0, .int v0), (1, .int v1), (2, .int v2)] → W p l e (headSpec ow_dm_X16_part ({ frames := 0, cells := 0, slots := 0, locals := 0 })).room s m args below meth c H locs 0 0 Q (F0 m 0 ls [])
set_option maxHeartbeats 40000000 in
set_option maxRecDepth 100000 in
theorem db_X16_part_0 {p : Program} {l : Launch} {e : Env} {s : State} {m : MethodId} {args : Array Value} {below : List Frame} {meth : Method} {c : Code} {Q : State → Prop} {A : Nat → Prop} {dC : Nat → ClassId} {dI : Nat → Nat → Nat} {a : Nat → Nat} {ac : Nat → ClassId} {n : Nat} {r : Int32 × (Unit)} (C : nd_C p l s m args c A (dC, dI) cX16_part 3 RX16 ow_dm_X16_part (dk_P ac)) (K : nd_Ki p l e (headSpec ow_dm_X16_part ({ frames := 0, cells := 0, slots := 0, locals := 0 })).room s m args below meth c Q A (dC, dI) cX16_part .int (Unit) (dw_P a ac) r) : dj_X16_part_0 p l e s m args below meth c Q A dC dI a ac (df_X16_part_0 n) r := by
  obtain ⟨hlt, hx, hb, hml, hown, hts, hN, hA, hK⟩ := id C
  intro v0 v1 v2 s0 H locs ls h hP hD hS hl
  unfold df_X16_part_0 at h
  refine lv_iload_n hx hb dX16_part_0 rfl (lv_at hl 0 rfl) ?_
  refine lv_iload_n hx hb dX16_part_1 rfl (lv_at hl 1 rfl) ?_
  refine lv_iushr hx hb dX16_part_2 rfl ?_
  refine lv_iconst (v := 1) hx hb dX16_part_3 (by decide) ?_
  refine lv_iload_n hx hb dX16_part_4 rfl (lv_at hl 2 rfl) ?_
  refine lv_ishl hx hb dX16_part_5 ?_
  refine lv_iconst (v := 1) hx hb dX16_part_6 (by decide) ?_
  refine lv_isub hx hb dX16_part_7 ?_
  refine lv_iand hx hb dX16_part_8 ?_
  exact K _ _ _ _ _ _ dX16_part_9 rfl (Option.some.inj h).symm hP hD hS
set_option maxHeartbeats 40000000 in
set_option maxRecDepth 100000 in
theorem dm_X16_part (l : Launch) (hlt : l.stackTraces = false) (dC : Nat → ClassId) (dI : Nat → Nat → Nat) (a : Nat → Nat) (ac : Nat → ClassId) (n : Nat) (v0 : Int32) (v1 : Int32) (v2 : Int32) (s0 : Unit) {r : Int32 × (Unit)} (h : df_X16_part n v0 v1 v2 s0 = some r) (sz : Nat) : Met l yX16_part ow_dm_X16_part ({ frames := 0, cells := 0, slots := 0, locals := 0 }) (va_Pc [.int v0, .int v1, .int v2] (fun U => U.heap.size = sz ∧ va_P (dC, dI) vwCl (dw_P a ac s0) U.heap ∧ va_K (dC, dI) vwCl (dk_P ac) U ∧ va_D (fun _ => True) (dw_P a ac s0) ∧ nv_E dI (va_A (dw_P a ac s0) sz) U)) (va_Qi (fun x _ => x = r.1) (fun (_ : Unit) t => va_P (dC, dI) vwCl (dw_P a ac r.2) t.heap ∧ va_K (dC, dI) vwCl (dk_P ac) t ∧ va_D (va_A (dw_P a ac s0) sz) (dw_P a ac r.2)) (va_A (dw_P a ac s0) sz)) 0 0 (va_A (dw_P a ac s0) sz) := by
  refine Met.ofW (cc := cX16_part) (maxL := 3) (ret := (some .int)) (by decide) rfl ?_
  intro p e s m args below meth c s₁ B hml hv
  obtain ⟨rfl, hsz, hP, hK, hD0, hN⟩ := hv
  have hx := B.exec
  have hb := B.bytes
  have hr := B.returns
  have hts := atoms_spec (ws := ow_dm_X16_part) B.pre
  have hown : s.vm.findClass RX16 = some m.cls := findClass_of_methodNamed B.named
  have hlocks := B.notSynchronized
  subst hsz
  have hD := hD0.self (sz := s.heap.size)
  generalize hAe : va_A (dw_P a ac s0) s.heap.size = A at hD hN ⊢
  have hA : ∀ q : Nat, s.heap.size ≤ q → A q := fun q h => by rw [← hAe]; exact Or.inr h
  have hl := lv_entry ([.int v0, .int v1, .int v2]) (n := 3) (Nat.le_of_ble_eq_true rfl)
  rw [lg_entry_eq]
  generalize (lg_sl ([.int v0, .int v1, .int v2]) ++ List.replicate (3 - (lg_sl ([.int v0, .int v1, .int v2])).length) Slot.unset).toArray = ls at hl ⊢
  have hl : lv_has ls 3 [(0, .int v0), (1, .int v1), (2, .int v2)] := hl
  exact db_X16_part_0 (dC := dC) (dI := dI) (a := a) (ac := ac) (n := n) (r := r) ⟨hlt, hx, hb, hml, hown, hts, hN, hA, hK⟩ (fun pc v τ H locs ls d z er hP hD hS => by subst er; exact W.zret (v := v) hx hb hr z (fun t ht hW => ⟨⟨v, (), rfl, rfl, by rw [ht]; exact hP, va_K.moved hW.alike hK, hD⟩, hS.F ht⟩) hS.2.2 d) v0 v1 v2 s0 _ _ _ h hP hD va_S.rf (lv_sub hl [0, 1, 2] rfl)
def ow_dm_X16_bit : List Cond := Cond.code yX16_bit cX16_bit 4 (some .int) :: ([Cond.methodLink RX16 297 yX16_part, Cond.static yX16_part, Cond.initialized RX16] ++ (ow_dm_X16_part ++ []))
theorem gd_dm_X16_bit : ∀ w ∈ ow_dm_X16_bit, (w.onTables && w.keeps) = true ∨ ∃ ty, w = Cond.arrayClass ty := List.forall_mem_cons.mpr ⟨good_of_word rfl, List.forall_mem_append.mpr ⟨fun w h => good_of_word (List.all_eq_true.mp (by decide +kernel) w h), List.forall_mem_append.mpr ⟨gd_dm_X16_part, fun _ h => nomatch h⟩⟩⟩
theorem gi_dm_X16_bit_0 : GoodIn ow_dm_X16_bit (wsS RX16 297 yX16_part ow_dm_X16_part) := goodIn_app (goodIn_of _ (by decide +kernel)) (fun w h => ⟨List.mem_cons_of_mem _ (List.mem_append_right _ (List.mem_append_left _ h)), gd_dm_X16_part w h⟩)
def dj_X16_bit_0 (p : Program) (l : Launch) (e : Env) (s : State) (m : MethodId) (args : Array Value) (below : List Frame) (meth : Method) (c : Code) (Q : State → Prop) (A : Nat → Prop) (dC : Nat → ClassId) (dI : Nat → Nat → Nat) (a : Nat → Nat) (ac : Nat → ClassId) (g : Int32 → Int32 → Int32 → Int32 → (Unit) → Option (Int32 × (Unit))) (r : Int32 × (Unit)) : Prop := ∀ (v0 : Int32) (v1 : Int32) (v2 : Int32) (v3 : Int32) (s0 : Unit) (H : Heap) (locs : List Loc) (ls : Array Slot), g v0 v1 v2 v3 s0 = some r → va_P (dC, dI) vwCl (dw_P a ac s0) H → va_D A (dw_P a ac s0) → va_S A s.heap H locs → lv_has ls 4 [(0, .int v0), (1, .int v1), (2, .int v2), (3, .int v3)] → W p l e (headSpec ow_dm_X16_bit ({ frames := 1, cells := 0, slots := 0, locals := 22 })).room s m args below meth c H locs 0 0 Q (F0 m 0 ls [])
set_option maxHeartbeats 40000000 in
set_option maxRecDepth 100000 in
theorem db_X16_bit_0 {p : Program} {l : Launch} {e : Env} {s : State} {m : MethodId} {args : Array Value} {below : List Frame} {meth : Method} {c : Code} {Q : State → Prop} {A : Nat → Prop} {dC : Nat → ClassId} {dI : Nat → Nat → Nat} {a : Nat → Nat} {ac : Nat → ClassId} {n : Nat} {r : Int32 × (Unit)} (C : nd_C p l s m args c A (dC, dI) cX16_bit 4 RX16 ow_dm_X16_bit (dk_P ac)) (K : nd_Ki p l e (headSpec ow_dm_X16_bit ({ frames := 1, cells := 0, slots := 0, locals := 22 })).room s m args below meth c Q A (dC, dI) cX16_bit .int (Unit) (dw_P a ac) r) : dj_X16_bit_0 p l e s m args below meth c Q A dC dI a ac (df_X16_bit_0 n) r := by
  obtain ⟨hlt, hx, hb, hml, hown, hts, hN, hA, hK⟩ := id C
  intro v0 v1 v2 v3 s0 H locs ls h hP hD hS hl
  unfold df_X16_bit_0 at h
  refine lv_iload_n hx hb dX16_bit_0 rfl (lv_at hl 0 rfl) ?_
  refine lv_iload_n hx hb dX16_bit_1 rfl (lv_at hl 1 rfl) ?_
  refine lv_iload_n hx hb dX16_bit_2 rfl (lv_at hl 2 rfl) ?_
  obtain ⟨q1, s2, hq, h⟩ := nd_b2_e h
  have hPc : va_P (dC, dI) vwCl (dw_P a ac ()) H := nd_p0
  have hDc : va_D A (dw_P a ac ()) := nd_d0
  have hKc : va_K (dC, dI) vwCl (dk_P ac) s := nd_y0 hK
  have hFc : ∀ q, va_A (dw_P a ac ()) H.size q → A q := nd_r0 hS hA
  refine nd_cSi (As := [.int v0, .int v1, .int v2]) (rest := []) (q := q1) (w' := dw_P a ac s2) ⟨hx, hb, hml, hown, hts⟩ (fun sz => dm_X16_part l hlt dC dI a ac n (v0) (v1) (v2) () hq sz) (cwS 3 hts gi_dm_X16_bit_0 rfl rfl rfl (by decide +kernel) ⟨Nat.le_of_ble_eq_true rfl, Nat.le_of_ble_eq_true rfl⟩) hPc hDc hKc hS hA hN rfl hl.1 rfl (Nat.le_of_ble_eq_true rfl) dX16_bit_3 (fun H locs hP1 hD1 hk1 hS => ?_)
  have hP := nd_n0 hP hk1
  refine lv_iload_n hx hb dX16_bit_6 rfl (lv_at hl 3 rfl) ?_
  refine lv_ishl hx hb dX16_bit_7 ?_
  exact K _ _ _ _ _ _ dX16_bit_8 rfl (Option.some.inj h).symm hP hD hS
set_option maxHeartbeats 40000000 in
set_option maxRecDepth 100000 in
theorem dm_X16_bit (l : Launch) (hlt : l.stackTraces = false) (dC : Nat → ClassId) (dI : Nat → Nat → Nat) (a : Nat → Nat) (ac : Nat → ClassId) (n : Nat) (v0 : Int32) (v1 : Int32) (v2 : Int32) (v3 : Int32) (s0 : Unit) {r : Int32 × (Unit)} (h : df_X16_bit n v0 v1 v2 v3 s0 = some r) (sz : Nat) : Met l yX16_bit ow_dm_X16_bit ({ frames := 1, cells := 0, slots := 0, locals := 22 }) (va_Pc [.int v0, .int v1, .int v2, .int v3] (fun U => U.heap.size = sz ∧ va_P (dC, dI) vwCl (dw_P a ac s0) U.heap ∧ va_K (dC, dI) vwCl (dk_P ac) U ∧ va_D (fun _ => True) (dw_P a ac s0) ∧ nv_E dI (va_A (dw_P a ac s0) sz) U)) (va_Qi (fun x _ => x = r.1) (fun (_ : Unit) t => va_P (dC, dI) vwCl (dw_P a ac r.2) t.heap ∧ va_K (dC, dI) vwCl (dk_P ac) t ∧ va_D (va_A (dw_P a ac s0) sz) (dw_P a ac r.2)) (va_A (dw_P a ac s0) sz)) 0 0 (va_A (dw_P a ac s0) sz) := by
  refine Met.ofW (cc := cX16_bit) (maxL := 4) (ret := (some .int)) (by decide) rfl ?_
  intro p e s m args below meth c s₁ B hml hv
  obtain ⟨rfl, hsz, hP, hK, hD0, hN⟩ := hv
  have hx := B.exec
  have hb := B.bytes
  have hr := B.returns
  have hts := atoms_spec (ws := ow_dm_X16_bit) B.pre
  have hown : s.vm.findClass RX16 = some m.cls := findClass_of_methodNamed B.named
  have hlocks := B.notSynchronized
  subst hsz
  have hD := hD0.self (sz := s.heap.size)
  generalize hAe : va_A (dw_P a ac s0) s.heap.size = A at hD hN ⊢
  have hA : ∀ q : Nat, s.heap.size ≤ q → A q := fun q h => by rw [← hAe]; exact Or.inr h
  have hl := lv_entry ([.int v0, .int v1, .int v2, .int v3]) (n := 4) (Nat.le_of_ble_eq_true rfl)
  rw [lg_entry_eq]
  generalize (lg_sl ([.int v0, .int v1, .int v2, .int v3]) ++ List.replicate (4 - (lg_sl ([.int v0, .int v1, .int v2, .int v3])).length) Slot.unset).toArray = ls at hl ⊢
  have hl : lv_has ls 4 [(0, .int v0), (1, .int v1), (2, .int v2), (3, .int v3)] := hl
  exact db_X16_bit_0 (dC := dC) (dI := dI) (a := a) (ac := ac) (n := n) (r := r) ⟨hlt, hx, hb, hml, hown, hts, hN, hA, hK⟩ (fun pc v τ H locs ls d z er hP hD hS => by subst er; exact W.zret (v := v) hx hb hr z (fun t ht hW => ⟨⟨v, (), rfl, rfl, by rw [ht]; exact hP, va_K.moved hW.alike hK, hD⟩, hS.F ht⟩) hS.2.2 d) v0 v1 v2 v3 s0 _ _ _ h hP hD va_S.rf (lv_sub hl [0, 1, 2, 3] rfl)
def ow_dm_X16_immediate : List Cond := Cond.code yX16_immediate cX16_immediate 5 (some .int) :: ([] ++ [])
theorem gd_dm_X16_immediate : ∀ w ∈ ow_dm_X16_immediate, (w.onTables && w.keeps) = true ∨ ∃ ty, w = Cond.arrayClass ty := List.forall_mem_cons.mpr ⟨good_of_word rfl, List.forall_mem_append.mpr ⟨fun w h => good_of_word (List.all_eq_true.mp (by decide +kernel) w h), fun _ h => nomatch h⟩⟩
def dj_X16_immediate_0 (p : Program) (l : Launch) (e : Env) (s : State) (m : MethodId) (args : Array Value) (below : List Frame) (meth : Method) (c : Code) (Q : State → Prop) (A : Nat → Prop) (dC : Nat → ClassId) (dI : Nat → Nat → Nat) (a : Nat → Nat) (ac : Nat → ClassId) (g : Int32 → Int32 → Int32 → Int32 → Int32 → (Unit) → Option (Int32 × (Unit))) (r : Int32 × (Unit)) : Prop := ∀ (v0 : Int32) (v1 : Int32) (v2 : Int32) (v3 : Int32) (v4 : Int32) (s0 : Unit) (H : Heap) (locs : List Loc) (ls : Array Slot), g v0 v1 v2 v3 v4 s0 = some r → va_P (dC, dI) vwCl (dw_P a ac s0) H → va_D A (dw_P a ac s0) → va_S A s.heap H locs → lv_has ls 5 [(0, .int v0), (1, .int v1), (2, .int v2), (3, .int v3), (4, .int v4)] → W p l e (headSpec ow_dm_X16_immediate ({ frames := 0, cells := 0, slots := 0, locals := 0 })).room s m args below meth c H locs 0 0 Q (F0 m 0 ls [])
set_option maxHeartbeats 40000000 in
set_option maxRecDepth 100000 in
theorem db_X16_immediate_0 {p : Program} {l : Launch} {e : Env} {s : State} {m : MethodId} {args : Array Value} {below : List Frame} {meth : Method} {c : Code} {Q : State → Prop} {A : Nat → Prop} {dC : Nat → ClassId} {dI : Nat → Nat → Nat} {a : Nat → Nat} {ac : Nat → ClassId} {n : Nat} {r : Int32 × (Unit)} (C : nd_C p l s m args c A (dC, dI) cX16_immediate 5 RX16 ow_dm_X16_immediate (dk_P ac)) (K : nd_Ki p l e (headSpec ow_dm_X16_immediate ({ frames := 0, cells := 0, slots := 0, locals := 0 })).room s m args below meth c Q A (dC, dI) cX16_immediate .int (Unit) (dw_P a ac) r) : dj_X16_immediate_0 p l e s m args below meth c Q A dC dI a ac (df_X16_immediate_0 n) r := by
  obtain ⟨hlt, hx, hb, hml, hown, hts, hN, hA, hK⟩ := id C
  intro v0 v1 v2 v3 v4 s0 H locs ls h hP hD hS hl
  unfold df_X16_immediate_0 at h
  refine lv_iload_n hx hb dX16_immediate_0 rfl (lv_at hl 0 rfl) ?_
  refine lv_iload_n hx hb dX16_immediate_1 rfl (lv_at hl 2 rfl) ?_
  refine lv_bipush (v := 7) hx hb dX16_immediate_2 (by decide) ?_
  refine lv_ishl hx hb dX16_immediate_4 ?_
  refine lv_ior hx hb dX16_immediate_5 ?_
  refine lv_iload_n hx hb dX16_immediate_6 rfl (lv_at hl 1 rfl) ?_
  refine lv_bipush (v := 12) hx hb dX16_immediate_7 (by decide) ?_
  refine lv_ishl hx hb dX16_immediate_9 ?_
  refine lv_ior hx hb dX16_immediate_10 ?_
  refine lv_iload_n hx hb dX16_immediate_11 rfl (lv_at hl 3 rfl) ?_
  refine lv_bipush (v := 15) hx hb dX16_immediate_12 (by decide) ?_
  refine lv_ishl hx hb dX16_immediate_14 ?_
  refine lv_ior hx hb dX16_immediate_15 ?_
  refine lv_iload hx hb dX16_immediate_16 (lv_at hl 4 rfl) ?_
  refine lv_bipush (v := 20) hx hb dX16_immediate_18 (by decide) ?_
  refine lv_ishl hx hb dX16_immediate_20 ?_
  refine lv_ior hx hb dX16_immediate_21 ?_
  exact K _ _ _ _ _ _ dX16_immediate_22 rfl (Option.some.inj h).symm hP hD hS
set_option maxHeartbeats 40000000 in
set_option maxRecDepth 100000 in
theorem dm_X16_immediate (l : Launch) (hlt : l.stackTraces = false) (dC : Nat → ClassId) (dI : Nat → Nat → Nat) (a : Nat → Nat) (ac : Nat → ClassId) (n : Nat) (v0 : Int32) (v1 : Int32) (v2 : Int32) (v3 : Int32) (v4 : Int32) (s0 : Unit) {r : Int32 × (Unit)} (h : df_X16_immediate n v0 v1 v2 v3 v4 s0 = some r) (sz : Nat) : Met l yX16_immediate ow_dm_X16_immediate ({ frames := 0, cells := 0, slots := 0, locals := 0 }) (va_Pc [.int v0, .int v1, .int v2, .int v3, .int v4] (fun U => U.heap.size = sz ∧ va_P (dC, dI) vwCl (dw_P a ac s0) U.heap ∧ va_K (dC, dI) vwCl (dk_P ac) U ∧ va_D (fun _ => True) (dw_P a ac s0) ∧ nv_E dI (va_A (dw_P a ac s0) sz) U)) (va_Qi (fun x _ => x = r.1) (fun (_ : Unit) t => va_P (dC, dI) vwCl (dw_P a ac r.2) t.heap ∧ va_K (dC, dI) vwCl (dk_P ac) t ∧ va_D (va_A (dw_P a ac s0) sz) (dw_P a ac r.2)) (va_A (dw_P a ac s0) sz)) 0 0 (va_A (dw_P a ac s0) sz) := by
  refine Met.ofW (cc := cX16_immediate) (maxL := 5) (ret := (some .int)) (by decide) rfl ?_
  intro p e s m args below meth c s₁ B hml hv
  obtain ⟨rfl, hsz, hP, hK, hD0, hN⟩ := hv
  have hx := B.exec
  have hb := B.bytes
  have hr := B.returns
  have hts := atoms_spec (ws := ow_dm_X16_immediate) B.pre
  have hown : s.vm.findClass RX16 = some m.cls := findClass_of_methodNamed B.named
  have hlocks := B.notSynchronized
  subst hsz
  have hD := hD0.self (sz := s.heap.size)
  generalize hAe : va_A (dw_P a ac s0) s.heap.size = A at hD hN ⊢
  have hA : ∀ q : Nat, s.heap.size ≤ q → A q := fun q h => by rw [← hAe]; exact Or.inr h
  have hl := lv_entry ([.int v0, .int v1, .int v2, .int v3, .int v4]) (n := 5) (Nat.le_of_ble_eq_true rfl)
  rw [lg_entry_eq]
  generalize (lg_sl ([.int v0, .int v1, .int v2, .int v3, .int v4]) ++ List.replicate (5 - (lg_sl ([.int v0, .int v1, .int v2, .int v3, .int v4])).length) Slot.unset).toArray = ls at hl ⊢
  have hl : lv_has ls 5 [(0, .int v0), (1, .int v1), (2, .int v2), (3, .int v3), (4, .int v4)] := hl
  exact db_X16_immediate_0 (dC := dC) (dI := dI) (a := a) (ac := ac) (n := n) (r := r) ⟨hlt, hx, hb, hml, hown, hts, hN, hA, hK⟩ (fun pc v τ H locs ls d z er hP hD hS => by subst er; exact W.zret (v := v) hx hb hr z (fun t ht hW => ⟨⟨v, (), rfl, rfl, by rw [ht]; exact hP, va_K.moved hW.alike hK, hD⟩, hS.F ht⟩) hS.2.2 d) v0 v1 v2 v3 v4 s0 _ _ _ h hP hD va_S.rf (lv_sub hl [0, 1, 2, 3, 4] rfl)
def ow_dm_X16_threes : List Cond := Cond.code yX16_threes cX16_threes 5 (some .int) :: ([] ++ [])
theorem gd_dm_X16_threes : ∀ w ∈ ow_dm_X16_threes, (w.onTables && w.keeps) = true ∨ ∃ ty, w = Cond.arrayClass ty := List.forall_mem_cons.mpr ⟨good_of_word rfl, List.forall_mem_append.mpr ⟨fun w h => good_of_word (List.all_eq_true.mp (by decide +kernel) w h), fun _ h => nomatch h⟩⟩
def dj_X16_threes_0 (p : Program) (l : Launch) (e : Env) (s : State) (m : MethodId) (args : Array Value) (below : List Frame) (meth : Method) (c : Code) (Q : State → Prop) (A : Nat → Prop) (dC : Nat → ClassId) (dI : Nat → Nat → Nat) (a : Nat → Nat) (ac : Nat → ClassId) (g : Int32 → Int32 → Int32 → Int32 → Int32 → (Unit) → Option (Int32 × (Unit))) (r : Int32 × (Unit)) : Prop := ∀ (v0 : Int32) (v1 : Int32) (v2 : Int32) (v3 : Int32) (v4 : Int32) (s0 : Unit) (H : Heap) (locs : List Loc) (ls : Array Slot), g v0 v1 v2 v3 v4 s0 = some r → va_P (dC, dI) vwCl (dw_P a ac s0) H → va_D A (dw_P a ac s0) → va_S A s.heap H locs → lv_has ls 5 [(0, .int v0), (1, .int v1), (2, .int v2), (3, .int v3), (4, .int v4)] → W p l e (headSpec ow_dm_X16_threes ({ frames := 0, cells := 0, slots := 0, locals := 0 })).room s m args below meth c H locs 0 0 Q (F0 m 0 ls [])
set_option maxHeartbeats 40000000 in
set_option maxRecDepth 100000 in
theorem db_X16_threes_0 {p : Program} {l : Launch} {e : Env} {s : State} {m : MethodId} {args : Array Value} {below : List Frame} {meth : Method} {c : Code} {Q : State → Prop} {A : Nat → Prop} {dC : Nat → ClassId} {dI : Nat → Nat → Nat} {a : Nat → Nat} {ac : Nat → ClassId} {n : Nat} {r : Int32 × (Unit)} (C : nd_C p l s m args c A (dC, dI) cX16_threes 5 RX16 ow_dm_X16_threes (dk_P ac)) (K : nd_Ki p l e (headSpec ow_dm_X16_threes ({ frames := 0, cells := 0, slots := 0, locals := 0 })).room s m args below meth c Q A (dC, dI) cX16_threes .int (Unit) (dw_P a ac) r) : dj_X16_threes_0 p l e s m args below meth c Q A dC dI a ac (df_X16_threes_0 n) r := by
  obtain ⟨hlt, hx, hb, hml, hown, hts, hN, hA, hK⟩ := id C
  intro v0 v1 v2 v3 v4 s0 H locs ls h hP hD hS hl
  unfold df_X16_threes_0 at h
  refine lv_bipush (v := 51) hx hb dX16_threes_0 (by decide) ?_
  refine lv_iload_n hx hb dX16_threes_2 rfl (lv_at hl 2 rfl) ?_
  refine lv_bipush (v := 7) hx hb dX16_threes_3 (by decide) ?_
  refine lv_ishl hx hb dX16_threes_5 ?_
  refine lv_ior hx hb dX16_threes_6 ?_
  refine lv_iload_n hx hb dX16_threes_7 rfl (lv_at hl 0 rfl) ?_
  refine lv_bipush (v := 12) hx hb dX16_threes_8 (by decide) ?_
  refine lv_ishl hx hb dX16_threes_10 ?_
  refine lv_ior hx hb dX16_threes_11 ?_
  refine lv_iload_n hx hb dX16_threes_12 rfl (lv_at hl 3 rfl) ?_
  refine lv_bipush (v := 15) hx hb dX16_threes_13 (by decide) ?_
  refine lv_ishl hx hb dX16_threes_15 ?_
  refine lv_ior hx hb dX16_threes_16 ?_
  refine lv_iload hx hb dX16_threes_17 (lv_at hl 4 rfl) ?_
  refine lv_bipush (v := 20) hx hb dX16_threes_19 (by decide) ?_
  refine lv_ishl hx hb dX16_threes_21 ?_
  refine lv_ior hx hb dX16_threes_22 ?_
  refine lv_iload_n hx hb dX16_threes_23 rfl (lv_at hl 1 rfl) ?_
  refine lv_bipush (v := 25) hx hb dX16_threes_24 (by decide) ?_
  refine lv_ishl hx hb dX16_threes_26 ?_
  refine lv_ior hx hb dX16_threes_27 ?_
  exact K _ _ _ _ _ _ dX16_threes_28 rfl (Option.some.inj h).symm hP hD hS
set_option maxHeartbeats 40000000 in
set_option maxRecDepth 100000 in
theorem dm_X16_threes (l : Launch) (hlt : l.stackTraces = false) (dC : Nat → ClassId) (dI : Nat → Nat → Nat) (a : Nat → Nat) (ac : Nat → ClassId) (n : Nat) (v0 : Int32) (v1 : Int32) (v2 : Int32) (v3 : Int32) (v4 : Int32) (s0 : Unit) {r : Int32 × (Unit)} (h : df_X16_threes n v0 v1 v2 v3 v4 s0 = some r) (sz : Nat) : Met l yX16_threes ow_dm_X16_threes ({ frames := 0, cells := 0, slots := 0, locals := 0 }) (va_Pc [.int v0, .int v1, .int v2, .int v3, .int v4] (fun U => U.heap.size = sz ∧ va_P (dC, dI) vwCl (dw_P a ac s0) U.heap ∧ va_K (dC, dI) vwCl (dk_P ac) U ∧ va_D (fun _ => True) (dw_P a ac s0) ∧ nv_E dI (va_A (dw_P a ac s0) sz) U)) (va_Qi (fun x _ => x = r.1) (fun (_ : Unit) t => va_P (dC, dI) vwCl (dw_P a ac r.2) t.heap ∧ va_K (dC, dI) vwCl (dk_P ac) t ∧ va_D (va_A (dw_P a ac s0) sz) (dw_P a ac r.2)) (va_A (dw_P a ac s0) sz)) 0 0 (va_A (dw_P a ac s0) sz) := by
  refine Met.ofW (cc := cX16_threes) (maxL := 5) (ret := (some .int)) (by decide) rfl ?_
  intro p e s m args below meth c s₁ B hml hv
  obtain ⟨rfl, hsz, hP, hK, hD0, hN⟩ := hv
  have hx := B.exec
  have hb := B.bytes
  have hr := B.returns
  have hts := atoms_spec (ws := ow_dm_X16_threes) B.pre
  have hown : s.vm.findClass RX16 = some m.cls := findClass_of_methodNamed B.named
  have hlocks := B.notSynchronized
  subst hsz
  have hD := hD0.self (sz := s.heap.size)
  generalize hAe : va_A (dw_P a ac s0) s.heap.size = A at hD hN ⊢
  have hA : ∀ q : Nat, s.heap.size ≤ q → A q := fun q h => by rw [← hAe]; exact Or.inr h
  have hl := lv_entry ([.int v0, .int v1, .int v2, .int v3, .int v4]) (n := 5) (Nat.le_of_ble_eq_true rfl)
  rw [lg_entry_eq]
  generalize (lg_sl ([.int v0, .int v1, .int v2, .int v3, .int v4]) ++ List.replicate (5 - (lg_sl ([.int v0, .int v1, .int v2, .int v3, .int v4])).length) Slot.unset).toArray = ls at hl ⊢
  have hl : lv_has ls 5 [(0, .int v0), (1, .int v1), (2, .int v2), (3, .int v3), (4, .int v4)] := hl
  exact db_X16_threes_0 (dC := dC) (dI := dI) (a := a) (ac := ac) (n := n) (r := r) ⟨hlt, hx, hb, hml, hown, hts, hN, hA, hK⟩ (fun pc v τ H locs ls d z er hP hD hS => by subst er; exact W.zret (v := v) hx hb hr z (fun t ht hW => ⟨⟨v, (), rfl, rfl, by rw [ht]; exact hP, va_K.moved hW.alike hK, hD⟩, hS.F ht⟩) hS.2.2 d) v0 v1 v2 v3 v4 s0 _ _ _ h hP hD va_S.rf (lv_sub hl [0, 1, 2, 3, 4] rfl)
def ow_dm_X16_storing : List Cond := Cond.code yX16_storing cX16_storing 3 (some .int) :: ([Cond.methodLink RX16 300 yX16_bit, Cond.static yX16_bit, Cond.initialized RX16] ++ (ow_dm_X16_bit ++ []))
theorem gd_dm_X16_storing : ∀ w ∈ ow_dm_X16_storing, (w.onTables && w.keeps) = true ∨ ∃ ty, w = Cond.arrayClass ty := List.forall_mem_cons.mpr ⟨good_of_word rfl, List.forall_mem_append.mpr ⟨fun w h => good_of_word (List.all_eq_true.mp (by decide +kernel) w h), List.forall_mem_append.mpr ⟨gd_dm_X16_bit, fun _ h => nomatch h⟩⟩⟩
theorem gi_dm_X16_storing_0 : GoodIn ow_dm_X16_storing (wsS RX16 300 yX16_bit ow_dm_X16_bit) := goodIn_app (goodIn_of _ (by decide +kernel)) (fun w h => ⟨List.mem_cons_of_mem _ (List.mem_append_right _ (List.mem_append_left _ h)), gd_dm_X16_bit w h⟩)
def dj_X16_storing_0 (p : Program) (l : Launch) (e : Env) (s : State) (m : MethodId) (args : Array Value) (below : List Frame) (meth : Method) (c : Code) (Q : State → Prop) (A : Nat → Prop) (dC : Nat → ClassId) (dI : Nat → Nat → Nat) (a : Nat → Nat) (ac : Nat → ClassId) (g : Int32 → Int32 → Int32 → (Unit) → Option (Int32 × (Unit))) (r : Int32 × (Unit)) : Prop := ∀ (v0 : Int32) (v1 : Int32) (v2 : Int32) (s0 : Unit) (H : Heap) (locs : List Loc) (ls : Array Slot), g v0 v1 v2 s0 = some r → va_P (dC, dI) vwCl (dw_P a ac s0) H → va_D A (dw_P a ac s0) → va_S A s.heap H locs → lv_has ls 3 [(0, .int v0), (1, .int v1), (2, .int v2)] → W p l e (headSpec ow_dm_X16_storing ({ frames := 2, cells := 0, slots := 0, locals := 45 })).room s m args below meth c H locs 0 0 Q (F0 m 0 ls [])
set_option maxHeartbeats 40000000 in
set_option maxRecDepth 100000 in
theorem db_X16_storing_0 {p : Program} {l : Launch} {e : Env} {s : State} {m : MethodId} {args : Array Value} {below : List Frame} {meth : Method} {c : Code} {Q : State → Prop} {A : Nat → Prop} {dC : Nat → ClassId} {dI : Nat → Nat → Nat} {a : Nat → Nat} {ac : Nat → ClassId} {n : Nat} {r : Int32 × (Unit)} (C : nd_C p l s m args c A (dC, dI) cX16_storing 3 RX16 ow_dm_X16_storing (dk_P ac)) (K : nd_Ki p l e (headSpec ow_dm_X16_storing ({ frames := 2, cells := 0, slots := 0, locals := 45 })).room s m args below meth c Q A (dC, dI) cX16_storing .int (Unit) (dw_P a ac) r) : dj_X16_storing_0 p l e s m args below meth c Q A dC dI a ac (df_X16_storing_0 n) r := by
  obtain ⟨hlt, hx, hb, hml, hown, hts, hN, hA, hK⟩ := id C
  intro v0 v1 v2 s0 H locs ls h hP hD hS hl
  unfold df_X16_storing_0 at h
  refine lv_bipush (v := 35) hx hb dX16_storing_0 (by decide) ?_
  refine lv_iload_n hx hb dX16_storing_2 rfl (lv_at hl 2 rfl) ?_
  refine lv_iconst (v := 0) hx hb dX16_storing_3 (by decide) ?_
  refine lv_iconst (v := 5) hx hb dX16_storing_4 (by decide) ?_
  refine lv_bipush (v := 7) hx hb dX16_storing_5 (by decide) ?_
  obtain ⟨q1, s2, hq, h⟩ := nd_b2_e h
  have hPc : va_P (dC, dI) vwCl (dw_P a ac ()) H := nd_p0
  have hDc : va_D A (dw_P a ac ()) := nd_d0
  have hKc : va_K (dC, dI) vwCl (dk_P ac) s := nd_y0 hK
  have hFc : ∀ q, va_A (dw_P a ac ()) H.size q → A q := nd_r0 hS hA
  refine nd_cSi (As := [.int v2, .int 0, .int 5, .int 7]) (rest := [.int 35]) (q := q1) (w' := dw_P a ac s2) ⟨hx, hb, hml, hown, hts⟩ (fun sz => dm_X16_bit l hlt dC dI a ac n (v2) (0) (5) (7) () hq sz) (cwS 4 hts gi_dm_X16_storing_0 rfl rfl rfl (by decide +kernel) ⟨Nat.le_of_ble_eq_true rfl, Nat.le_of_ble_eq_true rfl⟩) hPc hDc hKc hS hA hN rfl hl.1 rfl (Nat.le_of_ble_eq_true rfl) dX16_storing_7 (fun H locs hP1 hD1 hk1 hS => ?_)
  have hP := nd_n0 hP hk1
  refine lv_ior hx hb dX16_storing_10 ?_
  refine lv_sipush (v := 8192) hx hb dX16_storing_11 (by decide) ?_
  refine lv_ior hx hb dX16_storing_14 ?_
  refine lv_iload_n hx hb dX16_storing_15 rfl (lv_at hl 0 rfl) ?_
  refine lv_bipush (v := 15) hx hb dX16_storing_16 (by decide) ?_
  refine lv_ishl hx hb dX16_storing_18 ?_
  refine lv_ior hx hb dX16_storing_19 ?_
  refine lv_iload_n hx hb dX16_storing_20 rfl (lv_at hl 1 rfl) ?_
  refine lv_bipush (v := 20) hx hb dX16_storing_21 (by decide) ?_
  refine lv_ishl hx hb dX16_storing_23 ?_
  refine lv_ior hx hb dX16_storing_24 ?_
  refine lv_iload_n hx hb dX16_storing_25 rfl (lv_at hl 2 rfl) ?_
  refine lv_iconst (v := 5) hx hb dX16_storing_26 (by decide) ?_
  refine lv_bipush (v := 7) hx hb dX16_storing_27 (by decide) ?_
  refine lv_bipush (v := 25) hx hb dX16_storing_29 (by decide) ?_
  obtain ⟨q4, s5, hq, h⟩ := nd_b2_e h
  have hPc : va_P (dC, dI) vwCl (dw_P a ac ()) H := nd_p0
  have hDc : va_D A (dw_P a ac ()) := nd_d0
  have hKc : va_K (dC, dI) vwCl (dk_P ac) s := nd_y0 hK
  have hFc : ∀ q, va_A (dw_P a ac ()) H.size q → A q := nd_r0 hS hA
  refine nd_cSi (As := [.int v2, .int 5, .int 7, .int 25]) (rest := [.int ((((35 ||| q1) ||| 8192) ||| ((v0 : Int32) <<< ((15 : Int32) &&& 31))) ||| ((v1 : Int32) <<< ((20 : Int32) &&& 31)))]) (q := q4) (w' := dw_P a ac s5) ⟨hx, hb, hml, hown, hts⟩ (fun sz => dm_X16_bit l hlt dC dI a ac n (v2) (5) (7) (25) () hq sz) (cwS 4 hts gi_dm_X16_storing_0 rfl rfl rfl (by decide +kernel) ⟨Nat.le_of_ble_eq_true rfl, Nat.le_of_ble_eq_true rfl⟩) hPc hDc hKc hS hA hN rfl hl.1 rfl (Nat.le_of_ble_eq_true rfl) dX16_storing_31 (fun H locs hP1 hD1 hk1 hS => ?_)
  have hP := nd_n0 hP hk1
  refine lv_ior hx hb dX16_storing_34 ?_
  exact K _ _ _ _ _ _ dX16_storing_35 rfl (Option.some.inj h).symm hP hD hS
set_option maxHeartbeats 40000000 in
set_option maxRecDepth 100000 in
theorem dm_X16_storing (l : Launch) (hlt : l.stackTraces = false) (dC : Nat → ClassId) (dI : Nat → Nat → Nat) (a : Nat → Nat) (ac : Nat → ClassId) (n : Nat) (v0 : Int32) (v1 : Int32) (v2 : Int32) (s0 : Unit) {r : Int32 × (Unit)} (h : df_X16_storing n v0 v1 v2 s0 = some r) (sz : Nat) : Met l yX16_storing ow_dm_X16_storing ({ frames := 2, cells := 0, slots := 0, locals := 45 }) (va_Pc [.int v0, .int v1, .int v2] (fun U => U.heap.size = sz ∧ va_P (dC, dI) vwCl (dw_P a ac s0) U.heap ∧ va_K (dC, dI) vwCl (dk_P ac) U ∧ va_D (fun _ => True) (dw_P a ac s0) ∧ nv_E dI (va_A (dw_P a ac s0) sz) U)) (va_Qi (fun x _ => x = r.1) (fun (_ : Unit) t => va_P (dC, dI) vwCl (dw_P a ac r.2) t.heap ∧ va_K (dC, dI) vwCl (dk_P ac) t ∧ va_D (va_A (dw_P a ac s0) sz) (dw_P a ac r.2)) (va_A (dw_P a ac s0) sz)) 0 0 (va_A (dw_P a ac s0) sz) := by
  refine Met.ofW (cc := cX16_storing) (maxL := 3) (ret := (some .int)) (by decide) rfl ?_
  intro p e s m args below meth c s₁ B hml hv
  obtain ⟨rfl, hsz, hP, hK, hD0, hN⟩ := hv
  have hx := B.exec
  have hb := B.bytes
  have hr := B.returns
  have hts := atoms_spec (ws := ow_dm_X16_storing) B.pre
  have hown : s.vm.findClass RX16 = some m.cls := findClass_of_methodNamed B.named
  have hlocks := B.notSynchronized
  subst hsz
  have hD := hD0.self (sz := s.heap.size)
  generalize hAe : va_A (dw_P a ac s0) s.heap.size = A at hD hN ⊢
  have hA : ∀ q : Nat, s.heap.size ≤ q → A q := fun q h => by rw [← hAe]; exact Or.inr h
  have hl := lv_entry ([.int v0, .int v1, .int v2]) (n := 3) (Nat.le_of_ble_eq_true rfl)
  rw [lg_entry_eq]
  generalize (lg_sl ([.int v0, .int v1, .int v2]) ++ List.replicate (3 - (lg_sl ([.int v0, .int v1, .int v2])).length) Slot.unset).toArray = ls at hl ⊢
  have hl : lv_has ls 3 [(0, .int v0), (1, .int v1), (2, .int v2)] := hl
  exact db_X16_storing_0 (dC := dC) (dI := dI) (a := a) (ac := ac) (n := n) (r := r) ⟨hlt, hx, hb, hml, hown, hts, hN, hA, hK⟩ (fun pc v τ H locs ls d z er hP hD hS => by subst er; exact W.zret (v := v) hx hb hr z (fun t ht hW => ⟨⟨v, (), rfl, rfl, by rw [ht]; exact hP, va_K.moved hW.alike hK, hD⟩, hS.F ht⟩) hS.2.2 d) v0 v1 v2 s0 _ _ _ h hP hD va_S.rf (lv_sub hl [0, 1, 2] rfl)
def ow_dm_X16_two : List Cond := Cond.code yX16_two cX16_two 7 (some .int) :: ([Cond.methodLink RX16 297 yX16_part, Cond.static yX16_part, Cond.initialized RX16, Cond.methodLink RX16 300 yX16_bit, Cond.static yX16_bit, Cond.methodLink RX16 313 yX16_immediate, Cond.static yX16_immediate, Cond.constant RX16 335 (1048691), Cond.methodLink RX16 332 yX16_threes, Cond.static yX16_threes, Cond.methodLink RX16 317 yX16_storing, Cond.static yX16_storing] ++ (ow_dm_X16_part ++ (ow_dm_X16_bit ++ (ow_dm_X16_immediate ++ (ow_dm_X16_threes ++ (ow_dm_X16_storing ++ []))))))
theorem gd_dm_X16_two : ∀ w ∈ ow_dm_X16_two, (w.onTables && w.keeps) = true ∨ ∃ ty, w = Cond.arrayClass ty := List.forall_mem_cons.mpr ⟨good_of_word rfl, List.forall_mem_append.mpr ⟨fun w h => good_of_word (List.all_eq_true.mp (by decide +kernel) w h), List.forall_mem_append.mpr ⟨gd_dm_X16_part, List.forall_mem_append.mpr ⟨gd_dm_X16_bit, List.forall_mem_append.mpr ⟨gd_dm_X16_immediate, List.forall_mem_append.mpr ⟨gd_dm_X16_threes, List.forall_mem_append.mpr ⟨gd_dm_X16_storing, fun _ h => nomatch h⟩⟩⟩⟩⟩⟩⟩
theorem gi_dm_X16_two_0 : GoodIn ow_dm_X16_two (wsS RX16 297 yX16_part ow_dm_X16_part) := goodIn_app (goodIn_of _ (by decide +kernel)) (fun w h => ⟨List.mem_cons_of_mem _ (List.mem_append_right _ (List.mem_append_left _ h)), gd_dm_X16_part w h⟩)
theorem gi_dm_X16_two_1 : GoodIn ow_dm_X16_two (wsS RX16 300 yX16_bit ow_dm_X16_bit) := goodIn_app (goodIn_of _ (by decide +kernel)) (fun w h => ⟨List.mem_cons_of_mem _ (List.mem_append_right _ (List.mem_append_right _ (List.mem_append_left _ h))), gd_dm_X16_bit w h⟩)
theorem gi_dm_X16_two_2 : GoodIn ow_dm_X16_two (wsS RX16 313 yX16_immediate ow_dm_X16_immediate) := goodIn_app (goodIn_of _ (by decide +kernel)) (fun w h => ⟨List.mem_cons_of_mem _ (List.mem_append_right _ (List.mem_append_right _ (List.mem_append_right _ (List.mem_append_left _ h)))), gd_dm_X16_immediate w h⟩)
theorem gi_dm_X16_two_3 : GoodIn ow_dm_X16_two (wsS RX16 332 yX16_threes ow_dm_X16_threes) := goodIn_app (goodIn_of _ (by decide +kernel)) (fun w h => ⟨List.mem_cons_of_mem _ (List.mem_append_right _ (List.mem_append_right _ (List.mem_append_right _ (List.mem_append_right _ (List.mem_append_left _ h))))), gd_dm_X16_threes w h⟩)
theorem gi_dm_X16_two_4 : GoodIn ow_dm_X16_two (wsS RX16 317 yX16_storing ow_dm_X16_storing) := goodIn_app (goodIn_of _ (by decide +kernel)) (fun w h => ⟨List.mem_cons_of_mem _ (List.mem_append_right _ (List.mem_append_right _ (List.mem_append_right _ (List.mem_append_right _ (List.mem_append_right _ (List.mem_append_left _ h)))))), gd_dm_X16_storing w h⟩)
def dj_X16_two_199 (p : Program) (l : Launch) (e : Env) (s : State) (m : MethodId) (args : Array Value) (below : List Frame) (meth : Method) (c : Code) (Q : State → Prop) (A : Nat → Prop) (dC : Nat → ClassId) (dI : Nat → Nat → Nat) (a : Nat → Nat) (ac : Nat → ClassId) (g : Int32 → Int32 → Int32 → Int32 → (Unit) → Option (Int32 × (Unit))) (r : Int32 × (Unit)) : Prop := ∀ (x2 : Int32) (y0 : Int32) (y1 : Int32) (y2 : Int32) (s0 : Unit) (H : Heap) (locs : List Loc) (ls : Array Slot), g x2 y0 y1 y2 s0 = some r → va_P (dC, dI) vwCl (dw_P a ac s0) H → va_D A (dw_P a ac s0) → va_S A s.heap H locs → lv_has ls 7 [(2, .int x2)] → W p l e (headSpec ow_dm_X16_two ({ frames := 3, cells := 0, slots := 0, locals := 67 })).room s m args below meth c H locs 0 0 Q (F0 m 199 ls [.int y2, .int y1, .int y0])
def dj_X16_two_185 (p : Program) (l : Launch) (e : Env) (s : State) (m : MethodId) (args : Array Value) (below : List Frame) (meth : Method) (c : Code) (Q : State → Prop) (A : Nat → Prop) (dC : Nat → ClassId) (dI : Nat → Nat → Nat) (a : Nat → Nat) (ac : Nat → ClassId) (g : Int32 → (Unit) → Option (Int32 × (Unit))) (r : Int32 × (Unit)) : Prop := ∀ (y0 : Int32) (s0 : Unit) (H : Heap) (locs : List Loc) (ls : Array Slot), g y0 s0 = some r → va_P (dC, dI) vwCl (dw_P a ac s0) H → va_D A (dw_P a ac s0) → va_S A s.heap H locs → lv_has ls 7 [] → W p l e (headSpec ow_dm_X16_two ({ frames := 3, cells := 0, slots := 0, locals := 67 })).room s m args below meth c H locs 0 0 Q (F0 m 185 ls [.int y0])
def dj_X16_two_164 (p : Program) (l : Launch) (e : Env) (s : State) (m : MethodId) (args : Array Value) (below : List Frame) (meth : Method) (c : Code) (Q : State → Prop) (A : Nat → Prop) (dC : Nat → ClassId) (dI : Nat → Nat → Nat) (a : Nat → Nat) (ac : Nat → ClassId) (g : Int32 → Int32 → Int32 → Int32 → Int32 → (Unit) → Option (Int32 × (Unit))) (r : Int32 × (Unit)) : Prop := ∀ (x3 : Int32) (y0 : Int32) (y1 : Int32) (y2 : Int32) (y3 : Int32) (s0 : Unit) (H : Heap) (locs : List Loc) (ls : Array Slot), g x3 y0 y1 y2 y3 s0 = some r → va_P (dC, dI) vwCl (dw_P a ac s0) H → va_D A (dw_P a ac s0) → va_S A s.heap H locs → lv_has ls 7 [(3, .int x3)] → W p l e (headSpec ow_dm_X16_two ({ frames := 3, cells := 0, slots := 0, locals := 67 })).room s m args below meth c H locs 0 0 Q (F0 m 164 ls [.int y3, .int y2, .int y1, .int y0])
def dj_X16_two_125 (p : Program) (l : Launch) (e : Env) (s : State) (m : MethodId) (args : Array Value) (below : List Frame) (meth : Method) (c : Code) (Q : State → Prop) (A : Nat → Prop) (dC : Nat → ClassId) (dI : Nat → Nat → Nat) (a : Nat → Nat) (ac : Nat → ClassId) (g : Int32 → (Unit) → Option (Int32 × (Unit))) (r : Int32 × (Unit)) : Prop := ∀ (y0 : Int32) (s0 : Unit) (H : Heap) (locs : List Loc) (ls : Array Slot), g y0 s0 = some r → va_P (dC, dI) vwCl (dw_P a ac s0) H → va_D A (dw_P a ac s0) → va_S A s.heap H locs → lv_has ls 7 [] → W p l e (headSpec ow_dm_X16_two ({ frames := 3, cells := 0, slots := 0, locals := 67 })).room s m args below meth c H locs 0 0 Q (F0 m 125 ls [.int y0])
def dj_X16_two_102 (p : Program) (l : Launch) (e : Env) (s : State) (m : MethodId) (args : Array Value) (below : List Frame) (meth : Method) (c : Code) (Q : State → Prop) (A : Nat → Prop) (dC : Nat → ClassId) (dI : Nat → Nat → Nat) (a : Nat → Nat) (ac : Nat → ClassId) (g : Int32 → (Unit) → Option (Int32 × (Unit))) (r : Int32 × (Unit)) : Prop := ∀ (y0 : Int32) (s0 : Unit) (H : Heap) (locs : List Loc) (ls : Array Slot), g y0 s0 = some r → va_P (dC, dI) vwCl (dw_P a ac s0) H → va_D A (dw_P a ac s0) → va_S A s.heap H locs → lv_has ls 7 [] → W p l e (headSpec ow_dm_X16_two ({ frames := 3, cells := 0, slots := 0, locals := 67 })).room s m args below meth c H locs 0 0 Q (F0 m 102 ls [.int y0])
def dj_X16_two_31 (p : Program) (l : Launch) (e : Env) (s : State) (m : MethodId) (args : Array Value) (below : List Frame) (meth : Method) (c : Code) (Q : State → Prop) (A : Nat → Prop) (dC : Nat → ClassId) (dI : Nat → Nat → Nat) (a : Nat → Nat) (ac : Nat → ClassId) (g : Int32 → Int32 → Int32 → Int32 → Int32 → (Unit) → Option (Int32 × (Unit))) (r : Int32 × (Unit)) : Prop := ∀ (x0 : Int32) (x1 : Int32) (x2 : Int32) (x3 : Int32) (y0 : Int32) (s0 : Unit) (H : Heap) (locs : List Loc) (ls : Array Slot), g x0 x1 x2 x3 y0 s0 = some r → va_P (dC, dI) vwCl (dw_P a ac s0) H → va_D A (dw_P a ac s0) → va_S A s.heap H locs → lv_has ls 7 [(0, .int x0), (1, .int x1), (2, .int x2), (3, .int x3)] → W p l e (headSpec ow_dm_X16_two ({ frames := 3, cells := 0, slots := 0, locals := 67 })).room s m args below meth c H locs 0 0 Q (F0 m 31 ls [.int y0])
def dj_X16_two_0 (p : Program) (l : Launch) (e : Env) (s : State) (m : MethodId) (args : Array Value) (below : List Frame) (meth : Method) (c : Code) (Q : State → Prop) (A : Nat → Prop) (dC : Nat → ClassId) (dI : Nat → Nat → Nat) (a : Nat → Nat) (ac : Nat → ClassId) (g : Int32 → Int32 → (Unit) → Option (Int32 × (Unit))) (r : Int32 × (Unit)) : Prop := ∀ (v0 : Int32) (v1 : Int32) (s0 : Unit) (H : Heap) (locs : List Loc) (ls : Array Slot), g v0 v1 s0 = some r → va_P (dC, dI) vwCl (dw_P a ac s0) H → va_D A (dw_P a ac s0) → va_S A s.heap H locs → lv_has ls 7 [(0, .int v0), (1, .int v1)] → W p l e (headSpec ow_dm_X16_two ({ frames := 3, cells := 0, slots := 0, locals := 67 })).room s m args below meth c H locs 0 0 Q (F0 m 0 ls [])
set_option maxHeartbeats 40000000 in
set_option maxRecDepth 100000 in
theorem db_X16_two_199 {p : Program} {l : Launch} {e : Env} {s : State} {m : MethodId} {args : Array Value} {below : List Frame} {meth : Method} {c : Code} {Q : State → Prop} {A : Nat → Prop} {dC : Nat → ClassId} {dI : Nat → Nat → Nat} {a : Nat → Nat} {ac : Nat → ClassId} {n : Nat} {r : Int32 × (Unit)} (C : nd_C p l s m args c A (dC, dI) cX16_two 7 RX16 ow_dm_X16_two (dk_P ac)) (K : nd_Ki p l e (headSpec ow_dm_X16_two ({ frames := 3, cells := 0, slots := 0, locals := 67 })).room s m args below meth c Q A (dC, dI) cX16_two .int (Unit) (dw_P a ac) r) : dj_X16_two_199 p l e s m args below meth c Q A dC dI a ac (df_X16_two_199 n) r := by
  obtain ⟨hlt, hx, hb, hml, hown, hts, hN, hA, hK⟩ := id C
  intro x2 y0 y1 y2 s0 H locs ls h hP hD hS hl
  unfold df_X16_two_199 at h
  refine lv_iload_n hx hb dX16_two_199 rfl (lv_at hl 0 rfl) ?_
  refine lv_iconst (v := 0) hx hb dX16_two_200 (by decide) ?_
  obtain ⟨q35, s36, hq, h⟩ := nd_b2_e h
  have hPc : va_P (dC, dI) vwCl (dw_P a ac ()) H := nd_p0
  have hDc : va_D A (dw_P a ac ()) := nd_d0
  have hKc : va_K (dC, dI) vwCl (dk_P ac) s := nd_y0 hK
  have hFc : ∀ q, va_A (dw_P a ac ()) H.size q → A q := nd_r0 hS hA
  refine nd_cSi (As := [.int y0, .int y1, .int y2, .int x2, .int 0]) (rest := []) (q := q35) (w' := dw_P a ac s36) ⟨hx, hb, hml, hown, hts⟩ (fun sz => dm_X16_immediate l hlt dC dI a ac n (y0) (y1) (y2) (x2) (0) () hq sz) (cwS 5 hts gi_dm_X16_two_2 rfl rfl rfl (by decide +kernel) ⟨Nat.le_of_ble_eq_true rfl, Nat.le_of_ble_eq_true rfl⟩) hPc hDc hKc hS hA hN rfl hl.1 rfl (Nat.le_of_ble_eq_true rfl) dX16_two_201 (fun H locs hP1 hD1 hk1 hS => ?_)
  have hP := nd_n0 hP hk1
  exact K _ _ _ _ _ _ dX16_two_204 rfl (Option.some.inj h).symm hP hD hS
set_option maxHeartbeats 40000000 in
set_option maxRecDepth 100000 in
theorem db_X16_two_185 {p : Program} {l : Launch} {e : Env} {s : State} {m : MethodId} {args : Array Value} {below : List Frame} {meth : Method} {c : Code} {Q : State → Prop} {A : Nat → Prop} {dC : Nat → ClassId} {dI : Nat → Nat → Nat} {a : Nat → Nat} {ac : Nat → ClassId} {n : Nat} {r : Int32 × (Unit)} (C : nd_C p l s m args c A (dC, dI) cX16_two 7 RX16 ow_dm_X16_two (dk_P ac)) (K : nd_Ki p l e (headSpec ow_dm_X16_two ({ frames := 3, cells := 0, slots := 0, locals := 67 })).room s m args below meth c Q A (dC, dI) cX16_two .int (Unit) (dw_P a ac) r) : dj_X16_two_185 p l e s m args below meth c Q A dC dI a ac (df_X16_two_185 n) r := by
  obtain ⟨hlt, hx, hb, hml, hown, hts, hN, hA, hK⟩ := id C
  intro y0 s0 H locs ls h hP hD hS hl
  unfold df_X16_two_185 at h
  exact K _ _ _ _ _ _ dX16_two_185 rfl (Option.some.inj h).symm hP hD hS
set_option maxHeartbeats 40000000 in
set_option maxRecDepth 100000 in
theorem db_X16_two_164 {p : Program} {l : Launch} {e : Env} {s : State} {m : MethodId} {args : Array Value} {below : List Frame} {meth : Method} {c : Code} {Q : State → Prop} {A : Nat → Prop} {dC : Nat → ClassId} {dI : Nat → Nat → Nat} {a : Nat → Nat} {ac : Nat → ClassId} {n : Nat} {r : Int32 × (Unit)} (C : nd_C p l s m args c A (dC, dI) cX16_two 7 RX16 ow_dm_X16_two (dk_P ac)) (K : nd_Ki p l e (headSpec ow_dm_X16_two ({ frames := 3, cells := 0, slots := 0, locals := 67 })).room s m args below meth c Q A (dC, dI) cX16_two .int (Unit) (dw_P a ac) r) : dj_X16_two_164 p l e s m args below meth c Q A dC dI a ac (df_X16_two_164 n) r := by
  obtain ⟨hlt, hx, hb, hml, hown, hts, hN, hA, hK⟩ := id C
  intro x3 y0 y1 y2 y3 s0 H locs ls h hP hD hS hl
  unfold df_X16_two_164 at h
  refine lv_iload_n hx hb dX16_two_164 rfl (lv_at hl 0 rfl) ?_
  obtain ⟨q40, s41, hq, h⟩ := nd_b2_e h
  have hPc : va_P (dC, dI) vwCl (dw_P a ac ()) H := nd_p0
  have hDc : va_D A (dw_P a ac ()) := nd_d0
  have hKc : va_K (dC, dI) vwCl (dk_P ac) s := nd_y0 hK
  have hFc : ∀ q, va_A (dw_P a ac ()) H.size q → A q := nd_r0 hS hA
  refine nd_cSi (As := [.int y0, .int y1, .int y2, .int y3, .int x3]) (rest := []) (q := q40) (w' := dw_P a ac s41) ⟨hx, hb, hml, hown, hts⟩ (fun sz => dm_X16_threes l hlt dC dI a ac n (y0) (y1) (y2) (y3) (x3) () hq sz) (cwS 5 hts gi_dm_X16_two_3 rfl rfl rfl (by decide +kernel) ⟨Nat.le_of_ble_eq_true rfl, Nat.le_of_ble_eq_true rfl⟩) hPc hDc hKc hS hA hN rfl hl.1 rfl (Nat.le_of_ble_eq_true rfl) dX16_two_165 (fun H locs hP1 hD1 hk1 hS => ?_)
  have hP := nd_n0 hP hk1
  exact K _ _ _ _ _ _ dX16_two_168 rfl (Option.some.inj h).symm hP hD hS
set_option maxHeartbeats 40000000 in
set_option maxRecDepth 100000 in
theorem db_X16_two_125 {p : Program} {l : Launch} {e : Env} {s : State} {m : MethodId} {args : Array Value} {below : List Frame} {meth : Method} {c : Code} {Q : State → Prop} {A : Nat → Prop} {dC : Nat → ClassId} {dI : Nat → Nat → Nat} {a : Nat → Nat} {ac : Nat → ClassId} {n : Nat} {r : Int32 × (Unit)} (C : nd_C p l s m args c A (dC, dI) cX16_two 7 RX16 ow_dm_X16_two (dk_P ac)) (K : nd_Ki p l e (headSpec ow_dm_X16_two ({ frames := 3, cells := 0, slots := 0, locals := 67 })).room s m args below meth c Q A (dC, dI) cX16_two .int (Unit) (dw_P a ac) r) : dj_X16_two_125 p l e s m args below meth c Q A dC dI a ac (df_X16_two_125 n) r := by
  obtain ⟨hlt, hx, hb, hml, hown, hts, hN, hA, hK⟩ := id C
  intro y0 s0 H locs ls h hP hD hS hl
  unfold df_X16_two_125 at h
  exact K _ _ _ _ _ _ dX16_two_125 rfl (Option.some.inj h).symm hP hD hS
set_option maxHeartbeats 40000000 in
set_option maxRecDepth 100000 in
theorem db_X16_two_102 {p : Program} {l : Launch} {e : Env} {s : State} {m : MethodId} {args : Array Value} {below : List Frame} {meth : Method} {c : Code} {Q : State → Prop} {A : Nat → Prop} {dC : Nat → ClassId} {dI : Nat → Nat → Nat} {a : Nat → Nat} {ac : Nat → ClassId} {n : Nat} {r : Int32 × (Unit)} (C : nd_C p l s m args c A (dC, dI) cX16_two 7 RX16 ow_dm_X16_two (dk_P ac)) (K : nd_Ki p l e (headSpec ow_dm_X16_two ({ frames := 3, cells := 0, slots := 0, locals := 67 })).room s m args below meth c Q A (dC, dI) cX16_two .int (Unit) (dw_P a ac) r) : dj_X16_two_102 p l e s m args below meth c Q A dC dI a ac (df_X16_two_102 n) r := by
  obtain ⟨hlt, hx, hb, hml, hown, hts, hN, hA, hK⟩ := id C
  intro y0 s0 H locs ls h hP hD hS hl
  unfold df_X16_two_102 at h
  exact K _ _ _ _ _ _ dX16_two_102 rfl (Option.some.inj h).symm hP hD hS
set_option maxHeartbeats 40000000 in
set_option maxRecDepth 100000 in
theorem db_X16_two_31 {p : Program} {l : Launch} {e : Env} {s : State} {m : MethodId} {args : Array Value} {below : List Frame} {meth : Method} {c : Code} {Q : State → Prop} {A : Nat → Prop} {dC : Nat → ClassId} {dI : Nat → Nat → Nat} {a : Nat → Nat} {ac : Nat → ClassId} {n : Nat} {r : Int32 × (Unit)} (C : nd_C p l s m args c A (dC, dI) cX16_two 7 RX16 ow_dm_X16_two (dk_P ac)) (K : nd_Ki p l e (headSpec ow_dm_X16_two ({ frames := 3, cells := 0, slots := 0, locals := 67 })).room s m args below meth c Q A (dC, dI) cX16_two .int (Unit) (dw_P a ac) r) : dj_X16_two_31 p l e s m args below meth c Q A dC dI a ac (df_X16_two_31 n) r := by
  obtain ⟨hlt, hx, hb, hml, hown, hts, hN, hA, hK⟩ := id C
  intro x0 x1 x2 x3 y0 s0 H locs ls h hP hD hS hl
  unfold df_X16_two_31 at h
  refine lv_istore (lv' := [(4, .int y0), (0, .int x0), (1, .int x1), (2, .int x2), (3, .int x3)]) hx hb dX16_two_31 hl (by decide) rfl (fun ls hl => ?_)
  refine lv_iload_n hx hb dX16_two_33 rfl (lv_at hl 1 rfl) ?_
  refine lv_bipush (v := 12) hx hb dX16_two_34 (by decide) ?_
  refine lv_iconst (v := 1) hx hb dX16_two_36 (by decide) ?_
  refine lv_iconst (v := 5) hx hb dX16_two_37 (by decide) ?_
  obtain ⟨q11, s12, hq, h⟩ := nd_b2_e h
  have hPc : va_P (dC, dI) vwCl (dw_P a ac ()) H := nd_p0
  have hDc : va_D A (dw_P a ac ()) := nd_d0
  have hKc : va_K (dC, dI) vwCl (dk_P ac) s := nd_y0 hK
  have hFc : ∀ q, va_A (dw_P a ac ()) H.size q → A q := nd_r0 hS hA
  refine nd_cSi (As := [.int x0, .int 12, .int 1, .int 5]) (rest := []) (q := q11) (w' := dw_P a ac s12) ⟨hx, hb, hml, hown, hts⟩ (fun sz => dm_X16_bit l hlt dC dI a ac n (x0) (12) (1) (5) () hq sz) (cwS 4 hts gi_dm_X16_two_1 rfl rfl rfl (by decide +kernel) ⟨Nat.le_of_ble_eq_true rfl, Nat.le_of_ble_eq_true rfl⟩) hPc hDc hKc hS hA hN rfl hl.1 rfl (Nat.le_of_ble_eq_true rfl) dX16_two_38 (fun H locs hP1 hD1 hk1 hS => ?_)
  have hP := nd_n0 hP hk1
  refine lv_iload_n hx hb dX16_two_41 rfl (lv_at hl 1 rfl) ?_
  refine lv_iconst (v := 4) hx hb dX16_two_42 (by decide) ?_
  refine lv_iconst (v := 3) hx hb dX16_two_43 (by decide) ?_
  refine lv_iconst (v := 2) hx hb dX16_two_44 (by decide) ?_
  obtain ⟨q14, s15, hq, h⟩ := nd_b2_e h
  have hPc : va_P (dC, dI) vwCl (dw_P a ac ()) H := nd_p0
  have hDc : va_D A (dw_P a ac ()) := nd_d0
  have hKc : va_K (dC, dI) vwCl (dk_P ac) s := nd_y0 hK
  have hFc : ∀ q, va_A (dw_P a ac ()) H.size q → A q := nd_r0 hS hA
  refine nd_cSi (As := [.int x0, .int 4, .int 3, .int 2]) (rest := [.int q11]) (q := q14) (w' := dw_P a ac s15) ⟨hx, hb, hml, hown, hts⟩ (fun sz => dm_X16_bit l hlt dC dI a ac n (x0) (4) (3) (2) () hq sz) (cwS 4 hts gi_dm_X16_two_1 rfl rfl rfl (by decide +kernel) ⟨Nat.le_of_ble_eq_true rfl, Nat.le_of_ble_eq_true rfl⟩) hPc hDc hKc hS hA hN rfl hl.1 rfl (Nat.le_of_ble_eq_true rfl) dX16_two_45 (fun H locs hP1 hD1 hk1 hS => ?_)
  have hP := nd_n0 hP hk1
  refine lv_ior hx hb dX16_two_48 ?_
  refine lv_iload_n hx hb dX16_two_49 rfl (lv_at hl 1 rfl) ?_
  refine lv_iconst (v := 2) hx hb dX16_two_50 (by decide) ?_
  refine lv_iconst (v := 2) hx hb dX16_two_51 (by decide) ?_
  refine lv_bipush (v := 6) hx hb dX16_two_52 (by decide) ?_
  obtain ⟨q17, s18, hq, h⟩ := nd_b2_e h
  have hPc : va_P (dC, dI) vwCl (dw_P a ac ()) H := nd_p0
  have hDc : va_D A (dw_P a ac ()) := nd_d0
  have hKc : va_K (dC, dI) vwCl (dk_P ac) s := nd_y0 hK
  have hFc : ∀ q, va_A (dw_P a ac ()) H.size q → A q := nd_r0 hS hA
  refine nd_cSi (As := [.int x0, .int 2, .int 2, .int 6]) (rest := [.int (q11 ||| q14)]) (q := q17) (w' := dw_P a ac s18) ⟨hx, hb, hml, hown, hts⟩ (fun sz => dm_X16_bit l hlt dC dI a ac n (x0) (2) (2) (6) () hq sz) (cwS 4 hts gi_dm_X16_two_1 rfl rfl rfl (by decide +kernel) ⟨Nat.le_of_ble_eq_true rfl, Nat.le_of_ble_eq_true rfl⟩) hPc hDc hKc hS hA hN rfl hl.1 rfl (Nat.le_of_ble_eq_true rfl) dX16_two_54 (fun H locs hP1 hD1 hk1 hS => ?_)
  have hP := nd_n0 hP hk1
  refine lv_ior hx hb dX16_two_57 ?_
  refine lv_topi (fun z20 ez20 => ?_)
  have h := nd_at h ez20
  refine lv_istore (lv' := [(5, .int z20), (4, .int y0), (0, .int x0), (1, .int x1), (2, .int x2), (3, .int x3)]) hx hb dX16_two_58 hl (by decide) rfl (fun ls hl => ?_)
  refine lv_iload_n hx hb dX16_two_60 rfl (lv_at hl 2 rfl) ?_
  refine lv_bipush (v := 9) hx hb dX16_two_61 (by decide) ?_
  refine lv_iconst (v := 4) hx hb dX16_two_63 (by decide) ?_
  refine lv_iconst (v := 2) hx hb dX16_two_64 (by decide) ?_
  obtain ⟨q21, s22, hq, h⟩ := nd_b2_e h
  have hPc : va_P (dC, dI) vwCl (dw_P a ac ()) H := nd_p0
  have hDc : va_D A (dw_P a ac ()) := nd_d0
  have hKc : va_K (dC, dI) vwCl (dk_P ac) s := nd_y0 hK
  have hFc : ∀ q, va_A (dw_P a ac ()) H.size q → A q := nd_r0 hS hA
  refine nd_cSi (As := [.int x0, .int 9, .int 4, .int 2]) (rest := []) (q := q21) (w' := dw_P a ac s22) ⟨hx, hb, hml, hown, hts⟩ (fun sz => dm_X16_bit l hlt dC dI a ac n (x0) (9) (4) (2) () hq sz) (cwS 4 hts gi_dm_X16_two_1 rfl rfl rfl (by decide +kernel) ⟨Nat.le_of_ble_eq_true rfl, Nat.le_of_ble_eq_true rfl⟩) hPc hDc hKc hS hA hN rfl hl.1 rfl (Nat.le_of_ble_eq_true rfl) dX16_two_65 (fun H locs hP1 hD1 hk1 hS => ?_)
  have hP := nd_n0 hP hk1
  refine lv_iload_n hx hb dX16_two_68 rfl (lv_at hl 2 rfl) ?_
  refine lv_bipush (v := 7) hx hb dX16_two_69 (by decide) ?_
  refine lv_iconst (v := 2) hx hb dX16_two_71 (by decide) ?_
  refine lv_bipush (v := 6) hx hb dX16_two_72 (by decide) ?_
  obtain ⟨q24, s25, hq, h⟩ := nd_b2_e h
  have hPc : va_P (dC, dI) vwCl (dw_P a ac ()) H := nd_p0
  have hDc : va_D A (dw_P a ac ()) := nd_d0
  have hKc : va_K (dC, dI) vwCl (dk_P ac) s := nd_y0 hK
  have hFc : ∀ q, va_A (dw_P a ac ()) H.size q → A q := nd_r0 hS hA
  refine nd_cSi (As := [.int x0, .int 7, .int 2, .int 6]) (rest := [.int q21]) (q := q24) (w' := dw_P a ac s25) ⟨hx, hb, hml, hown, hts⟩ (fun sz => dm_X16_bit l hlt dC dI a ac n (x0) (7) (2) (6) () hq sz) (cwS 4 hts gi_dm_X16_two_1 rfl rfl rfl (by decide +kernel) ⟨Nat.le_of_ble_eq_true rfl, Nat.le_of_ble_eq_true rfl⟩) hPc hDc hKc hS hA hN rfl hl.1 rfl (Nat.le_of_ble_eq_true rfl) dX16_two_74 (fun H locs hP1 hD1 hk1 hS => ?_)
  have hP := nd_n0 hP hk1
  refine lv_ior hx hb dX16_two_77 ?_
  refine lv_topi (fun z27 ez27 => ?_)
  have h := nd_at h ez27
  refine lv_istore (lv' := [(6, .int z27), (5, .int z20), (4, .int y0), (0, .int x0), (1, .int x1), (2, .int x2), (3, .int x3)]) hx hb dX16_two_78 hl (by decide) rfl (fun ls hl => ?_)
  refine lv_iload_n hx hb dX16_two_80 rfl (lv_at hl 4 rfl) ?_
  refine lv_if_ne (tgt := 103) hx hb dX16_two_81 (by decide) (fun c28 => ?_) (fun c28 => ?_)
  · have h := nd_neg h c28
    refine lv_iload_n hx hb dX16_two_103 rfl (lv_at hl 4 rfl) ?_
    refine lv_iconst (v := 2) hx hb dX16_two_104 (by decide) ?_
    refine lv_icmp_ne (tgt := 126) hx hb dX16_two_105 (by decide) (fun c29 => ?_) (fun c29 => ?_)
    · have h := nd_neg h c29
      refine lv_iload_n hx hb dX16_two_126 rfl (lv_at hl 4 rfl) ?_
      refine lv_bipush (v := 6) hx hb dX16_two_127 (by decide) ?_
      refine lv_icmp_ne (tgt := 140) hx hb dX16_two_129 (by decide) (fun c30 => ?_) (fun c30 => ?_)
      · have h := nd_neg h c30
        refine lv_iload_n hx hb dX16_two_140 rfl (lv_at hl 4 rfl) ?_
        refine lv_iconst (v := 4) hx hb dX16_two_141 (by decide) ?_
        refine lv_icmp_eq (tgt := 147) hx hb dX16_two_142 (by decide) (fun c31 => ?_) (fun c31 => ?_)
        · have h := nd_pos h c31
          refine lv_iload_n hx hb dX16_two_147 rfl (lv_at hl 6 rfl) ?_
          refine lv_if_le (tgt := 169) hx hb dX16_two_148 (by decide) (fun c32 => ?_) (fun c32 => ?_)
          · have h := nd_pos h c32
            refine lv_iload_n hx hb dX16_two_169 rfl (lv_at hl 5 rfl) ?_
            refine lv_if_ne (tgt := 186) hx hb dX16_two_170 (by decide) (fun c33 => ?_) (fun c33 => ?_)
            · have h := nd_neg h c33
              refine lv_bipush (v := 103) hx hb dX16_two_186 (by decide) ?_
              refine lv_iconst (v := 0) hx hb dX16_two_188 (by decide) ?_
              refine lv_iload hx hb dX16_two_189 (lv_at hl 2 rfl) ?_
              refine lv_if_eq (tgt := 198) hx hb dX16_two_191 (by decide) (fun c34 => ?_) (fun c34 => ?_)
              · have h := nd_pos h c34
                refine lv_iconst (v := 0) hx hb dX16_two_198 (by decide) ?_
                exact (db_X16_two_199 C K) (x2) (103) (0) (0) s0 _ _ _ h hP hD hS (lv_sub hl [5] rfl)
              · have h := nd_neg h c34
                refine lv_iconst (v := 1) hx hb dX16_two_194 (by decide) ?_
                refine lv_goto (tgt := 199) hx hb dX16_two_195 (by decide) ?_
                exact (db_X16_two_199 C K) (x2) (103) (0) (1) s0 _ _ _ h hP hD hS (lv_sub hl [5] rfl)
            · have h := nd_pos h c33
              refine lv_iload hx hb dX16_two_173 (lv_at hl 2 rfl) ?_
              refine lv_if_eq (tgt := 184) hx hb dX16_two_175 (by decide) (fun c38 => ?_) (fun c38 => ?_)
              · have h := nd_pos h c38
                refine lv_iconst (v := 0) hx hb dX16_two_184 (by decide) ?_
                exact (db_X16_two_185 C K) (0) s0 _ _ _ h hP hD hS (lv_sub hl [] rfl)
              · have h := nd_neg h c38
                refine lv_ldcw hx hb hown (hts (.constant RX16 335 (1048691)) (List.mem_of_getElem? (i := 8) rfl)) dX16_two_178 ?_
                refine lv_goto (tgt := 185) hx hb dX16_two_181 (by decide) ?_
                exact (db_X16_two_185 C K) (1048691) s0 _ _ _ h hP hD hS (lv_sub hl [] rfl)
          · have h := nd_neg h c32
            refine lv_iconst (v := 0) hx hb dX16_two_151 (by decide) ?_
            refine lv_iconst (v := 0) hx hb dX16_two_152 (by decide) ?_
            refine lv_iload_n hx hb dX16_two_153 rfl (lv_at hl 5 rfl) ?_
            refine lv_iload hx hb dX16_two_154 (lv_at hl 2 rfl) ?_
            refine lv_if_eq (tgt := 163) hx hb dX16_two_156 (by decide) (fun c39 => ?_) (fun c39 => ?_)
            · have h := nd_pos h c39
              refine lv_iconst (v := 0) hx hb dX16_two_163 (by decide) ?_
              exact (db_X16_two_164 C K) (x3) (0) (0) (x2) (0) s0 _ _ _ h hP hD hS (lv_sub hl [6] rfl)
            · have h := nd_neg h c39
              refine lv_iload_n hx hb dX16_two_159 rfl (lv_at hl 5 rfl) ?_
              refine lv_goto (tgt := 164) hx hb dX16_two_160 (by decide) ?_
              exact (db_X16_two_164 C K) (x3) (0) (0) (x2) (x2) s0 _ _ _ h hP hD hS (lv_sub hl [6] rfl)
        · have h := nd_neg h c31
          refine lv_iconst (v := 0) hx hb dX16_two_145 (by decide) ?_
          exact K _ _ _ _ _ _ dX16_two_146 rfl (Option.some.inj h).symm hP hD hS
      · have h := nd_pos h c30
        refine lv_iconst (v := 2) hx hb dX16_two_132 (by decide) ?_
        refine lv_iload_n hx hb dX16_two_133 rfl (lv_at hl 6 rfl) ?_
        refine lv_iload hx hb dX16_two_134 (lv_at hl 0 rfl) ?_
        obtain ⟨q43, s44, hq, h⟩ := nd_b2_e h
        have hPc : va_P (dC, dI) vwCl (dw_P a ac ()) H := nd_p0
        have hDc : va_D A (dw_P a ac ()) := nd_d0
        have hKc : va_K (dC, dI) vwCl (dk_P ac) s := nd_y0 hK
        have hFc : ∀ q, va_A (dw_P a ac ()) H.size q → A q := nd_r0 hS hA
        refine nd_cSi (As := [.int 2, .int x3, .int z27]) (rest := []) (q := q43) (w' := dw_P a ac s44) ⟨hx, hb, hml, hown, hts⟩ (fun sz => dm_X16_storing l hlt dC dI a ac n (2) (x3) (z27) () hq sz) (cwS 3 hts gi_dm_X16_two_4 rfl rfl rfl (by decide +kernel) ⟨Nat.le_of_ble_eq_true rfl, Nat.le_of_ble_eq_true rfl⟩) hPc hDc hKc hS hA hN rfl hl.1 rfl (Nat.le_of_ble_eq_true rfl) dX16_two_136 (fun H locs hP1 hD1 hk1 hS => ?_)
        have hP := nd_n0 hP hk1
        exact K _ _ _ _ _ _ dX16_two_139 rfl (Option.some.inj h).symm hP hD hS
    · have h := nd_pos h c29
      refine lv_iload_n hx hb dX16_two_108 rfl (lv_at hl 5 rfl) ?_
      refine lv_if_ne (tgt := 116) hx hb dX16_two_109 (by decide) (fun c46 => ?_) (fun c46 => ?_)
      · have h := nd_neg h c46
        refine lv_iconst (v := 3) hx hb dX16_two_116 (by decide) ?_
        refine lv_iconst (v := 2) hx hb dX16_two_117 (by decide) ?_
        refine lv_iload_n hx hb dX16_two_118 rfl (lv_at hl 5 rfl) ?_
        refine lv_iconst (v := 2) hx hb dX16_two_119 (by decide) ?_
        refine lv_iload hx hb dX16_two_120 (lv_at hl 1 rfl) ?_
        obtain ⟨q47, s48, hq, h⟩ := nd_b2_e h
        have hPc : va_P (dC, dI) vwCl (dw_P a ac ()) H := nd_p0
        have hDc : va_D A (dw_P a ac ()) := nd_d0
        have hKc : va_K (dC, dI) vwCl (dk_P ac) s := nd_y0 hK
        have hFc : ∀ q, va_A (dw_P a ac ()) H.size q → A q := nd_r0 hS hA
        refine nd_cSi (As := [.int 3, .int 2, .int x2, .int 2, .int z20]) (rest := []) (q := q47) (w' := dw_P a ac s48) ⟨hx, hb, hml, hown, hts⟩ (fun sz => dm_X16_immediate l hlt dC dI a ac n (3) (2) (x2) (2) (z20) () hq sz) (cwS 5 hts gi_dm_X16_two_2 rfl rfl rfl (by decide +kernel) ⟨Nat.le_of_ble_eq_true rfl, Nat.le_of_ble_eq_true rfl⟩) hPc hDc hKc hS hA hN rfl hl.1 rfl (Nat.le_of_ble_eq_true rfl) dX16_two_122 (fun H locs hP1 hD1 hk1 hS => ?_)
        have hP := nd_n0 hP hk1
        exact (db_X16_two_125 C K) (q47) s0 _ _ _ h hP hD hS (lv_sub hl [] rfl)
      · have h := nd_pos h c46
        refine lv_iconst (v := 0) hx hb dX16_two_112 (by decide) ?_
        refine lv_goto (tgt := 125) hx hb dX16_two_113 (by decide) ?_
        exact (db_X16_two_125 C K) (0) s0 _ _ _ h hP hD hS (lv_sub hl [] rfl)
  · have h := nd_pos h c28
    refine lv_iload hx hb dX16_two_84 (lv_at hl 2 rfl) ?_
    refine lv_if_eq (tgt := 93) hx hb dX16_two_86 (by decide) (fun c50 => ?_) (fun c50 => ?_)
    · have h := nd_pos h c50
      refine lv_bipush (v := 19) hx hb dX16_two_93 (by decide) ?_
      refine lv_iconst (v := 1) hx hb dX16_two_95 (by decide) ?_
      refine lv_iload_n hx hb dX16_two_96 rfl (lv_at hl 5 rfl) ?_
      refine lv_iload_n hx hb dX16_two_97 rfl (lv_at hl 5 rfl) ?_
      refine lv_iload_n hx hb dX16_two_98 rfl (lv_at hl 6 rfl) ?_
      obtain ⟨q51, s52, hq, h⟩ := nd_b2_e h
      have hPc : va_P (dC, dI) vwCl (dw_P a ac ()) H := nd_p0
      have hDc : va_D A (dw_P a ac ()) := nd_d0
      have hKc : va_K (dC, dI) vwCl (dk_P ac) s := nd_y0 hK
      have hFc : ∀ q, va_A (dw_P a ac ()) H.size q → A q := nd_r0 hS hA
      refine nd_cSi (As := [.int 19, .int 1, .int x2, .int x2, .int x3]) (rest := []) (q := q51) (w' := dw_P a ac s52) ⟨hx, hb, hml, hown, hts⟩ (fun sz => dm_X16_immediate l hlt dC dI a ac n (19) (1) (x2) (x2) (x3) () hq sz) (cwS 5 hts gi_dm_X16_two_2 rfl rfl rfl (by decide +kernel) ⟨Nat.le_of_ble_eq_true rfl, Nat.le_of_ble_eq_true rfl⟩) hPc hDc hKc hS hA hN rfl hl.1 rfl (Nat.le_of_ble_eq_true rfl) dX16_two_99 (fun H locs hP1 hD1 hk1 hS => ?_)
      have hP := nd_n0 hP hk1
      exact (db_X16_two_102 C K) (q51) s0 _ _ _ h hP hD hS (lv_sub hl [] rfl)
    · have h := nd_neg h c50
      refine lv_iconst (v := 0) hx hb dX16_two_89 (by decide) ?_
      refine lv_goto (tgt := 102) hx hb dX16_two_90 (by decide) ?_
      exact (db_X16_two_102 C K) (0) s0 _ _ _ h hP hD hS (lv_sub hl [] rfl)
set_option maxHeartbeats 40000000 in
set_option maxRecDepth 100000 in
theorem db_X16_two_0 {p : Program} {l : Launch} {e : Env} {s : State} {m : MethodId} {args : Array Value} {below : List Frame} {meth : Method} {c : Code} {Q : State → Prop} {A : Nat → Prop} {dC : Nat → ClassId} {dI : Nat → Nat → Nat} {a : Nat → Nat} {ac : Nat → ClassId} {n : Nat} {r : Int32 × (Unit)} (C : nd_C p l s m args c A (dC, dI) cX16_two 7 RX16 ow_dm_X16_two (dk_P ac)) (K : nd_Ki p l e (headSpec ow_dm_X16_two ({ frames := 3, cells := 0, slots := 0, locals := 67 })).room s m args below meth c Q A (dC, dI) cX16_two .int (Unit) (dw_P a ac) r) : dj_X16_two_0 p l e s m args below meth c Q A dC dI a ac (df_X16_two_0 n) r := by
  obtain ⟨hlt, hx, hb, hml, hown, hts, hN, hA, hK⟩ := id C
  intro v0 v1 s0 H locs ls h hP hD hS hl
  unfold df_X16_two_0 at h
  refine lv_iload_n hx hb dX16_two_0 rfl (lv_at hl 0 rfl) ?_
  refine lv_bipush (v := 7) hx hb dX16_two_1 (by decide) ?_
  refine lv_iconst (v := 5) hx hb dX16_two_3 (by decide) ?_
  obtain ⟨q1, s2, hq, h⟩ := nd_b2_e h
  have hPc : va_P (dC, dI) vwCl (dw_P a ac ()) H := nd_p0
  have hDc : va_D A (dw_P a ac ()) := nd_d0
  have hKc : va_K (dC, dI) vwCl (dk_P ac) s := nd_y0 hK
  have hFc : ∀ q, va_A (dw_P a ac ()) H.size q → A q := nd_r0 hS hA
  refine nd_cSi (As := [.int v0, .int 7, .int 5]) (rest := []) (q := q1) (w' := dw_P a ac s2) ⟨hx, hb, hml, hown, hts⟩ (fun sz => dm_X16_part l hlt dC dI a ac n (v0) (7) (5) () hq sz) (cwS 3 hts gi_dm_X16_two_0 rfl rfl rfl (by decide +kernel) ⟨Nat.le_of_ble_eq_true rfl, Nat.le_of_ble_eq_true rfl⟩) hPc hDc hKc hS hA hN rfl hl.1 rfl (Nat.le_of_ble_eq_true rfl) dX16_two_4 (fun H locs hP1 hD1 hk1 hS => ?_)
  have hP := nd_n0 hP hk1
  refine lv_istore_n (lv' := [(2, .int q1), (0, .int v0), (1, .int v1)]) hx hb dX16_two_7 rfl hl (by decide) rfl (fun ls hl => ?_)
  refine lv_iload_n hx hb dX16_two_8 rfl (lv_at hl 1 rfl) ?_
  refine lv_iconst (v := 2) hx hb dX16_two_9 (by decide) ?_
  refine lv_iconst (v := 5) hx hb dX16_two_10 (by decide) ?_
  obtain ⟨q4, s5, hq, h⟩ := nd_b2_e h
  have hPc : va_P (dC, dI) vwCl (dw_P a ac ()) H := nd_p0
  have hDc : va_D A (dw_P a ac ()) := nd_d0
  have hKc : va_K (dC, dI) vwCl (dk_P ac) s := nd_y0 hK
  have hFc : ∀ q, va_A (dw_P a ac ()) H.size q → A q := nd_r0 hS hA
  refine nd_cSi (As := [.int v0, .int 2, .int 5]) (rest := []) (q := q4) (w' := dw_P a ac s5) ⟨hx, hb, hml, hown, hts⟩ (fun sz => dm_X16_part l hlt dC dI a ac n (v0) (2) (5) () hq sz) (cwS 3 hts gi_dm_X16_two_0 rfl rfl rfl (by decide +kernel) ⟨Nat.le_of_ble_eq_true rfl, Nat.le_of_ble_eq_true rfl⟩) hPc hDc hKc hS hA hN rfl hl.1 rfl (Nat.le_of_ble_eq_true rfl) dX16_two_11 (fun H locs hP1 hD1 hk1 hS => ?_)
  have hP := nd_n0 hP hk1
  refine lv_istore_n (lv' := [(3, .int q4), (2, .int q1), (0, .int v0), (1, .int v1)]) hx hb dX16_two_14 rfl hl (by decide) rfl (fun ls hl => ?_)
  refine lv_iload_n hx hb dX16_two_15 rfl (lv_at hl 2 rfl) ?_
  refine lv_bipush (v := 12) hx hb dX16_two_16 (by decide) ?_
  refine lv_iconst (v := 1) hx hb dX16_two_18 (by decide) ?_
  obtain ⟨q7, s8, hq, h⟩ := nd_b2_e h
  have hPc : va_P (dC, dI) vwCl (dw_P a ac ()) H := nd_p0
  have hDc : va_D A (dw_P a ac ()) := nd_d0
  have hKc : va_K (dC, dI) vwCl (dk_P ac) s := nd_y0 hK
  have hFc : ∀ q, va_A (dw_P a ac ()) H.size q → A q := nd_r0 hS hA
  refine nd_cSi (As := [.int v0, .int 12, .int 1]) (rest := []) (q := q7) (w' := dw_P a ac s8) ⟨hx, hb, hml, hown, hts⟩ (fun sz => dm_X16_part l hlt dC dI a ac n (v0) (12) (1) () hq sz) (cwS 3 hts gi_dm_X16_two_0 rfl rfl rfl (by decide +kernel) ⟨Nat.le_of_ble_eq_true rfl, Nat.le_of_ble_eq_true rfl⟩) hPc hDc hKc hS hA hN rfl hl.1 rfl (Nat.le_of_ble_eq_true rfl) dX16_two_19 (fun H locs hP1 hD1 hk1 hS => ?_)
  have hP := nd_n0 hP hk1
  refine lv_iconst (v := 1) hx hb dX16_two_22 (by decide) ?_
  refine lv_icmp_ne (tgt := 30) hx hb dX16_two_23 (by decide) (fun c10 => ?_) (fun c10 => ?_)
  · have h := nd_neg h c10
    refine lv_iconst (v := 0) hx hb dX16_two_30 (by decide) ?_
    exact (db_X16_two_31 C K) (v0) (v1) (q1) (q4) (0) s0 _ _ _ h hP hD hS (lv_sub hl [2, 3, 1, 0] rfl)
  · have h := nd_pos h c10
    refine lv_iconst (v := 1) hx hb dX16_two_26 (by decide) ?_
    refine lv_goto (tgt := 31) hx hb dX16_two_27 (by decide) ?_
    exact (db_X16_two_31 C K) (v0) (v1) (q1) (q4) (1) s0 _ _ _ h hP hD hS (lv_sub hl [2, 3, 1, 0] rfl)
set_option maxHeartbeats 40000000 in
set_option maxRecDepth 100000 in
theorem dm_X16_two (l : Launch) (hlt : l.stackTraces = false) (dC : Nat → ClassId) (dI : Nat → Nat → Nat) (a : Nat → Nat) (ac : Nat → ClassId) (n : Nat) (v0 : Int32) (v1 : Int32) (s0 : Unit) {r : Int32 × (Unit)} (h : df_X16_two n v0 v1 s0 = some r) (sz : Nat) : Met l yX16_two ow_dm_X16_two ({ frames := 3, cells := 0, slots := 0, locals := 67 }) (va_Pc [.int v0, .int v1] (fun U => U.heap.size = sz ∧ va_P (dC, dI) vwCl (dw_P a ac s0) U.heap ∧ va_K (dC, dI) vwCl (dk_P ac) U ∧ va_D (fun _ => True) (dw_P a ac s0) ∧ nv_E dI (va_A (dw_P a ac s0) sz) U)) (va_Qi (fun x _ => x = r.1) (fun (_ : Unit) t => va_P (dC, dI) vwCl (dw_P a ac r.2) t.heap ∧ va_K (dC, dI) vwCl (dk_P ac) t ∧ va_D (va_A (dw_P a ac s0) sz) (dw_P a ac r.2)) (va_A (dw_P a ac s0) sz)) 0 0 (va_A (dw_P a ac s0) sz) := by
  refine Met.ofW (cc := cX16_two) (maxL := 7) (ret := (some .int)) (by decide) rfl ?_
  intro p e s m args below meth c s₁ B hml hv
  obtain ⟨rfl, hsz, hP, hK, hD0, hN⟩ := hv
  have hx := B.exec
  have hb := B.bytes
  have hr := B.returns
  have hts := atoms_spec (ws := ow_dm_X16_two) B.pre
  have hown : s.vm.findClass RX16 = some m.cls := findClass_of_methodNamed B.named
  have hlocks := B.notSynchronized
  subst hsz
  have hD := hD0.self (sz := s.heap.size)
  generalize hAe : va_A (dw_P a ac s0) s.heap.size = A at hD hN ⊢
  have hA : ∀ q : Nat, s.heap.size ≤ q → A q := fun q h => by rw [← hAe]; exact Or.inr h
  have hl := lv_entry ([.int v0, .int v1]) (n := 7) (Nat.le_of_ble_eq_true rfl)
  rw [lg_entry_eq]
  generalize (lg_sl ([.int v0, .int v1]) ++ List.replicate (7 - (lg_sl ([.int v0, .int v1])).length) Slot.unset).toArray = ls at hl ⊢
  have hl : lv_has ls 7 [(0, .int v0), (1, .int v1)] := hl
  exact db_X16_two_0 (dC := dC) (dI := dI) (a := a) (ac := ac) (n := n) (r := r) ⟨hlt, hx, hb, hml, hown, hts, hN, hA, hK⟩ (fun pc v τ H locs ls d z er hP hD hS => by subst er; exact W.zret (v := v) hx hb hr z (fun t ht hW => ⟨⟨v, (), rfl, rfl, by rw [ht]; exact hP, va_K.moved hW.alike hK, hD⟩, hS.F ht⟩) hS.2.2 d) v0 v1 s0 _ _ _ h hP hD va_S.rf (lv_sub hl [0, 1] rfl)
def ow_dm_X16_signed : List Cond := Cond.code yX16_signed cX16_signed 2 (some .int) :: ([] ++ [])
theorem gd_dm_X16_signed : ∀ w ∈ ow_dm_X16_signed, (w.onTables && w.keeps) = true ∨ ∃ ty, w = Cond.arrayClass ty := List.forall_mem_cons.mpr ⟨good_of_word rfl, List.forall_mem_append.mpr ⟨fun w h => good_of_word (List.all_eq_true.mp (by decide +kernel) w h), fun _ h => nomatch h⟩⟩
def dj_X16_signed_0 (p : Program) (l : Launch) (e : Env) (s : State) (m : MethodId) (args : Array Value) (below : List Frame) (meth : Method) (c : Code) (Q : State → Prop) (A : Nat → Prop) (dC : Nat → ClassId) (dI : Nat → Nat → Nat) (a : Nat → Nat) (ac : Nat → ClassId) (g : Int32 → Int32 → (Unit) → Option (Int32 × (Unit))) (r : Int32 × (Unit)) : Prop := ∀ (v0 : Int32) (v1 : Int32) (s0 : Unit) (H : Heap) (locs : List Loc) (ls : Array Slot), g v0 v1 s0 = some r → va_P (dC, dI) vwCl (dw_P a ac s0) H → va_D A (dw_P a ac s0) → va_S A s.heap H locs → lv_has ls 2 [(0, .int v0), (1, .int v1)] → W p l e (headSpec ow_dm_X16_signed ({ frames := 0, cells := 0, slots := 0, locals := 0 })).room s m args below meth c H locs 0 0 Q (F0 m 0 ls [])
set_option maxHeartbeats 40000000 in
set_option maxRecDepth 100000 in
theorem db_X16_signed_0 {p : Program} {l : Launch} {e : Env} {s : State} {m : MethodId} {args : Array Value} {below : List Frame} {meth : Method} {c : Code} {Q : State → Prop} {A : Nat → Prop} {dC : Nat → ClassId} {dI : Nat → Nat → Nat} {a : Nat → Nat} {ac : Nat → ClassId} {n : Nat} {r : Int32 × (Unit)} (C : nd_C p l s m args c A (dC, dI) cX16_signed 2 RX16 ow_dm_X16_signed (dk_P ac)) (K : nd_Ki p l e (headSpec ow_dm_X16_signed ({ frames := 0, cells := 0, slots := 0, locals := 0 })).room s m args below meth c Q A (dC, dI) cX16_signed .int (Unit) (dw_P a ac) r) : dj_X16_signed_0 p l e s m args below meth c Q A dC dI a ac (df_X16_signed_0 n) r := by
  obtain ⟨hlt, hx, hb, hml, hown, hts, hN, hA, hK⟩ := id C
  intro v0 v1 s0 H locs ls h hP hD hS hl
  unfold df_X16_signed_0 at h
  refine lv_iload_n hx hb dX16_signed_0 rfl (lv_at hl 0 rfl) ?_
  refine lv_bipush (v := 32) hx hb dX16_signed_1 (by decide) ?_
  refine lv_iload_n hx hb dX16_signed_3 rfl (lv_at hl 1 rfl) ?_
  refine lv_isub hx hb dX16_signed_4 ?_
  refine lv_ishl hx hb dX16_signed_5 ?_
  refine lv_bipush (v := 32) hx hb dX16_signed_6 (by decide) ?_
  refine lv_iload_n hx hb dX16_signed_8 rfl (lv_at hl 1 rfl) ?_
  refine lv_isub hx hb dX16_signed_9 ?_
  refine lv_ishr hx hb dX16_signed_10 ?_
  exact K _ _ _ _ _ _ dX16_signed_11 rfl (Option.some.inj h).symm hP hD hS
set_option maxHeartbeats 40000000 in
set_option maxRecDepth 100000 in
theorem dm_X16_signed (l : Launch) (hlt : l.stackTraces = false) (dC : Nat → ClassId) (dI : Nat → Nat → Nat) (a : Nat → Nat) (ac : Nat → ClassId) (n : Nat) (v0 : Int32) (v1 : Int32) (s0 : Unit) {r : Int32 × (Unit)} (h : df_X16_signed n v0 v1 s0 = some r) (sz : Nat) : Met l yX16_signed ow_dm_X16_signed ({ frames := 0, cells := 0, slots := 0, locals := 0 }) (va_Pc [.int v0, .int v1] (fun U => U.heap.size = sz ∧ va_P (dC, dI) vwCl (dw_P a ac s0) U.heap ∧ va_K (dC, dI) vwCl (dk_P ac) U ∧ va_D (fun _ => True) (dw_P a ac s0) ∧ nv_E dI (va_A (dw_P a ac s0) sz) U)) (va_Qi (fun x _ => x = r.1) (fun (_ : Unit) t => va_P (dC, dI) vwCl (dw_P a ac r.2) t.heap ∧ va_K (dC, dI) vwCl (dk_P ac) t ∧ va_D (va_A (dw_P a ac s0) sz) (dw_P a ac r.2)) (va_A (dw_P a ac s0) sz)) 0 0 (va_A (dw_P a ac s0) sz) := by
  refine Met.ofW (cc := cX16_signed) (maxL := 2) (ret := (some .int)) (by decide) rfl ?_
  intro p e s m args below meth c s₁ B hml hv
  obtain ⟨rfl, hsz, hP, hK, hD0, hN⟩ := hv
  have hx := B.exec
  have hb := B.bytes
  have hr := B.returns
  have hts := atoms_spec (ws := ow_dm_X16_signed) B.pre
  have hown : s.vm.findClass RX16 = some m.cls := findClass_of_methodNamed B.named
  have hlocks := B.notSynchronized
  subst hsz
  have hD := hD0.self (sz := s.heap.size)
  generalize hAe : va_A (dw_P a ac s0) s.heap.size = A at hD hN ⊢
  have hA : ∀ q : Nat, s.heap.size ≤ q → A q := fun q h => by rw [← hAe]; exact Or.inr h
  have hl := lv_entry ([.int v0, .int v1]) (n := 2) (Nat.le_of_ble_eq_true rfl)
  rw [lg_entry_eq]
  generalize (lg_sl ([.int v0, .int v1]) ++ List.replicate (2 - (lg_sl ([.int v0, .int v1])).length) Slot.unset).toArray = ls at hl ⊢
  have hl : lv_has ls 2 [(0, .int v0), (1, .int v1)] := hl
  exact db_X16_signed_0 (dC := dC) (dI := dI) (a := a) (ac := ac) (n := n) (r := r) ⟨hlt, hx, hb, hml, hown, hts, hN, hA, hK⟩ (fun pc v τ H locs ls d z er hP hD hS => by subst er; exact W.zret (v := v) hx hb hr z (fun t ht hW => ⟨⟨v, (), rfl, rfl, by rw [ht]; exact hP, va_K.moved hW.alike hK, hD⟩, hS.F ht⟩) hS.2.2 d) v0 v1 s0 _ _ _ h hP hD va_S.rf (lv_sub hl [0, 1] rfl)
def ow_dm_X16_link : List Cond := Cond.code yX16_link cX16_link 2 (some .int) :: ([Cond.methodLink RX16 300 yX16_bit, Cond.static yX16_bit, Cond.initialized RX16] ++ (ow_dm_X16_bit ++ []))
theorem gd_dm_X16_link : ∀ w ∈ ow_dm_X16_link, (w.onTables && w.keeps) = true ∨ ∃ ty, w = Cond.arrayClass ty := List.forall_mem_cons.mpr ⟨good_of_word rfl, List.forall_mem_append.mpr ⟨fun w h => good_of_word (List.all_eq_true.mp (by decide +kernel) w h), List.forall_mem_append.mpr ⟨gd_dm_X16_bit, fun _ h => nomatch h⟩⟩⟩
theorem gi_dm_X16_link_0 : GoodIn ow_dm_X16_link (wsS RX16 300 yX16_bit ow_dm_X16_bit) := goodIn_app (goodIn_of _ (by decide +kernel)) (fun w h => ⟨List.mem_cons_of_mem _ (List.mem_append_right _ (List.mem_append_left _ h)), gd_dm_X16_bit w h⟩)
def dj_X16_link_0 (p : Program) (l : Launch) (e : Env) (s : State) (m : MethodId) (args : Array Value) (below : List Frame) (meth : Method) (c : Code) (Q : State → Prop) (A : Nat → Prop) (dC : Nat → ClassId) (dI : Nat → Nat → Nat) (a : Nat → Nat) (ac : Nat → ClassId) (g : Int32 → Int32 → (Unit) → Option (Int32 × (Unit))) (r : Int32 × (Unit)) : Prop := ∀ (v0 : Int32) (v1 : Int32) (s0 : Unit) (H : Heap) (locs : List Loc) (ls : Array Slot), g v0 v1 s0 = some r → va_P (dC, dI) vwCl (dw_P a ac s0) H → va_D A (dw_P a ac s0) → va_S A s.heap H locs → lv_has ls 2 [(0, .int v0), (1, .int v1)] → W p l e (headSpec ow_dm_X16_link ({ frames := 2, cells := 0, slots := 0, locals := 45 })).room s m args below meth c H locs 0 0 Q (F0 m 0 ls [])
set_option maxHeartbeats 40000000 in
set_option maxRecDepth 100000 in
theorem db_X16_link_0 {p : Program} {l : Launch} {e : Env} {s : State} {m : MethodId} {args : Array Value} {below : List Frame} {meth : Method} {c : Code} {Q : State → Prop} {A : Nat → Prop} {dC : Nat → ClassId} {dI : Nat → Nat → Nat} {a : Nat → Nat} {ac : Nat → ClassId} {n : Nat} {r : Int32 × (Unit)} (C : nd_C p l s m args c A (dC, dI) cX16_link 2 RX16 ow_dm_X16_link (dk_P ac)) (K : nd_Ki p l e (headSpec ow_dm_X16_link ({ frames := 2, cells := 0, slots := 0, locals := 45 })).room s m args below meth c Q A (dC, dI) cX16_link .int (Unit) (dw_P a ac) r) : dj_X16_link_0 p l e s m args below meth c Q A dC dI a ac (df_X16_link_0 n) r := by
  obtain ⟨hlt, hx, hb, hml, hown, hts, hN, hA, hK⟩ := id C
  intro v0 v1 s0 H locs ls h hP hD hS hl
  unfold df_X16_link_0 at h
  refine lv_bipush (v := 111) hx hb dX16_link_0 (by decide) ?_
  refine lv_iload_n hx hb dX16_link_2 rfl (lv_at hl 0 rfl) ?_
  refine lv_bipush (v := 7) hx hb dX16_link_3 (by decide) ?_
  refine lv_ishl hx hb dX16_link_5 ?_
  refine lv_ior hx hb dX16_link_6 ?_
  refine lv_iload_n hx hb dX16_link_7 rfl (lv_at hl 1 rfl) ?_
  refine lv_bipush (v := 12) hx hb dX16_link_8 (by decide) ?_
  refine lv_bipush (v := 8) hx hb dX16_link_10 (by decide) ?_
  refine lv_bipush (v := 12) hx hb dX16_link_12 (by decide) ?_
  obtain ⟨q1, s2, hq, h⟩ := nd_b2_e h
  have hPc : va_P (dC, dI) vwCl (dw_P a ac ()) H := nd_p0
  have hDc : va_D A (dw_P a ac ()) := nd_d0
  have hKc : va_K (dC, dI) vwCl (dk_P ac) s := nd_y0 hK
  have hFc : ∀ q, va_A (dw_P a ac ()) H.size q → A q := nd_r0 hS hA
  refine nd_cSi (As := [.int v1, .int 12, .int 8, .int 12]) (rest := [.int (111 ||| ((v0 : Int32) <<< ((7 : Int32) &&& 31)))]) (q := q1) (w' := dw_P a ac s2) ⟨hx, hb, hml, hown, hts⟩ (fun sz => dm_X16_bit l hlt dC dI a ac n (v1) (12) (8) (12) () hq sz) (cwS 4 hts gi_dm_X16_link_0 rfl rfl rfl (by decide +kernel) ⟨Nat.le_of_ble_eq_true rfl, Nat.le_of_ble_eq_true rfl⟩) hPc hDc hKc hS hA hN rfl hl.1 rfl (Nat.le_of_ble_eq_true rfl) dX16_link_14 (fun H locs hP1 hD1 hk1 hS => ?_)
  have hP := nd_n0 hP hk1
  refine lv_ior hx hb dX16_link_17 ?_
  refine lv_iload_n hx hb dX16_link_18 rfl (lv_at hl 1 rfl) ?_
  refine lv_bipush (v := 11) hx hb dX16_link_19 (by decide) ?_
  refine lv_iconst (v := 1) hx hb dX16_link_21 (by decide) ?_
  refine lv_bipush (v := 20) hx hb dX16_link_22 (by decide) ?_
  obtain ⟨q4, s5, hq, h⟩ := nd_b2_e h
  have hPc : va_P (dC, dI) vwCl (dw_P a ac ()) H := nd_p0
  have hDc : va_D A (dw_P a ac ()) := nd_d0
  have hKc : va_K (dC, dI) vwCl (dk_P ac) s := nd_y0 hK
  have hFc : ∀ q, va_A (dw_P a ac ()) H.size q → A q := nd_r0 hS hA
  refine nd_cSi (As := [.int v1, .int 11, .int 1, .int 20]) (rest := [.int ((111 ||| ((v0 : Int32) <<< ((7 : Int32) &&& 31))) ||| q1)]) (q := q4) (w' := dw_P a ac s5) ⟨hx, hb, hml, hown, hts⟩ (fun sz => dm_X16_bit l hlt dC dI a ac n (v1) (11) (1) (20) () hq sz) (cwS 4 hts gi_dm_X16_link_0 rfl rfl rfl (by decide +kernel) ⟨Nat.le_of_ble_eq_true rfl, Nat.le_of_ble_eq_true rfl⟩) hPc hDc hKc hS hA hN rfl hl.1 rfl (Nat.le_of_ble_eq_true rfl) dX16_link_24 (fun H locs hP1 hD1 hk1 hS => ?_)
  have hP := nd_n0 hP hk1
  refine lv_ior hx hb dX16_link_27 ?_
  refine lv_iload_n hx hb dX16_link_28 rfl (lv_at hl 1 rfl) ?_
  refine lv_iconst (v := 1) hx hb dX16_link_29 (by decide) ?_
  refine lv_bipush (v := 10) hx hb dX16_link_30 (by decide) ?_
  refine lv_bipush (v := 21) hx hb dX16_link_32 (by decide) ?_
  obtain ⟨q7, s8, hq, h⟩ := nd_b2_e h
  have hPc : va_P (dC, dI) vwCl (dw_P a ac ()) H := nd_p0
  have hDc : va_D A (dw_P a ac ()) := nd_d0
  have hKc : va_K (dC, dI) vwCl (dk_P ac) s := nd_y0 hK
  have hFc : ∀ q, va_A (dw_P a ac ()) H.size q → A q := nd_r0 hS hA
  refine nd_cSi (As := [.int v1, .int 1, .int 10, .int 21]) (rest := [.int (((111 ||| ((v0 : Int32) <<< ((7 : Int32) &&& 31))) ||| q1) ||| q4)]) (q := q7) (w' := dw_P a ac s8) ⟨hx, hb, hml, hown, hts⟩ (fun sz => dm_X16_bit l hlt dC dI a ac n (v1) (1) (10) (21) () hq sz) (cwS 4 hts gi_dm_X16_link_0 rfl rfl rfl (by decide +kernel) ⟨Nat.le_of_ble_eq_true rfl, Nat.le_of_ble_eq_true rfl⟩) hPc hDc hKc hS hA hN rfl hl.1 rfl (Nat.le_of_ble_eq_true rfl) dX16_link_34 (fun H locs hP1 hD1 hk1 hS => ?_)
  have hP := nd_n0 hP hk1
  refine lv_ior hx hb dX16_link_37 ?_
  refine lv_iload_n hx hb dX16_link_38 rfl (lv_at hl 1 rfl) ?_
  refine lv_bipush (v := 20) hx hb dX16_link_39 (by decide) ?_
  refine lv_iconst (v := 1) hx hb dX16_link_41 (by decide) ?_
  refine lv_bipush (v := 31) hx hb dX16_link_42 (by decide) ?_
  obtain ⟨q10, s11, hq, h⟩ := nd_b2_e h
  have hPc : va_P (dC, dI) vwCl (dw_P a ac ()) H := nd_p0
  have hDc : va_D A (dw_P a ac ()) := nd_d0
  have hKc : va_K (dC, dI) vwCl (dk_P ac) s := nd_y0 hK
  have hFc : ∀ q, va_A (dw_P a ac ()) H.size q → A q := nd_r0 hS hA
  refine nd_cSi (As := [.int v1, .int 20, .int 1, .int 31]) (rest := [.int ((((111 ||| ((v0 : Int32) <<< ((7 : Int32) &&& 31))) ||| q1) ||| q4) ||| q7)]) (q := q10) (w' := dw_P a ac s11) ⟨hx, hb, hml, hown, hts⟩ (fun sz => dm_X16_bit l hlt dC dI a ac n (v1) (20) (1) (31) () hq sz) (cwS 4 hts gi_dm_X16_link_0 rfl rfl rfl (by decide +kernel) ⟨Nat.le_of_ble_eq_true rfl, Nat.le_of_ble_eq_true rfl⟩) hPc hDc hKc hS hA hN rfl hl.1 rfl (Nat.le_of_ble_eq_true rfl) dX16_link_44 (fun H locs hP1 hD1 hk1 hS => ?_)
  have hP := nd_n0 hP hk1
  refine lv_ior hx hb dX16_link_47 ?_
  exact K _ _ _ _ _ _ dX16_link_48 rfl (Option.some.inj h).symm hP hD hS
set_option maxHeartbeats 40000000 in
set_option maxRecDepth 100000 in
theorem dm_X16_link (l : Launch) (hlt : l.stackTraces = false) (dC : Nat → ClassId) (dI : Nat → Nat → Nat) (a : Nat → Nat) (ac : Nat → ClassId) (n : Nat) (v0 : Int32) (v1 : Int32) (s0 : Unit) {r : Int32 × (Unit)} (h : df_X16_link n v0 v1 s0 = some r) (sz : Nat) : Met l yX16_link ow_dm_X16_link ({ frames := 2, cells := 0, slots := 0, locals := 45 }) (va_Pc [.int v0, .int v1] (fun U => U.heap.size = sz ∧ va_P (dC, dI) vwCl (dw_P a ac s0) U.heap ∧ va_K (dC, dI) vwCl (dk_P ac) U ∧ va_D (fun _ => True) (dw_P a ac s0) ∧ nv_E dI (va_A (dw_P a ac s0) sz) U)) (va_Qi (fun x _ => x = r.1) (fun (_ : Unit) t => va_P (dC, dI) vwCl (dw_P a ac r.2) t.heap ∧ va_K (dC, dI) vwCl (dk_P ac) t ∧ va_D (va_A (dw_P a ac s0) sz) (dw_P a ac r.2)) (va_A (dw_P a ac s0) sz)) 0 0 (va_A (dw_P a ac s0) sz) := by
  refine Met.ofW (cc := cX16_link) (maxL := 2) (ret := (some .int)) (by decide) rfl ?_
  intro p e s m args below meth c s₁ B hml hv
  obtain ⟨rfl, hsz, hP, hK, hD0, hN⟩ := hv
  have hx := B.exec
  have hb := B.bytes
  have hr := B.returns
  have hts := atoms_spec (ws := ow_dm_X16_link) B.pre
  have hown : s.vm.findClass RX16 = some m.cls := findClass_of_methodNamed B.named
  have hlocks := B.notSynchronized
  subst hsz
  have hD := hD0.self (sz := s.heap.size)
  generalize hAe : va_A (dw_P a ac s0) s.heap.size = A at hD hN ⊢
  have hA : ∀ q : Nat, s.heap.size ≤ q → A q := fun q h => by rw [← hAe]; exact Or.inr h
  have hl := lv_entry ([.int v0, .int v1]) (n := 2) (Nat.le_of_ble_eq_true rfl)
  rw [lg_entry_eq]
  generalize (lg_sl ([.int v0, .int v1]) ++ List.replicate (2 - (lg_sl ([.int v0, .int v1])).length) Slot.unset).toArray = ls at hl ⊢
  have hl : lv_has ls 2 [(0, .int v0), (1, .int v1)] := hl
  exact db_X16_link_0 (dC := dC) (dI := dI) (a := a) (ac := ac) (n := n) (r := r) ⟨hlt, hx, hb, hml, hown, hts, hN, hA, hK⟩ (fun pc v τ H locs ls d z er hP hD hS => by subst er; exact W.zret (v := v) hx hb hr z (fun t ht hW => ⟨⟨v, (), rfl, rfl, by rw [ht]; exact hP, va_K.moved hW.alike hK, hD⟩, hS.F ht⟩) hS.2.2 d) v0 v1 s0 _ _ _ h hP hD va_S.rf (lv_sub hl [0, 1] rfl)
def ow_dm_X16_four : List Cond := Cond.code yX16_four cX16_four 6 (some .int) :: ([Cond.methodLink RX16 297 yX16_part, Cond.static yX16_part, Cond.initialized RX16, Cond.methodLink RX16 332 yX16_threes, Cond.static yX16_threes, Cond.methodLink RX16 313 yX16_immediate, Cond.static yX16_immediate] ++ (ow_dm_X16_part ++ (ow_dm_X16_threes ++ (ow_dm_X16_immediate ++ []))))
theorem gd_dm_X16_four : ∀ w ∈ ow_dm_X16_four, (w.onTables && w.keeps) = true ∨ ∃ ty, w = Cond.arrayClass ty := List.forall_mem_cons.mpr ⟨good_of_word rfl, List.forall_mem_append.mpr ⟨fun w h => good_of_word (List.all_eq_true.mp (by decide +kernel) w h), List.forall_mem_append.mpr ⟨gd_dm_X16_part, List.forall_mem_append.mpr ⟨gd_dm_X16_threes, List.forall_mem_append.mpr ⟨gd_dm_X16_immediate, fun _ h => nomatch h⟩⟩⟩⟩⟩
theorem gi_dm_X16_four_0 : GoodIn ow_dm_X16_four (wsS RX16 297 yX16_part ow_dm_X16_part) := goodIn_app (goodIn_of _ (by decide +kernel)) (fun w h => ⟨List.mem_cons_of_mem _ (List.mem_append_right _ (List.mem_append_left _ h)), gd_dm_X16_part w h⟩)
theorem gi_dm_X16_four_1 : GoodIn ow_dm_X16_four (wsS RX16 332 yX16_threes ow_dm_X16_threes) := goodIn_app (goodIn_of _ (by decide +kernel)) (fun w h => ⟨List.mem_cons_of_mem _ (List.mem_append_right _ (List.mem_append_right _ (List.mem_append_left _ h))), gd_dm_X16_threes w h⟩)
theorem gi_dm_X16_four_2 : GoodIn ow_dm_X16_four (wsS RX16 313 yX16_immediate ow_dm_X16_immediate) := goodIn_app (goodIn_of _ (by decide +kernel)) (fun w h => ⟨List.mem_cons_of_mem _ (List.mem_append_right _ (List.mem_append_right _ (List.mem_append_right _ (List.mem_append_left _ h)))), gd_dm_X16_immediate w h⟩)
def dj_X16_four_133 (p : Program) (l : Launch) (e : Env) (s : State) (m : MethodId) (args : Array Value) (below : List Frame) (meth : Method) (c : Code) (Q : State → Prop) (A : Nat → Prop) (dC : Nat → ClassId) (dI : Nat → Nat → Nat) (a : Nat → Nat) (ac : Nat → ClassId) (g : Int32 → (Unit) → Option (Int32 × (Unit))) (r : Int32 × (Unit)) : Prop := ∀ (y0 : Int32) (s0 : Unit) (H : Heap) (locs : List Loc) (ls : Array Slot), g y0 s0 = some r → va_P (dC, dI) vwCl (dw_P a ac s0) H → va_D A (dw_P a ac s0) → va_S A s.heap H locs → lv_has ls 6 [] → W p l e (headSpec ow_dm_X16_four ({ frames := 1, cells := 0, slots := 0, locals := 24 })).room s m args below meth c H locs 0 0 Q (F0 m 133 ls [.int y0])
def dj_X16_four_126 (p : Program) (l : Launch) (e : Env) (s : State) (m : MethodId) (args : Array Value) (below : List Frame) (meth : Method) (c : Code) (Q : State → Prop) (A : Nat → Prop) (dC : Nat → ClassId) (dI : Nat → Nat → Nat) (a : Nat → Nat) (ac : Nat → ClassId) (g : Int32 → Int32 → Int32 → (Unit) → Option (Int32 × (Unit))) (r : Int32 × (Unit)) : Prop := ∀ (x2 : Int32) (x3 : Int32) (y0 : Int32) (s0 : Unit) (H : Heap) (locs : List Loc) (ls : Array Slot), g x2 x3 y0 s0 = some r → va_P (dC, dI) vwCl (dw_P a ac s0) H → va_D A (dw_P a ac s0) → va_S A s.heap H locs → lv_has ls 6 [(2, .int x2), (3, .int x3)] → W p l e (headSpec ow_dm_X16_four ({ frames := 1, cells := 0, slots := 0, locals := 24 })).room s m args below meth c H locs 0 0 Q (F0 m 126 ls [.int y0])
def dj_X16_four_0 (p : Program) (l : Launch) (e : Env) (s : State) (m : MethodId) (args : Array Value) (below : List Frame) (meth : Method) (c : Code) (Q : State → Prop) (A : Nat → Prop) (dC : Nat → ClassId) (dI : Nat → Nat → Nat) (a : Nat → Nat) (ac : Nat → ClassId) (g : Int32 → Int32 → (Unit) → Option (Int32 × (Unit))) (r : Int32 × (Unit)) : Prop := ∀ (v0 : Int32) (v1 : Int32) (s0 : Unit) (H : Heap) (locs : List Loc) (ls : Array Slot), g v0 v1 s0 = some r → va_P (dC, dI) vwCl (dw_P a ac s0) H → va_D A (dw_P a ac s0) → va_S A s.heap H locs → lv_has ls 6 [(0, .int v0), (1, .int v1)] → W p l e (headSpec ow_dm_X16_four ({ frames := 1, cells := 0, slots := 0, locals := 24 })).room s m args below meth c H locs 0 0 Q (F0 m 0 ls [])
set_option maxHeartbeats 40000000 in
set_option maxRecDepth 100000 in
theorem db_X16_four_133 {p : Program} {l : Launch} {e : Env} {s : State} {m : MethodId} {args : Array Value} {below : List Frame} {meth : Method} {c : Code} {Q : State → Prop} {A : Nat → Prop} {dC : Nat → ClassId} {dI : Nat → Nat → Nat} {a : Nat → Nat} {ac : Nat → ClassId} {n : Nat} {r : Int32 × (Unit)} (C : nd_C p l s m args c A (dC, dI) cX16_four 6 RX16 ow_dm_X16_four (dk_P ac)) (K : nd_Ki p l e (headSpec ow_dm_X16_four ({ frames := 1, cells := 0, slots := 0, locals := 24 })).room s m args below meth c Q A (dC, dI) cX16_four .int (Unit) (dw_P a ac) r) : dj_X16_four_133 p l e s m args below meth c Q A dC dI a ac (df_X16_four_133 n) r := by
  obtain ⟨hlt, hx, hb, hml, hown, hts, hN, hA, hK⟩ := id C
  intro y0 s0 H locs ls h hP hD hS hl
  unfold df_X16_four_133 at h
  exact K _ _ _ _ _ _ dX16_four_133 rfl (Option.some.inj h).symm hP hD hS
set_option maxHeartbeats 40000000 in
set_option maxRecDepth 100000 in
theorem db_X16_four_126 {p : Program} {l : Launch} {e : Env} {s : State} {m : MethodId} {args : Array Value} {below : List Frame} {meth : Method} {c : Code} {Q : State → Prop} {A : Nat → Prop} {dC : Nat → ClassId} {dI : Nat → Nat → Nat} {a : Nat → Nat} {ac : Nat → ClassId} {n : Nat} {r : Int32 × (Unit)} (C : nd_C p l s m args c A (dC, dI) cX16_four 6 RX16 ow_dm_X16_four (dk_P ac)) (K : nd_Ki p l e (headSpec ow_dm_X16_four ({ frames := 1, cells := 0, slots := 0, locals := 24 })).room s m args below meth c Q A (dC, dI) cX16_four .int (Unit) (dw_P a ac) r) : dj_X16_four_126 p l e s m args below meth c Q A dC dI a ac (df_X16_four_126 n) r := by
  obtain ⟨hlt, hx, hb, hml, hown, hts, hN, hA, hK⟩ := id C
  intro x2 x3 y0 s0 H locs ls h hP hD hS hl
  unfold df_X16_four_126 at h
  refine lv_iconst (v := 0) hx hb dX16_four_126 (by decide) ?_
  refine lv_iload_n hx hb dX16_four_127 rfl (lv_at hl 0 rfl) ?_
  refine lv_iload_n hx hb dX16_four_128 rfl (lv_at hl 0 rfl) ?_
  refine lv_iload_n hx hb dX16_four_129 rfl (lv_at hl 1 rfl) ?_
  obtain ⟨q23, s24, hq, h⟩ := nd_b2_e h
  have hPc : va_P (dC, dI) vwCl (dw_P a ac ()) H := nd_p0
  have hDc : va_D A (dw_P a ac ()) := nd_d0
  have hKc : va_K (dC, dI) vwCl (dk_P ac) s := nd_y0 hK
  have hFc : ∀ q, va_A (dw_P a ac ()) H.size q → A q := nd_r0 hS hA
  refine nd_cSi (As := [.int y0, .int 0, .int x2, .int x2, .int x3]) (rest := []) (q := q23) (w' := dw_P a ac s24) ⟨hx, hb, hml, hown, hts⟩ (fun sz => dm_X16_threes l hlt dC dI a ac n (y0) (0) (x2) (x2) (x3) () hq sz) (cwS 5 hts gi_dm_X16_four_1 rfl rfl rfl (by decide +kernel) ⟨Nat.le_of_ble_eq_true rfl, Nat.le_of_ble_eq_true rfl⟩) hPc hDc hKc hS hA hN rfl hl.1 rfl (Nat.le_of_ble_eq_true rfl) dX16_four_130 (fun H locs hP1 hD1 hk1 hS => ?_)
  have hP := nd_n0 hP hk1
  exact (db_X16_four_133 C K) (q23) s0 _ _ _ h hP hD hS (lv_sub hl [] rfl)
set_option maxHeartbeats 40000000 in
set_option maxRecDepth 100000 in
theorem db_X16_four_0 {p : Program} {l : Launch} {e : Env} {s : State} {m : MethodId} {args : Array Value} {below : List Frame} {meth : Method} {c : Code} {Q : State → Prop} {A : Nat → Prop} {dC : Nat → ClassId} {dI : Nat → Nat → Nat} {a : Nat → Nat} {ac : Nat → ClassId} {n : Nat} {r : Int32 × (Unit)} (C : nd_C p l s m args c A (dC, dI) cX16_four 6 RX16 ow_dm_X16_four (dk_P ac)) (K : nd_Ki p l e (headSpec ow_dm_X16_four ({ frames := 1, cells := 0, slots := 0, locals := 24 })).room s m args below meth c Q A (dC, dI) cX16_four .int (Unit) (dw_P a ac) r) : dj_X16_four_0 p l e s m args below meth c Q A dC dI a ac (df_X16_four_0 n) r := by
  obtain ⟨hlt, hx, hb, hml, hown, hts, hN, hA, hK⟩ := id C
  intro v0 v1 s0 H locs ls h hP hD hS hl
  unfold df_X16_four_0 at h
  refine lv_bipush (v := 8) hx hb dX16_four_0 (by decide) ?_
  refine lv_iload_n hx hb dX16_four_2 rfl (lv_at hl 0 rfl) ?_
  refine lv_bipush (v := 7) hx hb dX16_four_3 (by decide) ?_
  refine lv_iconst (v := 3) hx hb dX16_four_5 (by decide) ?_
  obtain ⟨q1, s2, hq, h⟩ := nd_b2_e h
  have hPc : va_P (dC, dI) vwCl (dw_P a ac ()) H := nd_p0
  have hDc : va_D A (dw_P a ac ()) := nd_d0
  have hKc : va_K (dC, dI) vwCl (dk_P ac) s := nd_y0 hK
  have hFc : ∀ q, va_A (dw_P a ac ()) H.size q → A q := nd_r0 hS hA
  refine nd_cSi (As := [.int v0, .int 7, .int 3]) (rest := [.int 8]) (q := q1) (w' := dw_P a ac s2) ⟨hx, hb, hml, hown, hts⟩ (fun sz => dm_X16_part l hlt dC dI a ac n (v0) (7) (3) () hq sz) (cwS 3 hts gi_dm_X16_four_0 rfl rfl rfl (by decide +kernel) ⟨Nat.le_of_ble_eq_true rfl, Nat.le_of_ble_eq_true rfl⟩) hPc hDc hKc hS hA hN rfl hl.1 rfl (Nat.le_of_ble_eq_true rfl) dX16_four_6 (fun H locs hP1 hD1 hk1 hS => ?_)
  have hP := nd_n0 hP hk1
  refine lv_iadd hx hb dX16_four_9 ?_
  refine lv_topi (fun z4 ez4 => ?_)
  have h := nd_at h ez4
  refine lv_istore_n (lv' := [(2, .int z4), (0, .int v0), (1, .int v1)]) hx hb dX16_four_10 rfl hl (by decide) rfl (fun ls hl => ?_)
  refine lv_bipush (v := 8) hx hb dX16_four_11 (by decide) ?_
  refine lv_iload_n hx hb dX16_four_13 rfl (lv_at hl 1 rfl) ?_
  refine lv_iconst (v := 2) hx hb dX16_four_14 (by decide) ?_
  refine lv_iconst (v := 3) hx hb dX16_four_15 (by decide) ?_
  obtain ⟨q5, s6, hq, h⟩ := nd_b2_e h
  have hPc : va_P (dC, dI) vwCl (dw_P a ac ()) H := nd_p0
  have hDc : va_D A (dw_P a ac ()) := nd_d0
  have hKc : va_K (dC, dI) vwCl (dk_P ac) s := nd_y0 hK
  have hFc : ∀ q, va_A (dw_P a ac ()) H.size q → A q := nd_r0 hS hA
  refine nd_cSi (As := [.int v0, .int 2, .int 3]) (rest := [.int 8]) (q := q5) (w' := dw_P a ac s6) ⟨hx, hb, hml, hown, hts⟩ (fun sz => dm_X16_part l hlt dC dI a ac n (v0) (2) (3) () hq sz) (cwS 3 hts gi_dm_X16_four_0 rfl rfl rfl (by decide +kernel) ⟨Nat.le_of_ble_eq_true rfl, Nat.le_of_ble_eq_true rfl⟩) hPc hDc hKc hS hA hN rfl hl.1 rfl (Nat.le_of_ble_eq_true rfl) dX16_four_16 (fun H locs hP1 hD1 hk1 hS => ?_)
  have hP := nd_n0 hP hk1
  refine lv_iadd hx hb dX16_four_19 ?_
  refine lv_topi (fun z8 ez8 => ?_)
  have h := nd_at h ez8
  refine lv_istore_n (lv' := [(3, .int z8), (2, .int z4), (0, .int v0), (1, .int v1)]) hx hb dX16_four_20 rfl hl (by decide) rfl (fun ls hl => ?_)
  refine lv_iload_n hx hb dX16_four_21 rfl (lv_at hl 2 rfl) ?_
  refine lv_bipush (v := 10) hx hb dX16_four_22 (by decide) ?_
  refine lv_iconst (v := 2) hx hb dX16_four_24 (by decide) ?_
  obtain ⟨q9, s10, hq, h⟩ := nd_b2_e h
  have hPc : va_P (dC, dI) vwCl (dw_P a ac ()) H := nd_p0
  have hDc : va_D A (dw_P a ac ()) := nd_d0
  have hKc : va_K (dC, dI) vwCl (dk_P ac) s := nd_y0 hK
  have hFc : ∀ q, va_A (dw_P a ac ()) H.size q → A q := nd_r0 hS hA
  refine nd_cSi (As := [.int v0, .int 10, .int 2]) (rest := []) (q := q9) (w' := dw_P a ac s10) ⟨hx, hb, hml, hown, hts⟩ (fun sz => dm_X16_part l hlt dC dI a ac n (v0) (10) (2) () hq sz) (cwS 3 hts gi_dm_X16_four_0 rfl rfl rfl (by decide +kernel) ⟨Nat.le_of_ble_eq_true rfl, Nat.le_of_ble_eq_true rfl⟩) hPc hDc hKc hS hA hN rfl hl.1 rfl (Nat.le_of_ble_eq_true rfl) dX16_four_25 (fun H locs hP1 hD1 hk1 hS => ?_)
  have hP := nd_n0 hP hk1
  refine lv_istore (lv' := [(4, .int q9), (3, .int z8), (2, .int z4), (0, .int v0), (1, .int v1)]) hx hb dX16_four_28 hl (by decide) rfl (fun ls hl => ?_)
  refine lv_iload_n hx hb dX16_four_30 rfl (lv_at hl 3 rfl) ?_
  refine lv_iconst (v := 5) hx hb dX16_four_31 (by decide) ?_
  refine lv_iconst (v := 2) hx hb dX16_four_32 (by decide) ?_
  obtain ⟨q12, s13, hq, h⟩ := nd_b2_e h
  have hPc : va_P (dC, dI) vwCl (dw_P a ac ()) H := nd_p0
  have hDc : va_D A (dw_P a ac ()) := nd_d0
  have hKc : va_K (dC, dI) vwCl (dk_P ac) s := nd_y0 hK
  have hFc : ∀ q, va_A (dw_P a ac ()) H.size q → A q := nd_r0 hS hA
  refine nd_cSi (As := [.int v0, .int 5, .int 2]) (rest := []) (q := q12) (w' := dw_P a ac s13) ⟨hx, hb, hml, hown, hts⟩ (fun sz => dm_X16_part l hlt dC dI a ac n (v0) (5) (2) () hq sz) (cwS 3 hts gi_dm_X16_four_0 rfl rfl rfl (by decide +kernel) ⟨Nat.le_of_ble_eq_true rfl, Nat.le_of_ble_eq_true rfl⟩) hPc hDc hKc hS hA hN rfl hl.1 rfl (Nat.le_of_ble_eq_true rfl) dX16_four_33 (fun H locs hP1 hD1 hk1 hS => ?_)
  have hP := nd_n0 hP hk1
  refine lv_istore (lv' := [(5, .int q12), (4, .int q9), (3, .int z8), (2, .int z4), (0, .int v0), (1, .int v1)]) hx hb dX16_four_36 hl (by decide) rfl (fun ls hl => ?_)
  refine lv_iload hx hb dX16_four_38 (lv_at hl 1 rfl) ?_
  refine lv_iconst (v := 2) hx hb dX16_four_40 (by decide) ?_
  refine lv_icmp_ne (tgt := 55) hx hb dX16_four_41 (by decide) (fun c15 => ?_) (fun c15 => ?_)
  · have h := nd_neg h c15
    refine lv_iload_n hx hb dX16_four_55 rfl (lv_at hl 4 rfl) ?_
    refine lv_bipush (v := 12) hx hb dX16_four_56 (by decide) ?_
    refine lv_iconst (v := 1) hx hb dX16_four_58 (by decide) ?_
    obtain ⟨q16, s17, hq, h⟩ := nd_b2_e h
    have hPc : va_P (dC, dI) vwCl (dw_P a ac ()) H := nd_p0
    have hDc : va_D A (dw_P a ac ()) := nd_d0
    have hKc : va_K (dC, dI) vwCl (dk_P ac) s := nd_y0 hK
    have hFc : ∀ q, va_A (dw_P a ac ()) H.size q → A q := nd_r0 hS hA
    refine nd_cSi (As := [.int v0, .int 12, .int 1]) (rest := []) (q := q16) (w' := dw_P a ac s17) ⟨hx, hb, hml, hown, hts⟩ (fun sz => dm_X16_part l hlt dC dI a ac n (v0) (12) (1) () hq sz) (cwS 3 hts gi_dm_X16_four_0 rfl rfl rfl (by decide +kernel) ⟨Nat.le_of_ble_eq_true rfl, Nat.le_of_ble_eq_true rfl⟩) hPc hDc hKc hS hA hN rfl hl.1 rfl (Nat.le_of_ble_eq_true rfl) dX16_four_59 (fun H locs hP1 hD1 hk1 hS => ?_)
    have hP := nd_n0 hP hk1
    refine lv_iconst (v := 1) hx hb dX16_four_62 (by decide) ?_
    refine lv_icmp_ne (tgt := 68) hx hb dX16_four_63 (by decide) (fun c19 => ?_) (fun c19 => ?_)
    · have h := nd_neg h c19
      refine lv_iload hx hb dX16_four_68 (lv_at hl 1 rfl) ?_
      refine lv_iconst (v := 2) hx hb dX16_four_70 (by decide) ?_
      refine lv_icmp_ge (tgt := 95) hx hb dX16_four_71 (by decide) (fun c20 => ?_) (fun c20 => ?_)
      · have h := nd_pos h c20
        refine lv_iload hx hb dX16_four_95 (lv_at hl 0 rfl) ?_
        refine lv_if_ne (tgt := 112) hx hb dX16_four_97 (by decide) (fun c21 => ?_) (fun c21 => ?_)
        · have h := nd_neg h c21
          refine lv_iload hx hb dX16_four_112 (lv_at hl 0 rfl) ?_
          refine lv_iconst (v := 1) hx hb dX16_four_114 (by decide) ?_
          refine lv_icmp_ne (tgt := 122) hx hb dX16_four_115 (by decide) (fun c22 => ?_) (fun c22 => ?_)
          · have h := nd_neg h c22
            refine lv_iload hx hb dX16_four_122 (lv_at hl 0 rfl) ?_
            refine lv_iconst (v := 4) hx hb dX16_four_124 (by decide) ?_
            refine lv_iadd hx hb dX16_four_125 ?_
            exact (db_X16_four_126 C K) (z4) (z8) ((q12 + 4)) s0 _ _ _ h hP hD hS (lv_sub hl [3, 2] rfl)
          · have h := nd_pos h c22
            refine lv_iconst (v := 4) hx hb dX16_four_118 (by decide) ?_
            refine lv_goto (tgt := 126) hx hb dX16_four_119 (by decide) ?_
            exact (db_X16_four_126 C K) (z4) (z8) (4) s0 _ _ _ h hP hD hS (lv_sub hl [3, 2] rfl)
        · have h := nd_pos h c21
          refine lv_iconst (v := 0) hx hb dX16_four_100 (by decide) ?_
          refine lv_bipush (v := 32) hx hb dX16_four_101 (by decide) ?_
          refine lv_iload_n hx hb dX16_four_103 rfl (lv_at hl 3 rfl) ?_
          refine lv_iload_n hx hb dX16_four_104 rfl (lv_at hl 3 rfl) ?_
          refine lv_iload_n hx hb dX16_four_105 rfl (lv_at hl 2 rfl) ?_
          obtain ⟨q26, s27, hq, h⟩ := nd_b2_e h
          have hPc : va_P (dC, dI) vwCl (dw_P a ac ()) H := nd_p0
          have hDc : va_D A (dw_P a ac ()) := nd_d0
          have hKc : va_K (dC, dI) vwCl (dk_P ac) s := nd_y0 hK
          have hFc : ∀ q, va_A (dw_P a ac ()) H.size q → A q := nd_r0 hS hA
          refine nd_cSi (As := [.int 0, .int 32, .int z4, .int z4, .int z8]) (rest := []) (q := q26) (w' := dw_P a ac s27) ⟨hx, hb, hml, hown, hts⟩ (fun sz => dm_X16_threes l hlt dC dI a ac n (0) (32) (z4) (z4) (z8) () hq sz) (cwS 5 hts gi_dm_X16_four_1 rfl rfl rfl (by decide +kernel) ⟨Nat.le_of_ble_eq_true rfl, Nat.le_of_ble_eq_true rfl⟩) hPc hDc hKc hS hA hN rfl hl.1 rfl (Nat.le_of_ble_eq_true rfl) dX16_four_106 (fun H locs hP1 hD1 hk1 hS => ?_)
          have hP := nd_n0 hP hk1
          refine lv_goto (tgt := 133) hx hb dX16_four_109 (by decide) ?_
          exact (db_X16_four_133 C K) (q26) s0 _ _ _ h hP hD hS (lv_sub hl [] rfl)
      · have h := nd_neg h c20
        refine lv_bipush (v := 19) hx hb dX16_four_74 (by decide) ?_
        refine lv_iconst (v := 5) hx hb dX16_four_76 (by decide) ?_
        refine lv_iload_n hx hb dX16_four_77 rfl (lv_at hl 3 rfl) ?_
        refine lv_iload_n hx hb dX16_four_78 rfl (lv_at hl 3 rfl) ?_
        refine lv_iload_n hx hb dX16_four_79 rfl (lv_at hl 4 rfl) ?_
        refine lv_iconst (v := 2) hx hb dX16_four_80 (by decide) ?_
        refine lv_iconst (v := 5) hx hb dX16_four_81 (by decide) ?_
        obtain ⟨q29, s30, hq, h⟩ := nd_b2_e h
        have hPc : va_P (dC, dI) vwCl (dw_P a ac ()) H := nd_p0
        have hDc : va_D A (dw_P a ac ()) := nd_d0
        have hKc : va_K (dC, dI) vwCl (dk_P ac) s := nd_y0 hK
        have hFc : ∀ q, va_A (dw_P a ac ()) H.size q → A q := nd_r0 hS hA
        refine nd_cSi (As := [.int v0, .int 2, .int 5]) (rest := [.int z4, .int z4, .int 5, .int 19]) (q := q29) (w' := dw_P a ac s30) ⟨hx, hb, hml, hown, hts⟩ (fun sz => dm_X16_part l hlt dC dI a ac n (v0) (2) (5) () hq sz) (cwS 3 hts gi_dm_X16_four_0 rfl rfl rfl (by decide +kernel) ⟨Nat.le_of_ble_eq_true rfl, Nat.le_of_ble_eq_true rfl⟩) hPc hDc hKc hS hA hN rfl hl.1 rfl (Nat.le_of_ble_eq_true rfl) dX16_four_82 (fun H locs hP1 hD1 hk1 hS => ?_)
        have hP := nd_n0 hP hk1
        refine lv_iload hx hb dX16_four_85 (lv_at hl 1 rfl) ?_
        refine lv_bipush (v := 10) hx hb dX16_four_87 (by decide) ?_
        refine lv_ishl hx hb dX16_four_89 ?_
        refine lv_ior hx hb dX16_four_90 ?_
        obtain ⟨q32, s33, hq, h⟩ := nd_b2_e h
        have hPc : va_P (dC, dI) vwCl (dw_P a ac ()) H := nd_p0
        have hDc : va_D A (dw_P a ac ()) := nd_d0
        have hKc : va_K (dC, dI) vwCl (dk_P ac) s := nd_y0 hK
        have hFc : ∀ q, va_A (dw_P a ac ()) H.size q → A q := nd_r0 hS hA
        refine nd_cSi (As := [.int 19, .int 5, .int z4, .int z4, .int (q29 ||| ((q9 : Int32) <<< ((10 : Int32) &&& 31)))]) (rest := []) (q := q32) (w' := dw_P a ac s33) ⟨hx, hb, hml, hown, hts⟩ (fun sz => dm_X16_immediate l hlt dC dI a ac n (19) (5) (z4) (z4) ((q29 ||| ((q9 : Int32) <<< ((10 : Int32) &&& 31)))) () hq sz) (cwS 5 hts gi_dm_X16_four_2 rfl rfl rfl (by decide +kernel) ⟨Nat.le_of_ble_eq_true rfl, Nat.le_of_ble_eq_true rfl⟩) hPc hDc hKc hS hA hN rfl hl.1 rfl (Nat.le_of_ble_eq_true rfl) dX16_four_91 (fun H locs hP1 hD1 hk1 hS => ?_)
        have hP := nd_n0 hP hk1
        exact K _ _ _ _ _ _ dX16_four_94 rfl (Option.some.inj h).symm hP hD hS
    · have h := nd_pos h c19
      refine lv_iconst (v := 0) hx hb dX16_four_66 (by decide) ?_
      exact K _ _ _ _ _ _ dX16_four_67 rfl (Option.some.inj h).symm hP hD hS
  · have h := nd_pos h c15
    refine lv_bipush (v := 19) hx hb dX16_four_44 (by decide) ?_
    refine lv_bipush (v := 7) hx hb dX16_four_46 (by decide) ?_
    refine lv_iload_n hx hb dX16_four_48 rfl (lv_at hl 3 rfl) ?_
    refine lv_iload_n hx hb dX16_four_49 rfl (lv_at hl 3 rfl) ?_
    refine lv_iload_n hx hb dX16_four_50 rfl (lv_at hl 5 rfl) ?_
    obtain ⟨q35, s36, hq, h⟩ := nd_b2_e h
    have hPc : va_P (dC, dI) vwCl (dw_P a ac ()) H := nd_p0
    have hDc : va_D A (dw_P a ac ()) := nd_d0
    have hKc : va_K (dC, dI) vwCl (dk_P ac) s := nd_y0 hK
    have hFc : ∀ q, va_A (dw_P a ac ()) H.size q → A q := nd_r0 hS hA
    refine nd_cSi (As := [.int 19, .int 7, .int z4, .int z4, .int v1]) (rest := []) (q := q35) (w' := dw_P a ac s36) ⟨hx, hb, hml, hown, hts⟩ (fun sz => dm_X16_immediate l hlt dC dI a ac n (19) (7) (z4) (z4) (v1) () hq sz) (cwS 5 hts gi_dm_X16_four_2 rfl rfl rfl (by decide +kernel) ⟨Nat.le_of_ble_eq_true rfl, Nat.le_of_ble_eq_true rfl⟩) hPc hDc hKc hS hA hN rfl hl.1 rfl (Nat.le_of_ble_eq_true rfl) dX16_four_51 (fun H locs hP1 hD1 hk1 hS => ?_)
    have hP := nd_n0 hP hk1
    exact K _ _ _ _ _ _ dX16_four_54 rfl (Option.some.inj h).symm hP hD hS
set_option maxHeartbeats 40000000 in
set_option maxRecDepth 100000 in
theorem dm_X16_four (l : Launch) (hlt : l.stackTraces = false) (dC : Nat → ClassId) (dI : Nat → Nat → Nat) (a : Nat → Nat) (ac : Nat → ClassId) (n : Nat) (v0 : Int32) (v1 : Int32) (s0 : Unit) {r : Int32 × (Unit)} (h : df_X16_four n v0 v1 s0 = some r) (sz : Nat) : Met l yX16_four ow_dm_X16_four ({ frames := 1, cells := 0, slots := 0, locals := 24 }) (va_Pc [.int v0, .int v1] (fun U => U.heap.size = sz ∧ va_P (dC, dI) vwCl (dw_P a ac s0) U.heap ∧ va_K (dC, dI) vwCl (dk_P ac) U ∧ va_D (fun _ => True) (dw_P a ac s0) ∧ nv_E dI (va_A (dw_P a ac s0) sz) U)) (va_Qi (fun x _ => x = r.1) (fun (_ : Unit) t => va_P (dC, dI) vwCl (dw_P a ac r.2) t.heap ∧ va_K (dC, dI) vwCl (dk_P ac) t ∧ va_D (va_A (dw_P a ac s0) sz) (dw_P a ac r.2)) (va_A (dw_P a ac s0) sz)) 0 0 (va_A (dw_P a ac s0) sz) := by
  refine Met.ofW (cc := cX16_four) (maxL := 6) (ret := (some .int)) (by decide) rfl ?_
  intro p e s m args below meth c s₁ B hml hv
  obtain ⟨rfl, hsz, hP, hK, hD0, hN⟩ := hv
  have hx := B.exec
  have hb := B.bytes
  have hr := B.returns
  have hts := atoms_spec (ws := ow_dm_X16_four) B.pre
  have hown : s.vm.findClass RX16 = some m.cls := findClass_of_methodNamed B.named
  have hlocks := B.notSynchronized
  subst hsz
  have hD := hD0.self (sz := s.heap.size)
  generalize hAe : va_A (dw_P a ac s0) s.heap.size = A at hD hN ⊢
  have hA : ∀ q : Nat, s.heap.size ≤ q → A q := fun q h => by rw [← hAe]; exact Or.inr h
  have hl := lv_entry ([.int v0, .int v1]) (n := 6) (Nat.le_of_ble_eq_true rfl)
  rw [lg_entry_eq]
  generalize (lg_sl ([.int v0, .int v1]) ++ List.replicate (6 - (lg_sl ([.int v0, .int v1])).length) Slot.unset).toArray = ls at hl ⊢
  have hl : lv_has ls 6 [(0, .int v0), (1, .int v1)] := hl
  exact db_X16_four_0 (dC := dC) (dI := dI) (a := a) (ac := ac) (n := n) (r := r) ⟨hlt, hx, hb, hml, hown, hts, hN, hA, hK⟩ (fun pc v τ H locs ls d z er hP hD hS => by subst er; exact W.zret (v := v) hx hb hr z (fun t ht hW => ⟨⟨v, (), rfl, rfl, by rw [ht]; exact hP, va_K.moved hW.alike hK, hD⟩, hS.F ht⟩) hS.2.2 d) v0 v1 s0 _ _ _ h hP hD va_S.rf (lv_sub hl [0, 1] rfl)
def ow_dm_X16_branch : List Cond := Cond.code yX16_branch cX16_branch 3 (some .int) :: ([Cond.methodLink RX16 300 yX16_bit, Cond.static yX16_bit, Cond.initialized RX16] ++ (ow_dm_X16_bit ++ []))
theorem gd_dm_X16_branch : ∀ w ∈ ow_dm_X16_branch, (w.onTables && w.keeps) = true ∨ ∃ ty, w = Cond.arrayClass ty := List.forall_mem_cons.mpr ⟨good_of_word rfl, List.forall_mem_append.mpr ⟨fun w h => good_of_word (List.all_eq_true.mp (by decide +kernel) w h), List.forall_mem_append.mpr ⟨gd_dm_X16_bit, fun _ h => nomatch h⟩⟩⟩
theorem gi_dm_X16_branch_0 : GoodIn ow_dm_X16_branch (wsS RX16 300 yX16_bit ow_dm_X16_bit) := goodIn_app (goodIn_of _ (by decide +kernel)) (fun w h => ⟨List.mem_cons_of_mem _ (List.mem_append_right _ (List.mem_append_left _ h)), gd_dm_X16_bit w h⟩)
def dj_X16_branch_0 (p : Program) (l : Launch) (e : Env) (s : State) (m : MethodId) (args : Array Value) (below : List Frame) (meth : Method) (c : Code) (Q : State → Prop) (A : Nat → Prop) (dC : Nat → ClassId) (dI : Nat → Nat → Nat) (a : Nat → Nat) (ac : Nat → ClassId) (g : Int32 → Int32 → Int32 → (Unit) → Option (Int32 × (Unit))) (r : Int32 × (Unit)) : Prop := ∀ (v0 : Int32) (v1 : Int32) (v2 : Int32) (s0 : Unit) (H : Heap) (locs : List Loc) (ls : Array Slot), g v0 v1 v2 s0 = some r → va_P (dC, dI) vwCl (dw_P a ac s0) H → va_D A (dw_P a ac s0) → va_S A s.heap H locs → lv_has ls 3 [(0, .int v0), (1, .int v1), (2, .int v2)] → W p l e (headSpec ow_dm_X16_branch ({ frames := 2, cells := 0, slots := 0, locals := 45 })).room s m args below meth c H locs 0 0 Q (F0 m 0 ls [])
set_option maxHeartbeats 40000000 in
set_option maxRecDepth 100000 in
theorem db_X16_branch_0 {p : Program} {l : Launch} {e : Env} {s : State} {m : MethodId} {args : Array Value} {below : List Frame} {meth : Method} {c : Code} {Q : State → Prop} {A : Nat → Prop} {dC : Nat → ClassId} {dI : Nat → Nat → Nat} {a : Nat → Nat} {ac : Nat → ClassId} {n : Nat} {r : Int32 × (Unit)} (C : nd_C p l s m args c A (dC, dI) cX16_branch 3 RX16 ow_dm_X16_branch (dk_P ac)) (K : nd_Ki p l e (headSpec ow_dm_X16_branch ({ frames := 2, cells := 0, slots := 0, locals := 45 })).room s m args below meth c Q A (dC, dI) cX16_branch .int (Unit) (dw_P a ac) r) : dj_X16_branch_0 p l e s m args below meth c Q A dC dI a ac (df_X16_branch_0 n) r := by
  obtain ⟨hlt, hx, hb, hml, hown, hts, hN, hA, hK⟩ := id C
  intro v0 v1 v2 s0 H locs ls h hP hD hS hl
  unfold df_X16_branch_0 at h
  refine lv_bipush (v := 99) hx hb dX16_branch_0 (by decide) ?_
  refine lv_iload_n hx hb dX16_branch_2 rfl (lv_at hl 2 rfl) ?_
  refine lv_bipush (v := 11) hx hb dX16_branch_3 (by decide) ?_
  refine lv_iconst (v := 1) hx hb dX16_branch_5 (by decide) ?_
  refine lv_bipush (v := 7) hx hb dX16_branch_6 (by decide) ?_
  obtain ⟨q1, s2, hq, h⟩ := nd_b2_e h
  have hPc : va_P (dC, dI) vwCl (dw_P a ac ()) H := nd_p0
  have hDc : va_D A (dw_P a ac ()) := nd_d0
  have hKc : va_K (dC, dI) vwCl (dk_P ac) s := nd_y0 hK
  have hFc : ∀ q, va_A (dw_P a ac ()) H.size q → A q := nd_r0 hS hA
  refine nd_cSi (As := [.int v2, .int 11, .int 1, .int 7]) (rest := [.int 99]) (q := q1) (w' := dw_P a ac s2) ⟨hx, hb, hml, hown, hts⟩ (fun sz => dm_X16_bit l hlt dC dI a ac n (v2) (11) (1) (7) () hq sz) (cwS 4 hts gi_dm_X16_branch_0 rfl rfl rfl (by decide +kernel) ⟨Nat.le_of_ble_eq_true rfl, Nat.le_of_ble_eq_true rfl⟩) hPc hDc hKc hS hA hN rfl hl.1 rfl (Nat.le_of_ble_eq_true rfl) dX16_branch_8 (fun H locs hP1 hD1 hk1 hS => ?_)
  have hP := nd_n0 hP hk1
  refine lv_ior hx hb dX16_branch_11 ?_
  refine lv_iload_n hx hb dX16_branch_12 rfl (lv_at hl 2 rfl) ?_
  refine lv_iconst (v := 1) hx hb dX16_branch_13 (by decide) ?_
  refine lv_iconst (v := 4) hx hb dX16_branch_14 (by decide) ?_
  refine lv_bipush (v := 8) hx hb dX16_branch_15 (by decide) ?_
  obtain ⟨q4, s5, hq, h⟩ := nd_b2_e h
  have hPc : va_P (dC, dI) vwCl (dw_P a ac ()) H := nd_p0
  have hDc : va_D A (dw_P a ac ()) := nd_d0
  have hKc : va_K (dC, dI) vwCl (dk_P ac) s := nd_y0 hK
  have hFc : ∀ q, va_A (dw_P a ac ()) H.size q → A q := nd_r0 hS hA
  refine nd_cSi (As := [.int v2, .int 1, .int 4, .int 8]) (rest := [.int (99 ||| q1)]) (q := q4) (w' := dw_P a ac s5) ⟨hx, hb, hml, hown, hts⟩ (fun sz => dm_X16_bit l hlt dC dI a ac n (v2) (1) (4) (8) () hq sz) (cwS 4 hts gi_dm_X16_branch_0 rfl rfl rfl (by decide +kernel) ⟨Nat.le_of_ble_eq_true rfl, Nat.le_of_ble_eq_true rfl⟩) hPc hDc hKc hS hA hN rfl hl.1 rfl (Nat.le_of_ble_eq_true rfl) dX16_branch_17 (fun H locs hP1 hD1 hk1 hS => ?_)
  have hP := nd_n0 hP hk1
  refine lv_ior hx hb dX16_branch_20 ?_
  refine lv_iload_n hx hb dX16_branch_21 rfl (lv_at hl 0 rfl) ?_
  refine lv_bipush (v := 12) hx hb dX16_branch_22 (by decide) ?_
  refine lv_ishl hx hb dX16_branch_24 ?_
  refine lv_ior hx hb dX16_branch_25 ?_
  refine lv_iload_n hx hb dX16_branch_26 rfl (lv_at hl 1 rfl) ?_
  refine lv_bipush (v := 15) hx hb dX16_branch_27 (by decide) ?_
  refine lv_ishl hx hb dX16_branch_29 ?_
  refine lv_ior hx hb dX16_branch_30 ?_
  refine lv_iload_n hx hb dX16_branch_31 rfl (lv_at hl 2 rfl) ?_
  refine lv_iconst (v := 5) hx hb dX16_branch_32 (by decide) ?_
  refine lv_bipush (v := 6) hx hb dX16_branch_33 (by decide) ?_
  refine lv_bipush (v := 25) hx hb dX16_branch_35 (by decide) ?_
  obtain ⟨q7, s8, hq, h⟩ := nd_b2_e h
  have hPc : va_P (dC, dI) vwCl (dw_P a ac ()) H := nd_p0
  have hDc : va_D A (dw_P a ac ()) := nd_d0
  have hKc : va_K (dC, dI) vwCl (dk_P ac) s := nd_y0 hK
  have hFc : ∀ q, va_A (dw_P a ac ()) H.size q → A q := nd_r0 hS hA
  refine nd_cSi (As := [.int v2, .int 5, .int 6, .int 25]) (rest := [.int ((((99 ||| q1) ||| q4) ||| ((v0 : Int32) <<< ((12 : Int32) &&& 31))) ||| ((v1 : Int32) <<< ((15 : Int32) &&& 31)))]) (q := q7) (w' := dw_P a ac s8) ⟨hx, hb, hml, hown, hts⟩ (fun sz => dm_X16_bit l hlt dC dI a ac n (v2) (5) (6) (25) () hq sz) (cwS 4 hts gi_dm_X16_branch_0 rfl rfl rfl (by decide +kernel) ⟨Nat.le_of_ble_eq_true rfl, Nat.le_of_ble_eq_true rfl⟩) hPc hDc hKc hS hA hN rfl hl.1 rfl (Nat.le_of_ble_eq_true rfl) dX16_branch_37 (fun H locs hP1 hD1 hk1 hS => ?_)
  have hP := nd_n0 hP hk1
  refine lv_ior hx hb dX16_branch_40 ?_
  refine lv_iload_n hx hb dX16_branch_41 rfl (lv_at hl 2 rfl) ?_
  refine lv_bipush (v := 12) hx hb dX16_branch_42 (by decide) ?_
  refine lv_iconst (v := 1) hx hb dX16_branch_44 (by decide) ?_
  refine lv_bipush (v := 31) hx hb dX16_branch_45 (by decide) ?_
  obtain ⟨q10, s11, hq, h⟩ := nd_b2_e h
  have hPc : va_P (dC, dI) vwCl (dw_P a ac ()) H := nd_p0
  have hDc : va_D A (dw_P a ac ()) := nd_d0
  have hKc : va_K (dC, dI) vwCl (dk_P ac) s := nd_y0 hK
  have hFc : ∀ q, va_A (dw_P a ac ()) H.size q → A q := nd_r0 hS hA
  refine nd_cSi (As := [.int v2, .int 12, .int 1, .int 31]) (rest := [.int (((((99 ||| q1) ||| q4) ||| ((v0 : Int32) <<< ((12 : Int32) &&& 31))) ||| ((v1 : Int32) <<< ((15 : Int32) &&& 31))) ||| q7)]) (q := q10) (w' := dw_P a ac s11) ⟨hx, hb, hml, hown, hts⟩ (fun sz => dm_X16_bit l hlt dC dI a ac n (v2) (12) (1) (31) () hq sz) (cwS 4 hts gi_dm_X16_branch_0 rfl rfl rfl (by decide +kernel) ⟨Nat.le_of_ble_eq_true rfl, Nat.le_of_ble_eq_true rfl⟩) hPc hDc hKc hS hA hN rfl hl.1 rfl (Nat.le_of_ble_eq_true rfl) dX16_branch_47 (fun H locs hP1 hD1 hk1 hS => ?_)
  have hP := nd_n0 hP hk1
  refine lv_ior hx hb dX16_branch_50 ?_
  exact K _ _ _ _ _ _ dX16_branch_51 rfl (Option.some.inj h).symm hP hD hS
set_option maxHeartbeats 40000000 in
set_option maxRecDepth 100000 in
theorem dm_X16_branch (l : Launch) (hlt : l.stackTraces = false) (dC : Nat → ClassId) (dI : Nat → Nat → Nat) (a : Nat → Nat) (ac : Nat → ClassId) (n : Nat) (v0 : Int32) (v1 : Int32) (v2 : Int32) (s0 : Unit) {r : Int32 × (Unit)} (h : df_X16_branch n v0 v1 v2 s0 = some r) (sz : Nat) : Met l yX16_branch ow_dm_X16_branch ({ frames := 2, cells := 0, slots := 0, locals := 45 }) (va_Pc [.int v0, .int v1, .int v2] (fun U => U.heap.size = sz ∧ va_P (dC, dI) vwCl (dw_P a ac s0) U.heap ∧ va_K (dC, dI) vwCl (dk_P ac) U ∧ va_D (fun _ => True) (dw_P a ac s0) ∧ nv_E dI (va_A (dw_P a ac s0) sz) U)) (va_Qi (fun x _ => x = r.1) (fun (_ : Unit) t => va_P (dC, dI) vwCl (dw_P a ac r.2) t.heap ∧ va_K (dC, dI) vwCl (dk_P ac) t ∧ va_D (va_A (dw_P a ac s0) sz) (dw_P a ac r.2)) (va_A (dw_P a ac s0) sz)) 0 0 (va_A (dw_P a ac s0) sz) := by
  refine Met.ofW (cc := cX16_branch) (maxL := 3) (ret := (some .int)) (by decide) rfl ?_
  intro p e s m args below meth c s₁ B hml hv
  obtain ⟨rfl, hsz, hP, hK, hD0, hN⟩ := hv
  have hx := B.exec
  have hb := B.bytes
  have hr := B.returns
  have hts := atoms_spec (ws := ow_dm_X16_branch) B.pre
  have hown : s.vm.findClass RX16 = some m.cls := findClass_of_methodNamed B.named
  have hlocks := B.notSynchronized
  subst hsz
  have hD := hD0.self (sz := s.heap.size)
  generalize hAe : va_A (dw_P a ac s0) s.heap.size = A at hD hN ⊢
  have hA : ∀ q : Nat, s.heap.size ≤ q → A q := fun q h => by rw [← hAe]; exact Or.inr h
  have hl := lv_entry ([.int v0, .int v1, .int v2]) (n := 3) (Nat.le_of_ble_eq_true rfl)
  rw [lg_entry_eq]
  generalize (lg_sl ([.int v0, .int v1, .int v2]) ++ List.replicate (3 - (lg_sl ([.int v0, .int v1, .int v2])).length) Slot.unset).toArray = ls at hl ⊢
  have hl : lv_has ls 3 [(0, .int v0), (1, .int v1), (2, .int v2)] := hl
  exact db_X16_branch_0 (dC := dC) (dI := dI) (a := a) (ac := ac) (n := n) (r := r) ⟨hlt, hx, hb, hml, hown, hts, hN, hA, hK⟩ (fun pc v τ H locs ls d z er hP hD hS => by subst er; exact W.zret (v := v) hx hb hr z (fun t ht hW => ⟨⟨v, (), rfl, rfl, by rw [ht]; exact hP, va_K.moved hW.alike hK, hD⟩, hS.F ht⟩) hS.2.2 d) v0 v1 v2 s0 _ _ _ h hP hD va_S.rf (lv_sub hl [0, 1, 2] rfl)
def ow_dm_X16_one : List Cond := Cond.code yX16_one cX16_one 7 (some .int) :: ([Cond.methodLink RX16 297 yX16_part, Cond.static yX16_part, Cond.initialized RX16, Cond.methodLink RX16 300 yX16_bit, Cond.static yX16_bit, Cond.methodLink RX16 320 yX16_signed, Cond.static yX16_signed, Cond.methodLink RX16 313 yX16_immediate, Cond.static yX16_immediate, Cond.methodLink RX16 323 yX16_link, Cond.static yX16_link, Cond.methodLink RX16 326 yX16_four, Cond.static yX16_four, Cond.methodLink RX16 329 yX16_branch, Cond.static yX16_branch] ++ (ow_dm_X16_part ++ (ow_dm_X16_bit ++ (ow_dm_X16_signed ++ (ow_dm_X16_immediate ++ (ow_dm_X16_link ++ (ow_dm_X16_four ++ (ow_dm_X16_branch ++ []))))))))
theorem gd_dm_X16_one : ∀ w ∈ ow_dm_X16_one, (w.onTables && w.keeps) = true ∨ ∃ ty, w = Cond.arrayClass ty := List.forall_mem_cons.mpr ⟨good_of_word rfl, List.forall_mem_append.mpr ⟨fun w h => good_of_word (List.all_eq_true.mp (by decide +kernel) w h), List.forall_mem_append.mpr ⟨gd_dm_X16_part, List.forall_mem_append.mpr ⟨gd_dm_X16_bit, List.forall_mem_append.mpr ⟨gd_dm_X16_signed, List.forall_mem_append.mpr ⟨gd_dm_X16_immediate, List.forall_mem_append.mpr ⟨gd_dm_X16_link, List.forall_mem_append.mpr ⟨gd_dm_X16_four, List.forall_mem_append.mpr ⟨gd_dm_X16_branch, fun _ h => nomatch h⟩⟩⟩⟩⟩⟩⟩⟩⟩
theorem gi_dm_X16_one_0 : GoodIn ow_dm_X16_one (wsS RX16 297 yX16_part ow_dm_X16_part) := goodIn_app (goodIn_of _ (by decide +kernel)) (fun w h => ⟨List.mem_cons_of_mem _ (List.mem_append_right _ (List.mem_append_left _ h)), gd_dm_X16_part w h⟩)
theorem gi_dm_X16_one_1 : GoodIn ow_dm_X16_one (wsS RX16 300 yX16_bit ow_dm_X16_bit) := goodIn_app (goodIn_of _ (by decide +kernel)) (fun w h => ⟨List.mem_cons_of_mem _ (List.mem_append_right _ (List.mem_append_right _ (List.mem_append_left _ h))), gd_dm_X16_bit w h⟩)
theorem gi_dm_X16_one_2 : GoodIn ow_dm_X16_one (wsS RX16 320 yX16_signed ow_dm_X16_signed) := goodIn_app (goodIn_of _ (by decide +kernel)) (fun w h => ⟨List.mem_cons_of_mem _ (List.mem_append_right _ (List.mem_append_right _ (List.mem_append_right _ (List.mem_append_left _ h)))), gd_dm_X16_signed w h⟩)
theorem gi_dm_X16_one_3 : GoodIn ow_dm_X16_one (wsS RX16 313 yX16_immediate ow_dm_X16_immediate) := goodIn_app (goodIn_of _ (by decide +kernel)) (fun w h => ⟨List.mem_cons_of_mem _ (List.mem_append_right _ (List.mem_append_right _ (List.mem_append_right _ (List.mem_append_right _ (List.mem_append_left _ h))))), gd_dm_X16_immediate w h⟩)
theorem gi_dm_X16_one_4 : GoodIn ow_dm_X16_one (wsS RX16 323 yX16_link ow_dm_X16_link) := goodIn_app (goodIn_of _ (by decide +kernel)) (fun w h => ⟨List.mem_cons_of_mem _ (List.mem_append_right _ (List.mem_append_right _ (List.mem_append_right _ (List.mem_append_right _ (List.mem_append_right _ (List.mem_append_left _ h)))))), gd_dm_X16_link w h⟩)
theorem gi_dm_X16_one_5 : GoodIn ow_dm_X16_one (wsS RX16 326 yX16_four ow_dm_X16_four) := goodIn_app (goodIn_of _ (by decide +kernel)) (fun w h => ⟨List.mem_cons_of_mem _ (List.mem_append_right _ (List.mem_append_right _ (List.mem_append_right _ (List.mem_append_right _ (List.mem_append_right _ (List.mem_append_right _ (List.mem_append_left _ h))))))), gd_dm_X16_four w h⟩)
theorem gi_dm_X16_one_6 : GoodIn ow_dm_X16_one (wsS RX16 329 yX16_branch ow_dm_X16_branch) := goodIn_app (goodIn_of _ (by decide +kernel)) (fun w h => ⟨List.mem_cons_of_mem _ (List.mem_append_right _ (List.mem_append_right _ (List.mem_append_right _ (List.mem_append_right _ (List.mem_append_right _ (List.mem_append_right _ (List.mem_append_right _ (List.mem_append_left _ h)))))))), gd_dm_X16_branch w h⟩)
def dj_X16_one_326 (p : Program) (l : Launch) (e : Env) (s : State) (m : MethodId) (args : Array Value) (below : List Frame) (meth : Method) (c : Code) (Q : State → Prop) (A : Nat → Prop) (dC : Nat → ClassId) (dI : Nat → Nat → Nat) (a : Nat → Nat) (ac : Nat → ClassId) (g : Int32 → (Unit) → Option (Int32 × (Unit))) (r : Int32 × (Unit)) : Prop := ∀ (y0 : Int32) (s0 : Unit) (H : Heap) (locs : List Loc) (ls : Array Slot), g y0 s0 = some r → va_P (dC, dI) vwCl (dw_P a ac s0) H → va_D A (dw_P a ac s0) → va_S A s.heap H locs → lv_has ls 7 [] → W p l e (headSpec ow_dm_X16_one ({ frames := 3, cells := 0, slots := 0, locals := 67 })).room s m args below meth c H locs 0 0 Q (F0 m 326 ls [.int y0])
def dj_X16_one_0 (p : Program) (l : Launch) (e : Env) (s : State) (m : MethodId) (args : Array Value) (below : List Frame) (meth : Method) (c : Code) (Q : State → Prop) (A : Nat → Prop) (dC : Nat → ClassId) (dI : Nat → Nat → Nat) (a : Nat → Nat) (ac : Nat → ClassId) (g : Int32 → Int32 → (Unit) → Option (Int32 × (Unit))) (r : Int32 × (Unit)) : Prop := ∀ (v0 : Int32) (v1 : Int32) (s0 : Unit) (H : Heap) (locs : List Loc) (ls : Array Slot), g v0 v1 s0 = some r → va_P (dC, dI) vwCl (dw_P a ac s0) H → va_D A (dw_P a ac s0) → va_S A s.heap H locs → lv_has ls 7 [(0, .int v0), (1, .int v1)] → W p l e (headSpec ow_dm_X16_one ({ frames := 3, cells := 0, slots := 0, locals := 67 })).room s m args below meth c H locs 0 0 Q (F0 m 0 ls [])
set_option maxHeartbeats 40000000 in
set_option maxRecDepth 100000 in
theorem db_X16_one_326 {p : Program} {l : Launch} {e : Env} {s : State} {m : MethodId} {args : Array Value} {below : List Frame} {meth : Method} {c : Code} {Q : State → Prop} {A : Nat → Prop} {dC : Nat → ClassId} {dI : Nat → Nat → Nat} {a : Nat → Nat} {ac : Nat → ClassId} {n : Nat} {r : Int32 × (Unit)} (C : nd_C p l s m args c A (dC, dI) cX16_one 7 RX16 ow_dm_X16_one (dk_P ac)) (K : nd_Ki p l e (headSpec ow_dm_X16_one ({ frames := 3, cells := 0, slots := 0, locals := 67 })).room s m args below meth c Q A (dC, dI) cX16_one .int (Unit) (dw_P a ac) r) : dj_X16_one_326 p l e s m args below meth c Q A dC dI a ac (df_X16_one_326 n) r := by
  obtain ⟨hlt, hx, hb, hml, hown, hts, hN, hA, hK⟩ := id C
  intro y0 s0 H locs ls h hP hD hS hl
  unfold df_X16_one_326 at h
  exact K _ _ _ _ _ _ dX16_one_326 rfl (Option.some.inj h).symm hP hD hS

