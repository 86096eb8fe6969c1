set_option maxHeartbeats 40000000 in
set_option maxRecDepth 100000 in
theorem db_X9_nameAt_0 {p : Program} {l : Launch} {e : Env} {s : State} {m : MethodId} {args : Array Value} {below : List Frame} {meth : Method} {c : Code} {Q : State → Prop} {A : Nat → Prop} {dC : Nat → ClassId} {dI : Nat → Nat → Nat} {a : Nat → Nat} {ac : Nat → ClassId} {n : Nat} {r : Int32 × (St)} (C : nd_C p l s m args c A (dC, dI) cX9_nameAt 9 RX9 ow_dm_X9_nameAt (dk_X9 ac)) (K : nd_Ki p l e (headSpec ow_dm_X9_nameAt ({ frames := 0, cells := 0, slots := 0, locals := 0 })).room s m args below meth c Q A (dC, dI) cX9_nameAt .int (St) (dw_X9 a ac) r) : dj_X9_nameAt_0 p l e s m args below meth c Q A dC dI a ac (df_X9_nameAt_0 n) r := by
  obtain ⟨hlt, hx, hb, hml, hown, hts, hN, hA, hK⟩ := id C
  intro v0 v1 s0 H locs ls h hP hD hS hl
  unfold df_X9_nameAt_0 at h
  refine lv_iconst (v := 0) hx hb dX9_nameAt_0 (by decide) ?_
  refine lv_istore_n (lv' := [(3, .int 0), (0, .ref (a 0)), (1, .int v0), (2, .int v1)]) hx hb dX9_nameAt_1 rfl hl (by decide) rfl (fun ls hl => ?_)
  refine lv_iconst (v := 0) hx hb dX9_nameAt_2 (by decide) ?_
  refine lv_istore (lv' := [(4, .int 0), (3, .int 0), (0, .ref (a 0)), (1, .int v0), (2, .int v1)]) hx hb dX9_nameAt_3 hl (by decide) rfl (fun ls hl => ?_)
  exact (db_X9_nameAt_5 C K n) (v0) (v1) (0) (0) s0 _ _ _ h hP hD hS (lv_sub hl [2, 3, 4, 1, 0] rfl)
set_option maxHeartbeats 40000000 in
set_option maxRecDepth 100000 in
theorem dm_X9_nameAt (l : Launch) (hlt : l.stackTraces = false) (dC : Nat → ClassId) (dI : Nat → Nat → Nat) (a : Nat → Nat) (ac : Nat → ClassId) (n : Nat) (v0 : Int32) (v1 : Int32) (s0 : St) {r : Int32 × (St)} (h : df_X9_nameAt n v0 v1 s0 = some r) (sz : Nat) : Met l yX9_nameAt ow_dm_X9_nameAt ({ frames := 0, cells := 0, slots := 0, locals := 0 }) (va_Pc [.ref (a 0), .int v0, .int v1] (fun U => U.heap.size = sz ∧ va_P (dC, dI) vwCl (dw_X9 a ac s0) U.heap ∧ va_K (dC, dI) vwCl (dk_X9 ac) U ∧ va_D (fun _ => True) (dw_X9 a ac s0) ∧ nv_E dI (va_A (dw_X9 a ac s0) sz) U)) (va_Qi (fun x _ => x = r.1) (fun (_ : Unit) t => va_P (dC, dI) vwCl (dw_X9 a ac r.2) t.heap ∧ va_K (dC, dI) vwCl (dk_X9 ac) t ∧ va_D (va_A (dw_X9 a ac s0) sz) (dw_X9 a ac r.2)) (va_A (dw_X9 a ac s0) sz)) 0 0 (va_A (dw_X9 a ac s0) sz) := by
  refine Met.ofW (cc := cX9_nameAt) (maxL := 9) (ret := (some .int)) (by decide) rfl ?_
  intro p e s m args below meth c s₁ B hml hv
  obtain ⟨rfl, hsz, hP, hK, hD0, hN⟩ := hv
  have hx := B.exec
  have hb := B.bytes
  have hr := B.returns
  have hts := atoms_spec (ws := ow_dm_X9_nameAt) B.pre
  have hown : s.vm.findClass RX9 = some m.cls := findClass_of_methodNamed B.named
  have hlocks := B.notSynchronized
  subst hsz
  have hD := hD0.self (sz := s.heap.size)
  generalize hAe : va_A (dw_X9 a ac s0) s.heap.size = A at hD hN ⊢
  have hA : ∀ q : Nat, s.heap.size ≤ q → A q := fun q h => by rw [← hAe]; exact Or.inr h
  have hl := lv_entry ([.ref (a 0), .int v0, .int v1]) (n := 9) (Nat.le_of_ble_eq_true rfl)
  rw [lg_entry_eq]
  generalize (lg_sl ([.ref (a 0), .int v0, .int v1]) ++ List.replicate (9 - (lg_sl ([.ref (a 0), .int v0, .int v1])).length) Slot.unset).toArray = ls at hl ⊢
  have hl : lv_has ls 9 [(0, .ref (a 0)), (1, .int v0), (2, .int v1)] := hl
  exact db_X9_nameAt_0 (dC := dC) (dI := dI) (a := a) (ac := ac) (n := n) (r := r) ⟨hlt, hx, hb, hml, hown, hts, hN, hA, hK⟩ (fun pc v τ H locs ls d z er hP hD hS => by subst er; exact W.zret (v := v) hx hb hr z (fun t ht hW => ⟨⟨v, (), rfl, rfl, by rw [ht]; exact hP, va_K.moved hW.alike hK, hD⟩, hS.F ht⟩) hS.2.2 d) v0 v1 s0 _ _ _ h hP hD va_S.rf (lv_sub hl [0, 1, 2] rfl)
def ow_dm_X9_isDefined : List Cond := Cond.code yX9_isDefined cX9_isDefined 2 (some .boolean) :: ([Cond.fieldLink RX9 27 "TimeMachine$Reader" "name" "[I"] ++ (u_ws RX9 TX9 20 ++ []))
theorem gd_dm_X9_isDefined : ∀ w ∈ ow_dm_X9_isDefined, (w.onTables && w.keeps) = true ∨ ∃ ty, w = Cond.arrayClass ty := List.forall_mem_cons.mpr ⟨good_of_word rfl, List.forall_mem_append.mpr ⟨fun w h => good_of_word (List.all_eq_true.mp (by decide +kernel) w h), List.forall_mem_append.mpr ⟨gu_X9, fun _ h => nomatch h⟩⟩⟩
theorem hi_dm_X9_isDefined_X9 : ∀ w ∈ u_ws RX9 TX9 20, w ∈ ow_dm_X9_isDefined := fun w h => List.mem_cons_of_mem _ (List.mem_append_right _ (List.mem_append_left _ h))
def dj_X9_isDefined_18 (p : Program) (l : Launch) (e : Env) (s : State) (m : MethodId) (args : Array Value) (below : List Frame) (meth : Method) (c : Code) (Q : State → Prop) (A : Nat → Prop) (dC : Nat → ClassId) (dI : Nat → Nat → Nat) (a : Nat → Nat) (ac : Nat → ClassId) (g : Int32 → (St) → Option (Int32 × (St))) (r : Int32 × (St)) : Prop := ∀ (y0 : Int32) (s0 : St) (H : Heap) (locs : List Loc) (ls : Array Slot), g y0 s0 = some r → va_P (dC, dI) vwCl (dw_X9 a ac s0) H → va_D A (dw_X9 a ac s0) → va_S A s.heap H locs → lv_has ls 2 [] → W p l e (headSpec ow_dm_X9_isDefined ({ frames := 0, cells := 0, slots := 0, locals := 0 })).room s m args below meth c H locs 0 0 Q (F0 m 18 ls [.int y0])
def dj_X9_isDefined_0 (p : Program) (l : Launch) (e : Env) (s : State) (m : MethodId) (args : Array Value) (below : List Frame) (meth : Method) (c : Code) (Q : State → Prop) (A : Nat → Prop) (dC : Nat → ClassId) (dI : Nat → Nat → Nat) (a : Nat → Nat) (ac : Nat → ClassId) (g : Int32 → (St) → Option (Int32 × (St))) (r : Int32 × (St)) : Prop := ∀ (v0 : Int32) (s0 : St) (H : Heap) (locs : List Loc) (ls : Array Slot), g v0 s0 = some r → va_P (dC, dI) vwCl (dw_X9 a ac s0) H → va_D A (dw_X9 a ac s0) → va_S A s.heap H locs → lv_has ls 2 [(0, .ref (a 0)), (1, .int v0)] → W p l e (headSpec ow_dm_X9_isDefined ({ frames := 0, cells := 0, slots := 0, locals := 0 })).room s m args below meth c H locs 0 0 Q (F0 m 0 ls [])
set_option maxHeartbeats 40000000 in
set_option maxRecDepth 100000 in
theorem db_X9_isDefined_18 {p : Program} {l : Launch} {e : Env} {s : State} {m : MethodId} {args : Array Value} {below : List Frame} {meth : Method} {c : Code} {Q : State → Prop} {A : Nat → Prop} {dC : Nat → ClassId} {dI : Nat → Nat → Nat} {a : Nat → Nat} {ac : Nat → ClassId} {n : Nat} {r : Int32 × (St)} (C : nd_C p l s m args c A (dC, dI) cX9_isDefined 2 RX9 ow_dm_X9_isDefined (dk_X9 ac)) (K : nd_Ki p l e (headSpec ow_dm_X9_isDefined ({ frames := 0, cells := 0, slots := 0, locals := 0 })).room s m args below meth c Q A (dC, dI) cX9_isDefined .boolean (St) (dw_X9 a ac) r) : dj_X9_isDefined_18 p l e s m args below meth c Q A dC dI a ac (df_X9_isDefined_18 n) r := by
  obtain ⟨hlt, hx, hb, hml, hown, hts, hN, hA, hK⟩ := id C
  intro y0 s0 H locs ls h hP hD hS hl
  unfold df_X9_isDefined_18 at h
  obtain ⟨n3, h⟩ := nd_z_e ⟨_, rfl⟩ h
  exact K _ _ _ _ _ _ dX9_isDefined_18 n3 (Option.some.inj h).symm hP hD hS
set_option maxHeartbeats 40000000 in
set_option maxRecDepth 100000 in
theorem db_X9_isDefined_0 {p : Program} {l : Launch} {e : Env} {s : State} {m : MethodId} {args : Array Value} {below : List Frame} {meth : Method} {c : Code} {Q : State → Prop} {A : Nat → Prop} {dC : Nat → ClassId} {dI : Nat → Nat → Nat} {a : Nat → Nat} {ac : Nat → ClassId} {n : Nat} {r : Int32 × (St)} (C : nd_C p l s m args c A (dC, dI) cX9_isDefined 2 RX9 ow_dm_X9_isDefined (dk_X9 ac)) (K : nd_Ki p l e (headSpec ow_dm_X9_isDefined ({ frames := 0, cells := 0, slots := 0, locals := 0 })).room s m args below meth c Q A (dC, dI) cX9_isDefined .boolean (St) (dw_X9 a ac) r) : dj_X9_isDefined_0 p l e s m args below meth c Q A dC dI a ac (df_X9_isDefined_0 n) r := by
  obtain ⟨hlt, hx, hb, hml, hown, hts, hN, hA, hK⟩ := id C
  intro v0 s0 H locs ls h hP hD hS hl
  unfold df_X9_isDefined_0 at h
  refine lv_aload_n hx hb dX9_isDefined_0 rfl (lv_at hl 0 rfl) ?_
  refine va_get (D := (dC, dI)) (ci := 10) (v := .ref (a 4)) (C := RX9) (T := TX9) (N := 20) hx hb hts hi_dm_X9_isDefined_X9 hown hK hP 0 rfl rfl 12 (by decide) (hts (.fieldLink RX9 27 "TimeMachine$Reader" "name" "[I") (List.mem_of_getElem? (i := 1) rfl)) (fun _ h9 => h9) rfl dX9_isDefined_1 ?_
  refine lv_iload_n hx hb dX9_isDefined_4 rfl (lv_at hl 1 rfl) ?_
  refine lv_iconst (v := 5) hx hb dX9_isDefined_5 (by decide) ?_
  refine lv_imul hx hb dX9_isDefined_6 ?_
  refine lv_iconst (v := 2) hx hb dX9_isDefined_7 (by decide) ?_
  refine lv_iadd hx hb dX9_isDefined_8 ?_
  obtain ⟨i1, h⟩ := nd_ck_e h
  refine va_iald (i := ((v0 * 5) + 2)) hx hb hK hP 4 3 rfl rfl i1 dX9_isDefined_9 ?_
  refine lv_if_eq (tgt := 17) hx hb dX9_isDefined_10 (by decide) (fun c2 => ?_) (fun c2 => ?_)
  · have h := nd_pos h c2
    refine lv_iconst (v := 0) hx hb dX9_isDefined_17 (by decide) ?_
    exact (db_X9_isDefined_18 C K) (0) s0 _ _ _ h hP hD hS (lv_sub hl [] rfl)
  · have h := nd_neg h c2
    refine lv_iconst (v := 1) hx hb dX9_isDefined_13 (by decide) ?_
    refine lv_goto (tgt := 18) hx hb dX9_isDefined_14 (by decide) ?_
    exact (db_X9_isDefined_18 C K) (1) s0 _ _ _ h hP hD hS (lv_sub hl [] rfl)
set_option maxHeartbeats 40000000 in
set_option maxRecDepth 100000 in
theorem dm_X9_isDefined (l : Launch) (hlt : l.stackTraces = false) (dC : Nat → ClassId) (dI : Nat → Nat → Nat) (a : Nat → Nat) (ac : Nat → ClassId) (n : Nat) (v0 : Int32) (s0 : St) {r : Int32 × (St)} (h : df_X9_isDefined n v0 s0 = some r) (sz : Nat) : Met l yX9_isDefined ow_dm_X9_isDefined ({ frames := 0, cells := 0, slots := 0, locals := 0 }) (va_Pc [.ref (a 0), .int v0] (fun U => U.heap.size = sz ∧ va_P (dC, dI) vwCl (dw_X9 a ac s0) U.heap ∧ va_K (dC, dI) vwCl (dk_X9 ac) U ∧ va_D (fun _ => True) (dw_X9 a ac s0) ∧ nv_E dI (va_A (dw_X9 a ac s0) sz) U)) (va_Qi (fun x _ => x = r.1) (fun (_ : Unit) t => va_P (dC, dI) vwCl (dw_X9 a ac r.2) t.heap ∧ va_K (dC, dI) vwCl (dk_X9 ac) t ∧ va_D (va_A (dw_X9 a ac s0) sz) (dw_X9 a ac r.2)) (va_A (dw_X9 a ac s0) sz)) 0 0 (va_A (dw_X9 a ac s0) sz) := by
  refine Met.ofW (cc := cX9_isDefined) (maxL := 2) (ret := (some .boolean)) (by decide) rfl ?_
  intro p e s m args below meth c s₁ B hml hv
  obtain ⟨rfl, hsz, hP, hK, hD0, hN⟩ := hv
  have hx := B.exec
  have hb := B.bytes
  have hr := B.returns
  have hts := atoms_spec (ws := ow_dm_X9_isDefined) B.pre
  have hown : s.vm.findClass RX9 = some m.cls := findClass_of_methodNamed B.named
  have hlocks := B.notSynchronized
  subst hsz
  have hD := hD0.self (sz := s.heap.size)
  generalize hAe : va_A (dw_X9 a ac s0) s.heap.size = A at hD hN ⊢
  have hA : ∀ q : Nat, s.heap.size ≤ q → A q := fun q h => by rw [← hAe]; exact Or.inr h
  have hl := lv_entry ([.ref (a 0), .int v0]) (n := 2) (Nat.le_of_ble_eq_true rfl)
  rw [lg_entry_eq]
  generalize (lg_sl ([.ref (a 0), .int v0]) ++ List.replicate (2 - (lg_sl ([.ref (a 0), .int v0])).length) Slot.unset).toArray = ls at hl ⊢
  have hl : lv_has ls 2 [(0, .ref (a 0)), (1, .int v0)] := hl
  exact db_X9_isDefined_0 (dC := dC) (dI := dI) (a := a) (ac := ac) (n := n) (r := r) ⟨hlt, hx, hb, hml, hown, hts, hN, hA, hK⟩ (fun pc v τ H locs ls d z er hP hD hS => by subst er; exact W.zret (v := v) hx hb hr z (fun t ht hW => ⟨⟨v, (), rfl, rfl, by rw [ht]; exact hP, va_K.moved hW.alike hK, hD⟩, hS.F ht⟩) hS.2.2 d) v0 s0 _ _ _ h hP hD va_S.rf (lv_sub hl [0, 1] rfl)
def ow_dm_X9_addLabel : List Cond := Cond.code yX9_addLabel cX9_addLabel 6 (some .int) :: ([Cond.fieldLink RX9 46 "TimeMachine$Reader" "labels" "I", Cond.methodLink RX9 58 Lib.Math.min.name, Cond.static Lib.Math.min.name, Cond.initialized "java/lang/Math", Cond.code Lib.Math.min.name Lib.Math.min.code 2 (some .int), Cond.fieldLink RX9 36 "TimeMachine$Reader" "label" "[I", Cond.fieldLink RX9 33 "TimeMachine$Reader" "near" "[I"] ++ (u_ws RX9 TX9 20 ++ []))
theorem gd_dm_X9_addLabel : ∀ w ∈ ow_dm_X9_addLabel, (w.onTables && w.keeps) = true ∨ ∃ ty, w = Cond.arrayClass ty := List.forall_mem_cons.mpr ⟨good_of_word rfl, List.forall_mem_append.mpr ⟨fun w h => good_of_word (List.all_eq_true.mp (by decide +kernel) w h), List.forall_mem_append.mpr ⟨gu_X9, fun _ h => nomatch h⟩⟩⟩
theorem hi_dm_X9_addLabel_X9 : ∀ w ∈ u_ws RX9 TX9 20, w ∈ ow_dm_X9_addLabel := fun w h => List.mem_cons_of_mem _ (List.mem_append_right _ (List.mem_append_left _ h))
def dj_X9_addLabel_157 (p : Program) (l : Launch) (e : Env) (s : State) (m : MethodId) (args : Array Value) (below : List Frame) (meth : Method) (c : Code) (Q : State → Prop) (A : Nat → Prop) (dC : Nat → ClassId) (dI : Nat → Nat → Nat) (a : Nat → Nat) (ac : Nat → ClassId) (g : Int32 → (St) → Option (Int32 × (St))) (r : Int32 × (St)) : Prop := ∀ (x4 : Int32) (s0 : St) (H : Heap) (locs : List Loc) (ls : Array Slot), g x4 s0 = some r → va_P (dC, dI) vwCl (dw_X9 a ac s0) H → va_D A (dw_X9 a ac s0) → va_S A s.heap H locs → lv_has ls 6 [(4, .int x4)] → W p l e (headSpec ow_dm_X9_addLabel ({ frames := 1, cells := 0, slots := 0, locals := 13 })).room s m args below meth c H locs 0 0 Q (F0 m 157 ls [])
def dj_X9_addLabel_144 (p : Program) (l : Launch) (e : Env) (s : State) (m : MethodId) (args : Array Value) (below : List Frame) (meth : Method) (c : Code) (Q : State → Prop) (A : Nat → Prop) (dC : Nat → ClassId) (dI : Nat → Nat → Nat) (a : Nat → Nat) (ac : Nat → ClassId) (g : Int32 → Int32 → (St) → Option (Int32 × (St))) (r : Int32 × (St)) : Prop := ∀ (x3 : Int32) (x4 : Int32) (s0 : St) (H : Heap) (locs : List Loc) (ls : Array Slot), g x3 x4 s0 = some r → va_P (dC, dI) vwCl (dw_X9 a ac s0) H → va_D A (dw_X9 a ac s0) → va_S A s.heap H locs → lv_has ls 6 [(0, .ref (a 0)), (3, .int x3), (4, .int x4)] → W p l e (headSpec ow_dm_X9_addLabel ({ frames := 1, cells := 0, slots := 0, locals := 13 })).room s m args below meth c H locs 0 0 Q (F0 m 144 ls [])
def dj_X9_addLabel_87 (p : Program) (l : Launch) (e : Env) (s : State) (m : MethodId) (args : Array Value) (below : List Frame) (meth : Method) (c : Code) (Q : State → Prop) (A : Nat → Prop) (dC : Nat → ClassId) (dI : Nat → Nat → Nat) (a : Nat → Nat) (ac : Nat → ClassId) (g : Int32 → Int32 → Int32 → Int32 → (St) → Option (Int32 × (St))) (r : Int32 × (St)) : Prop := ∀ (x3 : Int32) (x4 : Int32) (y1 : Int32) (y2 : Int32) (s0 : St) (H : Heap) (locs : List Loc) (ls : Array Slot), g x3 x4 y1 y2 s0 = some r → va_P (dC, dI) vwCl (dw_X9 a ac s0) H → va_D A (dw_X9 a ac s0) → va_S A s.heap H locs → lv_has ls 6 [(0, .ref (a 0)), (3, .int x3), (4, .int x4)] → W p l e (headSpec ow_dm_X9_addLabel ({ frames := 1, cells := 0, slots := 0, locals := 13 })).room s m args below meth c H locs 0 0 Q (F0 m 87 ls [.int y2, .int y1, .ref (a 7)])
def dj_X9_addLabel_0 (p : Program) (l : Launch) (e : Env) (s : State) (m : MethodId) (args : Array Value) (below : List Frame) (meth : Method) (c : Code) (Q : State → Prop) (A : Nat → Prop) (dC : Nat → ClassId) (dI : Nat → Nat → Nat) (a : Nat → Nat) (ac : Nat → ClassId) (g : Int32 → Int32 → Int32 → (St) → Option (Int32 × (St))) (r : Int32 × (St)) : Prop := ∀ (v0 : Int32) (v1 : Int32) (v2 : Int32) (s0 : St) (H : Heap) (locs : List Loc) (ls : Array Slot), g v0 v1 v2 s0 = some r → va_P (dC, dI) vwCl (dw_X9 a ac s0) H → va_D A (dw_X9 a ac s0) → va_S A s.heap H locs → lv_has ls 6 [(0, .ref (a 0)), (1, .int v0), (2, .int v1), (3, .int v2)] → W p l e (headSpec ow_dm_X9_addLabel ({ frames := 1, cells := 0, slots := 0, locals := 13 })).room s m args below meth c H locs 0 0 Q (F0 m 0 ls [])
set_option maxHeartbeats 40000000 in
set_option maxRecDepth 100000 in
theorem db_X9_addLabel_157 {p : Program} {l : Launch} {e : Env} {s : State} {m : MethodId} {args : Array Value} {below : List Frame} {meth : Method} {c : Code} {Q : State → Prop} {A : Nat → Prop} {dC : Nat → ClassId} {dI : Nat → Nat → Nat} {a : Nat → Nat} {ac : Nat → ClassId} {n : Nat} {r : Int32 × (St)} (C : nd_C p l s m args c A (dC, dI) cX9_addLabel 6 RX9 ow_dm_X9_addLabel (dk_X9 ac)) (K : nd_Ki p l e (headSpec ow_dm_X9_addLabel ({ frames := 1, cells := 0, slots := 0, locals := 13 })).room s m args below meth c Q A (dC, dI) cX9_addLabel .int (St) (dw_X9 a ac) r) : dj_X9_addLabel_157 p l e s m args below meth c Q A dC dI a ac (df_X9_addLabel_157 n) r := by
  obtain ⟨hlt, hx, hb, hml, hown, hts, hN, hA, hK⟩ := id C
  intro x4 s0 H locs ls h hP hD hS hl
  unfold df_X9_addLabel_157 at h
  refine lv_iload hx hb dX9_addLabel_157 (lv_at hl 0 rfl) ?_
  exact K _ _ _ _ _ _ dX9_addLabel_159 rfl (Option.some.inj h).symm hP hD hS
set_option maxHeartbeats 40000000 in
set_option maxRecDepth 100000 in
theorem db_X9_addLabel_144 {p : Program} {l : Launch} {e : Env} {s : State} {m : MethodId} {args : Array Value} {below : List Frame} {meth : Method} {c : Code} {Q : State → Prop} {A : Nat → Prop} {dC : Nat → ClassId} {dI : Nat → Nat → Nat} {a : Nat → Nat} {ac : Nat → ClassId} {n : Nat} {r : Int32 × (St)} (C : nd_C p l s m args c A (dC, dI) cX9_addLabel 6 RX9 ow_dm_X9_addLabel (dk_X9 ac)) (K : nd_Ki p l e (headSpec ow_dm_X9_addLabel ({ frames := 1, cells := 0, slots := 0, locals := 13 })).room s m args below meth c Q A (dC, dI) cX9_addLabel .int (St) (dw_X9 a ac) r) : dj_X9_addLabel_144 p l e s m args below meth c Q A dC dI a ac (df_X9_addLabel_144 n) r := by
  obtain ⟨hlt, hx, hb, hml, hown, hts, hN, hA, hK⟩ := id C
  intro x3 x4 s0 H locs ls h hP hD hS hl
  unfold df_X9_addLabel_144 at h
  refine lv_aload_n hx hb dX9_addLabel_144 rfl (lv_at hl 0 rfl) ?_
  refine va_get (D := (dC, dI)) (ci := 10) (v := .ref (a 6)) (C := RX9) (T := TX9) (N := 20) hx hb hts hi_dm_X9_addLabel_X9 hown hK hP 0 rfl rfl 15 (by decide) (hts (.fieldLink RX9 33 "TimeMachine$Reader" "near" "[I") (List.mem_of_getElem? (i := 7) rfl)) (fun _ h9 => h9) rfl dX9_addLabel_145 ?_
  refine lv_bipush (v := 10) hx hb dX9_addLabel_148 (by decide) ?_
  refine lv_iload_n hx hb dX9_addLabel_150 rfl (lv_at hl 1 rfl) ?_
  refine lv_iadd hx hb dX9_addLabel_151 ?_
  refine lv_iload hx hb dX9_addLabel_152 (lv_at hl 2 rfl) ?_
  refine lv_iconst (v := 1) hx hb dX9_addLabel_154 (by decide) ?_
  refine lv_iadd hx hb dX9_addLabel_155 ?_
  obtain ⟨i21, h⟩ := nd_ck_e h
  refine va_iast (i := (10 + x3)) (x := (x4 + 1)) hx hb hK hP hD hS 6 5 rfl rfl i21 dX9_addLabel_156 (fun H locs hP hD hS => ?_)
  obtain ⟨s22, es22, h⟩ := nd_let_e h
  have hP : va_P (dC, dI) vwCl (dw_X9 a ac s22) H := by rw [es22]; exact hP
  have hD : va_D A (dw_X9 a ac s22) := by rw [es22]; exact hD
  exact (db_X9_addLabel_157 C K) (x4) s22 _ _ _ h hP hD hS (lv_sub hl [2] rfl)
set_option maxHeartbeats 40000000 in
set_option maxRecDepth 100000 in
theorem db_X9_addLabel_87 {p : Program} {l : Launch} {e : Env} {s : State} {m : MethodId} {args : Array Value} {below : List Frame} {meth : Method} {c : Code} {Q : State → Prop} {A : Nat → Prop} {dC : Nat → ClassId} {dI : Nat → Nat → Nat} {a : Nat → Nat} {ac : Nat → ClassId} {n : Nat} {r : Int32 × (St)} (C : nd_C p l s m args c A (dC, dI) cX9_addLabel 6 RX9 ow_dm_X9_addLabel (dk_X9 ac)) (K : nd_Ki p l e (headSpec ow_dm_X9_addLabel ({ frames := 1, cells := 0, slots := 0, locals := 13 })).room s m args below meth c Q A (dC, dI) cX9_addLabel .int (St) (dw_X9 a ac) r) : dj_X9_addLabel_87 p l e s m args below meth c Q A dC dI a ac (df_X9_addLabel_87 n) r := by
  obtain ⟨hlt, hx, hb, hml, hown, hts, hN, hA, hK⟩ := id C
  intro x3 x4 y1 y2 s0 H locs ls h hP hD hS hl
  unfold df_X9_addLabel_87 at h
  obtain ⟨i12, h⟩ := nd_ck_e h
  refine va_iast (i := y1) (x := y2) hx hb hK hP hD hS 7 6 rfl rfl i12 dX9_addLabel_87 (fun H locs hP hD hS => ?_)
  obtain ⟨s13, es13, h⟩ := nd_let_e h
  have hP : va_P (dC, dI) vwCl (dw_X9 a ac s13) H := by rw [es13]; exact hP
  have hD : va_D A (dw_X9 a ac s13) := by rw [es13]; exact hD
  refine lv_iload_n hx hb dX9_addLabel_88 rfl (lv_at hl 1 rfl) ?_
  refine lv_if_lt (tgt := 157) hx hb dX9_addLabel_89 (by decide) (fun c14 => ?_) (fun c14 => ?_)
  · have h := nd_pos h c14
    exact (db_X9_addLabel_157 C K) (x4) s13 _ _ _ h hP hD hS (lv_sub hl [2] rfl)
  · have h := nd_neg h c14
    refine lv_iload_n hx hb dX9_addLabel_92 rfl (lv_at hl 1 rfl) ?_
    refine lv_bipush (v := 9) hx hb dX9_addLabel_93 (by decide) ?_
    refine lv_icmp_gt (tgt := 157) hx hb dX9_addLabel_95 (by decide) (fun c15 => ?_) (fun c15 => ?_)
    · have h := nd_pos h c15
      exact (db_X9_addLabel_157 C K) (x4) s13 _ _ _ h hP hD hS (lv_sub hl [2] rfl)
    · have h := nd_neg h c15
      refine lv_aload_n hx hb dX9_addLabel_98 rfl (lv_at hl 0 rfl) ?_
      refine va_get (D := (dC, dI)) (ci := 10) (v := .ref (a 6)) (C := RX9) (T := TX9) (N := 20) hx hb hts hi_dm_X9_addLabel_X9 hown hK hP 0 rfl rfl 15 (by decide) (hts (.fieldLink RX9 33 "TimeMachine$Reader" "near" "[I") (List.mem_of_getElem? (i := 7) rfl)) (fun _ h9 => h9) rfl dX9_addLabel_99 ?_
      refine lv_bipush (v := 10) hx hb dX9_addLabel_102 (by decide) ?_
      refine lv_iload_n hx hb dX9_addLabel_104 rfl (lv_at hl 1 rfl) ?_
      refine lv_iadd hx hb dX9_addLabel_105 ?_
      obtain ⟨i16, h⟩ := nd_ck_e h
      refine va_iald (i := (10 + x3)) hx hb hK hP 6 5 rfl rfl i16 dX9_addLabel_106 ?_
      refine lv_topi (fun z17 ez17 => ?_)
      have h := nd_at h ez17
      refine lv_istore (lv' := [(5, .int z17), (0, .ref (a 0)), (3, .int x3), (4, .int x4)]) hx hb dX9_addLabel_107 hl (by decide) rfl (fun ls hl => ?_)
      refine lv_iload hx hb dX9_addLabel_109 (lv_at hl 0 rfl) ?_
      refine lv_if_ne (tgt := 127) hx hb dX9_addLabel_111 (by decide) (fun c18 => ?_) (fun c18 => ?_)
      · have h := nd_neg h c18
        refine lv_aload_n hx hb dX9_addLabel_127 rfl (lv_at hl 1 rfl) ?_
        refine va_get (D := (dC, dI)) (ci := 10) (v := .ref (a 7)) (C := RX9) (T := TX9) (N := 20) hx hb hts hi_dm_X9_addLabel_X9 hown hK hP 0 rfl rfl 16 (by decide) (hts (.fieldLink RX9 36 "TimeMachine$Reader" "label" "[I") (List.mem_of_getElem? (i := 6) rfl)) (fun _ h9 => h9) rfl dX9_addLabel_128 ?_
        refine lv_iload hx hb dX9_addLabel_131 (lv_at hl 0 rfl) ?_
        refine lv_iconst (v := 1) hx hb dX9_addLabel_133 (by decide) ?_
        refine lv_isub hx hb dX9_addLabel_134 ?_
        refine lv_iconst (v := 5) hx hb dX9_addLabel_135 (by decide) ?_
        refine lv_imul hx hb dX9_addLabel_136 ?_
        refine lv_iconst (v := 3) hx hb dX9_addLabel_137 (by decide) ?_
        refine lv_iadd hx hb dX9_addLabel_138 ?_
        refine lv_iload hx hb dX9_addLabel_139 (lv_at hl 3 rfl) ?_
        refine lv_iconst (v := 1) hx hb dX9_addLabel_141 (by decide) ?_
        refine lv_iadd hx hb dX9_addLabel_142 ?_
        obtain ⟨i19, h⟩ := nd_ck_e h
        refine va_iast (i := (((z17 - 1) * 5) + 3)) (x := (x4 + 1)) hx hb hK hP hD hS 7 6 rfl rfl i19 dX9_addLabel_143 (fun H locs hP hD hS => ?_)
        obtain ⟨s20, es20, h⟩ := nd_let_e h
        have hP : va_P (dC, dI) vwCl (dw_X9 a ac s20) H := by rw [es20]; exact hP
        have hD : va_D A (dw_X9 a ac s20) := by rw [es20]; exact hD
        exact (db_X9_addLabel_144 C K) (x3) (x4) s20 _ _ _ h hP hD hS (lv_sub hl [1, 2, 3] rfl)
      · have h := nd_pos h c18
        refine lv_aload_n hx hb dX9_addLabel_114 rfl (lv_at hl 1 rfl) ?_
        refine va_get (D := (dC, dI)) (ci := 10) (v := .ref (a 6)) (C := RX9) (T := TX9) (N := 20) hx hb hts hi_dm_X9_addLabel_X9 hown hK hP 0 rfl rfl 15 (by decide) (hts (.fieldLink RX9 33 "TimeMachine$Reader" "near" "[I") (List.mem_of_getElem? (i := 7) rfl)) (fun _ h9 => h9) rfl dX9_addLabel_115 ?_
        refine lv_iload_n hx hb dX9_addLabel_118 rfl (lv_at hl 2 rfl) ?_
        refine lv_iload hx hb dX9_addLabel_119 (lv_at hl 3 rfl) ?_
        refine lv_iconst (v := 1) hx hb dX9_addLabel_121 (by decide) ?_
        refine lv_iadd hx hb dX9_addLabel_122 ?_
        obtain ⟨i23, h⟩ := nd_ck_e h
        refine va_iast (i := x3) (x := (x4 + 1)) hx hb hK hP hD hS 6 5 rfl rfl i23 dX9_addLabel_123 (fun H locs hP hD hS => ?_)
        obtain ⟨s24, es24, h⟩ := nd_let_e h
        have hP : va_P (dC, dI) vwCl (dw_X9 a ac s24) H := by rw [es24]; exact hP
        have hD : va_D A (dw_X9 a ac s24) := by rw [es24]; exact hD
        refine lv_goto (tgt := 144) hx hb dX9_addLabel_124 (by decide) ?_
        exact (db_X9_addLabel_144 C K) (x3) (x4) s24 _ _ _ h hP hD hS (lv_sub hl [1, 2, 3] rfl)
set_option maxHeartbeats 40000000 in
set_option maxRecDepth 100000 in
theorem db_X9_addLabel_0 {p : Program} {l : Launch} {e : Env} {s : State} {m : MethodId} {args : Array Value} {below : List Frame} {meth : Method} {c : Code} {Q : State → Prop} {A : Nat → Prop} {dC : Nat → ClassId} {dI : Nat → Nat → Nat} {a : Nat → Nat} {ac : Nat → ClassId} {n : Nat} {r : Int32 × (St)} (C : nd_C p l s m args c A (dC, dI) cX9_addLabel 6 RX9 ow_dm_X9_addLabel (dk_X9 ac)) (K : nd_Ki p l e (headSpec ow_dm_X9_addLabel ({ frames := 1, cells := 0, slots := 0, locals := 13 })).room s m args below meth c Q A (dC, dI) cX9_addLabel .int (St) (dw_X9 a ac) r) : dj_X9_addLabel_0 p l e s m args below meth c Q A dC dI a ac (df_X9_addLabel_0 n) r := by
  obtain ⟨hlt, hx, hb, hml, hown, hts, hN, hA, hK⟩ := id C
  intro v0 v1 v2 s0 H locs ls h hP hD hS hl
  unfold df_X9_addLabel_0 at h
  refine lv_aload_n hx hb dX9_addLabel_0 rfl (lv_at hl 0 rfl) ?_
  refine va_get (D := (dC, dI)) (ci := 10) (v := .int (sI s0 9)) (C := RX9) (T := TX9) (N := 20) hx hb hts hi_dm_X9_addLabel_X9 hown hK hP 0 rfl rfl 17 (by decide) (hts (.fieldLink RX9 46 "TimeMachine$Reader" "labels" "I") (List.mem_of_getElem? (i := 1) rfl)) (fun _ h9 => h9) rfl dX9_addLabel_1 ?_
  refine lv_sipush (v := 16384) hx hb dX9_addLabel_4 (by decide) ?_
  refine va_mmin hx hb (by rw [hml]; exact hl.1.symm) hown (hts (.methodLink RX9 58 Lib.Math.min.name) (List.mem_of_getElem? (i := 2) rfl)) (hts (.static Lib.Math.min.name) (List.mem_of_getElem? (i := 3) rfl)) (hts (.initialized "java/lang/Math") (List.mem_of_getElem? (i := 4) rfl)) (hts (.code Lib.Math.min.name Lib.Math.min.code 2 (some .int)) (List.mem_of_getElem? (i := 5) rfl)) (Nat.le_of_ble_eq_true rfl) (Nat.le_of_ble_eq_true rfl) (by decide +kernel) (by decide +kernel) dX9_addLabel_7 ?_
  refine lv_topi (fun z1 ez1 => ?_)
  have h := nd_at h ez1
  refine lv_istore (lv' := [(4, .int z1), (0, .ref (a 0)), (1, .int v0), (2, .int v1), (3, .int v2)]) hx hb dX9_addLabel_10 hl (by decide) rfl (fun ls hl => ?_)
  refine lv_aload_n hx hb dX9_addLabel_12 rfl (lv_at hl 1 rfl) ?_
  refine lv_iload hx hb dX9_addLabel_13 (lv_at hl 0 rfl) ?_
  refine lv_iconst (v := 1) hx hb dX9_addLabel_15 (by decide) ?_
  refine lv_iadd hx hb dX9_addLabel_16 ?_
  refine va_put (D := (dC, dI)) (ci := 10) (v := .int (z1 + 1)) (ty := .int) (C := RX9) (T := TX9) (N := 20) hx hb hts hi_dm_X9_addLabel_X9 tyX9 tyX9_ok nmX9 hown hK hP hD hS 0 rfl rfl 17 (by decide) (hts (.fieldLink RX9 46 "TimeMachine$Reader" "labels" "I") (List.mem_of_getElem? (i := 1) rfl)) (fun _ h9 => h9) rfl (by decide +kernel) rfl rfl (Nat.le_of_ble_eq_true rfl) dX9_addLabel_17 (fun H locs hP hD hS => ?_)
  obtain ⟨s2, es2, h⟩ := nd_let_e h
  have hP : va_P (dC, dI) vwCl (dw_X9 a ac s2) H := by rw [es2]; exact hP
  have hD : va_D A (dw_X9 a ac s2) := by rw [es2]; exact hD
  refine lv_aload_n hx hb dX9_addLabel_20 rfl (lv_at hl 1 rfl) ?_
  refine va_get (D := (dC, dI)) (ci := 10) (v := .ref (a 7)) (C := RX9) (T := TX9) (N := 20) hx hb hts hi_dm_X9_addLabel_X9 hown hK hP 0 rfl rfl 16 (by decide) (hts (.fieldLink RX9 36 "TimeMachine$Reader" "label" "[I") (List.mem_of_getElem? (i := 6) rfl)) (fun _ h9 => h9) rfl dX9_addLabel_21 ?_
  refine lv_iload hx hb dX9_addLabel_24 (lv_at hl 0 rfl) ?_
  refine lv_iconst (v := 5) hx hb dX9_addLabel_26 (by decide) ?_
  refine lv_imul hx hb dX9_addLabel_27 ?_
  refine lv_iconst (v := 0) hx hb dX9_addLabel_28 (by decide) ?_
  refine lv_iadd hx hb dX9_addLabel_29 ?_
  refine lv_iload_n hx hb dX9_addLabel_30 rfl (lv_at hl 2 rfl) ?_
  obtain ⟨i3, h⟩ := nd_ck_e h
  refine va_iast (i := ((z1 * 5) + 0)) (x := v0) hx hb hK hP hD hS 7 6 rfl rfl i3 dX9_addLabel_31 (fun H locs hP hD hS => ?_)
  obtain ⟨s4, es4, h⟩ := nd_let_e h
  have hP : va_P (dC, dI) vwCl (dw_X9 a ac s4) H := by rw [es4]; exact hP
  have hD : va_D A (dw_X9 a ac s4) := by rw [es4]; exact hD
  refine lv_aload_n hx hb dX9_addLabel_32 rfl (lv_at hl 1 rfl) ?_
  refine va_get (D := (dC, dI)) (ci := 10) (v := .ref (a 7)) (C := RX9) (T := TX9) (N := 20) hx hb hts hi_dm_X9_addLabel_X9 hown hK hP 0 rfl rfl 16 (by decide) (hts (.fieldLink RX9 36 "TimeMachine$Reader" "label" "[I") (List.mem_of_getElem? (i := 6) rfl)) (fun _ h9 => h9) rfl dX9_addLabel_33 ?_
  refine lv_iload hx hb dX9_addLabel_36 (lv_at hl 0 rfl) ?_
  refine lv_iconst (v := 5) hx hb dX9_addLabel_38 (by decide) ?_
  refine lv_imul hx hb dX9_addLabel_39 ?_
  refine lv_iconst (v := 1) hx hb dX9_addLabel_40 (by decide) ?_
  refine lv_iadd hx hb dX9_addLabel_41 ?_
  refine lv_iload_n hx hb dX9_addLabel_42 rfl (lv_at hl 3 rfl) ?_
  obtain ⟨i5, h⟩ := nd_ck_e h
  refine va_iast (i := ((z1 * 5) + 1)) (x := v1) hx hb hK hP hD hS 7 6 rfl rfl i5 dX9_addLabel_43 (fun H locs hP hD hS => ?_)
  obtain ⟨s6, es6, h⟩ := nd_let_e h
  have hP : va_P (dC, dI) vwCl (dw_X9 a ac s6) H := by rw [es6]; exact hP
  have hD : va_D A (dw_X9 a ac s6) := by rw [es6]; exact hD
  refine lv_aload_n hx hb dX9_addLabel_44 rfl (lv_at hl 1 rfl) ?_
  refine va_get (D := (dC, dI)) (ci := 10) (v := .ref (a 7)) (C := RX9) (T := TX9) (N := 20) hx hb hts hi_dm_X9_addLabel_X9 hown hK hP 0 rfl rfl 16 (by decide) (hts (.fieldLink RX9 36 "TimeMachine$Reader" "label" "[I") (List.mem_of_getElem? (i := 6) rfl)) (fun _ h9 => h9) rfl dX9_addLabel_45 ?_
  refine lv_iload hx hb dX9_addLabel_48 (lv_at hl 0 rfl) ?_
  refine lv_iconst (v := 5) hx hb dX9_addLabel_50 (by decide) ?_
  refine lv_imul hx hb dX9_addLabel_51 ?_
  refine lv_iconst (v := 2) hx hb dX9_addLabel_52 (by decide) ?_
  refine lv_iadd hx hb dX9_addLabel_53 ?_
  refine lv_iconst (v := 0) hx hb dX9_addLabel_54 (by decide) ?_
  obtain ⟨i7, h⟩ := nd_ck_e h
  refine va_iast (i := ((z1 * 5) + 2)) (x := 0) hx hb hK hP hD hS 7 6 rfl rfl i7 dX9_addLabel_55 (fun H locs hP hD hS => ?_)
  obtain ⟨s8, es8, h⟩ := nd_let_e h
  have hP : va_P (dC, dI) vwCl (dw_X9 a ac s8) H := by rw [es8]; exact hP
  have hD : va_D A (dw_X9 a ac s8) := by rw [es8]; exact hD
  refine lv_aload_n hx hb dX9_addLabel_56 rfl (lv_at hl 1 rfl) ?_
  refine va_get (D := (dC, dI)) (ci := 10) (v := .ref (a 7)) (C := RX9) (T := TX9) (N := 20) hx hb hts hi_dm_X9_addLabel_X9 hown hK hP 0 rfl rfl 16 (by decide) (hts (.fieldLink RX9 36 "TimeMachine$Reader" "label" "[I") (List.mem_of_getElem? (i := 6) rfl)) (fun _ h9 => h9) rfl dX9_addLabel_57 ?_
  refine lv_iload hx hb dX9_addLabel_60 (lv_at hl 0 rfl) ?_
  refine lv_iconst (v := 5) hx hb dX9_addLabel_62 (by decide) ?_
  refine lv_imul hx hb dX9_addLabel_63 ?_
  refine lv_iconst (v := 3) hx hb dX9_addLabel_64 (by decide) ?_
  refine lv_iadd hx hb dX9_addLabel_65 ?_
  refine lv_iconst (v := 0) hx hb dX9_addLabel_66 (by decide) ?_
  obtain ⟨i9, h⟩ := nd_ck_e h
  refine va_iast (i := ((z1 * 5) + 3)) (x := 0) hx hb hK hP hD hS 7 6 rfl rfl i9 dX9_addLabel_67 (fun H locs hP hD hS => ?_)
  obtain ⟨s10, es10, h⟩ := nd_let_e h
  have hP : va_P (dC, dI) vwCl (dw_X9 a ac s10) H := by rw [es10]; exact hP
  have hD : va_D A (dw_X9 a ac s10) := by rw [es10]; exact hD
  refine lv_aload_n hx hb dX9_addLabel_68 rfl (lv_at hl 1 rfl) ?_
  refine va_get (D := (dC, dI)) (ci := 10) (v := .ref (a 7)) (C := RX9) (T := TX9) (N := 20) hx hb hts hi_dm_X9_addLabel_X9 hown hK hP 0 rfl rfl 16 (by decide) (hts (.fieldLink RX9 36 "TimeMachine$Reader" "label" "[I") (List.mem_of_getElem? (i := 6) rfl)) (fun _ h9 => h9) rfl dX9_addLabel_69 ?_
  refine lv_iload hx hb dX9_addLabel_72 (lv_at hl 0 rfl) ?_
  refine lv_iconst (v := 5) hx hb dX9_addLabel_74 (by decide) ?_
  refine lv_imul hx hb dX9_addLabel_75 ?_
  refine lv_iconst (v := 4) hx hb dX9_addLabel_76 (by decide) ?_
  refine lv_iadd hx hb dX9_addLabel_77 ?_
  refine lv_iload_n hx hb dX9_addLabel_78 rfl (lv_at hl 4 rfl) ?_
  refine lv_if_ge (tgt := 86) hx hb dX9_addLabel_79 (by decide) (fun c11 => ?_) (fun c11 => ?_)
  · have h := nd_pos h c11
    refine lv_iconst (v := 0) hx hb dX9_addLabel_86 (by decide) ?_
    exact (db_X9_addLabel_87 C K) (v2) (z1) (((z1 * 5) + 4)) (0) s10 _ _ _ h hP hD hS (lv_sub hl [1, 4, 0] rfl)
  · have h := nd_neg h c11
    refine lv_iconst (v := 1) hx hb dX9_addLabel_82 (by decide) ?_
    refine lv_goto (tgt := 87) hx hb dX9_addLabel_83 (by decide) ?_
    exact (db_X9_addLabel_87 C K) (v2) (z1) (((z1 * 5) + 4)) (1) s10 _ _ _ h hP hD hS (lv_sub hl [1, 4, 0] rfl)
set_option maxHeartbeats 40000000 in
set_option maxRecDepth 100000 in
theorem dm_X9_addLabel (l : Launch) (hlt : l.stackTraces = false) (dC : Nat → ClassId) (dI : Nat → Nat → Nat) (a : Nat → Nat) (ac : Nat → ClassId) (n : Nat) (v0 : Int32) (v1 : Int32) (v2 : Int32) (s0 : St) {r : Int32 × (St)} (h : df_X9_addLabel n v0 v1 v2 s0 = some r) (sz : Nat) : Met l yX9_addLabel ow_dm_X9_addLabel ({ frames := 1, cells := 0, slots := 0, locals := 13 }) (va_Pc [.ref (a 0), .int v0, .int v1, .int v2] (fun U => U.heap.size = sz ∧ va_P (dC, dI) vwCl (dw_X9 a ac s0) U.heap ∧ va_K (dC, dI) vwCl (dk_X9 ac) U ∧ va_D (fun _ => True) (dw_X9 a ac s0) ∧ nv_E dI (va_A (dw_X9 a ac s0) sz) U)) (va_Qi (fun x _ => x = r.1) (fun (_ : Unit) t => va_P (dC, dI) vwCl (dw_X9 a ac r.2) t.heap ∧ va_K (dC, dI) vwCl (dk_X9 ac) t ∧ va_D (va_A (dw_X9 a ac s0) sz) (dw_X9 a ac r.2)) (va_A (dw_X9 a ac s0) sz)) 0 0 (va_A (dw_X9 a ac s0) sz) := by
  refine Met.ofW (cc := cX9_addLabel) (maxL := 6) (ret := (some .int)) (by decide) rfl ?_
  intro p e s m args below meth c s₁ B hml hv
  obtain ⟨rfl, hsz, hP, hK, hD0, hN⟩ := hv
  have hx := B.exec
  have hb := B.bytes
  have hr := B.returns
  have hts := atoms_spec (ws := ow_dm_X9_addLabel) B.pre
  have hown : s.vm.findClass RX9 = some m.cls := findClass_of_methodNamed B.named
  have hlocks := B.notSynchronized
  subst hsz
  have hD := hD0.self (sz := s.heap.size)
  generalize hAe : va_A (dw_X9 a ac s0) s.heap.size = A at hD hN ⊢
  have hA : ∀ q : Nat, s.heap.size ≤ q → A q := fun q h => by rw [← hAe]; exact Or.inr h
  have hl := lv_entry ([.ref (a 0), .int v0, .int v1, .int v2]) (n := 6) (Nat.le_of_ble_eq_true rfl)
  rw [lg_entry_eq]
  generalize (lg_sl ([.ref (a 0), .int v0, .int v1, .int v2]) ++ List.replicate (6 - (lg_sl ([.ref (a 0), .int v0, .int v1, .int v2])).length) Slot.unset).toArray = ls at hl ⊢
  have hl : lv_has ls 6 [(0, .ref (a 0)), (1, .int v0), (2, .int v1), (3, .int v2)] := hl
  exact db_X9_addLabel_0 (dC := dC) (dI := dI) (a := a) (ac := ac) (n := n) (r := r) ⟨hlt, hx, hb, hml, hown, hts, hN, hA, hK⟩ (fun pc v τ H locs ls d z er hP hD hS => by subst er; exact W.zret (v := v) hx hb hr z (fun t ht hW => ⟨⟨v, (), rfl, rfl, by rw [ht]; exact hP, va_K.moved hW.alike hK, hD⟩, hS.F ht⟩) hS.2.2 d) v0 v1 v2 s0 _ _ _ h hP hD va_S.rf (lv_sub hl [0, 1, 2, 3] rfl)
def ow_dm_X9_define : List Cond := Cond.code yX9_define cX9_define 4 none :: ([Cond.fieldLink RX9 27 "TimeMachine$Reader" "name" "[I"] ++ (u_ws RX9 TX9 20 ++ []))
theorem gd_dm_X9_define : ∀ w ∈ ow_dm_X9_define, (w.onTables && w.keeps) = true ∨ ∃ ty, w = Cond.arrayClass ty := List.forall_mem_cons.mpr ⟨good_of_word rfl, List.forall_mem_append.mpr ⟨fun w h => good_of_word (List.all_eq_true.mp (by decide +kernel) w h), List.forall_mem_append.mpr ⟨gu_X9, fun _ h => nomatch h⟩⟩⟩
theorem hi_dm_X9_define_X9 : ∀ w ∈ u_ws RX9 TX9 20, w ∈ ow_dm_X9_define := fun w h => List.mem_cons_of_mem _ (List.mem_append_right _ (List.mem_append_left _ h))
def dj_X9_define_0 (p : Program) (l : Launch) (e : Env) (s : State) (m : MethodId) (args : Array Value) (below : List Frame) (meth : Method) (c : Code) (Q : State → Prop) (A : Nat → Prop) (dC : Nat → ClassId) (dI : Nat → Nat → Nat) (a : Nat → Nat) (ac : Nat → ClassId) (g : Int32 → Int32 → Int32 → (St) → Option (St)) (r : St) : Prop := ∀ (v0 : Int32) (v1 : Int32) (v2 : Int32) (s0 : St) (H : Heap) (locs : List Loc) (ls : Array Slot), g v0 v1 v2 s0 = some r → va_P (dC, dI) vwCl (dw_X9 a ac s0) H → va_D A (dw_X9 a ac s0) → va_S A s.heap H locs → lv_has ls 4 [(0, .ref (a 0)), (1, .int v0), (2, .int v1), (3, .int v2)] → W p l e (headSpec ow_dm_X9_define ({ frames := 0, cells := 0, slots := 0, locals := 0 })).room s m args below meth c H locs 0 0 Q (F0 m 0 ls [])
set_option maxHeartbeats 40000000 in
set_option maxRecDepth 100000 in
theorem db_X9_define_0 {p : Program} {l : Launch} {e : Env} {s : State} {m : MethodId} {args : Array Value} {below : List Frame} {meth : Method} {c : Code} {Q : State → Prop} {A : Nat → Prop} {dC : Nat → ClassId} {dI : Nat → Nat → Nat} {a : Nat → Nat} {ac : Nat → ClassId} {n : Nat} {r : St} (C : nd_C p l s m args c A (dC, dI) cX9_define 4 RX9 ow_dm_X9_define (dk_X9 ac)) (K : nd_Kv p l e (headSpec ow_dm_X9_define ({ frames := 0, cells := 0, slots := 0, locals := 0 })).room s m args below meth c Q A (dC, dI) cX9_define (St) (dw_X9 a ac) r) : dj_X9_define_0 p l e s m args below meth c Q A dC dI a ac (df_X9_define_0 n) r := by
  obtain ⟨hlt, hx, hb, hml, hown, hts, hN, hA, hK⟩ := id C
  intro v0 v1 v2 s0 H locs ls h hP hD hS hl
  unfold df_X9_define_0 at h
  refine lv_aload_n hx hb dX9_define_0 rfl (lv_at hl 0 rfl) ?_
  refine va_get (D := (dC, dI)) (ci := 10) (v := .ref (a 4)) (C := RX9) (T := TX9) (N := 20) hx hb hts hi_dm_X9_define_X9 hown hK hP 0 rfl rfl 12 (by decide) (hts (.fieldLink RX9 27 "TimeMachine$Reader" "name" "[I") (List.mem_of_getElem? (i := 1) rfl)) (fun _ h9 => h9) rfl dX9_define_1 ?_
  refine lv_iload_n hx hb dX9_define_4 rfl (lv_at hl 1 rfl) ?_
  refine lv_iconst (v := 5) hx hb dX9_define_5 (by decide) ?_
  refine lv_imul hx hb dX9_define_6 ?_
  refine lv_iconst (v := 2) hx hb dX9_define_7 (by decide) ?_
  refine lv_iadd hx hb dX9_define_8 ?_
  refine lv_iload_n hx hb dX9_define_9 rfl (lv_at hl 2 rfl) ?_
  obtain ⟨i1, h⟩ := nd_ck_e h
  refine va_iast (i := ((v0 * 5) + 2)) (x := v1) hx hb hK hP hD hS 4 3 rfl rfl i1 dX9_define_10 (fun H locs hP hD hS => ?_)
  obtain ⟨s2, es2, h⟩ := nd_let_e h
  have hP : va_P (dC, dI) vwCl (dw_X9 a ac s2) H := by rw [es2]; exact hP
  have hD : va_D A (dw_X9 a ac s2) := by rw [es2]; exact hD
  refine lv_aload_n hx hb dX9_define_11 rfl (lv_at hl 0 rfl) ?_
  refine va_get (D := (dC, dI)) (ci := 10) (v := .ref (a 4)) (C := RX9) (T := TX9) (N := 20) hx hb hts hi_dm_X9_define_X9 hown hK hP 0 rfl rfl 12 (by decide) (hts (.fieldLink RX9 27 "TimeMachine$Reader" "name" "[I") (List.mem_of_getElem? (i := 1) rfl)) (fun _ h9 => h9) rfl dX9_define_12 ?_
  refine lv_iload_n hx hb dX9_define_15 rfl (lv_at hl 1 rfl) ?_
  refine lv_iconst (v := 5) hx hb dX9_define_16 (by decide) ?_
  refine lv_imul hx hb dX9_define_17 ?_
  refine lv_iconst (v := 3) hx hb dX9_define_18 (by decide) ?_
  refine lv_iadd hx hb dX9_define_19 ?_
  refine lv_iload_n hx hb dX9_define_20 rfl (lv_at hl 3 rfl) ?_
  obtain ⟨i3, h⟩ := nd_ck_e h
  refine va_iast (i := ((v0 * 5) + 3)) (x := v2) hx hb hK hP hD hS 4 3 rfl rfl i3 dX9_define_21 (fun H locs hP hD hS => ?_)
  obtain ⟨s4, es4, h⟩ := nd_let_e h
  have hP : va_P (dC, dI) vwCl (dw_X9 a ac s4) H := by rw [es4]; exact hP
  have hD : va_D A (dw_X9 a ac s4) := by rw [es4]; exact hD
  exact K _ _ _ _ _ dX9_define_22 (Option.some.inj h).symm hP hD hS
set_option maxHeartbeats 40000000 in
set_option maxRecDepth 100000 in
theorem dm_X9_define (l : Launch) (hlt : l.stackTraces = false) (dC : Nat → ClassId) (dI : Nat → Nat → Nat) (a : Nat → Nat) (ac : Nat → ClassId) (n : Nat) (v0 : Int32) (v1 : Int32) (v2 : Int32) (s0 : St) {r : St} (h : df_X9_define n v0 v1 v2 s0 = some r) (sz : Nat) : Met l yX9_define ow_dm_X9_define ({ frames := 0, cells := 0, slots := 0, locals := 0 }) (va_Pc [.ref (a 0), .int v0, .int v1, .int v2] (fun U => U.heap.size = sz ∧ va_P (dC, dI) vwCl (dw_X9 a ac s0) U.heap ∧ va_K (dC, dI) vwCl (dk_X9 ac) U ∧ va_D (fun _ => True) (dw_X9 a ac s0) ∧ nv_E dI (va_A (dw_X9 a ac s0) sz) U)) (va_Qv (fun _ => True) (fun (_ : Unit) t => va_P (dC, dI) vwCl (dw_X9 a ac r) t.heap ∧ va_K (dC, dI) vwCl (dk_X9 ac) t ∧ va_D (va_A (dw_X9 a ac s0) sz) (dw_X9 a ac r)) (va_A (dw_X9 a ac s0) sz)) 0 0 (va_A (dw_X9 a ac s0) sz) := by
  refine Met.ofW (cc := cX9_define) (maxL := 4) (ret := none) (by decide) rfl ?_
  intro p e s m args below meth c s₁ B hml hv
  obtain ⟨rfl, hsz, hP, hK, hD0, hN⟩ := hv
  have hx := B.exec
  have hb := B.bytes
  have hr := B.returns
  have hts := atoms_spec (ws := ow_dm_X9_define) B.pre
  have hown : s.vm.findClass RX9 = some m.cls := findClass_of_methodNamed B.named
  have hlocks := B.notSynchronized
  subst hsz
  have hD := hD0.self (sz := s.heap.size)
  generalize hAe : va_A (dw_X9 a ac s0) s.heap.size = A at hD hN ⊢
  have hA : ∀ q : Nat, s.heap.size ≤ q → A q := fun q h => by rw [← hAe]; exact Or.inr h
  have hl := lv_entry ([.ref (a 0), .int v0, .int v1, .int v2]) (n := 4) (Nat.le_of_ble_eq_true rfl)
  rw [lg_entry_eq]
  generalize (lg_sl ([.ref (a 0), .int v0, .int v1, .int v2]) ++ List.replicate (4 - (lg_sl ([.ref (a 0), .int v0, .int v1, .int v2])).length) Slot.unset).toArray = ls at hl ⊢
  have hl : lv_has ls 4 [(0, .ref (a 0)), (1, .int v0), (2, .int v1), (3, .int v2)] := hl
  exact db_X9_define_0 (dC := dC) (dI := dI) (a := a) (ac := ac) (n := n) (r := r) ⟨hlt, hx, hb, hml, hown, hts, hN, hA, hK⟩ (fun pc τ H locs ls d er hP hD hS => by subst er; exact W.vret hx hb hr (fun t ht hW => ⟨⟨(), rfl, trivial, by rw [ht]; exact hP, va_K.moved hW.alike hK, hD⟩, hS.F ht⟩) hS.2.2 d) v0 v1 v2 s0 _ _ _ h hP hD va_S.rf (lv_sub hl [0, 1, 2, 3] rfl)
set_option maxHeartbeats 40000000 in
set_option maxRecDepth 100000 in
theorem dp_vX1_BY_0 {D : va_G} {H : Heap} {a : Nat → Nat} {ac : Nat → ClassId} {σ : St × (St)} (h : va_P D vwCl (dw_X1 a ac σ) H) : va_P D vwCl (dw_BY (fun k => a (nd_ix [11] k)) (fun k => ac (nd_ix [11] k)) ((pR nd_st0 0 (sR σ.2 7)))) H := h.sub [11] rfl
set_option maxHeartbeats 40000000 in
set_option maxRecDepth 100000 in
theorem dd_vX1_BY_0 {A : Nat → Prop} {a : Nat → Nat} {ac : Nat → ClassId} {σ : St × (St)} (h : va_D A (dw_X1 a ac σ)) : va_D A (dw_BY (fun k => a (nd_ix [11] k)) (fun k => ac (nd_ix [11] k)) ((pR nd_st0 0 (sR σ.2 7)))) := h.sub [11] (by decide) rfl
set_option maxHeartbeats 40000000 in
set_option maxRecDepth 100000 in
theorem dy_vX1_BY_0 {D : va_G} {U : State} {ac : Nat → ClassId} (h : va_K D vwCl (dk_X1 ac) U) : va_K D vwCl (dk_BY (fun k => ac (nd_ix [11] k))) U := h.sub [9] rfl
set_option maxHeartbeats 40000000 in
set_option maxRecDepth 100000 in
theorem dn_vX1_BY_0 {A0 : Nat → Prop} {D : va_G} {H H1 : Heap} {a : Nat → Nat} {ac : Nat → ClassId} {σ : St × (St)} {τ : St} (hP : va_P D vwCl (dw_X1 a ac σ) H) (hD : va_D A0 (dw_X1 a ac σ)) (hA : ∀ q : Nat, H.size ≤ q → A0 q) (hk : ∀ q : Nat, q < H.size → ¬ va_A (dw_BY (fun k => a (nd_ix [11] k)) (fun k => ac (nd_ix [11] k)) ((pR nd_st0 0 (sR σ.2 7)))) H.size q → H1[q]? = H[q]?) (h1 : va_P D vwCl (dw_BY (fun k => a (nd_ix [11] k)) (fun k => ac (nd_ix [11] k)) τ) H1) (h2 : va_D (va_A (dw_BY (fun k => a (nd_ix [11] k)) (fun k => ac (nd_ix [11] k)) ((pR nd_st0 0 (sR σ.2 7)))) H.size) (dw_BY (fun k => a (nd_ix [11] k)) (fun k => ac (nd_ix [11] k)) τ)) : va_P D vwCl (dw_X1 a ac (σ.1, (pR σ.2 7 (sR τ 0)))) H1 ∧ va_D A0 (dw_X1 a ac (σ.1, (pR σ.2 7 (sR τ 0)))) := by
  obtain ⟨h1, h2⟩ := va_join (wr := [0, 1, 2, 3, 4, 5, 6, 7, 8, 9, 10].filterMap (fun i => (dw_X1 a ac σ)[i]?)) hP hD [11] [0, 1, 2, 3, 4, 5, 6, 7, 8, 9, 10] rfl rfl (by decide) (by decide) hk (nd_rq (dd_vX1_BY_0 hD) hA) h1 h2
  exact ⟨h1.sub [0, 1, 2, 3, 4, 5, 6, 7, 8, 9, 10, 11] rfl, h2.sub [0, 1, 2, 3, 4, 5, 6, 7, 8, 9, 10, 11] (by decide) rfl⟩
def ow_dm_X1_readLabel : List Cond := Cond.code yX1_readLabel cX1_readLabel 5 none :: ([Cond.fieldLink RX1 12 "TimeMachine$Assembler" "reader" "LTimeMachine$Reader;", Cond.methodLink RX1 116 yX9_nameAt, Cond.instanceMethod yX9_nameAt, Cond.selects RX9 yX9_nameAt yX9_nameAt, Cond.initialized RX9, Cond.fieldLink RX1 120 "TimeMachine$Reader" "source" "[B", Cond.methodLink RX1 123 yX7_registerAt, Cond.static yX7_registerAt, Cond.initialized RX7, Cond.methodLink RX1 77 yX1_blame, Cond.instanceMethod yX1_blame, Cond.selects RX1 yX1_blame yX1_blame, Cond.initialized RX1, Cond.methodLink RX1 129 yX9_isDefined, Cond.instanceMethod yX9_isDefined, Cond.selects RX9 yX9_isDefined yX9_isDefined, Cond.fieldLink RX1 65 "TimeMachine$Assembler" "statements" "I", Cond.fieldLink RX1 71 "TimeMachine$Assembler" "section" "I", Cond.methodLink RX1 112 yX9_addLabel, Cond.instanceMethod yX9_addLabel, Cond.selects RX9 yX9_addLabel yX9_addLabel, Cond.methodLink RX1 132 yX9_define, Cond.instanceMethod yX9_define, Cond.selects RX9 yX9_define yX9_define] ++ (u_ws RX1 TX1 13 ++ (u_ws RX9 TX9 20 ++ (ow_dm_X9_nameAt ++ (ow_dm_X7_registerAt ++ (ow_dm_X1_blame ++ (ow_dm_X9_isDefined ++ (ow_dm_X9_addLabel ++ (ow_dm_X9_define ++ [])))))))))
theorem gd_dm_X1_readLabel : ∀ w ∈ ow_dm_X1_readLabel, (w.onTables && w.keeps) = true ∨ ∃ ty, w = Cond.arrayClass ty := List.forall_mem_cons.mpr ⟨good_of_word rfl, List.forall_mem_append.mpr ⟨fun w h => good_of_word (List.all_eq_true.mp (by decide +kernel) w h), List.forall_mem_append.mpr ⟨gu_X1, List.forall_mem_append.mpr ⟨gu_X9, List.forall_mem_append.mpr ⟨gd_dm_X9_nameAt, List.forall_mem_append.mpr ⟨gd_dm_X7_registerAt, List.forall_mem_append.mpr ⟨gd_dm_X1_blame, List.forall_mem_append.mpr ⟨gd_dm_X9_isDefined, List.forall_mem_append.mpr ⟨gd_dm_X9_addLabel, List.forall_mem_append.mpr ⟨gd_dm_X9_define, fun _ h => nomatch h⟩⟩⟩⟩⟩⟩⟩⟩⟩⟩
theorem hi_dm_X1_readLabel_X1 : ∀ w ∈ u_ws RX1 TX1 13, w ∈ ow_dm_X1_readLabel := fun w h => List.mem_cons_of_mem _ (List.mem_append_right _ (List.mem_append_left _ h))
theorem hi_dm_X1_readLabel_X9 : ∀ w ∈ u_ws RX9 TX9 20, w ∈ ow_dm_X1_readLabel := fun w h => List.mem_cons_of_mem _ (List.mem_append_right _ (List.mem_append_right _ (List.mem_append_left _ h)))
theorem gi_dm_X1_readLabel_0 : GoodIn ow_dm_X1_readLabel (wsV RX1 116 RX9 yX9_nameAt ow_dm_X9_nameAt) := goodIn_app (goodIn_of _ (by decide +kernel)) (fun w h => ⟨List.mem_cons_of_mem _ (List.mem_append_right _ (List.mem_append_right _ (List.mem_append_right _ (List.mem_append_left _ h)))), gd_dm_X9_nameAt w h⟩)
theorem gi_dm_X1_readLabel_1 : GoodIn ow_dm_X1_readLabel (va_wsS RX1 123 yX7_registerAt ow_dm_X7_registerAt) := goodIn_app (goodIn_of _ (by decide +kernel)) (fun w h => ⟨List.mem_cons_of_mem _ (List.mem_append_right _ (List.mem_append_right _ (List.mem_append_right _ (List.mem_append_right _ (List.mem_append_left _ h))))), gd_dm_X7_registerAt w h⟩)
theorem gi_dm_X1_readLabel_2 : GoodIn ow_dm_X1_readLabel (wsV RX1 77 RX1 yX1_blame ow_dm_X1_blame) := goodIn_app (goodIn_of _ (by decide +kernel)) (fun w h => ⟨List.mem_cons_of_mem _ (List.mem_append_right _ (List.mem_append_right _ (List.mem_append_right _ (List.mem_append_right _ (List.mem_append_right _ (List.mem_append_left _ h)))))), gd_dm_X1_blame w h⟩)
theorem gi_dm_X1_readLabel_3 : GoodIn ow_dm_X1_readLabel (wsV RX1 129 RX9 yX9_isDefined ow_dm_X9_isDefined) := goodIn_app (goodIn_of _ (by decide +kernel)) (fun w h => ⟨List.mem_cons_of_mem _ (List.mem_append_right _ (List.mem_append_right _ (List.mem_append_right _ (List.mem_append_right _ (List.mem_append_right _ (List.mem_append_right _ (List.mem_append_left _ h))))))), gd_dm_X9_isDefined w h⟩)
theorem gi_dm_X1_readLabel_4 : GoodIn ow_dm_X1_readLabel (wsV RX1 112 RX9 yX9_addLabel ow_dm_X9_addLabel) := goodIn_app (goodIn_of _ (by decide +kernel)) (fun w h => ⟨List.mem_cons_of_mem _ (List.mem_append_right _ (List.mem_append_right _ (List.mem_append_right _ (List.mem_append_right _ (List.mem_append_right _ (List.mem_append_right _ (List.mem_append_right _ (List.mem_append_left _ h)))))))), gd_dm_X9_addLabel w h⟩)
theorem gi_dm_X1_readLabel_5 : GoodIn ow_dm_X1_readLabel (wsV RX1 132 RX9 yX9_define ow_dm_X9_define) := goodIn_app (goodIn_of _ (by decide +kernel)) (fun w h => ⟨List.mem_cons_of_mem _ (List.mem_append_right _ (List.mem_append_right _ (List.mem_append_right _ (List.mem_append_right _ (List.mem_append_right _ (List.mem_append_right _ (List.mem_append_right _ (List.mem_append_right _ (List.mem_append_left _ h))))))))), gd_dm_X9_define w h⟩)
def dj_X1_readLabel_60 (p : Program) (l : Launch) (e : Env) (s : State) (m : MethodId) (args : Array Value) (below : List Frame) (meth : Method) (c : Code) (Q : State → Prop) (A : Nat → Prop) (dC : Nat → ClassId) (dI : Nat → Nat → Nat) (a : Nat → Nat) (ac : Nat → ClassId) (g : (St × (St)) → Option (St × (St))) (r : St × (St)) : Prop := ∀ (s0 : St × (St)) (H : Heap) (locs : List Loc) (ls : Array Slot), g s0 = some r → va_P (dC, dI) vwCl (dw_X1 a ac s0) H → va_D A (dw_X1 a ac s0) → va_S A s.heap H locs → lv_has ls 5 [(0, .ref (a 0))] → W p l e (headSpec ow_dm_X1_readLabel ({ frames := 6, cells := 0, slots := 0, locals := 133 })).room s m args below meth c H locs 0 0 Q (F0 m 60 ls [])
def dj_X1_readLabel_0 (p : Program) (l : Launch) (e : Env) (s : State) (m : MethodId) (args : Array Value) (below : List Frame) (meth : Method) (c : Code) (Q : State → Prop) (A : Nat → Prop) (dC : Nat → ClassId) (dI : Nat → Nat → Nat) (a : Nat → Nat) (ac : Nat → ClassId) (g : Int32 → Int32 → Int32 → (St × (St)) → Option (St × (St))) (r : St × (St)) : Prop := ∀ (v0 : Int32) (v1 : Int32) (v2 : Int32) (s0 : St × (St)) (H : Heap) (locs : List Loc) (ls : Array Slot), g v0 v1 v2 s0 = some r → va_P (dC, dI) vwCl (dw_X1 a ac s0) H → va_D A (dw_X1 a ac s0) → va_S A s.heap H locs → lv_has ls 5 [(0, .ref (a 0)), (1, .int v0), (2, .int v1), (3, .int v2)] → W p l e (headSpec ow_dm_X1_readLabel ({ frames := 6, cells := 0, slots := 0, locals := 133 })).room s m args below meth c H locs 0 0 Q (F0 m 0 ls [])
set_option maxHeartbeats 40000000 in
set_option maxRecDepth 100000 in
theorem db_X1_readLabel_60 {p : Program} {l : Launch} {e : Env} {s : State} {m : MethodId} {args : Array Value} {below : List Frame} {meth : Method} {c : Code} {Q : State → Prop} {A : Nat → Prop} {dC : Nat → ClassId} {dI : Nat → Nat → Nat} {a : Nat → Nat} {ac : Nat → ClassId} {n : Nat} {r : St × (St)} (C : nd_C p l s m args c A (dC, dI) cX1_readLabel 5 RX1 ow_dm_X1_readLabel (dk_X1 ac)) (K : nd_Kv p l e (headSpec ow_dm_X1_readLabel ({ frames := 6, cells := 0, slots := 0, locals := 133 })).room s m args below meth c Q A (dC, dI) cX1_readLabel (St × (St)) (dw_X1 a ac) r) : dj_X1_readLabel_60 p l e s m args below meth c Q A dC dI a ac (df_X1_readLabel_60 n) r := by
  obtain ⟨hlt, hx, hb, hml, hown, hts, hN, hA, hK⟩ := id C
  intro s0 H locs ls h hP hD hS hl
  unfold df_X1_readLabel_60 at h
  refine lv_aload_n hx hb dX1_readLabel_60 rfl (lv_at hl 0 rfl) ?_
  refine lv_iconst (v := 4) hx hb dX1_readLabel_61 (by decide) ?_
  obtain ⟨s13, hq, h⟩ := nd_b1_e h
  have hPc := hP
  have hDc := hD
  have hKc := hK
  have hFc := nd_rs hD hS hA
  refine nd_cVv (As := [.int 4]) (rest := []) (w' := dw_X1 a ac s13) ⟨hx, hb, hml, hown, hts⟩ (fun sz => dm_X1_blame l hlt dC dI a ac n (4) s0 hq sz) (cwV 1 hts gi_dm_X1_readLabel_2 rfl rfl rfl (by decide +kernel) ⟨Nat.le_of_ble_eq_true rfl, Nat.le_of_ble_eq_true rfl⟩) hPc hDc hKc hS hA hN (va_recv hKc hPc (ci := 2) (q0 := 0) rfl rfl) rfl hl.1 rfl (Nat.le_of_ble_eq_true rfl) dX1_readLabel_62 (fun H locs hP1 hD1 hk1 hS => ?_)
  have hP := hP1
  have hD := hD1.weaken (fun k q _ h => hFc q.1 h)
  exact K _ _ _ _ _ dX1_readLabel_65 (Option.some.inj h).symm hP hD hS
set_option maxHeartbeats 40000000 in
set_option maxRecDepth 100000 in
theorem db_X1_readLabel_0 {p : Program} {l : Launch} {e : Env} {s : State} {m : MethodId} {args : Array Value} {below : List Frame} {meth : Method} {c : Code} {Q : State → Prop} {A : Nat → Prop} {dC : Nat → ClassId} {dI : Nat → Nat → Nat} {a : Nat → Nat} {ac : Nat → ClassId} {n : Nat} {r : St × (St)} (C : nd_C p l s m args c A (dC, dI) cX1_readLabel 5 RX1 ow_dm_X1_readLabel (dk_X1 ac)) (K : nd_Kv p l e (headSpec ow_dm_X1_readLabel ({ frames := 6, cells := 0, slots := 0, locals := 133 })).room s m args below meth c Q A (dC, dI) cX1_readLabel (St × (St)) (dw_X1 a ac) r) : dj_X1_readLabel_0 p l e s m args below meth c Q A dC dI a ac (df_X1_readLabel_0 n) r := by
  obtain ⟨hlt, hx, hb, hml, hown, hts, hN, hA, hK⟩ := id C
  intro v0 v1 v2 s0 H locs ls h hP hD hS hl
  unfold df_X1_readLabel_0 at h
  refine lv_iload_n hx hb dX1_readLabel_0 rfl (lv_at hl 3 rfl) ?_
  refine lv_if_lt (tgt := 22) hx hb dX1_readLabel_1 (by decide) (fun c1 => ?_) (fun c1 => ?_)
  · have h := nd_pos h c1
    refine lv_aload_n hx hb dX1_readLabel_22 rfl (lv_at hl 0 rfl) ?_
    refine va_get (D := (dC, dI)) (ci := 2) (v := .ref (a 3)) (C := RX1) (T := TX1) (N := 13) hx hb hts hi_dm_X1_readLabel_X1 hown hK hP 0 rfl rfl 0 (by decide) (hts (.fieldLink RX1 12 "TimeMachine$Assembler" "reader" "LTimeMachine$Reader;") (List.mem_of_getElem? (i := 1) rfl)) (fun _ h9 => h9) rfl dX1_readLabel_23 ?_
    refine lv_iload_n hx hb dX1_readLabel_26 rfl (lv_at hl 1 rfl) ?_
    refine lv_iload_n hx hb dX1_readLabel_27 rfl (lv_at hl 2 rfl) ?_
    obtain ⟨q2, s3, hq, h⟩ := nd_b2_e h
    have hPc := dp_X1_3 hP
    have hDc := dd_X1_3 hD
    have hKc := dy_X1_3 hK
    have hFc := nd_rs hDc hS hA
    have hzA : ∀ q : Nat, H.size ≤ q → A q := fun q h => hA q (Nat.le_trans hS.1 h)
    refine nd_cVi (As := [.int v0, .int v1]) (rest := []) (q := q2) (w' := dw_X9 (fun k => a (k + 3)) (fun k => ac (k + 3)) s3) ⟨hx, hb, hml, hown, hts⟩ (fun sz => dm_X9_nameAt l hlt dC dI (fun k => a (k + 3)) (fun k => ac (k + 3)) n (v0) (v1) s0.2 hq sz) (cwV 2 hts gi_dm_X1_readLabel_0 rfl rfl rfl (by decide +kernel) ⟨Nat.le_of_ble_eq_true rfl, Nat.le_of_ble_eq_true rfl⟩) hPc hDc hKc hS hA hN (va_recv hKc hPc (ci := 10) (q0 := 0) rfl rfl) rfl hl.1 rfl (Nat.le_of_ble_eq_true rfl) dX1_readLabel_28 (fun H locs hP1 hD1 hk1 hS => ?_)
    obtain ⟨hP, hD⟩ := dn_X1_3 hP hD hzA hk1 hP1 hD1
    obtain ⟨s5, es5, h⟩ := nd_let_e h
    have hP : va_P (dC, dI) vwCl (dw_X1 a ac s5) H := by rw [es5]; exact hP
    have hD : va_D A (dw_X1 a ac s5) := by rw [es5]; exact hD
    refine lv_istore (lv' := [(4, .int q2), (0, .ref (a 0)), (1, .int v0), (2, .int v1), (3, .int v2)]) hx hb dX1_readLabel_31 hl (by decide) rfl (fun ls hl => ?_)
    refine lv_aload_n hx hb dX1_readLabel_33 rfl (lv_at hl 1 rfl) ?_
    refine va_get (D := (dC, dI)) (ci := 2) (v := .ref (a 3)) (C := RX1) (T := TX1) (N := 13) hx hb hts hi_dm_X1_readLabel_X1 hown hK hP 0 rfl rfl 0 (by decide) (hts (.fieldLink RX1 12 "TimeMachine$Assembler" "reader" "LTimeMachine$Reader;") (List.mem_of_getElem? (i := 1) rfl)) (fun _ h9 => h9) rfl dX1_readLabel_34 ?_
    obtain ⟨o6, h⟩ := nd_o_e h
    refine va_get (D := (dC, dI)) (ci := 10) (v := .ref (a 11)) (C := RX9) (T := TX9) (N := 20) hx hb hts hi_dm_X1_readLabel_X9 hown hK hP 3 rfl rfl 0 (by decide) (hts (.fieldLink RX1 120 "TimeMachine$Reader" "source" "[B") (List.mem_of_getElem? (i := 6) rfl)) (fun _ h9 => h9) (congrArg (fun z => some (va_rf (Option.map (fun k => a (k + 3)) z))) o6) dX1_readLabel_37 ?_
    refine lv_iload_n hx hb dX1_readLabel_40 rfl (lv_at hl 2 rfl) ?_
    refine lv_iload_n hx hb dX1_readLabel_41 rfl (lv_at hl 3 rfl) ?_
    obtain ⟨q7, s8, hq, h⟩ := nd_b2_e h
    have hPc := dp_vX1_BY_0 hP
    have hDc := dd_vX1_BY_0 hD
    have hKc := dy_vX1_BY_0 hK
    have hFc := nd_rs hDc hS hA
    have hzA : ∀ q : Nat, H.size ≤ q → A q := fun q h => hA q (Nat.le_trans hS.1 h)
    refine nd_cSi (As := [.ref (a 11), .int v0, .int v1]) (rest := []) (q := q7) (w' := dw_BY (fun k => a (nd_ix [11] k)) (fun k => ac (nd_ix [11] k)) s8) ⟨hx, hb, hml, hown, hts⟩ (fun sz => dm_X7_registerAt l hlt dC dI (fun k => a (nd_ix [11] k)) (fun k => ac (nd_ix [11] k)) n (v0) (v1) ((pR nd_st0 0 (sR s5.2 7))) hq sz) (va_cwS 3 hts gi_dm_X1_readLabel_1 rfl rfl rfl (by decide +kernel) ⟨Nat.le_of_ble_eq_true rfl, Nat.le_of_ble_eq_true rfl⟩) hPc hDc hKc hS hA hN rfl hl.1 rfl (Nat.le_of_ble_eq_true rfl) dX1_readLabel_42 (fun H locs hP1 hD1 hk1 hS => ?_)
    obtain ⟨hP, hD⟩ := dn_vX1_BY_0 hP hD hzA hk1 hP1 hD1
    obtain ⟨s10, es10, h⟩ := nd_let_e h
    have hP : va_P (dC, dI) vwCl (dw_X1 a ac s10) H := by rw [es10]; exact hP
    have hD : va_D A (dw_X1 a ac s10) := by rw [es10]; exact hD
    refine lv_if_ge (tgt := 60) hx hb dX1_readLabel_45 (by decide) (fun c11 => ?_) (fun c11 => ?_)
    · have h := nd_pos h c11
      exact (db_X1_readLabel_60 C K)  s10 _ _ _ h hP hD hS (lv_sub hl [1] rfl)
    · have h := nd_neg h c11
      refine lv_aload_n hx hb dX1_readLabel_48 rfl (lv_at hl 1 rfl) ?_
      refine va_get (D := (dC, dI)) (ci := 2) (v := .ref (a 3)) (C := RX1) (T := TX1) (N := 13) hx hb hts hi_dm_X1_readLabel_X1 hown hK hP 0 rfl rfl 0 (by decide) (hts (.fieldLink RX1 12 "TimeMachine$Assembler" "reader" "LTimeMachine$Reader;") (List.mem_of_getElem? (i := 1) rfl)) (fun _ h9 => h9) rfl dX1_readLabel_49 ?_
      refine lv_iload hx hb dX1_readLabel_52 (lv_at hl 0 rfl) ?_
      obtain ⟨q15, s16, hq, h⟩ := nd_b2_e h
      have hPc := dp_X1_3 hP
      have hDc := dd_X1_3 hD
      have hKc := dy_X1_3 hK
      have hFc := nd_rs hDc hS hA
      have hzA : ∀ q : Nat, H.size ≤ q → A q := fun q h => hA q (Nat.le_trans hS.1 h)
      refine nd_cVi (As := [.int q2]) (rest := []) (q := q15) (w' := dw_X9 (fun k => a (k + 3)) (fun k => ac (k + 3)) s16) ⟨hx, hb, hml, hown, hts⟩ (fun sz => dm_X9_isDefined l hlt dC dI (fun k => a (k + 3)) (fun k => ac (k + 3)) n (q2) s10.2 hq sz) (cwV 1 hts gi_dm_X1_readLabel_3 rfl rfl rfl (by decide +kernel) ⟨Nat.le_of_ble_eq_true rfl, Nat.le_of_ble_eq_true rfl⟩) hPc hDc hKc hS hA hN (va_recv hKc hPc (ci := 10) (q0 := 0) rfl rfl) rfl hl.1 rfl (Nat.le_of_ble_eq_true rfl) dX1_readLabel_54 (fun H locs hP1 hD1 hk1 hS => ?_)
      obtain ⟨hP, hD⟩ := dn_X1_3 hP hD hzA hk1 hP1 hD1
      obtain ⟨s18, es18, h⟩ := nd_let_e h
      have hP : va_P (dC, dI) vwCl (dw_X1 a ac s18) H := by rw [es18]; exact hP
      have hD : va_D A (dw_X1 a ac s18) := by rw [es18]; exact hD
      refine lv_if_eq (tgt := 66) hx hb dX1_readLabel_57 (by decide) (fun c19 => ?_) (fun c19 => ?_)
      · have h := nd_pos h c19
        refine lv_aload_n hx hb dX1_readLabel_66 rfl (lv_at hl 1 rfl) ?_
        refine va_get (D := (dC, dI)) (ci := 2) (v := .ref (a 3)) (C := RX1) (T := TX1) (N := 13) hx hb hts hi_dm_X1_readLabel_X1 hown hK hP 0 rfl rfl 0 (by decide) (hts (.fieldLink RX1 12 "TimeMachine$Assembler" "reader" "LTimeMachine$Reader;") (List.mem_of_getElem? (i := 1) rfl)) (fun _ h9 => h9) rfl dX1_readLabel_67 ?_
        refine lv_iload hx hb dX1_readLabel_70 (lv_at hl 0 rfl) ?_
        refine lv_iconst (v := 2) hx hb dX1_readLabel_72 (by decide) ?_
        refine lv_aload_n hx hb dX1_readLabel_73 rfl (lv_at hl 1 rfl) ?_
        refine va_get (D := (dC, dI)) (ci := 2) (v := .ref (a 3)) (C := RX1) (T := TX1) (N := 13) hx hb hts hi_dm_X1_readLabel_X1 hown hK hP 0 rfl rfl 0 (by decide) (hts (.fieldLink RX1 12 "TimeMachine$Assembler" "reader" "LTimeMachine$Reader;") (List.mem_of_getElem? (i := 1) rfl)) (fun _ h9 => h9) rfl dX1_readLabel_74 ?_
        refine lv_aload_n hx hb dX1_readLabel_77 rfl (lv_at hl 1 rfl) ?_
        refine va_get (D := (dC, dI)) (ci := 2) (v := .int (sI s18.1 0)) (C := RX1) (T := TX1) (N := 13) hx hb hts hi_dm_X1_readLabel_X1 hown hK hP 0 rfl rfl 2 (by decide) (hts (.fieldLink RX1 65 "TimeMachine$Assembler" "statements" "I") (List.mem_of_getElem? (i := 17) rfl)) (fun _ h9 => h9) rfl dX1_readLabel_78 ?_
        refine lv_aload_n hx hb dX1_readLabel_81 rfl (lv_at hl 1 rfl) ?_
        refine va_get (D := (dC, dI)) (ci := 2) (v := .int (sI s18.1 4)) (C := RX1) (T := TX1) (N := 13) hx hb hts hi_dm_X1_readLabel_X1 hown hK hP 0 rfl rfl 7 (by decide) (hts (.fieldLink RX1 71 "TimeMachine$Assembler" "section" "I") (List.mem_of_getElem? (i := 18) rfl)) (fun _ h9 => h9) rfl dX1_readLabel_82 ?_
        refine lv_iconst (v := (-1)) hx hb dX1_readLabel_85 (by decide) ?_
        obtain ⟨q20, s21, hq, h⟩ := nd_b2_e h
        have hPc := dp_X1_3 hP
        have hDc := dd_X1_3 hD
        have hKc := dy_X1_3 hK
        have hFc := nd_rs hDc hS hA
        have hzA : ∀ q : Nat, H.size ≤ q → A q := fun q h => hA q (Nat.le_trans hS.1 h)
        refine nd_cVi (As := [.int (sI s18.1 0), .int (sI s18.1 4), .int (-1)]) (rest := [.int 2, .int q2, .ref (a 3)]) (q := q20) (w' := dw_X9 (fun k => a (k + 3)) (fun k => ac (k + 3)) s21) ⟨hx, hb, hml, hown, hts⟩ (fun sz => dm_X9_addLabel l hlt dC dI (fun k => a (k + 3)) (fun k => ac (k + 3)) n ((sI s18.1 0)) ((sI s18.1 4)) ((-1)) s18.2 hq sz) (cwV 3 hts gi_dm_X1_readLabel_4 rfl rfl rfl (by decide +kernel) ⟨Nat.le_of_ble_eq_true rfl, Nat.le_of_ble_eq_true rfl⟩) hPc hDc hKc hS hA hN (va_recv hKc hPc (ci := 10) (q0 := 0) rfl rfl) rfl hl.1 rfl (Nat.le_of_ble_eq_true rfl) dX1_readLabel_86 (fun H locs hP1 hD1 hk1 hS => ?_)
        obtain ⟨hP, hD⟩ := dn_X1_3 hP hD hzA hk1 hP1 hD1
        obtain ⟨s23, es23, h⟩ := nd_let_e h
        have hP : va_P (dC, dI) vwCl (dw_X1 a ac s23) H := by rw [es23]; exact hP
        have hD : va_D A (dw_X1 a ac s23) := by rw [es23]; exact hD
        obtain ⟨s25, hq, h⟩ := nd_b1_e h
        have hPc := dp_X1_3 hP
        have hDc := dd_X1_3 hD
        have hKc := dy_X1_3 hK
        have hFc := nd_rs hDc hS hA
        have hzA : ∀ q : Nat, H.size ≤ q → A q := fun q h => hA q (Nat.le_trans hS.1 h)
        refine nd_cVv (As := [.int q2, .int 2, .int q20]) (rest := []) (w' := dw_X9 (fun k => a (k + 3)) (fun k => ac (k + 3)) s25) ⟨hx, hb, hml, hown, hts⟩ (fun sz => dm_X9_define l hlt dC dI (fun k => a (k + 3)) (fun k => ac (k + 3)) n (q2) (2) (q20) s23.2 hq sz) (cwV 3 hts gi_dm_X1_readLabel_5 rfl rfl rfl (by decide +kernel) ⟨Nat.le_of_ble_eq_true rfl, Nat.le_of_ble_eq_true rfl⟩) hPc hDc hKc hS hA hN (va_recv hKc hPc (ci := 10) (q0 := 0) rfl rfl) rfl hl.1 rfl (Nat.le_of_ble_eq_true rfl) dX1_readLabel_89 (fun H locs hP1 hD1 hk1 hS => ?_)
        obtain ⟨hP, hD⟩ := dn_X1_3 hP hD hzA hk1 hP1 hD1
        obtain ⟨s27, es27, h⟩ := nd_let_e h
        have hP : va_P (dC, dI) vwCl (dw_X1 a ac s27) H := by rw [es27]; exact hP
        have hD : va_D A (dw_X1 a ac s27) := by rw [es27]; exact hD
        exact K _ _ _ _ _ dX1_readLabel_92 (Option.some.inj h).symm hP hD hS
      · have h := nd_neg h c19
        exact (db_X1_readLabel_60 C K)  s18 _ _ _ h hP hD hS (lv_sub hl [1] rfl)
  · have h := nd_neg h c1
    refine lv_aload_n hx hb dX1_readLabel_4 rfl (lv_at hl 0 rfl) ?_
    refine va_get (D := (dC, dI)) (ci := 2) (v := .ref (a 3)) (C := RX1) (T := TX1) (N := 13) hx hb hts hi_dm_X1_readLabel_X1 hown hK hP 0 rfl rfl 0 (by decide) (hts (.fieldLink RX1 12 "TimeMachine$Assembler" "reader" "LTimeMachine$Reader;") (List.mem_of_getElem? (i := 1) rfl)) (fun _ h9 => h9) rfl dX1_readLabel_5 ?_
    refine lv_aload_n hx hb dX1_readLabel_8 rfl (lv_at hl 0 rfl) ?_
    refine va_get (D := (dC, dI)) (ci := 2) (v := .int (sI s0.1 0)) (C := RX1) (T := TX1) (N := 13) hx hb hts hi_dm_X1_readLabel_X1 hown hK hP 0 rfl rfl 2 (by decide) (hts (.fieldLink RX1 65 "TimeMachine$Assembler" "statements" "I") (List.mem_of_getElem? (i := 17) rfl)) (fun _ h9 => h9) rfl dX1_readLabel_9 ?_
    refine lv_aload_n hx hb dX1_readLabel_12 rfl (lv_at hl 0 rfl) ?_
    refine va_get (D := (dC, dI)) (ci := 2) (v := .int (sI s0.1 4)) (C := RX1) (T := TX1) (N := 13) hx hb hts hi_dm_X1_readLabel_X1 hown hK hP 0 rfl rfl 7 (by decide) (hts (.fieldLink RX1 71 "TimeMachine$Assembler" "section" "I") (List.mem_of_getElem? (i := 18) rfl)) (fun _ h9 => h9) rfl dX1_readLabel_13 ?_
    refine lv_iload_n hx hb dX1_readLabel_16 rfl (lv_at hl 3 rfl) ?_
    obtain ⟨q28, s29, hq, h⟩ := nd_b2_e h
    have hPc := dp_X1_3 hP
    have hDc := dd_X1_3 hD
    have hKc := dy_X1_3 hK
    have hFc := nd_rs hDc hS hA
    have hzA : ∀ q : Nat, H.size ≤ q → A q := fun q h => hA q (Nat.le_trans hS.1 h)
    refine nd_cVi (As := [.int (sI s0.1 0), .int (sI s0.1 4), .int v2]) (rest := []) (q := q28) (w' := dw_X9 (fun k => a (k + 3)) (fun k => ac (k + 3)) s29) ⟨hx, hb, hml, hown, hts⟩ (fun sz => dm_X9_addLabel l hlt dC dI (fun k => a (k + 3)) (fun k => ac (k + 3)) n ((sI s0.1 0)) ((sI s0.1 4)) (v2) s0.2 hq sz) (cwV 3 hts gi_dm_X1_readLabel_4 rfl rfl rfl (by decide +kernel) ⟨Nat.le_of_ble_eq_true rfl, Nat.le_of_ble_eq_true rfl⟩) hPc hDc hKc hS hA hN (va_recv hKc hPc (ci := 10) (q0 := 0) rfl rfl) rfl hl.1 rfl (Nat.le_of_ble_eq_true rfl) dX1_readLabel_17 (fun H locs hP1 hD1 hk1 hS => ?_)
    obtain ⟨hP, hD⟩ := dn_X1_3 hP hD hzA hk1 hP1 hD1
    obtain ⟨s31, es31, h⟩ := nd_let_e h
    have hP : va_P (dC, dI) vwCl (dw_X1 a ac s31) H := by rw [es31]; exact hP
    have hD : va_D A (dw_X1 a ac s31) := by rw [es31]; exact hD
    refine lv_pop hx hb dX1_readLabel_20 rfl ?_
    exact K _ _ _ _ _ dX1_readLabel_21 (Option.some.inj h).symm hP hD hS
set_option maxHeartbeats 40000000 in
set_option maxRecDepth 100000 in
theorem dm_X1_readLabel (l : Launch) (hlt : l.stackTraces = false) (dC : Nat → ClassId) (dI : Nat → Nat → Nat) (a : Nat → Nat) (ac : Nat → ClassId) (n : Nat) (v0 : Int32) (v1 : Int32) (v2 : Int32) (s0 : St × (St)) {r : St × (St)} (h : df_X1_readLabel n v0 v1 v2 s0 = some r) (sz : Nat) : Met l yX1_readLabel ow_dm_X1_readLabel ({ frames := 6, cells := 0, slots := 0, locals := 133 }) (va_Pc [.ref (a 0), .int v0, .int v1, .int v2] (fun U => U.heap.size = sz ∧ va_P (dC, dI) vwCl (dw_X1 a ac s0) U.heap ∧ va_K (dC, dI) vwCl (dk_X1 ac) U ∧ va_D (fun _ => True) (dw_X1 a ac s0) ∧ nv_E dI (va_A (dw_X1 a ac s0) sz) U)) (va_Qv (fun _ => True) (fun (_ : Unit) t => va_P (dC, dI) vwCl (dw_X1 a ac r) t.heap ∧ va_K (dC, dI) vwCl (dk_X1 ac) t ∧ va_D (va_A (dw_X1 a ac s0) sz) (dw_X1 a ac r)) (va_A (dw_X1 a ac s0) sz)) 0 0 (va_A (dw_X1 a ac s0) sz) := by
  refine Met.ofW (cc := cX1_readLabel) (maxL := 5) (ret := none) (by decide) rfl ?_
  intro p e s m args below meth c s₁ B hml hv
  obtain ⟨rfl, hsz, hP, hK, hD0, hN⟩ := hv
  have hx := B.exec
  have hb := B.bytes
  have hr := B.returns
  have hts := atoms_spec (ws := ow_dm_X1_readLabel) B.pre
  have hown : s.vm.findClass RX1 = some m.cls := findClass_of_methodNamed B.named
  have hlocks := B.notSynchronized
  subst hsz
  have hD := hD0.self (sz := s.heap.size)
  generalize hAe : va_A (dw_X1 a ac s0) s.heap.size = A at hD hN ⊢
  have hA : ∀ q : Nat, s.heap.size ≤ q → A q := fun q h => by rw [← hAe]; exact Or.inr h
  have hl := lv_entry ([.ref (a 0), .int v0, .int v1, .int v2]) (n := 5) (Nat.le_of_ble_eq_true rfl)
  rw [lg_entry_eq]
  generalize (lg_sl ([.ref (a 0), .int v0, .int v1, .int v2]) ++ List.replicate (5 - (lg_sl ([.ref (a 0), .int v0, .int v1, .int v2])).length) Slot.unset).toArray = ls at hl ⊢
  have hl : lv_has ls 5 [(0, .ref (a 0)), (1, .int v0), (2, .int v1), (3, .int v2)] := hl
  exact db_X1_readLabel_0 (dC := dC) (dI := dI) (a := a) (ac := ac) (n := n) (r := r) ⟨hlt, hx, hb, hml, hown, hts, hN, hA, hK⟩ (fun pc τ H locs ls d er hP hD hS => by subst er; exact W.vret hx hb hr (fun t ht hW => ⟨⟨(), rfl, trivial, by rw [ht]; exact hP, va_K.moved hW.alike hK, hD⟩, hS.F ht⟩) hS.2.2 d) v0 v1 v2 s0 _ _ _ h hP hD va_S.rf (lv_sub hl [0, 1, 2, 3] rfl)
def ow_dm_X1_statementNamed : List Cond := Cond.code yX1_statementNamed cX1_statementNamed 6 (some (.object "TimeMachine$Op")) :: ([Cond.fieldLink RX1 135 "TimeMachine$Assembler" "order" "I", Cond.fieldLink RX1 12 "TimeMachine$Assembler" "reader" "LTimeMachine$Reader;", Cond.fieldLink RX1 120 "TimeMachine$Reader" "source" "[B", Cond.methodLink RX1 138 yX7_named, Cond.static yX7_named, Cond.initialized RX7, Cond.methodLink RX1 142 yX7_order, Cond.static yX7_order, Cond.constant RX1 144 (100663296), Cond.methodLink RX1 77 yX1_blame, Cond.instanceMethod yX1_blame, Cond.selects RX1 yX1_blame yX1_blame, Cond.initialized RX1, Cond.fieldLink RX1 145 "TimeMachine$Op" "bits" "I", Cond.fieldLink RX1 148 "TimeMachine$Op" "sort" "I"] ++ (u_ws RX1 TX1 13 ++ (u_ws RX9 TX9 20 ++ (ow_dm_X7_named ++ (ow_dm_X7_order ++ (ow_dm_X1_blame ++ []))))))
theorem gd_dm_X1_statementNamed : ∀ w ∈ ow_dm_X1_statementNamed, (w.onTables && w.keeps) = true ∨ ∃ ty, w = Cond.arrayClass ty := List.forall_mem_cons.mpr ⟨good_of_word rfl, List.forall_mem_append.mpr ⟨fun w h => good_of_word (List.all_eq_true.mp (by decide +kernel) w h), List.forall_mem_append.mpr ⟨gu_X1, List.forall_mem_append.mpr ⟨gu_X9, List.forall_mem_append.mpr ⟨gd_dm_X7_named, List.forall_mem_append.mpr ⟨gd_dm_X7_order, List.forall_mem_append.mpr ⟨gd_dm_X1_blame, fun _ h => nomatch h⟩⟩⟩⟩⟩⟩⟩
theorem hi_dm_X1_statementNamed_X1 : ∀ w ∈ u_ws RX1 TX1 13, w ∈ ow_dm_X1_statementNamed := fun w h => List.mem_cons_of_mem _ (List.mem_append_right _ (List.mem_append_left _ h))
theorem hi_dm_X1_statementNamed_X9 : ∀ w ∈ u_ws RX9 TX9 20, w ∈ ow_dm_X1_statementNamed := fun w h => List.mem_cons_of_mem _ (List.mem_append_right _ (List.mem_append_right _ (List.mem_append_left _ h)))
theorem gi_dm_X1_statementNamed_0 : GoodIn ow_dm_X1_statementNamed (va_wsS RX1 138 yX7_named ow_dm_X7_named) := goodIn_app (goodIn_of _ (by decide +kernel)) (fun w h => ⟨List.mem_cons_of_mem _ (List.mem_append_right _ (List.mem_append_right _ (List.mem_append_right _ (List.mem_append_left _ h)))), gd_dm_X7_named w h⟩)
theorem gi_dm_X1_statementNamed_1 : GoodIn ow_dm_X1_statementNamed (va_wsS RX1 142 yX7_order ow_dm_X7_order) := goodIn_app (goodIn_of _ (by decide +kernel)) (fun w h => ⟨List.mem_cons_of_mem _ (List.mem_append_right _ (List.mem_append_right _ (List.mem_append_right _ (List.mem_append_right _ (List.mem_append_left _ h))))), gd_dm_X7_order w h⟩)
theorem gi_dm_X1_statementNamed_2 : GoodIn ow_dm_X1_statementNamed (wsV RX1 77 RX1 yX1_blame ow_dm_X1_blame) := goodIn_app (goodIn_of _ (by decide +kernel)) (fun w h => ⟨List.mem_cons_of_mem _ (List.mem_append_right _ (List.mem_append_right _ (List.mem_append_right _ (List.mem_append_right _ (List.mem_append_right _ (List.mem_append_left _ h)))))), gd_dm_X1_blame w h⟩)
def dj_X1_statementNamed_130 (p : Program) (l : Launch) (e : Env) (s : State) (m : MethodId) (args : Array Value) (below : List Frame) (meth : Method) (c : Code) (Q : State → Prop) (A : Nat → Prop) (dC : Nat → ClassId) (dI : Nat → Nat → Nat) (a : Nat → Nat) (ac : Nat → ClassId) (g : Option Nat → (St × (St)) → Option (Option Nat × (St × (St)))) (r : Option Nat × (St × (St))) : Prop := ∀ (x4 : Option Nat) (s0 : St × (St)) (H : Heap) (locs : List Loc) (ls : Array Slot), g x4 s0 = some r → va_P (dC, dI) vwCl (dw_X1 a ac s0) H → va_D A (dw_X1 a ac s0) → va_S A s.heap H locs → lv_has ls 6 [(4, va_rf (Option.map (fun j => dI 1002 j) x4))] → W p l e (headSpec ow_dm_X1_statementNamed ({ frames := 6, cells := 0, slots := 0, locals := 132 })).room s m args below meth c H locs 0 0 Q (F0 m 130 ls [])
def dj_X1_statementNamed_122 (p : Program) (l : Launch) (e : Env) (s : State) (m : MethodId) (args : Array Value) (below : List Frame) (meth : Method) (c : Code) (Q : State → Prop) (A : Nat → Prop) (dC : Nat → ClassId) (dI : Nat → Nat → Nat) (a : Nat → Nat) (ac : Nat → ClassId) (g : (St × (St)) → Option (Option Nat × (St × (St)))) (r : Option Nat × (St × (St))) : Prop := ∀ (s0 : St × (St)) (H : Heap) (locs : List Loc) (ls : Array Slot), g s0 = some r → va_P (dC, dI) vwCl (dw_X1 a ac s0) H → va_D A (dw_X1 a ac s0) → va_S A s.heap H locs → lv_has ls 6 [(0, .ref (a 0))] → W p l e (headSpec ow_dm_X1_statementNamed ({ frames := 6, cells := 0, slots := 0, locals := 132 })).room s m args below meth c H locs 0 0 Q (F0 m 122 ls [])
def dj_X1_statementNamed_93 (p : Program) (l : Launch) (e : Env) (s : State) (m : MethodId) (args : Array Value) (below : List Frame) (meth : Method) (c : Code) (Q : State → Prop) (A : Nat → Prop) (dC : Nat → ClassId) (dI : Nat → Nat → Nat) (a : Nat → Nat) (ac : Nat → ClassId) (g : Option Nat → (St × (St)) → Option (Option Nat × (St × (St)))) (r : Option Nat × (St × (St))) : Prop := ∀ (y0 : Option Nat) (s0 : St × (St)) (H : Heap) (locs : List Loc) (ls : Array Slot), g y0 s0 = some r → va_P (dC, dI) vwCl (dw_X1 a ac s0) H → va_D A (dw_X1 a ac s0) → va_S A s.heap H locs → lv_has ls 6 [(0, .ref (a 0))] → W p l e (headSpec ow_dm_X1_statementNamed ({ frames := 6, cells := 0, slots := 0, locals := 132 })).room s m args below meth c H locs 0 0 Q (F0 m 93 ls [va_rf (Option.map (fun j => dI 1002 j) y0)])
def dj_X1_statementNamed_65 (p : Program) (l : Launch) (e : Env) (s : State) (m : MethodId) (args : Array Value) (below : List Frame) (meth : Method) (c : Code) (Q : State → Prop) (A : Nat → Prop) (dC : Nat → ClassId) (dI : Nat → Nat → Nat) (a : Nat → Nat) (ac : Nat → ClassId) (g : Int32 → Int32 → Int32 → (St × (St)) → Option (Option Nat × (St × (St)))) (r : Option Nat × (St × (St))) : Prop := ∀ (x1 : Int32) (x2 : Int32) (y0 : Int32) (s0 : St × (St)) (H : Heap) (locs : List Loc) (ls : Array Slot), g x1 x2 y0 s0 = some r → va_P (dC, dI) vwCl (dw_X1 a ac s0) H → va_D A (dw_X1 a ac s0) → va_S A s.heap H locs → lv_has ls 6 [(0, .ref (a 0)), (1, .int x1), (2, .int x2)] → W p l e (headSpec ow_dm_X1_statementNamed ({ frames := 6, cells := 0, slots := 0, locals := 132 })).room s m args below meth c H locs 0 0 Q (F0 m 65 ls [.int y0])
def dj_X1_statementNamed_0 (p : Program) (l : Launch) (e : Env) (s : State) (m : MethodId) (args : Array Value) (below : List Frame) (meth : Method) (c : Code) (Q : State → Prop) (A : Nat → Prop) (dC : Nat → ClassId) (dI : Nat → Nat → Nat) (a : Nat → Nat) (ac : Nat → ClassId) (g : Int32 → Int32 → Int32 → (St × (St)) → Option (Option Nat × (St × (St)))) (r : Option Nat × (St × (St))) : Prop := ∀ (v0 : Int32) (v1 : Int32) (v2 : Int32) (s0 : St × (St)) (H : Heap) (locs : List Loc) (ls : Array Slot), g v0 v1 v2 s0 = some r → va_P (dC, dI) vwCl (dw_X1 a ac s0) H → va_D A (dw_X1 a ac s0) → va_S A s.heap H locs → lv_has ls 6 [(0, .ref (a 0)), (1, .int v0), (2, .int v1), (3, .int v2)] → W p l e (headSpec ow_dm_X1_statementNamed ({ frames := 6, cells := 0, slots := 0, locals := 132 })).room s m args below meth c H locs 0 0 Q (F0 m 0 ls [])
set_option maxHeartbeats 40000000 in
set_option maxRecDepth 100000 in
theorem db_X1_statementNamed_130 {p : Program} {l : Launch} {e : Env} {s : State} {m : MethodId} {args : Array Value} {below : List Frame} {meth : Method} {c : Code} {Q : State → Prop} {A : Nat → Prop} {dC : Nat → ClassId} {dI : Nat → Nat → Nat} {a : Nat → Nat} {ac : Nat → ClassId} {n : Nat} {r : Option Nat × (St × (St))} (C : nd_C p l s m args c A (dC, dI) cX1_statementNamed 6 RX1 ow_dm_X1_statementNamed (dk_X1 ac)) (K : nd_Kq p l e (headSpec ow_dm_X1_statementNamed ({ frames := 6, cells := 0, slots := 0, locals := 132 })).room s m args below meth c Q A (dC, dI) cX1_statementNamed (St × (St)) (dw_X1 a ac) (fun j => dI 1002 j) r) : dj_X1_statementNamed_130 p l e s m args below meth c Q A dC dI a ac (df_X1_statementNamed_130 n) r := by
  obtain ⟨hlt, hx, hb, hml, hown, hts, hN, hA, hK⟩ := id C
  intro x4 s0 H locs ls h hP hD hS hl
  unfold df_X1_statementNamed_130 at h
  cases hrj27 : x4 with
  | none =>
    subst hrj27
    have h := nd_mN h rfl
    have hl : lv_has ls 6 [(4, .null)] := hl
    refine W.eq (g2 := F0 m 130 ls []) rfl ?_
    refine lv_aloadN hx hb dX1_statementNamed_130 (lv_at hl 0 rfl) ?_
    exact K _ none _ _ _ _ dX1_statementNamed_132 (Option.some.inj h).symm hP hD hS
  | some j27 =>
    subst hrj27
    have h := nd_mS h rfl
    have hl : lv_has ls 6 [(4, .ref (dI 1002 j27))] := hl
    refine W.eq (g2 := F0 m 130 ls []) rfl ?_
    refine lv_aload hx hb dX1_statementNamed_130 (lv_at hl 0 rfl) ?_
    exact K _ (some j27) _ _ _ _ dX1_statementNamed_132 (Option.some.inj h).symm hP hD hS
set_option maxHeartbeats 40000000 in
set_option maxRecDepth 100000 in
theorem db_X1_statementNamed_122 {p : Program} {l : Launch} {e : Env} {s : State} {m : MethodId} {args : Array Value} {below : List Frame} {meth : Method} {c : Code} {Q : State → Prop} {A : Nat → Prop} {dC : Nat → ClassId} {dI : Nat → Nat → Nat} {a : Nat → Nat} {ac : Nat → ClassId} {n : Nat} {r : Option Nat × (St × (St))} (C : nd_C p l s m args c A (dC, dI) cX1_statementNamed 6 RX1 ow_dm_X1_statementNamed (dk_X1 ac)) (K : nd_Kq p l e (headSpec ow_dm_X1_statementNamed ({ frames := 6, cells := 0, slots := 0, locals := 132 })).room s m args below meth c Q A (dC, dI) cX1_statementNamed (St × (St)) (dw_X1 a ac) (fun j => dI 1002 j) r) : dj_X1_statementNamed_122 p l e s m args below meth c Q A dC dI a ac (df_X1_statementNamed_122 n) r := by
  obtain ⟨hlt, hx, hb, hml, hown, hts, hN, hA, hK⟩ := id C
  intro s0 H locs ls h hP hD hS hl
  unfold df_X1_statementNamed_122 at h
  refine lv_null hx hb dX1_statementNamed_122 ?_
  refine lv_astoreN (lv' := [(4, .null), (0, .ref (a 0))]) hx hb dX1_statementNamed_123 hl (by decide) rfl (fun ls hl => ?_)
  refine lv_aload_n hx hb dX1_statementNamed_125 rfl (lv_at hl 1 rfl) ?_
  refine lv_iconst (v := 2) hx hb dX1_statementNamed_126 (by decide) ?_
  obtain ⟨s25, hq, h⟩ := nd_b1_e h
  have hPc := hP
  have hDc := hD
  have hKc := hK
  have hFc := nd_rs hD hS hA
  refine nd_cVv (As := [.int 2]) (rest := []) (w' := dw_X1 a ac s25) ⟨hx, hb, hml, hown, hts⟩ (fun sz => dm_X1_blame l hlt dC dI a ac n (2) s0 hq sz) (cwV 1 hts gi_dm_X1_statementNamed_2 rfl rfl rfl (by decide +kernel) ⟨Nat.le_of_ble_eq_true rfl, Nat.le_of_ble_eq_true rfl⟩) hPc hDc hKc hS hA hN (va_recv hKc hPc (ci := 2) (q0 := 0) rfl rfl) rfl hl.1 rfl (Nat.le_of_ble_eq_true rfl) dX1_statementNamed_127 (fun H locs hP1 hD1 hk1 hS => ?_)
  have hP := hP1
  have hD := hD1.weaken (fun k q _ h => hFc q.1 h)
  exact (db_X1_statementNamed_130 C K) (none) s25 _ _ _ h hP hD hS (lv_sub hl [0] rfl)
set_option maxHeartbeats 40000000 in
set_option maxRecDepth 100000 in
theorem db_X1_statementNamed_93 {p : Program} {l : Launch} {e : Env} {s : State} {m : MethodId} {args : Array Value} {below : List Frame} {meth : Method} {c : Code} {Q : State → Prop} {A : Nat → Prop} {dC : Nat → ClassId} {dI : Nat → Nat → Nat} {a : Nat → Nat} {ac : Nat → ClassId} {n : Nat} {r : Option Nat × (St × (St))} (C : nd_C p l s m args c A (dC, dI) cX1_statementNamed 6 RX1 ow_dm_X1_statementNamed (dk_X1 ac)) (K : nd_Kq p l e (headSpec ow_dm_X1_statementNamed ({ frames := 6, cells := 0, slots := 0, locals := 132 })).room s m args below meth c Q A (dC, dI) cX1_statementNamed (St × (St)) (dw_X1 a ac) (fun j => dI 1002 j) r) : dj_X1_statementNamed_93 p l e s m args below meth c Q A dC dI a ac (df_X1_statementNamed_93 n) r := by
  obtain ⟨hlt, hx, hb, hml, hown, hts, hN, hA, hK⟩ := id C
  intro y0 s0 H locs ls h hP hD hS hl
  unfold df_X1_statementNamed_93 at h
  cases hrj23 : y0 with
  | none =>
    subst hrj23
    have h := nd_mN h rfl
    have hl : lv_has ls 6 [(0, .ref (a 0))] := hl
    refine W.eq (g2 := F0 m 93 ls [.null]) rfl ?_
    refine lv_astoreN (lv' := [(4, .null), (0, .ref (a 0))]) hx hb dX1_statementNamed_93 hl (by decide) rfl (fun ls hl => ?_)
    refine lv_aloadN hx hb dX1_statementNamed_95 (lv_at hl 0 rfl) ?_
    refine lv_ifnullN (tgt := 122) hx hb dX1_statementNamed_97 (by decide) ?_
    exact (db_X1_statementNamed_122 C K)  s0 _ _ _ h hP hD hS (lv_sub hl [1] rfl)
  | some j23 =>
    subst hrj23
    have h := nd_mS h rfl
    have hl : lv_has ls 6 [(0, .ref (a 0))] := hl
    refine W.eq (g2 := F0 m 93 ls [.ref (dI 1002 j23)]) rfl ?_
    refine lv_astore (lv' := [(4, .ref (dI 1002 j23)), (0, .ref (a 0))]) hx hb dX1_statementNamed_93 hl (by decide) rfl (fun ls hl => ?_)
    refine lv_aload hx hb dX1_statementNamed_95 (lv_at hl 0 rfl) ?_
    refine lv_ifnull hx hb dX1_statementNamed_97 ?_
    refine lv_aload hx hb dX1_statementNamed_100 (lv_at hl 0 rfl) ?_
    obtain ⟨i28, h⟩ := nd_lt_e h
    refine vk_getf hx hb (hN.2.2.2.2.2.2.2.2.2.2.2.2.2.2.1 j23 i28).2.2.2.2.1 hS hown (hts (.fieldLink RX1 145 "TimeMachine$Op" "bits" "I") (List.mem_of_getElem? (i := 14) rfl)) (fun _ h9 => h9) dX1_statementNamed_102 ?_
    refine lv_bipush (v := 127) hx hb dX1_statementNamed_105 (by decide) ?_
    refine lv_iand hx hb dX1_statementNamed_107 ?_
    refine lv_bipush (v := 47) hx hb dX1_statementNamed_108 (by decide) ?_
    refine lv_icmp_ne (tgt := 122) hx hb dX1_statementNamed_110 (by decide) (fun c29 => ?_) (fun c29 => ?_)
    · have h := nd_neg h c29
      exact (db_X1_statementNamed_122 C K)  s0 _ _ _ h hP hD hS (lv_sub hl [1] rfl)
    · have h := nd_pos h c29
      refine lv_aload hx hb dX1_statementNamed_113 (lv_at hl 0 rfl) ?_
      obtain ⟨i30, h⟩ := nd_lt_e h
      refine vk_getf hx hb (hN.2.2.2.2.2.2.2.2.2.2.2.2.2.2.1 j23 i30).2.2.2.2.2 hS hown (hts (.fieldLink RX1 148 "TimeMachine$Op" "sort" "I") (List.mem_of_getElem? (i := 15) rfl)) (fun _ h9 => h9) dX1_statementNamed_115 ?_
      refine lv_iconst (v := 1) hx hb dX1_statementNamed_118 (by decide) ?_
      refine lv_icmp_eq (tgt := 130) hx hb dX1_statementNamed_119 (by decide) (fun c31 => ?_) (fun c31 => ?_)
      · have h := nd_pos h c31
        exact (db_X1_statementNamed_130 C K) (some j23) s0 _ _ _ h hP hD hS (lv_sub hl [0] rfl)
      · have h := nd_neg h c31
        exact (db_X1_statementNamed_122 C K)  s0 _ _ _ h hP hD hS (lv_sub hl [1] rfl)
set_option maxHeartbeats 40000000 in
set_option maxRecDepth 100000 in
theorem db_X1_statementNamed_65 {p : Program} {l : Launch} {e : Env} {s : State} {m : MethodId} {args : Array Value} {below : List Frame} {meth : Method} {c : Code} {Q : State → Prop} {A : Nat → Prop} {dC : Nat → ClassId} {dI : Nat → Nat → Nat} {a : Nat → Nat} {ac : Nat → ClassId} {n : Nat} {r : Option Nat × (St × (St))} (C : nd_C p l s m args c A (dC, dI) cX1_statementNamed 6 RX1 ow_dm_X1_statementNamed (dk_X1 ac)) (K : nd_Kq p l e (headSpec ow_dm_X1_statementNamed ({ frames := 6, cells := 0, slots := 0, locals := 132 })).room s m args below meth c Q A (dC, dI) cX1_statementNamed (St × (St)) (dw_X1 a ac) (fun j => dI 1002 j) r) : dj_X1_statementNamed_65 p l e s m args below meth c Q A dC dI a ac (df_X1_statementNamed_65 n) r := by
  obtain ⟨hlt, hx, hb, hml, hown, hts, hN, hA, hK⟩ := id C
  intro x1 x2 y0 s0 H locs ls h hP hD hS hl
  unfold df_X1_statementNamed_65 at h
  refine lv_istore (lv' := [(5, .int y0), (0, .ref (a 0)), (1, .int x1), (2, .int x2)]) hx hb dX1_statementNamed_65 hl (by decide) rfl (fun ls hl => ?_)
  refine lv_aload_n hx hb dX1_statementNamed_67 rfl (lv_at hl 1 rfl) ?_
  refine va_get (D := (dC, dI)) (ci := 2) (v := .int (sI s0.1 5)) (C := RX1) (T := TX1) (N := 13) hx hb hts hi_dm_X1_statementNamed_X1 hown hK hP 0 rfl rfl 8 (by decide) (hts (.fieldLink RX1 135 "TimeMachine$Assembler" "order" "I") (List.mem_of_getElem? (i := 1) rfl)) (fun _ h9 => h9) rfl dX1_statementNamed_68 ?_
  refine lv_if_ne (tgt := 78) hx hb dX1_statementNamed_71 (by decide) (fun c16 => ?_) (fun c16 => ?_)
  · have h := nd_neg h c16
    refine lv_aload_n hx hb dX1_statementNamed_78 rfl (lv_at hl 1 rfl) ?_
    refine va_get (D := (dC, dI)) (ci := 2) (v := .ref (a 3)) (C := RX1) (T := TX1) (N := 13) hx hb hts hi_dm_X1_statementNamed_X1 hown hK hP 0 rfl rfl 0 (by decide) (hts (.fieldLink RX1 12 "TimeMachine$Assembler" "reader" "LTimeMachine$Reader;") (List.mem_of_getElem? (i := 2) rfl)) (fun _ h9 => h9) rfl dX1_statementNamed_79 ?_
    obtain ⟨o17, h⟩ := nd_o_e h
    refine va_get (D := (dC, dI)) (ci := 10) (v := .ref (a 11)) (C := RX9) (T := TX9) (N := 20) hx hb hts hi_dm_X1_statementNamed_X9 hown hK hP 3 rfl rfl 0 (by decide) (hts (.fieldLink RX1 120 "TimeMachine$Reader" "source" "[B") (List.mem_of_getElem? (i := 3) rfl)) (fun _ h9 => h9) (congrArg (fun z => some (va_rf (Option.map (fun k => a (k + 3)) z))) o17) dX1_statementNamed_82 ?_
    refine lv_iload_n hx hb dX1_statementNamed_85 rfl (lv_at hl 2 rfl) ?_
    refine lv_iload_n hx hb dX1_statementNamed_86 rfl (lv_at hl 3 rfl) ?_
    refine lv_iload hx hb dX1_statementNamed_87 (lv_at hl 0 rfl) ?_
    refine lv_isub hx hb dX1_statementNamed_89 ?_
    obtain ⟨q18, s19, hq, h⟩ := nd_b2_e h
    have hPc := dp_vX1_BY_0 hP
    have hDc := dd_vX1_BY_0 hD
    have hKc := dy_vX1_BY_0 hK
    have hFc := nd_rs hDc hS hA
    have hzA : ∀ q : Nat, H.size ≤ q → A q := fun q h => hA q (Nat.le_trans hS.1 h)
    refine nd_cSq (As := [.ref (a 11), .int x1, .int (x2 - y0)]) (rest := []) (q := Option.map (fun j => dI 1002 j) q18) (w' := dw_BY (fun k => a (nd_ix [11] k)) (fun k => ac (nd_ix [11] k)) s19) ⟨hx, hb, hml, hown, hts⟩ (fun sz => dm_X7_named l hlt dC dI (fun k => a (nd_ix [11] k)) (fun k => ac (nd_ix [11] k)) n (x1) ((x2 - y0)) ((pR nd_st0 0 (sR s0.2 7))) hq sz) (va_cwS 3 hts gi_dm_X1_statementNamed_0 rfl rfl rfl (by decide +kernel) ⟨Nat.le_of_ble_eq_true rfl, Nat.le_of_ble_eq_true rfl⟩) hPc hDc hKc hS hA hN rfl hl.1 rfl (Nat.le_of_ble_eq_true rfl) dX1_statementNamed_90 (fun H locs hP1 hD1 hk1 hS => ?_)
    obtain ⟨hP, hD⟩ := dn_vX1_BY_0 hP hD hzA hk1 hP1 hD1
    obtain ⟨s21, es21, h⟩ := nd_let_e h
    have hP : va_P (dC, dI) vwCl (dw_X1 a ac s21) H := by rw [es21]; exact hP
    have hD : va_D A (dw_X1 a ac s21) := by rw [es21]; exact hD
    cases hrj22 : q18 with
    | none =>
      have h := nd_mN h hrj22
      refine W.eq (g2 := F0 m 93 ls [.null]) (by first | rfl | (show F0 m _ ls (va_rf (Option.map (fun j => dI 1002 j) q18) :: _) = _; rw [hrj22]; rfl)) ?_
      exact (db_X1_statementNamed_93 C K) (none) s21 _ _ _ h hP hD hS (lv_sub hl [1] rfl)
    | some j22 =>
      have h := nd_mS h hrj22
      refine W.eq (g2 := F0 m 93 ls [.ref (dI 1002 j22)]) (by first | rfl | (show F0 m _ ls (va_rf (Option.map (fun j => dI 1002 j) q18) :: _) = _; rw [hrj22]; rfl)) ?_
      exact (db_X1_statementNamed_93 C K) (some j22) s21 _ _ _ h hP hD hS (lv_sub hl [1] rfl)
  · have h := nd_pos h c16
    refine lv_null hx hb dX1_statementNamed_74 ?_
    refine lv_goto (tgt := 93) hx hb dX1_statementNamed_75 (by decide) ?_
    exact (db_X1_statementNamed_93 C K) (none) s0 _ _ _ h hP hD hS (lv_sub hl [1] rfl)
set_option maxHeartbeats 40000000 in
set_option maxRecDepth 100000 in
theorem db_X1_statementNamed_0 {p : Program} {l : Launch} {e : Env} {s : State} {m : MethodId} {args : Array Value} {below : List Frame} {meth : Method} {c : Code} {Q : State → Prop} {A : Nat → Prop} {dC : Nat → ClassId} {dI : Nat → Nat → Nat} {a : Nat → Nat} {ac : Nat → ClassId} {n : Nat} {r : Option Nat × (St × (St))} (C : nd_C p l s m args c A (dC, dI) cX1_statementNamed 6 RX1 ow_dm_X1_statementNamed (dk_X1 ac)) (K : nd_Kq p l e (headSpec ow_dm_X1_statementNamed ({ frames := 6, cells := 0, slots := 0, locals := 132 })).room s m args below meth c Q A (dC, dI) cX1_statementNamed (St × (St)) (dw_X1 a ac) (fun j => dI 1002 j) r) : dj_X1_statementNamed_0 p l e s m args below meth c Q A dC dI a ac (df_X1_statementNamed_0 n) r := by
  obtain ⟨hlt, hx, hb, hml, hown, hts, hN, hA, hK⟩ := id C
  intro v0 v1 v2 s0 H locs ls h hP hD hS hl
  unfold df_X1_statementNamed_0 at h
  refine lv_iload_n hx hb dX1_statementNamed_0 rfl (lv_at hl 3 rfl) ?_
  refine lv_if_lt (tgt := 11) hx hb dX1_statementNamed_1 (by decide) (fun c1 => ?_) (fun c1 => ?_)
  · have h := nd_pos h c1
    refine lv_aload_n hx hb dX1_statementNamed_11 rfl (lv_at hl 0 rfl) ?_
    refine lv_iconst (v := 0) hx hb dX1_statementNamed_12 (by decide) ?_
    refine va_put (D := (dC, dI)) (ci := 2) (v := .int 0) (ty := .int) (C := RX1) (T := TX1) (N := 13) hx hb hts hi_dm_X1_statementNamed_X1 tyX1 tyX1_ok nmX1 hown hK hP hD hS 0 rfl rfl 8 (by decide) (hts (.fieldLink RX1 135 "TimeMachine$Assembler" "order" "I") (List.mem_of_getElem? (i := 1) rfl)) (fun _ h9 => h9) rfl (by decide +kernel) rfl rfl (Nat.le_of_ble_eq_true rfl) dX1_statementNamed_13 (fun H locs hP hD hS => ?_)
    obtain ⟨s2, es2, h⟩ := nd_let_e h
    have hP : va_P (dC, dI) vwCl (dw_X1 a ac s2) H := by rw [es2]; exact hP
    have hD : va_D A (dw_X1 a ac s2) := by rw [es2]; exact hD
    refine lv_aload_n hx hb dX1_statementNamed_16 rfl (lv_at hl 0 rfl) ?_
    refine va_get (D := (dC, dI)) (ci := 2) (v := .ref (a 3)) (C := RX1) (T := TX1) (N := 13) hx hb hts hi_dm_X1_statementNamed_X1 hown hK hP 0 rfl rfl 0 (by decide) (hts (.fieldLink RX1 12 "TimeMachine$Assembler" "reader" "LTimeMachine$Reader;") (List.mem_of_getElem? (i := 2) rfl)) (fun _ h9 => h9) rfl dX1_statementNamed_17 ?_
    obtain ⟨o3, h⟩ := nd_o_e h
    refine va_get (D := (dC, dI)) (ci := 10) (v := .ref (a 11)) (C := RX9) (T := TX9) (N := 20) hx hb hts hi_dm_X1_statementNamed_X9 hown hK hP 3 rfl rfl 0 (by decide) (hts (.fieldLink RX1 120 "TimeMachine$Reader" "source" "[B") (List.mem_of_getElem? (i := 3) rfl)) (fun _ h9 => h9) (congrArg (fun z => some (va_rf (Option.map (fun k => a (k + 3)) z))) o3) dX1_statementNamed_20 ?_
    refine lv_iload_n hx hb dX1_statementNamed_23 rfl (lv_at hl 1 rfl) ?_
    refine lv_iload_n hx hb dX1_statementNamed_24 rfl (lv_at hl 2 rfl) ?_
    obtain ⟨q4, s5, hq, h⟩ := nd_b2_e h
    have hPc := dp_vX1_BY_0 hP
    have hDc := dd_vX1_BY_0 hD
    have hKc := dy_vX1_BY_0 hK
    have hFc := nd_rs hDc hS hA
    have hzA : ∀ q : Nat, H.size ≤ q → A q := fun q h => hA q (Nat.le_trans hS.1 h)
    refine nd_cSq (As := [.ref (a 11), .int v0, .int v1]) (rest := []) (q := Option.map (fun j => dI 1002 j) q4) (w' := dw_BY (fun k => a (nd_ix [11] k)) (fun k => ac (nd_ix [11] k)) s5) ⟨hx, hb, hml, hown, hts⟩ (fun sz => dm_X7_named l hlt dC dI (fun k => a (nd_ix [11] k)) (fun k => ac (nd_ix [11] k)) n (v0) (v1) ((pR nd_st0 0 (sR s2.2 7))) hq sz) (va_cwS 3 hts gi_dm_X1_statementNamed_0 rfl rfl rfl (by decide +kernel) ⟨Nat.le_of_ble_eq_true rfl, Nat.le_of_ble_eq_true rfl⟩) hPc hDc hKc hS hA hN rfl hl.1 rfl (Nat.le_of_ble_eq_true rfl) dX1_statementNamed_25 (fun H locs hP1 hD1 hk1 hS => ?_)
    obtain ⟨hP, hD⟩ := dn_vX1_BY_0 hP hD hzA hk1 hP1 hD1
    obtain ⟨s7, es7, h⟩ := nd_let_e h
    have hP : va_P (dC, dI) vwCl (dw_X1 a ac s7) H := by rw [es7]; exact hP
    have hD : va_D A (dw_X1 a ac s7) := by rw [es7]; exact hD
    cases hrj8 : q4 with
    | none =>
      have h := nd_mN h hrj8
      refine W.eq (g2 := F0 m 28 ls [.null]) (by first | rfl | (show F0 m _ ls (va_rf (Option.map (fun j => dI 1002 j) q4) :: _) = _; rw [hrj8]; rfl)) ?_
      refine lv_astoreN (lv' := [(4, .null), (0, .ref (a 0)), (1, .int v0), (2, .int v1), (3, .int v2)]) hx hb dX1_statementNamed_28 hl (by decide) rfl (fun ls hl => ?_)
      refine lv_aloadN hx hb dX1_statementNamed_30 (lv_at hl 0 rfl) ?_
      refine lv_ifnonnullN hx hb dX1_statementNamed_32 ?_
      refine lv_aload_n hx hb dX1_statementNamed_35 rfl (lv_at hl 1 rfl) ?_
      refine lv_aload_n hx hb dX1_statementNamed_36 rfl (lv_at hl 1 rfl) ?_
      refine va_get (D := (dC, dI)) (ci := 2) (v := .ref (a 3)) (C := RX1) (T := TX1) (N := 13) hx hb hts hi_dm_X1_statementNamed_X1 hown hK hP 0 rfl rfl 0 (by decide) (hts (.fieldLink RX1 12 "TimeMachine$Assembler" "reader" "LTimeMachine$Reader;") (List.mem_of_getElem? (i := 2) rfl)) (fun _ h9 => h9) rfl dX1_statementNamed_37 ?_
      obtain ⟨o9, h⟩ := nd_o_e h
      refine va_get (D := (dC, dI)) (ci := 10) (v := .ref (a 11)) (C := RX9) (T := TX9) (N := 20) hx hb hts hi_dm_X1_statementNamed_X9 hown hK hP 3 rfl rfl 0 (by decide) (hts (.fieldLink RX1 120 "TimeMachine$Reader" "source" "[B") (List.mem_of_getElem? (i := 3) rfl)) (fun _ h9 => h9) (congrArg (fun z => some (va_rf (Option.map (fun k => a (k + 3)) z))) o9) dX1_statementNamed_40 ?_
      refine lv_iload_n hx hb dX1_statementNamed_43 rfl (lv_at hl 2 rfl) ?_
      refine lv_iload_n hx hb dX1_statementNamed_44 rfl (lv_at hl 3 rfl) ?_
      obtain ⟨q10, s11, hq, h⟩ := nd_b2_e h
      have hPc := dp_vX1_BY_0 hP
      have hDc := dd_vX1_BY_0 hD
      have hKc := dy_vX1_BY_0 hK
      have hFc := nd_rs hDc hS hA
      have hzA : ∀ q : Nat, H.size ≤ q → A q := fun q h => hA q (Nat.le_trans hS.1 h)
      refine nd_cSi (As := [.ref (a 11), .int v0, .int v1]) (rest := [.ref (a 0)]) (q := q10) (w' := dw_BY (fun k => a (nd_ix [11] k)) (fun k => ac (nd_ix [11] k)) s11) ⟨hx, hb, hml, hown, hts⟩ (fun sz => dm_X7_order l hlt dC dI (fun k => a (nd_ix [11] k)) (fun k => ac (nd_ix [11] k)) n (v0) (v1) ((pR nd_st0 0 (sR s7.2 7))) hq sz) (va_cwS 3 hts gi_dm_X1_statementNamed_1 rfl rfl rfl (by decide +kernel) ⟨Nat.le_of_ble_eq_true rfl, Nat.le_of_ble_eq_true rfl⟩) hPc hDc hKc hS hA hN rfl hl.1 rfl (Nat.le_of_ble_eq_true rfl) dX1_statementNamed_45 (fun H locs hP1 hD1 hk1 hS => ?_)
      obtain ⟨hP, hD⟩ := dn_vX1_BY_0 hP hD hzA hk1 hP1 hD1
      obtain ⟨s13, es13, h⟩ := nd_let_e h
      have hP : va_P (dC, dI) vwCl (dw_X1 a ac s13) H := by rw [es13]; exact hP
      have hD : va_D A (dw_X1 a ac s13) := by rw [es13]; exact hD
      refine va_put (D := (dC, dI)) (ci := 2) (v := .int q10) (ty := .int) (C := RX1) (T := TX1) (N := 13) hx hb hts hi_dm_X1_statementNamed_X1 tyX1 tyX1_ok nmX1 hown hK hP hD hS 0 rfl rfl 8 (by decide) (hts (.fieldLink RX1 135 "TimeMachine$Assembler" "order" "I") (List.mem_of_getElem? (i := 1) rfl)) (fun _ h9 => h9) rfl (by decide +kernel) rfl rfl (Nat.le_of_ble_eq_true rfl) dX1_statementNamed_48 (fun H locs hP hD hS => ?_)
      obtain ⟨s14, es14, h⟩ := nd_let_e h
      have hP : va_P (dC, dI) vwCl (dw_X1 a ac s14) H := by rw [es14]; exact hP
      have hD : va_D A (dw_X1 a ac s14) := by rw [es14]; exact hD
      refine lv_aload_n hx hb dX1_statementNamed_51 rfl (lv_at hl 1 rfl) ?_
      refine va_get (D := (dC, dI)) (ci := 2) (v := .int (sI s14.1 5)) (C := RX1) (T := TX1) (N := 13) hx hb hts hi_dm_X1_statementNamed_X1 hown hK hP 0 rfl rfl 8 (by decide) (hts (.fieldLink RX1 135 "TimeMachine$Assembler" "order" "I") (List.mem_of_getElem? (i := 1) rfl)) (fun _ h9 => h9) rfl dX1_statementNamed_52 ?_
      refine lv_ldc hx hb hown (hts (.constant RX1 144 (100663296)) (List.mem_of_getElem? (i := 9) rfl)) dX1_statementNamed_55 ?_
      refine lv_icmp_ne (tgt := 64) hx hb dX1_statementNamed_57 (by decide) (fun c15 => ?_) (fun c15 => ?_)
      · have h := nd_neg h c15
        refine lv_iconst (v := 3) hx hb dX1_statementNamed_64 (by decide) ?_
        exact (db_X1_statementNamed_65 C K) (v0) (v1) (3) s14 _ _ _ h hP hD hS (lv_sub hl [1, 2, 3] rfl)
      · have h := nd_pos h c15
        refine lv_iconst (v := 5) hx hb dX1_statementNamed_60 (by decide) ?_
        refine lv_goto (tgt := 65) hx hb dX1_statementNamed_61 (by decide) ?_
        exact (db_X1_statementNamed_65 C K) (v0) (v1) (5) s14 _ _ _ h hP hD hS (lv_sub hl [1, 2, 3] rfl)
    | some j8 =>
      have h := nd_mS h hrj8
      refine W.eq (g2 := F0 m 28 ls [.ref (dI 1002 j8)]) (by first | rfl | (show F0 m _ ls (va_rf (Option.map (fun j => dI 1002 j) q4) :: _) = _; rw [hrj8]; rfl)) ?_
      refine lv_astore (lv' := [(4, .ref (dI 1002 j8)), (0, .ref (a 0)), (1, .int v0), (2, .int v1), (3, .int v2)]) hx hb dX1_statementNamed_28 hl (by decide) rfl (fun ls hl => ?_)
      refine lv_aload hx hb dX1_statementNamed_30 (lv_at hl 0 rfl) ?_
      refine lv_ifnonnull (tgt := 130) hx hb dX1_statementNamed_32 (by decide) ?_
      exact (db_X1_statementNamed_130 C K) (some j8) s7 _ _ _ h hP hD hS (lv_sub hl [0] rfl)
  · have h := nd_neg h c1
    refine lv_aload_n hx hb dX1_statementNamed_4 rfl (lv_at hl 0 rfl) ?_
    refine lv_iconst (v := 1) hx hb dX1_statementNamed_5 (by decide) ?_
    obtain ⟨s33, hq, h⟩ := nd_b1_e h
    have hPc := hP
    have hDc := hD
    have hKc := hK
    have hFc := nd_rs hD hS hA
    refine nd_cVv (As := [.int 1]) (rest := []) (w' := dw_X1 a ac s33) ⟨hx, hb, hml, hown, hts⟩ (fun sz => dm_X1_blame l hlt dC dI a ac n (1) s0 hq sz) (cwV 1 hts gi_dm_X1_statementNamed_2 rfl rfl rfl (by decide +kernel) ⟨Nat.le_of_ble_eq_true rfl, Nat.le_of_ble_eq_true rfl⟩) hPc hDc hKc hS hA hN (va_recv hKc hPc (ci := 2) (q0 := 0) rfl rfl) rfl hl.1 rfl (Nat.le_of_ble_eq_true rfl) dX1_statementNamed_6 (fun H locs hP1 hD1 hk1 hS => ?_)
    have hP := hP1
    have hD := hD1.weaken (fun k q _ h => hFc q.1 h)
    refine lv_null hx hb dX1_statementNamed_9 ?_
    exact K _ none _ _ _ _ dX1_statementNamed_10 (Option.some.inj h).symm hP hD hS
set_option maxHeartbeats 40000000 in
set_option maxRecDepth 100000 in
theorem dm_X1_statementNamed (l : Launch) (hlt : l.stackTraces = false) (dC : Nat → ClassId) (dI : Nat → Nat → Nat) (a : Nat → Nat) (ac : Nat → ClassId) (n : Nat) (v0 : Int32) (v1 : Int32) (v2 : Int32) (s0 : St × (St)) {r : Option Nat × (St × (St))} (h : df_X1_statementNamed n v0 v1 v2 s0 = some r) (sz : Nat) : Met l yX1_statementNamed ow_dm_X1_statementNamed ({ frames := 6, cells := 0, slots := 0, locals := 132 }) (va_Pc [.ref (a 0), .int v0, .int v1, .int v2] (fun U => U.heap.size = sz ∧ va_P (dC, dI) vwCl (dw_X1 a ac s0) U.heap ∧ va_K (dC, dI) vwCl (dk_X1 ac) U ∧ va_D (fun _ => True) (dw_X1 a ac s0) ∧ nv_E dI (va_A (dw_X1 a ac s0) sz) U)) (va_Qq (fun x _ => x = Option.map (fun j => dI 1002 j) r.1) (fun (_ : Unit) t => va_P (dC, dI) vwCl (dw_X1 a ac r.2) t.heap ∧ va_K (dC, dI) vwCl (dk_X1 ac) t ∧ va_D (va_A (dw_X1 a ac s0) sz) (dw_X1 a ac r.2)) (va_A (dw_X1 a ac s0) sz)) 0 0 (va_A (dw_X1 a ac s0) sz) := by
  refine Met.ofW (cc := cX1_statementNamed) (maxL := 6) (ret := (some (.object "TimeMachine$Op"))) (by decide) rfl ?_
  intro p e s m args below meth c s₁ B hml hv
  obtain ⟨rfl, hsz, hP, hK, hD0, hN⟩ := hv
  have hx := B.exec
  have hb := B.bytes
  have hr := B.returns
  have hts := atoms_spec (ws := ow_dm_X1_statementNamed) B.pre
  have hown : s.vm.findClass RX1 = some m.cls := findClass_of_methodNamed B.named
  have hlocks := B.notSynchronized
  subst hsz
  have hD := hD0.self (sz := s.heap.size)
  generalize hAe : va_A (dw_X1 a ac s0) s.heap.size = A at hD hN ⊢
  have hA : ∀ q : Nat, s.heap.size ≤ q → A q := fun q h => by rw [← hAe]; exact Or.inr h
  have hl := lv_entry ([.ref (a 0), .int v0, .int v1, .int v2]) (n := 6) (Nat.le_of_ble_eq_true rfl)
  rw [lg_entry_eq]
  generalize (lg_sl ([.ref (a 0), .int v0, .int v1, .int v2]) ++ List.replicate (6 - (lg_sl ([.ref (a 0), .int v0, .int v1, .int v2])).length) Slot.unset).toArray = ls at hl ⊢
  have hl : lv_has ls 6 [(0, .ref (a 0)), (1, .int v0), (2, .int v1), (3, .int v2)] := hl
  exact db_X1_statementNamed_0 (dC := dC) (dI := dI) (a := a) (ac := ac) (n := n) (r := r) ⟨hlt, hx, hb, hml, hown, hts, hN, hA, hK⟩ (fun pc o τ H locs ls d er hP hD hS => by subst er; exact W.aret (v := va_rf (Option.map (fun j => dI 1002 j) o)) hx hb hr (by first | exact Or.inl ⟨_, rfl⟩ | exact Or.inr ⟨_, rfl⟩) (va_rf_or _) (fun t ht hW => ⟨⟨Option.map (fun j => dI 1002 j) o, (), rfl, rfl, by rw [ht]; exact hP, va_K.moved hW.alike hK, hD⟩, hS.F ht⟩) hS.2.2 d) v0 v1 v2 s0 _ _ _ h hP hD va_S.rf (lv_sub hl [0, 1, 2, 3] rfl)
def ow_dm_X1_readLine : List Cond := Cond.code yX1_readLine cX1_readLine 8 (some (.object "TimeMachine$Op")) :: ([Cond.fieldLink RX1 12 "TimeMachine$Assembler" "reader" "LTimeMachine$Reader;", Cond.methodLink RX1 81 yX9_startLine, Cond.instanceMethod yX9_startLine, Cond.selects RX9 yX9_startLine yX9_startLine, Cond.initialized RX9, Cond.fieldLink RX1 32 "TimeMachine$Assembler" "fault" "I", Cond.fieldLink RX1 85 "TimeMachine$Reader" "kind" "I", Cond.fieldLink RX1 88 "TimeMachine$Reader" "from" "I", Cond.fieldLink RX1 91 "TimeMachine$Reader" "at" "I", Cond.methodLink RX1 97 yX9_next, Cond.instanceMethod yX9_next, Cond.selects RX9 yX9_next yX9_next, Cond.methodLink RX1 100 yX9_isSign, Cond.instanceMethod yX9_isSign, Cond.selects RX9 yX9_isSign yX9_isSign, Cond.methodLink RX1 108 yX1_readLabel, Cond.instanceMethod yX1_readLabel, Cond.selects RX1 yX1_readLabel yX1_readLabel, Cond.initialized RX1, Cond.methodLink RX1 104 yX1_statementNamed, Cond.instanceMethod yX1_statementNamed, Cond.selects RX1 yX1_statementNamed yX1_statementNamed, Cond.methodLink RX1 77 yX1_blame, Cond.instanceMethod yX1_blame, Cond.selects RX1 yX1_blame yX1_blame, Cond.fieldLink RX1 94 "TimeMachine$Reader" "number" "I"] ++ (u_ws RX1 TX1 13 ++ (u_ws RX9 TX9 20 ++ (ow_dm_X9_startLine ++ (ow_dm_X9_next ++ (ow_dm_X9_isSign ++ (ow_dm_X1_readLabel ++ (ow_dm_X1_statementNamed ++ (ow_dm_X1_blame ++ [])))))))))
theorem gd_dm_X1_readLine : ∀ w ∈ ow_dm_X1_readLine, (w.onTables && w.keeps) = true ∨ ∃ ty, w = Cond.arrayClass ty := List.forall_mem_cons.mpr ⟨good_of_word rfl, List.forall_mem_append.mpr ⟨fun w h => good_of_word (List.all_eq_true.mp (by decide +kernel) w h), List.forall_mem_append.mpr ⟨gu_X1, List.forall_mem_append.mpr ⟨gu_X9, List.forall_mem_append.mpr ⟨gd_dm_X9_startLine, List.forall_mem_append.mpr ⟨gd_dm_X9_next, List.forall_mem_append.mpr ⟨gd_dm_X9_isSign, List.forall_mem_append.mpr ⟨gd_dm_X1_readLabel, List.forall_mem_append.mpr ⟨gd_dm_X1_statementNamed, List.forall_mem_append.mpr ⟨gd_dm_X1_blame, fun _ h => nomatch h⟩⟩⟩⟩⟩⟩⟩⟩⟩⟩
theorem hi_dm_X1_readLine_X1 : ∀ w ∈ u_ws RX1 TX1 13, w ∈ ow_dm_X1_readLine := fun w h => List.mem_cons_of_mem _ (List.mem_append_right _ (List.mem_append_left _ h))
theorem hi_dm_X1_readLine_X9 : ∀ w ∈ u_ws RX9 TX9 20, w ∈ ow_dm_X1_readLine := fun w h => List.mem_cons_of_mem _ (List.mem_append_right _ (List.mem_append_right _ (List.mem_append_left _ h)))
theorem gi_dm_X1_readLine_0 : GoodIn ow_dm_X1_readLine (wsV RX1 81 RX9 yX9_startLine ow_dm_X9_startLine) := goodIn_app (goodIn_of _ (by decide +kernel)) (fun w h => ⟨List.mem_cons_of_mem _ (List.mem_append_right _ (List.mem_append_right _ (List.mem_append_right _ (List.mem_append_left _ h)))), gd_dm_X9_startLine w h⟩)
theorem gi_dm_X1_readLine_1 : GoodIn ow_dm_X1_readLine (wsV RX1 97 RX9 yX9_next ow_dm_X9_next) := goodIn_app (goodIn_of _ (by decide +kernel)) (fun w h => ⟨List.mem_cons_of_mem _ (List.mem_append_right _ (List.mem_append_right _ (List.mem_append_right _ (List.mem_append_right _ (List.mem_append_left _ h))))), gd_dm_X9_next w h⟩)
theorem gi_dm_X1_readLine_2 : GoodIn ow_dm_X1_readLine (wsV RX1 100 RX9 yX9_isSign ow_dm_X9_isSign) := goodIn_app (goodIn_of _ (by decide +kernel)) (fun w h => ⟨List.mem_cons_of_mem _ (List.mem_append_right _ (List.mem_append_right _ (List.mem_append_right _ (List.mem_append_right _ (List.mem_append_right _ (List.mem_append_left _ h)))))), gd_dm_X9_isSign w h⟩)
theorem gi_dm_X1_readLine_3 : GoodIn ow_dm_X1_readLine (wsV RX1 108 RX1 yX1_readLabel ow_dm_X1_readLabel) := goodIn_app (goodIn_of _ (by decide +kernel)) (fun w h => ⟨List.mem_cons_of_mem _ (List.mem_append_right _ (List.mem_append_right _ (List.mem_append_right _ (List.mem_append_right _ (List.mem_append_right _ (List.mem_append_right _ (List.mem_append_left _ h))))))), gd_dm_X1_readLabel w h⟩)
theorem gi_dm_X1_readLine_4 : GoodIn ow_dm_X1_readLine (wsV RX1 104 RX1 yX1_statementNamed ow_dm_X1_statementNamed) := goodIn_app (goodIn_of _ (by decide +kernel)) (fun w h => ⟨List.mem_cons_of_mem _ (List.mem_append_right _ (List.mem_append_right _ (List.mem_append_right _ (List.mem_append_right _ (List.mem_append_right _ (List.mem_append_right _ (List.mem_append_right _ (List.mem_append_left _ h)))))))), gd_dm_X1_statementNamed w h⟩)
theorem gi_dm_X1_readLine_5 : GoodIn ow_dm_X1_readLine (wsV RX1 77 RX1 yX1_blame ow_dm_X1_blame) := goodIn_app (goodIn_of _ (by decide +kernel)) (fun w h => ⟨List.mem_cons_of_mem _ (List.mem_append_right _ (List.mem_append_right _ (List.mem_append_right _ (List.mem_append_right _ (List.mem_append_right _ (List.mem_append_right _ (List.mem_append_right _ (List.mem_append_right _ (List.mem_append_left _ h))))))))), gd_dm_X1_blame w h⟩)
def dj_X1_readLine_160 (p : Program) (l : Launch) (e : Env) (s : State) (m : MethodId) (args : Array Value) (below : List Frame) (meth : Method) (c : Code) (Q : State → Prop) (A : Nat → Prop) (dC : Nat → ClassId) (dI : Nat → Nat → Nat) (a : Nat → Nat) (ac : Nat → ClassId) (g : (St × (St)) → Option (Option Nat × (St × (St)))) (r : Option Nat × (St × (St))) : Prop := ∀ (s0 : St × (St)) (H : Heap) (locs : List Loc) (ls : Array Slot), g s0 = some r → va_P (dC, dI) vwCl (dw_X1 a ac s0) H → va_D A (dw_X1 a ac s0) → va_S A s.heap H locs → lv_has ls 8 [] → W p l e (headSpec ow_dm_X1_readLine ({ frames := 7, cells := 0, slots := 0, locals := 157 })).room s m args below meth c H locs 0 0 Q (F0 m 160 ls [])
def dj_X1_readLine_107 (p : Program) (l : Launch) (e : Env) (s : State) (m : MethodId) (args : Array Value) (below : List Frame) (meth : Method) (c : Code) (Q : State → Prop) (A : Nat → Prop) (dC : Nat → ClassId) (dI : Nat → Nat → Nat) (a : Nat → Nat) (ac : Nat → ClassId) (g : Int32 → Int32 → Int32 → Int32 → (St × (St)) → Option (Option Nat × (St × (St)))) (r : Option Nat × (St × (St))) : Prop := ∀ (x3 : Int32) (x5 : Int32) (x6 : Int32) (x7 : Int32) (s0 : St × (St)) (H : Heap) (locs : List Loc) (ls : Array Slot), g x3 x5 x6 x7 s0 = some r → va_P (dC, dI) vwCl (dw_X1 a ac s0) H → va_D A (dw_X1 a ac s0) → va_S A s.heap H locs → lv_has ls 8 [(0, .ref (a 0)), (3, .int x3), (5, .int x5), (6, .int x6), (7, .int x7)] → W p l e (headSpec ow_dm_X1_readLine ({ frames := 7, cells := 0, slots := 0, locals := 157 })).room s m args below meth c H locs 0 0 Q (F0 m 107 ls [])
def dj_X1_readLine_87 (p : Program) (l : Launch) (e : Env) (s : State) (m : MethodId) (args : Array Value) (below : List Frame) (meth : Method) (c : Code) (Q : State → Prop) (A : Nat → Prop) (dC : Nat → ClassId) (dI : Nat → Nat → Nat) (a : Nat → Nat) (ac : Nat → ClassId) (g : Int32 → Int32 → Int32 → Int32 → Int32 → (St × (St)) → Option (Option Nat × (St × (St)))) (r : Option Nat × (St × (St))) : Prop := ∀ (x3 : Int32) (x4 : Int32) (x5 : Int32) (x6 : Int32) (y0 : Int32) (s0 : St × (St)) (H : Heap) (locs : List Loc) (ls : Array Slot), g x3 x4 x5 x6 y0 s0 = some r → va_P (dC, dI) vwCl (dw_X1 a ac s0) H → va_D A (dw_X1 a ac s0) → va_S A s.heap H locs → lv_has ls 8 [(0, .ref (a 0)), (3, .int x3), (4, .int x4), (5, .int x5), (6, .int x6)] → W p l e (headSpec ow_dm_X1_readLine ({ frames := 7, cells := 0, slots := 0, locals := 157 })).room s m args below meth c H locs 0 0 Q (F0 m 87 ls [.int y0])
def dj_X1_readLine_86 (p : Program) (l : Launch) (e : Env) (s : State) (m : MethodId) (args : Array Value) (below : List Frame) (meth : Method) (c : Code) (Q : State → Prop) (A : Nat → Prop) (dC : Nat → ClassId) (dI : Nat → Nat → Nat) (a : Nat → Nat) (ac : Nat → ClassId) (g : Int32 → Int32 → Int32 → Int32 → (St × (St)) → Option (Option Nat × (St × (St)))) (r : Option Nat × (St × (St))) : Prop := ∀ (x3 : Int32) (x4 : Int32) (x5 : Int32) (x6 : Int32) (s0 : St × (St)) (H : Heap) (locs : List Loc) (ls : Array Slot), g x3 x4 x5 x6 s0 = some r → va_P (dC, dI) vwCl (dw_X1 a ac s0) H → va_D A (dw_X1 a ac s0) → va_S A s.heap H locs → lv_has ls 8 [(0, .ref (a 0)), (3, .int x3), (4, .int x4), (5, .int x5), (6, .int x6)] → W p l e (headSpec ow_dm_X1_readLine ({ frames := 7, cells := 0, slots := 0, locals := 157 })).room s m args below meth c H locs 0 0 Q (F0 m 86 ls [])
def dj_X1_readLine_13 (p : Program) (l : Launch) (e : Env) (s : State) (m : MethodId) (args : Array Value) (below : List Frame) (meth : Method) (c : Code) (Q : State → Prop) (A : Nat → Prop) (dC : Nat → ClassId) (dI : Nat → Nat → Nat) (a : Nat → Nat) (ac : Nat → ClassId) (g : Int32 → (St × (St)) → Option (Option Nat × (St × (St)))) (r : Option Nat × (St × (St))) : Prop := ∀ (x3 : Int32) (s0 : St × (St)) (H : Heap) (locs : List Loc) (ls : Array Slot), g x3 s0 = some r → va_P (dC, dI) vwCl (dw_X1 a ac s0) H → va_D A (dw_X1 a ac s0) → va_S A s.heap H locs → lv_has ls 8 [(0, .ref (a 0)), (3, .int x3)] → W p l e (headSpec ow_dm_X1_readLine ({ frames := 7, cells := 0, slots := 0, locals := 157 })).room s m args below meth c H locs 0 0 Q (F0 m 13 ls [])
def dj_X1_readLine_0 (p : Program) (l : Launch) (e : Env) (s : State) (m : MethodId) (args : Array Value) (below : List Frame) (meth : Method) (c : Code) (Q : State → Prop) (A : Nat → Prop) (dC : Nat → ClassId) (dI : Nat → Nat → Nat) (a : Nat → Nat) (ac : Nat → ClassId) (g : Int32 → Int32 → (St × (St)) → Option (Option Nat × (St × (St)))) (r : Option Nat × (St × (St))) : Prop := ∀ (v0 : Int32) (v1 : Int32) (s0 : St × (St)) (H : Heap) (locs : List Loc) (ls : Array Slot), g v0 v1 s0 = some r → va_P (dC, dI) vwCl (dw_X1 a ac s0) H → va_D A (dw_X1 a ac s0) → va_S A s.heap H locs → lv_has ls 8 [(0, .ref (a 0)), (1, .int v0), (2, .int v1)] → W p l e (headSpec ow_dm_X1_readLine ({ frames := 7, cells := 0, slots := 0, locals := 157 })).room s m args below meth c H locs 0 0 Q (F0 m 0 ls [])
set_option maxHeartbeats 40000000 in
set_option maxRecDepth 100000 in
theorem db_X1_readLine_160 {p : Program} {l : Launch} {e : Env} {s : State} {m : MethodId} {args : Array Value} {below : List Frame} {meth : Method} {c : Code} {Q : State → Prop} {A : Nat → Prop} {dC : Nat → ClassId} {dI : Nat → Nat → Nat} {a : Nat → Nat} {ac : Nat → ClassId} {n : Nat} {r : Option Nat × (St × (St))} (C : nd_C p l s m args c A (dC, dI) cX1_readLine 8 RX1 ow_dm_X1_readLine (dk_X1 ac)) (K : nd_Kq p l e (headSpec ow_dm_X1_readLine ({ frames := 7, cells := 0, slots := 0, locals := 157 })).room s m args below meth c Q A (dC, dI) cX1_readLine (St × (St)) (dw_X1 a ac) (fun j => dI 1002 j) r) : dj_X1_readLine_160 p l e s m args below meth c Q A dC dI a ac (df_X1_readLine_160 n) r := by
  obtain ⟨hlt, hx, hb, hml, hown, hts, hN, hA, hK⟩ := id C
  intro s0 H locs ls h hP hD hS hl
  unfold df_X1_readLine_160 at h
  refine lv_null hx hb dX1_readLine_160 ?_
  exact K _ none _ _ _ _ dX1_readLine_161 (Option.some.inj h).symm hP hD hS
set_option maxHeartbeats 40000000 in
set_option maxRecDepth 100000 in
theorem db_X1_readLine_107 {p : Program} {l : Launch} {e : Env} {s : State} {m : MethodId} {args : Array Value} {below : List Frame} {meth : Method} {c : Code} {Q : State → Prop} {A : Nat → Prop} {dC : Nat → ClassId} {dI : Nat → Nat → Nat} {a : Nat → Nat} {ac : Nat → ClassId} {n : Nat} {r : Option Nat × (St × (St))} (C : nd_C p l s m args c A (dC, dI) cX1_readLine 8 RX1 ow_dm_X1_readLine (dk_X1 ac)) (K : nd_Kq p l e (headSpec ow_dm_X1_readLine ({ frames := 7, cells := 0, slots := 0, locals := 157 })).room s m args below meth c Q A (dC, dI) cX1_readLine (St × (St)) (dw_X1 a ac) (fun j => dI 1002 j) r) {g13 : Int32 → (St × (St)) → Option (Option Nat × (St × (St)))} (J13 : dj_X1_readLine_13 p l e s m args below meth c Q A dC dI a ac g13 r) : dj_X1_readLine_107 p l e s m args below meth c Q A dC dI a ac (df_X1_readLine_107 n g13) r := by
  obtain ⟨hlt, hx, hb, hml, hown, hts, hN, hA, hK⟩ := id C
  intro x3 x5 x6 x7 s0 H locs ls h hP hD hS hl
  unfold df_X1_readLine_107 at h
  refine lv_aload_n hx hb dX1_readLine_107 rfl (lv_at hl 0 rfl) ?_
  refine va_get (D := (dC, dI)) (ci := 2) (v := .ref (a 3)) (C := RX1) (T := TX1) (N := 13) hx hb hts hi_dm_X1_readLine_X1 hown hK hP 0 rfl rfl 0 (by decide) (hts (.fieldLink RX1 12 "TimeMachine$Assembler" "reader" "LTimeMachine$Reader;") (List.mem_of_getElem? (i := 1) rfl)) (fun _ h9 => h9) rfl dX1_readLine_108 ?_
  obtain ⟨s15, hq, h⟩ := nd_b1_e h
  have hPc := dp_X1_3 hP
  have hDc := dd_X1_3 hD
  have hKc := dy_X1_3 hK
  have hFc := nd_rs hDc hS hA
  have hzA : ∀ q : Nat, H.size ≤ q → A q := fun q h => hA q (Nat.le_trans hS.1 h)
  refine nd_cVv (As := []) (rest := []) (w' := dw_X9 (fun k => a (k + 3)) (fun k => ac (k + 3)) s15) ⟨hx, hb, hml, hown, hts⟩ (fun sz => dm_X9_next l hlt dC dI (fun k => a (k + 3)) (fun k => ac (k + 3)) n  s0.2 hq sz) (cwV 0 hts gi_dm_X1_readLine_1 rfl rfl rfl (by decide +kernel) ⟨Nat.le_of_ble_eq_true rfl, Nat.le_of_ble_eq_true rfl⟩) hPc hDc hKc hS hA hN (va_recv hKc hPc (ci := 10) (q0 := 0) rfl rfl) rfl hl.1 rfl (Nat.le_of_ble_eq_true rfl) dX1_readLine_111 (fun H locs hP1 hD1 hk1 hS => ?_)
  obtain ⟨hP, hD⟩ := dn_X1_3 hP hD hzA hk1 hP1 hD1
  obtain ⟨s17, es17, h⟩ := nd_let_e h
  have hP : va_P (dC, dI) vwCl (dw_X1 a ac s17) H := by rw [es17]; exact hP
  have hD : va_D A (dw_X1 a ac s17) := by rw [es17]; exact hD
  refine lv_aload_n hx hb dX1_readLine_114 rfl (lv_at hl 0 rfl) ?_
  refine va_get (D := (dC, dI)) (ci := 2) (v := .ref (a 3)) (C := RX1) (T := TX1) (N := 13) hx hb hts hi_dm_X1_readLine_X1 hown hK hP 0 rfl rfl 0 (by decide) (hts (.fieldLink RX1 12 "TimeMachine$Assembler" "reader" "LTimeMachine$Reader;") (List.mem_of_getElem? (i := 1) rfl)) (fun _ h9 => h9) rfl dX1_readLine_115 ?_
  refine lv_bipush (v := 58) hx hb dX1_readLine_118 (by decide) ?_
  obtain ⟨q18, s19, hq, h⟩ := nd_b2_e h
  have hPc := dp_X1_3 hP
  have hDc := dd_X1_3 hD
  have hKc := dy_X1_3 hK
  have hFc := nd_rs hDc hS hA
  have hzA : ∀ q : Nat, H.size ≤ q → A q := fun q h => hA q (Nat.le_trans hS.1 h)
  refine nd_cVi (As := [.int 58]) (rest := []) (q := q18) (w' := dw_X9 (fun k => a (k + 3)) (fun k => ac (k + 3)) s19) ⟨hx, hb, hml, hown, hts⟩ (fun sz => dm_X9_isSign l hlt dC dI (fun k => a (k + 3)) (fun k => ac (k + 3)) n (58) s17.2 hq sz) (cwV 1 hts gi_dm_X1_readLine_2 rfl rfl rfl (by decide +kernel) ⟨Nat.le_of_ble_eq_true rfl, Nat.le_of_ble_eq_true rfl⟩) hPc hDc hKc hS hA hN (va_recv hKc hPc (ci := 10) (q0 := 0) rfl rfl) rfl hl.1 rfl (Nat.le_of_ble_eq_true rfl) dX1_readLine_120 (fun H locs hP1 hD1 hk1 hS => ?_)
  obtain ⟨hP, hD⟩ := dn_X1_3 hP hD hzA hk1 hP1 hD1
  obtain ⟨s21, es21, h⟩ := nd_let_e h
  have hP : va_P (dC, dI) vwCl (dw_X1 a ac s21) H := by rw [es21]; exact hP
  have hD : va_D A (dw_X1 a ac s21) := by rw [es21]; exact hD
  refine lv_if_ne (tgt := 137) hx hb dX1_readLine_123 (by decide) (fun c22 => ?_) (fun c22 => ?_)
  · have h := nd_neg h c22
    refine lv_aload_n hx hb dX1_readLine_137 rfl (lv_at hl 0 rfl) ?_
    refine lv_iload hx hb dX1_readLine_138 (lv_at hl 2 rfl) ?_
    refine lv_iload hx hb dX1_readLine_140 (lv_at hl 3 rfl) ?_
    refine lv_iload hx hb dX1_readLine_142 (lv_at hl 4 rfl) ?_
    obtain ⟨s24, hq, h⟩ := nd_b1_e h
    have hPc := hP
    have hDc := hD
    have hKc := hK
    have hFc := nd_rs hD hS hA
    refine nd_cVv (As := [.int x5, .int x6, .int x7]) (rest := []) (w' := dw_X1 a ac s24) ⟨hx, hb, hml, hown, hts⟩ (fun sz => dm_X1_readLabel l hlt dC dI a ac n (x5) (x6) (x7) s21 hq sz) (cwV 3 hts gi_dm_X1_readLine_3 rfl rfl rfl (by decide +kernel) ⟨Nat.le_of_ble_eq_true rfl, Nat.le_of_ble_eq_true rfl⟩) hPc hDc hKc hS hA hN (va_recv hKc hPc (ci := 2) (q0 := 0) rfl rfl) rfl hl.1 rfl (Nat.le_of_ble_eq_true rfl) dX1_readLine_144 (fun H locs hP1 hD1 hk1 hS => ?_)
    have hP := hP1
    have hD := hD1.weaken (fun k q _ h => hFc q.1 h)
    refine lv_aload_n hx hb dX1_readLine_147 rfl (lv_at hl 0 rfl) ?_
    refine va_get (D := (dC, dI)) (ci := 2) (v := .ref (a 3)) (C := RX1) (T := TX1) (N := 13) hx hb hts hi_dm_X1_readLine_X1 hown hK hP 0 rfl rfl 0 (by decide) (hts (.fieldLink RX1 12 "TimeMachine$Assembler" "reader" "LTimeMachine$Reader;") (List.mem_of_getElem? (i := 1) rfl)) (fun _ h9 => h9) rfl dX1_readLine_148 ?_
    obtain ⟨s27, hq, h⟩ := nd_b1_e h
    have hPc := dp_X1_3 hP
    have hDc := dd_X1_3 hD
    have hKc := dy_X1_3 hK
    have hFc := nd_rs hDc hS hA
    have hzA : ∀ q : Nat, H.size ≤ q → A q := fun q h => hA q (Nat.le_trans hS.1 h)
    refine nd_cVv (As := []) (rest := []) (w' := dw_X9 (fun k => a (k + 3)) (fun k => ac (k + 3)) s27) ⟨hx, hb, hml, hown, hts⟩ (fun sz => dm_X9_next l hlt dC dI (fun k => a (k + 3)) (fun k => ac (k + 3)) n  s24.2 hq sz) (cwV 0 hts gi_dm_X1_readLine_1 rfl rfl rfl (by decide +kernel) ⟨Nat.le_of_ble_eq_true rfl, Nat.le_of_ble_eq_true rfl⟩) hPc hDc hKc hS hA hN (va_recv hKc hPc (ci := 10) (q0 := 0) rfl rfl) rfl hl.1 rfl (Nat.le_of_ble_eq_true rfl) dX1_readLine_151 (fun H locs hP1 hD1 hk1 hS => ?_)
    obtain ⟨hP, hD⟩ := dn_X1_3 hP hD hzA hk1 hP1 hD1
    obtain ⟨s29, es29, h⟩ := nd_let_e h
    have hP : va_P (dC, dI) vwCl (dw_X1 a ac s29) H := by rw [es29]; exact hP
    have hD : va_D A (dw_X1 a ac s29) := by rw [es29]; exact hD
    obtain ⟨z30, ez30, h⟩ := nd_let_e h
    refine lv_iinc (v := z30) (lv' := [(3, .int z30), (0, .ref (a 0)), (5, .int x5), (6, .int x6), (7, .int x7)]) hx hb dX1_readLine_154 hl (k := 1) rfl (by rw [ez30]) (by decide) rfl (fun ls hl => ?_)
    refine lv_goto (tgt := 13) hx hb dX1_readLine_157 (by decide) ?_
    exact (J13) (z30) s29 _ _ _ h hP hD hS (lv_sub hl [1, 0] rfl)
  · have h := nd_pos h c22
    refine lv_aload_n hx hb dX1_readLine_126 rfl (lv_at hl 0 rfl) ?_
    refine lv_iload hx hb dX1_readLine_127 (lv_at hl 2 rfl) ?_
    refine lv_iload hx hb dX1_readLine_129 (lv_at hl 3 rfl) ?_
    refine lv_iload hx hb dX1_readLine_131 (lv_at hl 4 rfl) ?_
    obtain ⟨q31, s32, hq, h⟩ := nd_b2_e h
    have hPc := hP
    have hDc := hD
    have hKc := hK
    have hFc := nd_rs hD hS hA
    refine nd_cVq (As := [.int x5, .int x6, .int x7]) (rest := []) (q := Option.map (fun j => dI 1002 j) q31) (w' := dw_X1 a ac s32) ⟨hx, hb, hml, hown, hts⟩ (fun sz => dm_X1_statementNamed l hlt dC dI a ac n (x5) (x6) (x7) s21 hq sz) (cwV 3 hts gi_dm_X1_readLine_4 rfl rfl rfl (by decide +kernel) ⟨Nat.le_of_ble_eq_true rfl, Nat.le_of_ble_eq_true rfl⟩) hPc hDc hKc hS hA hN (va_recv hKc hPc (ci := 2) (q0 := 0) rfl rfl) rfl hl.1 rfl (Nat.le_of_ble_eq_true rfl) dX1_readLine_133 (fun H locs hP1 hD1 hk1 hS => ?_)
    have hP := hP1
    have hD := hD1.weaken (fun k q _ h => hFc q.1 h)
    cases hrj34 : q31 with
    | none =>
      have h := nd_mN h hrj34
      refine W.eq (g2 := F0 m 136 ls [.null]) (by first | rfl | (show F0 m _ ls (va_rf (Option.map (fun j => dI 1002 j) q31) :: _) = _; rw [hrj34]; rfl)) ?_
      exact K _ none _ _ _ _ dX1_readLine_136 (Option.some.inj h).symm hP hD hS
    | some j34 =>
      have h := nd_mS h hrj34
      refine W.eq (g2 := F0 m 136 ls [.ref (dI 1002 j34)]) (by first | rfl | (show F0 m _ ls (va_rf (Option.map (fun j => dI 1002 j) q31) :: _) = _; rw [hrj34]; rfl)) ?_
      exact K _ (some j34) _ _ _ _ dX1_readLine_136 (Option.some.inj h).symm hP hD hS
set_option maxHeartbeats 40000000 in
set_option maxRecDepth 100000 in
theorem db_X1_readLine_87 {p : Program} {l : Launch} {e : Env} {s : State} {m : MethodId} {args : Array Value} {below : List Frame} {meth : Method} {c : Code} {Q : State → Prop} {A : Nat → Prop} {dC : Nat → ClassId} {dI : Nat → Nat → Nat} {a : Nat → Nat} {ac : Nat → ClassId} {n : Nat} {r : Option Nat × (St × (St))} (C : nd_C p l s m args c A (dC, dI) cX1_readLine 8 RX1 ow_dm_X1_readLine (dk_X1 ac)) (K : nd_Kq p l e (headSpec ow_dm_X1_readLine ({ frames := 7, cells := 0, slots := 0, locals := 157 })).room s m args below meth c Q A (dC, dI) cX1_readLine (St × (St)) (dw_X1 a ac) (fun j => dI 1002 j) r) {g13 : Int32 → (St × (St)) → Option (Option Nat × (St × (St)))} (J13 : dj_X1_readLine_13 p l e s m args below meth c Q A dC dI a ac g13 r) : dj_X1_readLine_87 p l e s m args below meth c Q A dC dI a ac (df_X1_readLine_87 n g13) r := by
  obtain ⟨hlt, hx, hb, hml, hown, hts, hN, hA, hK⟩ := id C
  intro x3 x4 x5 x6 y0 s0 H locs ls h hP hD hS hl
  unfold df_X1_readLine_87 at h
  refine lv_istore (lv' := [(7, .int y0), (0, .ref (a 0)), (3, .int x3), (4, .int x4), (5, .int x5), (6, .int x6)]) hx hb dX1_readLine_87 hl (by decide) rfl (fun ls hl => ?_)
  refine lv_iload hx hb dX1_readLine_89 (lv_at hl 3 rfl) ?_
  refine lv_iconst (v := 1) hx hb dX1_readLine_91 (by decide) ?_
  refine lv_icmp_eq (tgt := 107) hx hb dX1_readLine_92 (by decide) (fun c13 => ?_) (fun c13 => ?_)
  · have h := nd_pos h c13
    exact (db_X1_readLine_107 C K J13) (x3) (x5) (x6) (y0) s0 _ _ _ h hP hD hS (lv_sub hl [1, 2, 4, 5, 0] rfl)
  · have h := nd_neg h c13
    refine lv_iload hx hb dX1_readLine_95 (lv_at hl 0 rfl) ?_
    refine lv_if_ge (tgt := 107) hx hb dX1_readLine_97 (by decide) (fun c35 => ?_) (fun c35 => ?_)
    · have h := nd_pos h c35
      exact (db_X1_readLine_107 C K J13) (x3) (x5) (x6) (y0) s0 _ _ _ h hP hD hS (lv_sub hl [1, 2, 4, 5, 0] rfl)
    · have h := nd_neg h c35
      refine lv_aload_n hx hb dX1_readLine_100 rfl (lv_at hl 1 rfl) ?_
      refine lv_iconst (v := 1) hx hb dX1_readLine_101 (by decide) ?_
      obtain ⟨s37, hq, h⟩ := nd_b1_e h
      have hPc := hP
      have hDc := hD
      have hKc := hK
      have hFc := nd_rs hD hS hA
      refine nd_cVv (As := [.int 1]) (rest := []) (w' := dw_X1 a ac s37) ⟨hx, hb, hml, hown, hts⟩ (fun sz => dm_X1_blame l hlt dC dI a ac n (1) s0 hq sz) (cwV 1 hts gi_dm_X1_readLine_5 rfl rfl rfl (by decide +kernel) ⟨Nat.le_of_ble_eq_true rfl, Nat.le_of_ble_eq_true rfl⟩) hPc hDc hKc hS hA hN (va_recv hKc hPc (ci := 2) (q0 := 0) rfl rfl) rfl hl.1 rfl (Nat.le_of_ble_eq_true rfl) dX1_readLine_102 (fun H locs hP1 hD1 hk1 hS => ?_)
      have hP := hP1
      have hD := hD1.weaken (fun k q _ h => hFc q.1 h)
      refine lv_null hx hb dX1_readLine_105 ?_
      exact K _ none _ _ _ _ dX1_readLine_106 (Option.some.inj h).symm hP hD hS
set_option maxHeartbeats 40000000 in
set_option maxRecDepth 100000 in
theorem db_X1_readLine_86 {p : Program} {l : Launch} {e : Env} {s : State} {m : MethodId} {args : Array Value} {below : List Frame} {meth : Method} {c : Code} {Q : State → Prop} {A : Nat → Prop} {dC : Nat → ClassId} {dI : Nat → Nat → Nat} {a : Nat → Nat} {ac : Nat → ClassId} {n : Nat} {r : Option Nat × (St × (St))} (C : nd_C p l s m args c A (dC, dI) cX1_readLine 8 RX1 ow_dm_X1_readLine (dk_X1 ac)) (K : nd_Kq p l e (headSpec ow_dm_X1_readLine ({ frames := 7, cells := 0, slots := 0, locals := 157 })).room s m args below meth c Q A (dC, dI) cX1_readLine (St × (St)) (dw_X1 a ac) (fun j => dI 1002 j) r) {g13 : Int32 → (St × (St)) → Option (Option Nat × (St × (St)))} (J13 : dj_X1_readLine_13 p l e s m args below meth c Q A dC dI a ac g13 r) : dj_X1_readLine_86 p l e s m args below meth c Q A dC dI a ac (df_X1_readLine_86 n g13) r := by
  obtain ⟨hlt, hx, hb, hml, hown, hts, hN, hA, hK⟩ := id C
  intro x3 x4 x5 x6 s0 H locs ls h hP hD hS hl
  unfold df_X1_readLine_86 at h
  refine lv_iconst (v := (-1)) hx hb dX1_readLine_86 (by decide) ?_
  exact (db_X1_readLine_87 C K J13) (x3) (x4) (x5) (x6) ((-1)) s0 _ _ _ h hP hD hS (lv_sub hl [0, 1, 2, 3, 4] rfl)
set_option maxHeartbeats 40000000 in
set_option maxRecDepth 100000 in
theorem dB_X1_readLine_13 {p : Program} {l : Launch} {e : Env} {s : State} {m : MethodId} {args : Array Value} {below : List Frame} {meth : Method} {c : Code} {Q : State → Prop} {A : Nat → Prop} {dC : Nat → ClassId} {dI : Nat → Nat → Nat} {a : Nat → Nat} {ac : Nat → ClassId} {n : Nat} {r : Option Nat × (St × (St))} (C : nd_C p l s m args c A (dC, dI) cX1_readLine 8 RX1 ow_dm_X1_readLine (dk_X1 ac)) (K : nd_Kq p l e (headSpec ow_dm_X1_readLine ({ frames := 7, cells := 0, slots := 0, locals := 157 })).room s m args below meth c Q A (dC, dI) cX1_readLine (St × (St)) (dw_X1 a ac) (fun j => dI 1002 j) r) {g13 : Int32 → (St × (St)) → Option (Option Nat × (St × (St)))} (J13 : dj_X1_readLine_13 p l e s m args below meth c Q A dC dI a ac g13 r) : dj_X1_readLine_13 p l e s m args below meth c Q A dC dI a ac (dF_X1_readLine_13 n g13) r := by
  obtain ⟨hlt, hx, hb, hml, hown, hts, hN, hA, hK⟩ := id C
  intro x3 s0 H locs ls h hP hD hS hl
  unfold dF_X1_readLine_13 at h
  refine lv_iload_n hx hb dX1_readLine_13 rfl (lv_at hl 1 rfl) ?_
  refine lv_if_lt (tgt := 160) hx hb dX1_readLine_14 (by decide) (fun c6 => ?_) (fun c6 => ?_)
  · have h := nd_pos h c6
    exact (db_X1_readLine_160 C K)  s0 _ _ _ h hP hD hS (lv_sub hl [] rfl)
  · have h := nd_neg h c6
    refine lv_aload_n hx hb dX1_readLine_17 rfl (lv_at hl 0 rfl) ?_
    refine va_get (D := (dC, dI)) (ci := 2) (v := .int (sI s0.1 2)) (C := RX1) (T := TX1) (N := 13) hx hb hts hi_dm_X1_readLine_X1 hown hK hP 0 rfl rfl 5 (by decide) (hts (.fieldLink RX1 32 "TimeMachine$Assembler" "fault" "I") (List.mem_of_getElem? (i := 6) rfl)) (fun _ h9 => h9) rfl dX1_readLine_18 ?_
    refine lv_if_ne (tgt := 160) hx hb dX1_readLine_21 (by decide) (fun c7 => ?_) (fun c7 => ?_)
    · have h := nd_neg h c7
      exact (db_X1_readLine_160 C K)  s0 _ _ _ h hP hD hS (lv_sub hl [] rfl)
    · have h := nd_pos h c7
      refine lv_aload_n hx hb dX1_readLine_24 rfl (lv_at hl 0 rfl) ?_
      refine va_get (D := (dC, dI)) (ci := 2) (v := .ref (a 3)) (C := RX1) (T := TX1) (N := 13) hx hb hts hi_dm_X1_readLine_X1 hown hK hP 0 rfl rfl 0 (by decide) (hts (.fieldLink RX1 12 "TimeMachine$Assembler" "reader" "LTimeMachine$Reader;") (List.mem_of_getElem? (i := 1) rfl)) (fun _ h9 => h9) rfl dX1_readLine_25 ?_
      refine va_get (D := (dC, dI)) (ci := 10) (v := .int (sI s0.2 2)) (C := RX9) (T := TX9) (N := 20) hx hb hts hi_dm_X1_readLine_X9 hown hK hP 3 rfl rfl 3 (by decide) (hts (.fieldLink RX1 85 "TimeMachine$Reader" "kind" "I") (List.mem_of_getElem? (i := 7) rfl)) (fun _ h9 => h9) rfl dX1_readLine_28 ?_
      refine lv_if_eq (tgt := 160) hx hb dX1_readLine_31 (by decide) (fun c8 => ?_) (fun c8 => ?_)
      · have h := nd_pos h c8
        exact (db_X1_readLine_160 C K)  s0 _ _ _ h hP hD hS (lv_sub hl [] rfl)
      · have h := nd_neg h c8
        refine lv_aload_n hx hb dX1_readLine_34 rfl (lv_at hl 0 rfl) ?_
        refine va_get (D := (dC, dI)) (ci := 2) (v := .ref (a 3)) (C := RX1) (T := TX1) (N := 13) hx hb hts hi_dm_X1_readLine_X1 hown hK hP 0 rfl rfl 0 (by decide) (hts (.fieldLink RX1 12 "TimeMachine$Assembler" "reader" "LTimeMachine$Reader;") (List.mem_of_getElem? (i := 1) rfl)) (fun _ h9 => h9) rfl dX1_readLine_35 ?_
        refine va_get (D := (dC, dI)) (ci := 10) (v := .int (sI s0.2 2)) (C := RX9) (T := TX9) (N := 20) hx hb hts hi_dm_X1_readLine_X9 hown hK hP 3 rfl rfl 3 (by decide) (hts (.fieldLink RX1 85 "TimeMachine$Reader" "kind" "I") (List.mem_of_getElem? (i := 7) rfl)) (fun _ h9 => h9) rfl dX1_readLine_38 ?_
        refine lv_topi (fun z9 ez9 => ?_)
        have h := nd_at h ez9
        refine lv_istore (lv' := [(4, .int z9), (0, .ref (a 0)), (3, .int x3)]) hx hb dX1_readLine_41 hl (by decide) rfl (fun ls hl => ?_)
        refine lv_aload_n hx hb dX1_readLine_43 rfl (lv_at hl 1 rfl) ?_
        refine va_get (D := (dC, dI)) (ci := 2) (v := .ref (a 3)) (C := RX1) (T := TX1) (N := 13) hx hb hts hi_dm_X1_readLine_X1 hown hK hP 0 rfl rfl 0 (by decide) (hts (.fieldLink RX1 12 "TimeMachine$Assembler" "reader" "LTimeMachine$Reader;") (List.mem_of_getElem? (i := 1) rfl)) (fun _ h9 => h9) rfl dX1_readLine_44 ?_
        refine va_get (D := (dC, dI)) (ci := 10) (v := .int (sI s0.2 3)) (C := RX9) (T := TX9) (N := 20) hx hb hts hi_dm_X1_readLine_X9 hown hK hP 3 rfl rfl 4 (by decide) (hts (.fieldLink RX1 88 "TimeMachine$Reader" "from" "I") (List.mem_of_getElem? (i := 8) rfl)) (fun _ h9 => h9) rfl dX1_readLine_47 ?_
        refine lv_topi (fun z10 ez10 => ?_)
        have h := nd_at h ez10
        refine lv_istore (lv' := [(5, .int z10), (4, .int z9), (0, .ref (a 0)), (3, .int x3)]) hx hb dX1_readLine_50 hl (by decide) rfl (fun ls hl => ?_)
        refine lv_aload_n hx hb dX1_readLine_52 rfl (lv_at hl 2 rfl) ?_
        refine va_get (D := (dC, dI)) (ci := 2) (v := .ref (a 3)) (C := RX1) (T := TX1) (N := 13) hx hb hts hi_dm_X1_readLine_X1 hown hK hP 0 rfl rfl 0 (by decide) (hts (.fieldLink RX1 12 "TimeMachine$Assembler" "reader" "LTimeMachine$Reader;") (List.mem_of_getElem? (i := 1) rfl)) (fun _ h9 => h9) rfl dX1_readLine_53 ?_
        refine va_get (D := (dC, dI)) (ci := 10) (v := .int (sI s0.2 0)) (C := RX9) (T := TX9) (N := 20) hx hb hts hi_dm_X1_readLine_X9 hown hK hP 3 rfl rfl 1 (by decide) (hts (.fieldLink RX1 91 "TimeMachine$Reader" "at" "I") (List.mem_of_getElem? (i := 9) rfl)) (fun _ h9 => h9) rfl dX1_readLine_56 ?_
        refine lv_iload hx hb dX1_readLine_59 (lv_at hl 0 rfl) ?_
        refine lv_isub hx hb dX1_readLine_61 ?_
        refine lv_topi (fun z11 ez11 => ?_)
        have h := nd_at h ez11
        refine lv_istore (lv' := [(6, .int z11), (5, .int z10), (4, .int z9), (0, .ref (a 0)), (3, .int x3)]) hx hb dX1_readLine_62 hl (by decide) rfl (fun ls hl => ?_)
        refine lv_iload hx hb dX1_readLine_64 (lv_at hl 2 rfl) ?_
        refine lv_iconst (v := 2) hx hb dX1_readLine_66 (by decide) ?_
        refine lv_icmp_ne (tgt := 86) hx hb dX1_readLine_67 (by decide) (fun c12 => ?_) (fun c12 => ?_)
        · have h := nd_neg h c12
          exact (db_X1_readLine_86 C K J13) (x3) (z9) (z10) (z11) s0 _ _ _ h hP hD hS (lv_sub hl [3, 4, 2, 1, 0] rfl)
        · have h := nd_pos h c12
          refine lv_iload hx hb dX1_readLine_70 (lv_at hl 0 rfl) ?_
          refine lv_iconst (v := 1) hx hb dX1_readLine_72 (by decide) ?_
          refine lv_icmp_ne (tgt := 86) hx hb dX1_readLine_73 (by decide) (fun c39 => ?_) (fun c39 => ?_)
          · have h := nd_neg h c39
            exact (db_X1_readLine_86 C K J13) (x3) (z9) (z10) (z11) s0 _ _ _ h hP hD hS (lv_sub hl [3, 4, 2, 1, 0] rfl)
          · have h := nd_pos h c39
            refine lv_aload_n hx hb dX1_readLine_76 rfl (lv_at hl 3 rfl) ?_
            refine va_get (D := (dC, dI)) (ci := 2) (v := .ref (a 3)) (C := RX1) (T := TX1) (N := 13) hx hb hts hi_dm_X1_readLine_X1 hown hK hP 0 rfl rfl 0 (by decide) (hts (.fieldLink RX1 12 "TimeMachine$Assembler" "reader" "LTimeMachine$Reader;") (List.mem_of_getElem? (i := 1) rfl)) (fun _ h9 => h9) rfl dX1_readLine_77 ?_
            refine va_get (D := (dC, dI)) (ci := 10) (v := .int (sI s0.2 4)) (C := RX9) (T := TX9) (N := 20) hx hb hts hi_dm_X1_readLine_X9 hown hK hP 3 rfl rfl 5 (by decide) (hts (.fieldLink RX1 94 "TimeMachine$Reader" "number" "I") (List.mem_of_getElem? (i := 26) rfl)) (fun _ h9 => h9) rfl dX1_readLine_80 ?_
            refine lv_goto (tgt := 87) hx hb dX1_readLine_83 (by decide) ?_
            exact (db_X1_readLine_87 C K J13) (x3) (z9) (z10) (z11) ((sI s0.2 4)) s0 _ _ _ h hP hD hS (lv_sub hl [3, 4, 2, 1, 0] rfl)
set_option maxHeartbeats 40000000 in
set_option maxRecDepth 100000 in
theorem db_X1_readLine_13 {p : Program} {l : Launch} {e : Env} {s : State} {m : MethodId} {args : Array Value} {below : List Frame} {meth : Method} {c : Code} {Q : State → Prop} {A : Nat → Prop} {dC : Nat → ClassId} {dI : Nat → Nat → Nat} {a : Nat → Nat} {ac : Nat → ClassId} {n : Nat} {r : Option Nat × (St × (St))} (C : nd_C p l s m args c A (dC, dI) cX1_readLine 8 RX1 ow_dm_X1_readLine (dk_X1 ac)) (K : nd_Kq p l e (headSpec ow_dm_X1_readLine ({ frames := 7, cells := 0, slots := 0, locals := 157 })).room s m args below meth c Q A (dC, dI) cX1_readLine (St × (St)) (dw_X1 a ac) (fun j => dI 1002 j) r) (k : Nat) : dj_X1_readLine_13 p l e s m args below meth c Q A dC dI a ac (df_X1_readLine_13 n k) r := by
  induction k with
  | zero => intro x3 s0 H locs ls h; exact nomatch (show (none : Option (Option Nat × (St × (St)))) = some r from h)
  | succ k ih => exact dB_X1_readLine_13 C K ih
set_option maxHeartbeats 40000000 in
set_option maxRecDepth 100000 in
theorem db_X1_readLine_0 {p : Program} {l : Launch} {e : Env} {s : State} {m : MethodId} {args : Array Value} {below : List Frame} {meth : Method} {c : Code} {Q : State → Prop} {A : Nat → Prop} {dC : Nat → ClassId} {dI : Nat → Nat → Nat} {a : Nat → Nat} {ac : Nat → ClassId} {n : Nat} {r : Option Nat × (St × (St))} (C : nd_C p l s m args c A (dC, dI) cX1_readLine 8 RX1 ow_dm_X1_readLine (dk_X1 ac)) (K : nd_Kq p l e (headSpec ow_dm_X1_readLine ({ frames := 7, cells := 0, slots := 0, locals := 157 })).room s m args below meth c Q A (dC, dI) cX1_readLine (St × (St)) (dw_X1 a ac) (fun j => dI 1002 j) r) : dj_X1_readLine_0 p l e s m args below meth c Q A dC dI a ac (df_X1_readLine_0 n) r := by
  obtain ⟨hlt, hx, hb, hml, hown, hts, hN, hA, hK⟩ := id C
  intro v0 v1 s0 H locs ls h hP hD hS hl
  unfold df_X1_readLine_0 at h
  refine lv_aload_n hx hb dX1_readLine_0 rfl (lv_at hl 0 rfl) ?_
  refine va_get (D := (dC, dI)) (ci := 2) (v := .ref (a 3)) (C := RX1) (T := TX1) (N := 13) hx hb hts hi_dm_X1_readLine_X1 hown hK hP 0 rfl rfl 0 (by decide) (hts (.fieldLink RX1 12 "TimeMachine$Assembler" "reader" "LTimeMachine$Reader;") (List.mem_of_getElem? (i := 1) rfl)) (fun _ h9 => h9) rfl dX1_readLine_1 ?_
  refine lv_iload_n hx hb dX1_readLine_4 rfl (lv_at hl 1 rfl) ?_
  refine lv_iload_n hx hb dX1_readLine_5 rfl (lv_at hl 2 rfl) ?_
  obtain ⟨s2, hq, h⟩ := nd_b1_e h
  have hPc := dp_X1_3 hP
  have hDc := dd_X1_3 hD
  have hKc := dy_X1_3 hK
  have hFc := nd_rs hDc hS hA
  have hzA : ∀ q : Nat, H.size ≤ q → A q := fun q h => hA q (Nat.le_trans hS.1 h)
  refine nd_cVv (As := [.int v0, .int v1]) (rest := []) (w' := dw_X9 (fun k => a (k + 3)) (fun k => ac (k + 3)) s2) ⟨hx, hb, hml, hown, hts⟩ (fun sz => dm_X9_startLine l hlt dC dI (fun k => a (k + 3)) (fun k => ac (k + 3)) n (v0) (v1) s0.2 hq sz) (cwV 2 hts gi_dm_X1_readLine_0 rfl rfl rfl (by decide +kernel) ⟨Nat.le_of_ble_eq_true rfl, Nat.le_of_ble_eq_true rfl⟩) hPc hDc hKc hS hA hN (va_recv hKc hPc (ci := 10) (q0 := 0) rfl rfl) rfl hl.1 rfl (Nat.le_of_ble_eq_true rfl) dX1_readLine_6 (fun H locs hP1 hD1 hk1 hS => ?_)
  obtain ⟨hP, hD⟩ := dn_X1_3 hP hD hzA hk1 hP1 hD1
  obtain ⟨s4, es4, h⟩ := nd_let_e h
  have hP : va_P (dC, dI) vwCl (dw_X1 a ac s4) H := by rw [es4]; exact hP
  have hD : va_D A (dw_X1 a ac s4) := by rw [es4]; exact hD
  refine lv_iload_n hx hb dX1_readLine_9 rfl (lv_at hl 2 rfl) ?_
  refine lv_iload_n hx hb dX1_readLine_10 rfl (lv_at hl 1 rfl) ?_
  refine lv_isub hx hb dX1_readLine_11 ?_
  refine lv_topi (fun z5 ez5 => ?_)
  have h := nd_at h ez5
  refine lv_istore_n (lv' := [(3, .int z5), (0, .ref (a 0)), (1, .int v0), (2, .int v1)]) hx hb dX1_readLine_12 rfl hl (by decide) rfl (fun ls hl => ?_)
  exact (db_X1_readLine_13 C K n) (z5) s4 _ _ _ h hP hD hS (lv_sub hl [1, 0] rfl)
set_option maxHeartbeats 40000000 in
set_option maxRecDepth 100000 in
theorem dm_X1_readLine (l : Launch) (hlt : l.stackTraces = false) (dC : Nat → ClassId) (dI : Nat → Nat → Nat) (a : Nat → Nat) (ac : Nat → ClassId) (n : Nat) (v0 : Int32) (v1 : Int32) (s0 : St × (St)) {r : Option Nat × (St × (St))} (h : df_X1_readLine n v0 v1 s0 = some r) (sz : Nat) : Met l yX1_readLine ow_dm_X1_readLine ({ frames := 7, cells := 0, slots := 0, locals := 157 }) (va_Pc [.ref (a 0), .int v0, .int v1] (fun U => U.heap.size = sz ∧ va_P (dC, dI) vwCl (dw_X1 a ac s0) U.heap ∧ va_K (dC, dI) vwCl (dk_X1 ac) U ∧ va_D (fun _ => True) (dw_X1 a ac s0) ∧ nv_E dI (va_A (dw_X1 a ac s0) sz) U)) (va_Qq (fun x _ => x = Option.map (fun j => dI 1002 j) r.1) (fun (_ : Unit) t => va_P (dC, dI) vwCl (dw_X1 a ac r.2) t.heap ∧ va_K (dC, dI) vwCl (dk_X1 ac) t ∧ va_D (va_A (dw_X1 a ac s0) sz) (dw_X1 a ac r.2)) (va_A (dw_X1 a ac s0) sz)) 0 0 (va_A (dw_X1 a ac s0) sz) := by
  refine Met.ofW (cc := cX1_readLine) (maxL := 8) (ret := (some (.object "TimeMachine$Op"))) (by decide) rfl ?_
  intro p e s m args below meth c s₁ B hml hv
  obtain ⟨rfl, hsz, hP, hK, hD0, hN⟩ := hv
  have hx := B.exec
  have hb := B.bytes
  have hr := B.returns
  have hts := atoms_spec (ws := ow_dm_X1_readLine) B.pre
  have hown : s.vm.findClass RX1 = some m.cls := findClass_of_methodNamed B.named
  have hlocks := B.notSynchronized
  subst hsz
  have hD := hD0.self (sz := s.heap.size)
  generalize hAe : va_A (dw_X1 a ac s0) s.heap.size = A at hD hN ⊢
  have hA : ∀ q : Nat, s.heap.size ≤ q → A q := fun q h => by rw [← hAe]; exact Or.inr h
  have hl := lv_entry ([.ref (a 0), .int v0, .int v1]) (n := 8) (Nat.le_of_ble_eq_true rfl)
  rw [lg_entry_eq]
  generalize (lg_sl ([.ref (a 0), .int v0, .int v1]) ++ List.replicate (8 - (lg_sl ([.ref (a 0), .int v0, .int v1])).length) Slot.unset).toArray = ls at hl ⊢
  have hl : lv_has ls 8 [(0, .ref (a 0)), (1, .int v0), (2, .int v1)] := hl
  exact db_X1_readLine_0 (dC := dC) (dI := dI) (a := a) (ac := ac) (n := n) (r := r) ⟨hlt, hx, hb, hml, hown, hts, hN, hA, hK⟩ (fun pc o τ H locs ls d er hP hD hS => by subst er; exact W.aret (v := va_rf (Option.map (fun j => dI 1002 j) o)) hx hb hr (by first | exact Or.inl ⟨_, rfl⟩ | exact Or.inr ⟨_, rfl⟩) (va_rf_or _) (fun t ht hW => ⟨⟨Option.map (fun j => dI 1002 j) o, (), rfl, rfl, by rw [ht]; exact hP, va_K.moved hW.alike hK, hD⟩, hS.F ht⟩) hS.2.2 d) v0 v1 s0 _ _ _ h hP hD va_S.rf (lv_sub hl [0, 1, 2] rfl)
def ow_dm_X1_expect : List Cond := Cond.code yX1_expect cX1_expect 2 none :: ([Cond.fieldLink RX1 32 "TimeMachine$Assembler" "fault" "I", Cond.fieldLink RX1 12 "TimeMachine$Assembler" "reader" "LTimeMachine$Reader;", Cond.methodLink RX1 97 yX9_next, Cond.instanceMethod yX9_next, Cond.selects RX9 yX9_next yX9_next, Cond.initialized RX9, Cond.methodLink RX1 100 yX9_isSign, Cond.instanceMethod yX9_isSign, Cond.selects RX9 yX9_isSign yX9_isSign, Cond.methodLink RX1 77 yX1_blame, Cond.instanceMethod yX1_blame, Cond.selects RX1 yX1_blame yX1_blame, Cond.initialized RX1] ++ (u_ws RX1 TX1 13 ++ (ow_dm_X9_next ++ (ow_dm_X9_isSign ++ (ow_dm_X1_blame ++ [])))))
theorem gd_dm_X1_expect : ∀ w ∈ ow_dm_X1_expect, (w.onTables && w.keeps) = true ∨ ∃ ty, w = Cond.arrayClass ty := List.forall_mem_cons.mpr ⟨good_of_word rfl, List.forall_mem_append.mpr ⟨fun w h => good_of_word (List.all_eq_true.mp (by decide +kernel) w h), List.forall_mem_append.mpr ⟨gu_X1, List.forall_mem_append.mpr ⟨gd_dm_X9_next, List.forall_mem_append.mpr ⟨gd_dm_X9_isSign, List.forall_mem_append.mpr ⟨gd_dm_X1_blame, fun _ h => nomatch h⟩⟩⟩⟩⟩⟩
theorem hi_dm_X1_expect_X1 : ∀ w ∈ u_ws RX1 TX1 13, w ∈ ow_dm_X1_expect := fun w h => List.mem_cons_of_mem _ (List.mem_append_right _ (List.mem_append_left _ h))
theorem gi_dm_X1_expect_0 : GoodIn ow_dm_X1_expect (wsV RX1 97 RX9 yX9_next ow_dm_X9_next) := goodIn_app (goodIn_of _ (by decide +kernel)) (fun w h => ⟨List.mem_cons_of_mem _ (List.mem_append_right _ (List.mem_append_right _ (List.mem_append_left _ h))), gd_dm_X9_next w h⟩)
theorem gi_dm_X1_expect_1 : GoodIn ow_dm_X1_expect (wsV RX1 100 RX9 yX9_isSign ow_dm_X9_isSign) := goodIn_app (goodIn_of _ (by decide +kernel)) (fun w h => ⟨List.mem_cons_of_mem _ (List.mem_append_right _ (List.mem_append_right _ (List.mem_append_right _ (List.mem_append_left _ h)))), gd_dm_X9_isSign w h⟩)
theorem gi_dm_X1_expect_2 : GoodIn ow_dm_X1_expect (wsV RX1 77 RX1 yX1_blame ow_dm_X1_blame) := goodIn_app (goodIn_of _ (by decide +kernel)) (fun w h => ⟨List.mem_cons_of_mem _ (List.mem_append_right _ (List.mem_append_right _ (List.mem_append_right _ (List.mem_append_right _ (List.mem_append_left _ h))))), gd_dm_X1_blame w h⟩)
def dj_X1_expect_37 (p : Program) (l : Launch) (e : Env) (s : State) (m : MethodId) (args : Array Value) (below : List Frame) (meth : Method) (c : Code) (Q : State → Prop) (A : Nat → Prop) (dC : Nat → ClassId) (dI : Nat → Nat → Nat) (a : Nat → Nat) (ac : Nat → ClassId) (g : (St × (St)) → Option (St × (St))) (r : St × (St)) : Prop := ∀ (s0 : St × (St)) (H : Heap) (locs : List Loc) (ls : Array Slot), g s0 = some r → va_P (dC, dI) vwCl (dw_X1 a ac s0) H → va_D A (dw_X1 a ac s0) → va_S A s.heap H locs → lv_has ls 2 [] → W p l e (headSpec ow_dm_X1_expect ({ frames := 6, cells := 0, slots := 0, locals := 133 })).room s m args below meth c H locs 0 0 Q (F0 m 37 ls [])
def dj_X1_expect_23 (p : Program) (l : Launch) (e : Env) (s : State) (m : MethodId) (args : Array Value) (below : List Frame) (meth : Method) (c : Code) (Q : State → Prop) (A : Nat → Prop) (dC : Nat → ClassId) (dI : Nat → Nat → Nat) (a : Nat → Nat) (ac : Nat → ClassId) (g : (St × (St)) → Option (St × (St))) (r : St × (St)) : Prop := ∀ (s0 : St × (St)) (H : Heap) (locs : List Loc) (ls : Array Slot), g s0 = some r → va_P (dC, dI) vwCl (dw_X1 a ac s0) H → va_D A (dw_X1 a ac s0) → va_S A s.heap H locs → lv_has ls 2 [(0, .ref (a 0))] → W p l e (headSpec ow_dm_X1_expect ({ frames := 6, cells := 0, slots := 0, locals := 133 })).room s m args below meth c H locs 0 0 Q (F0 m 23 ls [])
def dj_X1_expect_0 (p : Program) (l : Launch) (e : Env) (s : State) (m : MethodId) (args : Array Value) (below : List Frame) (meth : Method) (c : Code) (Q : State → Prop) (A : Nat → Prop) (dC : Nat → ClassId) (dI : Nat → Nat → Nat) (a : Nat → Nat) (ac : Nat → ClassId) (g : Int32 → (St × (St)) → Option (St × (St))) (r : St × (St)) : Prop := ∀ (v0 : Int32) (s0 : St × (St)) (H : Heap) (locs : List Loc) (ls : Array Slot), g v0 s0 = some r → va_P (dC, dI) vwCl (dw_X1 a ac s0) H → va_D A (dw_X1 a ac s0) → va_S A s.heap H locs → lv_has ls 2 [(0, .ref (a 0)), (1, .int v0)] → W p l e (headSpec ow_dm_X1_expect ({ frames := 6, cells := 0, slots := 0, locals := 133 })).room s m args below meth c H locs 0 0 Q (F0 m 0 ls [])
set_option maxHeartbeats 40000000 in
set_option maxRecDepth 100000 in
theorem db_X1_expect_37 {p : Program} {l : Launch} {e : Env} {s : State} {m : MethodId} {args : Array Value} {below : List Frame} {meth : Method} {c : Code} {Q : State → Prop} {A : Nat → Prop} {dC : Nat → ClassId} {dI : Nat → Nat → Nat} {a : Nat → Nat} {ac : Nat → ClassId} {n : Nat} {r : St × (St)} (C : nd_C p l s m args c A (dC, dI) cX1_expect 2 RX1 ow_dm_X1_expect (dk_X1 ac)) (K : nd_Kv p l e (headSpec ow_dm_X1_expect ({ frames := 6, cells := 0, slots := 0, locals := 133 })).room s m args below meth c Q A (dC, dI) cX1_expect (St × (St)) (dw_X1 a ac) r) : dj_X1_expect_37 p l e s m args below meth c Q A dC dI a ac (df_X1_expect_37 n) r := by
  obtain ⟨hlt, hx, hb, hml, hown, hts, hN, hA, hK⟩ := id C
  intro s0 H locs ls h hP hD hS hl
  unfold df_X1_expect_37 at h
  exact K _ _ _ _ _ dX1_expect_37 (Option.some.inj h).symm hP hD hS
set_option maxHeartbeats 40000000 in
set_option maxRecDepth 100000 in
theorem db_X1_expect_23 {p : Program} {l : Launch} {e : Env} {s : State} {m : MethodId} {args : Array Value} {below : List Frame} {meth : Method} {c : Code} {Q : State → Prop} {A : Nat → Prop} {dC : Nat → ClassId} {dI : Nat → Nat → Nat} {a : Nat → Nat} {ac : Nat → ClassId} {n : Nat} {r : St × (St)} (C : nd_C p l s m args c A (dC, dI) cX1_expect 2 RX1 ow_dm_X1_expect (dk_X1 ac)) (K : nd_Kv p l e (headSpec ow_dm_X1_expect ({ frames := 6, cells := 0, slots := 0, locals := 133 })).room s m args below meth c Q A (dC, dI) cX1_expect (St × (St)) (dw_X1 a ac) r) : dj_X1_expect_23 p l e s m args below meth c Q A dC dI a ac (df_X1_expect_23 n) r := by
  obtain ⟨hlt, hx, hb, hml, hown, hts, hN, hA, hK⟩ := id C
  intro s0 H locs ls h hP hD hS hl
  unfold df_X1_expect_23 at h
  refine lv_aload_n hx hb dX1_expect_23 rfl (lv_at hl 0 rfl) ?_
  refine va_get (D := (dC, dI)) (ci := 2) (v := .int (sI s0.1 2)) (C := RX1) (T := TX1) (N := 13) hx hb hts hi_dm_X1_expect_X1 hown hK hP 0 rfl rfl 5 (by decide) (hts (.fieldLink RX1 32 "TimeMachine$Assembler" "fault" "I") (List.mem_of_getElem? (i := 1) rfl)) (fun _ h9 => h9) rfl dX1_expect_24 ?_
  refine lv_if_ne (tgt := 37) hx hb dX1_expect_27 (by decide) (fun c2 => ?_) (fun c2 => ?_)
  · have h := nd_neg h c2
    exact (db_X1_expect_37 C K)  s0 _ _ _ h hP hD hS (lv_sub hl [] rfl)
  · have h := nd_pos h c2
    refine lv_aload_n hx hb dX1_expect_30 rfl (lv_at hl 0 rfl) ?_
    refine va_get (D := (dC, dI)) (ci := 2) (v := .ref (a 3)) (C := RX1) (T := TX1) (N := 13) hx hb hts hi_dm_X1_expect_X1 hown hK hP 0 rfl rfl 0 (by decide) (hts (.fieldLink RX1 12 "TimeMachine$Assembler" "reader" "LTimeMachine$Reader;") (List.mem_of_getElem? (i := 2) rfl)) (fun _ h9 => h9) rfl dX1_expect_31 ?_
    obtain ⟨s4, hq, h⟩ := nd_b1_e h
    have hPc := dp_X1_3 hP
    have hDc := dd_X1_3 hD
    have hKc := dy_X1_3 hK
    have hFc := nd_rs hDc hS hA
    have hzA : ∀ q : Nat, H.size ≤ q → A q := fun q h => hA q (Nat.le_trans hS.1 h)
    refine nd_cVv (As := []) (rest := []) (w' := dw_X9 (fun k => a (k + 3)) (fun k => ac (k + 3)) s4) ⟨hx, hb, hml, hown, hts⟩ (fun sz => dm_X9_next l hlt dC dI (fun k => a (k + 3)) (fun k => ac (k + 3)) n  s0.2 hq sz) (cwV 0 hts gi_dm_X1_expect_0 rfl rfl rfl (by decide +kernel) ⟨Nat.le_of_ble_eq_true rfl, Nat.le_of_ble_eq_true rfl⟩) hPc hDc hKc hS hA hN (va_recv hKc hPc (ci := 10) (q0 := 0) rfl rfl) rfl hl.1 rfl (Nat.le_of_ble_eq_true rfl) dX1_expect_34 (fun H locs hP1 hD1 hk1 hS => ?_)
    obtain ⟨hP, hD⟩ := dn_X1_3 hP hD hzA hk1 hP1 hD1
    obtain ⟨s6, es6, h⟩ := nd_let_e h
    have hP : va_P (dC, dI) vwCl (dw_X1 a ac s6) H := by rw [es6]; exact hP
    have hD : va_D A (dw_X1 a ac s6) := by rw [es6]; exact hD
    exact (db_X1_expect_37 C K)  s6 _ _ _ h hP hD hS (lv_sub hl [] rfl)
set_option maxHeartbeats 40000000 in
set_option maxRecDepth 100000 in
theorem db_X1_expect_0 {p : Program} {l : Launch} {e : Env} {s : State} {m : MethodId} {args : Array Value} {below : List Frame} {meth : Method} {c : Code} {Q : State → Prop} {A : Nat → Prop} {dC : Nat → ClassId} {dI : Nat → Nat → Nat} {a : Nat → Nat} {ac : Nat → ClassId} {n : Nat} {r : St × (St)} (C : nd_C p l s m args c A (dC, dI) cX1_expect 2 RX1 ow_dm_X1_expect (dk_X1 ac)) (K : nd_Kv p l e (headSpec ow_dm_X1_expect ({ frames := 6, cells := 0, slots := 0, locals := 133 })).room s m args below meth c Q A (dC, dI) cX1_expect (St × (St)) (dw_X1 a ac) r) : dj_X1_expect_0 p l e s m args below meth c Q A dC dI a ac (df_X1_expect_0 n) r := by
  obtain ⟨hlt, hx, hb, hml, hown, hts, hN, hA, hK⟩ := id C
  intro v0 s0 H locs ls h hP hD hS hl
  unfold df_X1_expect_0 at h
  refine lv_aload_n hx hb dX1_expect_0 rfl (lv_at hl 0 rfl) ?_
  refine va_get (D := (dC, dI)) (ci := 2) (v := .int (sI s0.1 2)) (C := RX1) (T := TX1) (N := 13) hx hb hts hi_dm_X1_expect_X1 hown hK hP 0 rfl rfl 5 (by decide) (hts (.fieldLink RX1 32 "TimeMachine$Assembler" "fault" "I") (List.mem_of_getElem? (i := 1) rfl)) (fun _ h9 => h9) rfl dX1_expect_1 ?_
  refine lv_if_ne (tgt := 23) hx hb dX1_expect_4 (by decide) (fun c1 => ?_) (fun c1 => ?_)
  · have h := nd_neg h c1
    exact (db_X1_expect_23 C K)  s0 _ _ _ h hP hD hS (lv_sub hl [0] rfl)
  · have h := nd_pos h c1
    refine lv_aload_n hx hb dX1_expect_7 rfl (lv_at hl 0 rfl) ?_
    refine va_get (D := (dC, dI)) (ci := 2) (v := .ref (a 3)) (C := RX1) (T := TX1) (N := 13) hx hb hts hi_dm_X1_expect_X1 hown hK hP 0 rfl rfl 0 (by decide) (hts (.fieldLink RX1 12 "TimeMachine$Assembler" "reader" "LTimeMachine$Reader;") (List.mem_of_getElem? (i := 2) rfl)) (fun _ h9 => h9) rfl dX1_expect_8 ?_
    refine lv_iload_n hx hb dX1_expect_11 rfl (lv_at hl 1 rfl) ?_
    obtain ⟨q7, s8, hq, h⟩ := nd_b2_e h
    have hPc := dp_X1_3 hP
    have hDc := dd_X1_3 hD
    have hKc := dy_X1_3 hK
    have hFc := nd_rs hDc hS hA
    have hzA : ∀ q : Nat, H.size ≤ q → A q := fun q h => hA q (Nat.le_trans hS.1 h)
    refine nd_cVi (As := [.int v0]) (rest := []) (q := q7) (w' := dw_X9 (fun k => a (k + 3)) (fun k => ac (k + 3)) s8) ⟨hx, hb, hml, hown, hts⟩ (fun sz => dm_X9_isSign l hlt dC dI (fun k => a (k + 3)) (fun k => ac (k + 3)) n (v0) s0.2 hq sz) (cwV 1 hts gi_dm_X1_expect_1 rfl rfl rfl (by decide +kernel) ⟨Nat.le_of_ble_eq_true rfl, Nat.le_of_ble_eq_true rfl⟩) hPc hDc hKc hS hA hN (va_recv hKc hPc (ci := 10) (q0 := 0) rfl rfl) rfl hl.1 rfl (Nat.le_of_ble_eq_true rfl) dX1_expect_12 (fun H locs hP1 hD1 hk1 hS => ?_)
    obtain ⟨hP, hD⟩ := dn_X1_3 hP hD hzA hk1 hP1 hD1
    obtain ⟨s10, es10, h⟩ := nd_let_e h
    have hP : va_P (dC, dI) vwCl (dw_X1 a ac s10) H := by rw [es10]; exact hP
    have hD : va_D A (dw_X1 a ac s10) := by rw [es10]; exact hD
    refine lv_if_ne (tgt := 23) hx hb dX1_expect_15 (by decide) (fun c11 => ?_) (fun c11 => ?_)
    · have h := nd_neg h c11
      exact (db_X1_expect_23 C K)  s10 _ _ _ h hP hD hS (lv_sub hl [0] rfl)
    · have h := nd_pos h c11
      refine lv_aload_n hx hb dX1_expect_18 rfl (lv_at hl 0 rfl) ?_
      refine lv_iconst (v := 1) hx hb dX1_expect_19 (by decide) ?_
      obtain ⟨s13, hq, h⟩ := nd_b1_e h
      have hPc := hP
      have hDc := hD
      have hKc := hK
      have hFc := nd_rs hD hS hA
      refine nd_cVv (As := [.int 1]) (rest := []) (w' := dw_X1 a ac s13) ⟨hx, hb, hml, hown, hts⟩ (fun sz => dm_X1_blame l hlt dC dI a ac n (1) s10 hq sz) (cwV 1 hts gi_dm_X1_expect_2 rfl rfl rfl (by decide +kernel) ⟨Nat.le_of_ble_eq_true rfl, Nat.le_of_ble_eq_true rfl⟩) hPc hDc hKc hS hA hN (va_recv hKc hPc (ci := 2) (q0 := 0) rfl rfl) rfl hl.1 rfl (Nat.le_of_ble_eq_true rfl) dX1_expect_20 (fun H locs hP1 hD1 hk1 hS => ?_)
      have hP := hP1
      have hD := hD1.weaken (fun k q _ h => hFc q.1 h)
      exact (db_X1_expect_23 C K)  s13 _ _ _ h hP hD hS (lv_sub hl [0] rfl)
set_option maxHeartbeats 40000000 in
set_option maxRecDepth 100000 in
theorem dm_X1_expect (l : Launch) (hlt : l.stackTraces = false) (dC : Nat → ClassId) (dI : Nat → Nat → Nat) (a : Nat → Nat) (ac : Nat → ClassId) (n : Nat) (v0 : Int32) (s0 : St × (St)) {r : St × (St)} (h : df_X1_expect n v0 s0 = some r) (sz : Nat) : Met l yX1_expect ow_dm_X1_expect ({ frames := 6, cells := 0, slots := 0, locals := 133 }) (va_Pc [.ref (a 0), .int v0] (fun U => U.heap.size = sz ∧ va_P (dC, dI) vwCl (dw_X1 a ac s0) U.heap ∧ va_K (dC, dI) vwCl (dk_X1 ac) U ∧ va_D (fun _ => True) (dw_X1 a ac s0) ∧ nv_E dI (va_A (dw_X1 a ac s0) sz) U)) (va_Qv (fun _ => True) (fun (_ : Unit) t => va_P (dC, dI) vwCl (dw_X1 a ac r) t.heap ∧ va_K (dC, dI) vwCl (dk_X1 ac) t ∧ va_D (va_A (dw_X1 a ac s0) sz) (dw_X1 a ac r)) (va_A (dw_X1 a ac s0) sz)) 0 0 (va_A (dw_X1 a ac s0) sz) := by
  refine Met.ofW (cc := cX1_expect) (maxL := 2) (ret := none) (by decide) rfl ?_
  intro p e s m args below meth c s₁ B hml hv
  obtain ⟨rfl, hsz, hP, hK, hD0, hN⟩ := hv
  have hx := B.exec
  have hb := B.bytes
  have hr := B.returns
  have hts := atoms_spec (ws := ow_dm_X1_expect) B.pre
  have hown : s.vm.findClass RX1 = some m.cls := findClass_of_methodNamed B.named
  have hlocks := B.notSynchronized
  subst hsz
  have hD := hD0.self (sz := s.heap.size)
  generalize hAe : va_A (dw_X1 a ac s0) s.heap.size = A at hD hN ⊢
  have hA : ∀ q : Nat, s.heap.size ≤ q → A q := fun q h => by rw [← hAe]; exact Or.inr h
  have hl := lv_entry ([.ref (a 0), .int v0]) (n := 2) (Nat.le_of_ble_eq_true rfl)
  rw [lg_entry_eq]
  generalize (lg_sl ([.ref (a 0), .int v0]) ++ List.replicate (2 - (lg_sl ([.ref (a 0), .int v0])).length) Slot.unset).toArray = ls at hl ⊢
  have hl : lv_has ls 2 [(0, .ref (a 0)), (1, .int v0)] := hl
  exact db_X1_expect_0 (dC := dC) (dI := dI) (a := a) (ac := ac) (n := n) (r := r) ⟨hlt, hx, hb, hml, hown, hts, hN, hA, hK⟩ (fun pc τ H locs ls d er hP hD hS => by subst er; exact W.vret hx hb hr (fun t ht hW => ⟨⟨(), rfl, trivial, by rw [ht]; exact hP, va_K.moved hW.alike hK, hD⟩, hS.F ht⟩) hS.2.2 d) v0 s0 _ _ _ h hP hD va_S.rf (lv_sub hl [0, 1] rfl)
def ow_dm_X1_fixed : List Cond := Cond.code yX1_fixed cX1_fixed 5 (some .int) :: ([Cond.fieldLink RX1 32 "TimeMachine$Assembler" "fault" "I", Cond.methodLink RX1 77 yX1_blame, Cond.instanceMethod yX1_blame, Cond.selects RX1 yX1_blame yX1_blame, Cond.initialized RX1, Cond.fieldLink RX1 12 "TimeMachine$Assembler" "reader" "LTimeMachine$Reader;", Cond.fieldLink RX1 217 "TimeMachine$Reader" "fixed" "Z", Cond.methodLink RX1 220 yX9_evaluate, Cond.instanceMethod yX9_evaluate, Cond.selects RX9 yX9_evaluate yX9_evaluate, Cond.initialized RX9, Cond.fieldLink RX1 223 "TimeMachine$Reader" "trouble" "I"] ++ (u_ws RX1 TX1 13 ++ (u_ws RX9 TX9 20 ++ (ow_dm_X1_blame ++ (ow_dm_X9_evaluate ++ [])))))
theorem gd_dm_X1_fixed : ∀ w ∈ ow_dm_X1_fixed, (w.onTables && w.keeps) = true ∨ ∃ ty, w = Cond.arrayClass ty := List.forall_mem_cons.mpr ⟨good_of_word rfl, List.forall_mem_append.mpr ⟨fun w h => good_of_word (List.all_eq_true.mp (by decide +kernel) w h), List.forall_mem_append.mpr ⟨gu_X1, List.forall_mem_append.mpr ⟨gu_X9, List.forall_mem_append.mpr ⟨gd_dm_X1_blame, List.forall_mem_append.mpr ⟨gd_dm_X9_evaluate, fun _ h => nomatch h⟩⟩⟩⟩⟩⟩
theorem hi_dm_X1_fixed_X1 : ∀ w ∈ u_ws RX1 TX1 13, w ∈ ow_dm_X1_fixed := fun w h => List.mem_cons_of_mem _ (List.mem_append_right _ (List.mem_append_left _ h))
theorem hi_dm_X1_fixed_X9 : ∀ w ∈ u_ws RX9 TX9 20, w ∈ ow_dm_X1_fixed := fun w h => List.mem_cons_of_mem _ (List.mem_append_right _ (List.mem_append_right _ (List.mem_append_left _ h)))
theorem gi_dm_X1_fixed_0 : GoodIn ow_dm_X1_fixed (wsV RX1 77 RX1 yX1_blame ow_dm_X1_blame) := goodIn_app (goodIn_of _ (by decide +kernel)) (fun w h => ⟨List.mem_cons_of_mem _ (List.mem_append_right _ (List.mem_append_right _ (List.mem_append_right _ (List.mem_append_left _ h)))), gd_dm_X1_blame w h⟩)
theorem gi_dm_X1_fixed_1 : GoodIn ow_dm_X1_fixed (wsV RX1 220 RX9 yX9_evaluate ow_dm_X9_evaluate) := goodIn_app (goodIn_of _ (by decide +kernel)) (fun w h => ⟨List.mem_cons_of_mem _ (List.mem_append_right _ (List.mem_append_right _ (List.mem_append_right _ (List.mem_append_right _ (List.mem_append_left _ h))))), gd_dm_X9_evaluate w h⟩)
def dj_X1_fixed_33 (p : Program) (l : Launch) (e : Env) (s : State) (m : MethodId) (args : Array Value) (below : List Frame) (meth : Method) (c : Code) (Q : State → Prop) (A : Nat → Prop) (dC : Nat → ClassId) (dI : Nat → Nat → Nat) (a : Nat → Nat) (ac : Nat → ClassId) (g : Int32 → (St × (St)) → Option (Int32 × (St × (St)))) (r : Int32 × (St × (St))) : Prop := ∀ (y1 : Int32) (s0 : St × (St)) (H : Heap) (locs : List Loc) (ls : Array Slot), g y1 s0 = some r → va_P (dC, dI) vwCl (dw_X1 a ac s0) H → va_D A (dw_X1 a ac s0) → va_S A s.heap H locs → lv_has ls 5 [] → W p l e (headSpec ow_dm_X1_fixed ({ frames := 3, cells := 0, slots := 0, locals := 64 })).room s m args below meth c H locs 0 0 Q (F0 m 33 ls [.int y1, .ref (a 0)])
def dj_X1_fixed_23 (p : Program) (l : Launch) (e : Env) (s : State) (m : MethodId) (args : Array Value) (below : List Frame) (meth : Method) (c : Code) (Q : State → Prop) (A : Nat → Prop) (dC : Nat → ClassId) (dI : Nat → Nat → Nat) (a : Nat → Nat) (ac : Nat → ClassId) (g : Int32 → (St × (St)) → Option (Int32 × (St × (St)))) (r : Int32 × (St × (St))) : Prop := ∀ (x1 : Int32) (s0 : St × (St)) (H : Heap) (locs : List Loc) (ls : Array Slot), g x1 s0 = some r → va_P (dC, dI) vwCl (dw_X1 a ac s0) H → va_D A (dw_X1 a ac s0) → va_S A s.heap H locs → lv_has ls 5 [(0, .ref (a 0)), (1, .int x1)] → W p l e (headSpec ow_dm_X1_fixed ({ frames := 3, cells := 0, slots := 0, locals := 64 })).room s m args below meth c H locs 0 0 Q (F0 m 23 ls [])
def dj_X1_fixed_94 (p : Program) (l : Launch) (e : Env) (s : State) (m : MethodId) (args : Array Value) (below : List Frame) (meth : Method) (c : Code) (Q : State → Prop) (A : Nat → Prop) (dC : Nat → ClassId) (dI : Nat → Nat → Nat) (a : Nat → Nat) (ac : Nat → ClassId) (g : Int32 → (St × (St)) → Option (Int32 × (St × (St)))) (r : Int32 × (St × (St))) : Prop := ∀ (y1 : Int32) (s0 : St × (St)) (H : Heap) (locs : List Loc) (ls : Array Slot), g y1 s0 = some r → va_P (dC, dI) vwCl (dw_X1 a ac s0) H → va_D A (dw_X1 a ac s0) → va_S A s.heap H locs → lv_has ls 5 [] → W p l e (headSpec ow_dm_X1_fixed ({ frames := 3, cells := 0, slots := 0, locals := 64 })).room s m args below meth c H locs 0 0 Q (F0 m 94 ls [.int y1, .ref (a 0)])
def dj_X1_fixed_71 (p : Program) (l : Launch) (e : Env) (s : State) (m : MethodId) (args : Array Value) (below : List Frame) (meth : Method) (c : Code) (Q : State → Prop) (A : Nat → Prop) (dC : Nat → ClassId) (dI : Nat → Nat → Nat) (a : Nat → Nat) (ac : Nat → ClassId) (g : (St × (St)) → Option (Int32 × (St × (St)))) (r : Int32 × (St × (St))) : Prop := ∀ (s0 : St × (St)) (H : Heap) (locs : List Loc) (ls : Array Slot), g s0 = some r → va_P (dC, dI) vwCl (dw_X1 a ac s0) H → va_D A (dw_X1 a ac s0) → va_S A s.heap H locs → lv_has ls 5 [(0, .ref (a 0))] → W p l e (headSpec ow_dm_X1_fixed ({ frames := 3, cells := 0, slots := 0, locals := 64 })).room s m args below meth c H locs 0 0 Q (F0 m 71 ls [])
def dj_X1_fixed_0 (p : Program) (l : Launch) (e : Env) (s : State) (m : MethodId) (args : Array Value) (below : List Frame) (meth : Method) (c : Code) (Q : State → Prop) (A : Nat → Prop) (dC : Nat → ClassId) (dI : Nat → Nat → Nat) (a : Nat → Nat) (ac : Nat → ClassId) (g : Int32 → Int32 → Int32 → (St × (St)) → Option (Int32 × (St × (St)))) (r : Int32 × (St × (St))) : Prop := ∀ (v0 : Int32) (v1 : Int32) (v2 : Int32) (s0 : St × (St)) (H : Heap) (locs : List Loc) (ls : Array Slot), g v0 v1 v2 s0 = some r → va_P (dC, dI) vwCl (dw_X1 a ac s0) H → va_D A (dw_X1 a ac s0) → va_S A s.heap H locs → lv_has ls 5 [(0, .ref (a 0)), (1, .int v0), (2, .int v1), (3, .int v2)] → W p l e (headSpec ow_dm_X1_fixed ({ frames := 3, cells := 0, slots := 0, locals := 64 })).room s m args below meth c H locs 0 0 Q (F0 m 0 ls [])
set_option maxHeartbeats 40000000 in
set_option maxRecDepth 100000 in
theorem db_X1_fixed_33 {p : Program} {l : Launch} {e : Env} {s : State} {m : MethodId} {args : Array Value} {below : List Frame} {meth : Method} {c : Code} {Q : State → Prop} {A : Nat → Prop} {dC : Nat → ClassId} {dI : Nat → Nat → Nat} {a : Nat → Nat} {ac : Nat → ClassId} {n : Nat} {r : Int32 × (St × (St))} (C : nd_C p l s m args c A (dC, dI) cX1_fixed 5 RX1 ow_dm_X1_fixed (dk_X1 ac)) (K : nd_Ki p l e (headSpec ow_dm_X1_fixed ({ frames := 3, cells := 0, slots := 0, locals := 64 })).room s m args below meth c Q A (dC, dI) cX1_fixed .int (St × (St)) (dw_X1 a ac) r) : dj_X1_fixed_33 p l e s m args below meth c Q A dC dI a ac (df_X1_fixed_33 n) r := by
  obtain ⟨hlt, hx, hb, hml, hown, hts, hN, hA, hK⟩ := id C
  intro y1 s0 H locs ls h hP hD hS hl
  unfold df_X1_fixed_33 at h
  obtain ⟨s5, hq, h⟩ := nd_b1_e h
  have hPc := hP
  have hDc := hD
  have hKc := hK
  have hFc := nd_rs hD hS hA
  refine nd_cVv (As := [.int y1]) (rest := []) (w' := dw_X1 a ac s5) ⟨hx, hb, hml, hown, hts⟩ (fun sz => dm_X1_blame l hlt dC dI a ac n (y1) s0 hq sz) (cwV 1 hts gi_dm_X1_fixed_0 rfl rfl rfl (by decide +kernel) ⟨Nat.le_of_ble_eq_true rfl, Nat.le_of_ble_eq_true rfl⟩) hPc hDc hKc hS hA hN (va_recv hKc hPc (ci := 2) (q0 := 0) rfl rfl) rfl hl.1 rfl (Nat.le_of_ble_eq_true rfl) dX1_fixed_33 (fun H locs hP1 hD1 hk1 hS => ?_)
  have hP := hP1
  have hD := hD1.weaken (fun k q _ h => hFc q.1 h)
  refine lv_iconst (v := 0) hx hb dX1_fixed_36 (by decide) ?_
  exact K _ _ _ _ _ _ dX1_fixed_37 rfl (Option.some.inj h).symm hP hD hS
set_option maxHeartbeats 40000000 in
set_option maxRecDepth 100000 in
theorem db_X1_fixed_23 {p : Program} {l : Launch} {e : Env} {s : State} {m : MethodId} {args : Array Value} {below : List Frame} {meth : Method} {c : Code} {Q : State → Prop} {A : Nat → Prop} {dC : Nat → ClassId} {dI : Nat → Nat → Nat} {a : Nat → Nat} {ac : Nat → ClassId} {n : Nat} {r : Int32 × (St × (St))} (C : nd_C p l s m args c A (dC, dI) cX1_fixed 5 RX1 ow_dm_X1_fixed (dk_X1 ac)) (K : nd_Ki p l e (headSpec ow_dm_X1_fixed ({ frames := 3, cells := 0, slots := 0, locals := 64 })).room s m args below meth c Q A (dC, dI) cX1_fixed .int (St × (St)) (dw_X1 a ac) r) : dj_X1_fixed_23 p l e s m args below meth c Q A dC dI a ac (df_X1_fixed_23 n) r := by
  obtain ⟨hlt, hx, hb, hml, hown, hts, hN, hA, hK⟩ := id C
  intro x1 s0 H locs ls h hP hD hS hl
  unfold df_X1_fixed_23 at h
  refine lv_aload_n hx hb dX1_fixed_23 rfl (lv_at hl 0 rfl) ?_
  refine lv_iload_n hx hb dX1_fixed_24 rfl (lv_at hl 1 rfl) ?_
  refine lv_if_ge (tgt := 32) hx hb dX1_fixed_25 (by decide) (fun c3 => ?_) (fun c3 => ?_)
  · have h := nd_pos h c3
    refine lv_iconst (v := 5) hx hb dX1_fixed_32 (by decide) ?_
    exact (db_X1_fixed_33 C K) (5) s0 _ _ _ h hP hD hS (lv_sub hl [] rfl)
  · have h := nd_neg h c3
    refine lv_iconst (v := 1) hx hb dX1_fixed_28 (by decide) ?_
    refine lv_goto (tgt := 33) hx hb dX1_fixed_29 (by decide) ?_
    exact (db_X1_fixed_33 C K) (1) s0 _ _ _ h hP hD hS (lv_sub hl [] rfl)
set_option maxHeartbeats 40000000 in
set_option maxRecDepth 100000 in
theorem db_X1_fixed_94 {p : Program} {l : Launch} {e : Env} {s : State} {m : MethodId} {args : Array Value} {below : List Frame} {meth : Method} {c : Code} {Q : State → Prop} {A : Nat → Prop} {dC : Nat → ClassId} {dI : Nat → Nat → Nat} {a : Nat → Nat} {ac : Nat → ClassId} {n : Nat} {r : Int32 × (St × (St))} (C : nd_C p l s m args c A (dC, dI) cX1_fixed 5 RX1 ow_dm_X1_fixed (dk_X1 ac)) (K : nd_Ki p l e (headSpec ow_dm_X1_fixed ({ frames := 3, cells := 0, slots := 0, locals := 64 })).room s m args below meth c Q A (dC, dI) cX1_fixed .int (St × (St)) (dw_X1 a ac) r) : dj_X1_fixed_94 p l e s m args below meth c Q A dC dI a ac (df_X1_fixed_94 n) r := by
  obtain ⟨hlt, hx, hb, hml, hown, hts, hN, hA, hK⟩ := id C
  intro y1 s0 H locs ls h hP hD hS hl
  unfold df_X1_fixed_94 at h
  obtain ⟨s15, hq, h⟩ := nd_b1_e h
  have hPc := hP
  have hDc := hD
  have hKc := hK
  have hFc := nd_rs hD hS hA
  refine nd_cVv (As := [.int y1]) (rest := []) (w' := dw_X1 a ac s15) ⟨hx, hb, hml, hown, hts⟩ (fun sz => dm_X1_blame l hlt dC dI a ac n (y1) s0 hq sz) (cwV 1 hts gi_dm_X1_fixed_0 rfl rfl rfl (by decide +kernel) ⟨Nat.le_of_ble_eq_true rfl, Nat.le_of_ble_eq_true rfl⟩) hPc hDc hKc hS hA hN (va_recv hKc hPc (ci := 2) (q0 := 0) rfl rfl) rfl hl.1 rfl (Nat.le_of_ble_eq_true rfl) dX1_fixed_94 (fun H locs hP1 hD1 hk1 hS => ?_)
  have hP := hP1
  have hD := hD1.weaken (fun k q _ h => hFc q.1 h)
  refine lv_iconst (v := 0) hx hb dX1_fixed_97 (by decide) ?_
  exact K _ _ _ _ _ _ dX1_fixed_98 rfl (Option.some.inj h).symm hP hD hS
set_option maxHeartbeats 40000000 in
set_option maxRecDepth 100000 in
theorem db_X1_fixed_71 {p : Program} {l : Launch} {e : Env} {s : State} {m : MethodId} {args : Array Value} {below : List Frame} {meth : Method} {c : Code} {Q : State → Prop} {A : Nat → Prop} {dC : Nat → ClassId} {dI : Nat → Nat → Nat} {a : Nat → Nat} {ac : Nat → ClassId} {n : Nat} {r : Int32 × (St × (St))} (C : nd_C p l s m args c A (dC, dI) cX1_fixed 5 RX1 ow_dm_X1_fixed (dk_X1 ac)) (K : nd_Ki p l e (headSpec ow_dm_X1_fixed ({ frames := 3, cells := 0, slots := 0, locals := 64 })).room s m args below meth c Q A (dC, dI) cX1_fixed .int (St × (St)) (dw_X1 a ac) r) : dj_X1_fixed_71 p l e s m args below meth c Q A dC dI a ac (df_X1_fixed_71 n) r := by
  obtain ⟨hlt, hx, hb, hml, hown, hts, hN, hA, hK⟩ := id C
  intro s0 H locs ls h hP hD hS hl
  unfold df_X1_fixed_71 at h
  refine lv_aload_n hx hb dX1_fixed_71 rfl (lv_at hl 0 rfl) ?_
  refine lv_aload_n hx hb dX1_fixed_72 rfl (lv_at hl 0 rfl) ?_
  refine va_get (D := (dC, dI)) (ci := 2) (v := .ref (a 3)) (C := RX1) (T := TX1) (N := 13) hx hb hts hi_dm_X1_fixed_X1 hown hK hP 0 rfl rfl 0 (by decide) (hts (.fieldLink RX1 12 "TimeMachine$Assembler" "reader" "LTimeMachine$Reader;") (List.mem_of_getElem? (i := 6) rfl)) (fun _ h9 => h9) rfl dX1_fixed_73 ?_
  refine va_get (D := (dC, dI)) (ci := 10) (v := .int (sI s0.2 11)) (C := RX9) (T := TX9) (N := 20) hx hb hts hi_dm_X1_fixed_X9 hown hK hP 3 rfl rfl 19 (by decide) (hts (.fieldLink RX1 223 "TimeMachine$Reader" "trouble" "I") (List.mem_of_getElem? (i := 12) rfl)) (fun _ h9 => h9) rfl dX1_fixed_76 ?_
  refine lv_if_eq (tgt := 92) hx hb dX1_fixed_79 (by decide) (fun c13 => ?_) (fun c13 => ?_)
  · have h := nd_pos h c13
    refine lv_bipush (v := 6) hx hb dX1_fixed_92 (by decide) ?_
    exact (db_X1_fixed_94 C K) (6) s0 _ _ _ h hP hD hS (lv_sub hl [] rfl)
  · have h := nd_neg h c13
    refine lv_aload_n hx hb dX1_fixed_82 rfl (lv_at hl 0 rfl) ?_
    refine va_get (D := (dC, dI)) (ci := 2) (v := .ref (a 3)) (C := RX1) (T := TX1) (N := 13) hx hb hts hi_dm_X1_fixed_X1 hown hK hP 0 rfl rfl 0 (by decide) (hts (.fieldLink RX1 12 "TimeMachine$Assembler" "reader" "LTimeMachine$Reader;") (List.mem_of_getElem? (i := 6) rfl)) (fun _ h9 => h9) rfl dX1_fixed_83 ?_
    refine va_get (D := (dC, dI)) (ci := 10) (v := .int (sI s0.2 11)) (C := RX9) (T := TX9) (N := 20) hx hb hts hi_dm_X1_fixed_X9 hown hK hP 3 rfl rfl 19 (by decide) (hts (.fieldLink RX1 223 "TimeMachine$Reader" "trouble" "I") (List.mem_of_getElem? (i := 12) rfl)) (fun _ h9 => h9) rfl dX1_fixed_86 ?_
    refine lv_goto (tgt := 94) hx hb dX1_fixed_89 (by decide) ?_
    exact (db_X1_fixed_94 C K) ((sI s0.2 11)) s0 _ _ _ h hP hD hS (lv_sub hl [] rfl)
set_option maxHeartbeats 40000000 in
set_option maxRecDepth 100000 in
theorem db_X1_fixed_0 {p : Program} {l : Launch} {e : Env} {s : State} {m : MethodId} {args : Array Value} {below : List Frame} {meth : Method} {c : Code} {Q : State → Prop} {A : Nat → Prop} {dC : Nat → ClassId} {dI : Nat → Nat → Nat} {a : Nat → Nat} {ac : Nat → ClassId} {n : Nat} {r : Int32 × (St × (St))} (C : nd_C p l s m args c A (dC, dI) cX1_fixed 5 RX1 ow_dm_X1_fixed (dk_X1 ac)) (K : nd_Ki p l e (headSpec ow_dm_X1_fixed ({ frames := 3, cells := 0, slots := 0, locals := 64 })).room s m args below meth c Q A (dC, dI) cX1_fixed .int (St × (St)) (dw_X1 a ac) r) : dj_X1_fixed_0 p l e s m args below meth c Q A dC dI a ac (df_X1_fixed_0 n) r := by
  obtain ⟨hlt, hx, hb, hml, hown, hts, hN, hA, hK⟩ := id C
  intro v0 v1 v2 s0 H locs ls h hP hD hS hl
  unfold df_X1_fixed_0 at h
  refine lv_aload_n hx hb dX1_fixed_0 rfl (lv_at hl 0 rfl) ?_
  refine va_get (D := (dC, dI)) (ci := 2) (v := .int (sI s0.1 2)) (C := RX1) (T := TX1) (N := 13) hx hb hts hi_dm_X1_fixed_X1 hown hK hP 0 rfl rfl 5 (by decide) (hts (.fieldLink RX1 32 "TimeMachine$Assembler" "fault" "I") (List.mem_of_getElem? (i := 1) rfl)) (fun _ h9 => h9) rfl dX1_fixed_1 ?_
  refine lv_if_eq (tgt := 9) hx hb dX1_fixed_4 (by decide) (fun c1 => ?_) (fun c1 => ?_)
  · have h := nd_pos h c1
    refine lv_iload_n hx hb dX1_fixed_9 rfl (lv_at hl 1 rfl) ?_
    refine lv_if_lt (tgt := 23) hx hb dX1_fixed_10 (by decide) (fun c2 => ?_) (fun c2 => ?_)
    · have h := nd_pos h c2
      exact (db_X1_fixed_23 C K) (v0) s0 _ _ _ h hP hD hS (lv_sub hl [0, 1] rfl)
    · have h := nd_neg h c2
      refine lv_aload_n hx hb dX1_fixed_13 rfl (lv_at hl 0 rfl) ?_
      refine va_get (D := (dC, dI)) (ci := 2) (v := .ref (a 3)) (C := RX1) (T := TX1) (N := 13) hx hb hts hi_dm_X1_fixed_X1 hown hK hP 0 rfl rfl 0 (by decide) (hts (.fieldLink RX1 12 "TimeMachine$Assembler" "reader" "LTimeMachine$Reader;") (List.mem_of_getElem? (i := 6) rfl)) (fun _ h9 => h9) rfl dX1_fixed_14 ?_
      refine va_get (D := (dC, dI)) (ci := 10) (v := .int (sI s0.2 10)) (C := RX9) (T := TX9) (N := 20) hx hb hts hi_dm_X1_fixed_X9 hown hK hP 3 rfl rfl 18 (by decide) (hts (.fieldLink RX1 217 "TimeMachine$Reader" "fixed" "Z") (List.mem_of_getElem? (i := 7) rfl)) (fun _ h9 => h9) rfl dX1_fixed_17 ?_
      refine lv_if_ne (tgt := 38) hx hb dX1_fixed_20 (by decide) (fun c7 => ?_) (fun c7 => ?_)
      · have h := nd_neg h c7
        refine lv_aload_n hx hb dX1_fixed_38 rfl (lv_at hl 0 rfl) ?_
        refine va_get (D := (dC, dI)) (ci := 2) (v := .ref (a 3)) (C := RX1) (T := TX1) (N := 13) hx hb hts hi_dm_X1_fixed_X1 hown hK hP 0 rfl rfl 0 (by decide) (hts (.fieldLink RX1 12 "TimeMachine$Assembler" "reader" "LTimeMachine$Reader;") (List.mem_of_getElem? (i := 6) rfl)) (fun _ h9 => h9) rfl dX1_fixed_39 ?_
        refine lv_iload_n hx hb dX1_fixed_42 rfl (lv_at hl 1 rfl) ?_
        refine lv_iconst (v := 0) hx hb dX1_fixed_43 (by decide) ?_
        obtain ⟨q8, s9, hq, h⟩ := nd_b2_e h
        have hPc := dp_X1_3 hP
        have hDc := dd_X1_3 hD
        have hKc := dy_X1_3 hK
        have hFc := nd_rs hDc hS hA
        have hzA : ∀ q : Nat, H.size ≤ q → A q := fun q h => hA q (Nat.le_trans hS.1 h)
        refine nd_cVi (As := [.int v0, .int 0]) (rest := []) (q := q8) (w' := dw_X9 (fun k => a (k + 3)) (fun k => ac (k + 3)) s9) ⟨hx, hb, hml, hown, hts⟩ (fun sz => dm_X9_evaluate l hlt dC dI (fun k => a (k + 3)) (fun k => ac (k + 3)) n (v0) (0) s0.2 hq sz) (cwV 2 hts gi_dm_X1_fixed_1 rfl rfl rfl (by decide +kernel) ⟨Nat.le_of_ble_eq_true rfl, Nat.le_of_ble_eq_true rfl⟩) hPc hDc hKc hS hA hN (va_recv hKc hPc (ci := 10) (q0 := 0) rfl rfl) rfl hl.1 rfl (Nat.le_of_ble_eq_true rfl) dX1_fixed_44 (fun H locs hP1 hD1 hk1 hS => ?_)
        obtain ⟨hP, hD⟩ := dn_X1_3 hP hD hzA hk1 hP1 hD1
        obtain ⟨s11, es11, h⟩ := nd_let_e h
        have hP : va_P (dC, dI) vwCl (dw_X1 a ac s11) H := by rw [es11]; exact hP
        have hD : va_D A (dw_X1 a ac s11) := by rw [es11]; exact hD
        refine lv_istore (lv' := [(4, .int q8), (0, .ref (a 0)), (1, .int v0), (2, .int v1), (3, .int v2)]) hx hb dX1_fixed_47 hl (by decide) rfl (fun ls hl => ?_)
        refine lv_aload_n hx hb dX1_fixed_49 rfl (lv_at hl 1 rfl) ?_
        refine va_get (D := (dC, dI)) (ci := 2) (v := .ref (a 3)) (C := RX1) (T := TX1) (N := 13) hx hb hts hi_dm_X1_fixed_X1 hown hK hP 0 rfl rfl 0 (by decide) (hts (.fieldLink RX1 12 "TimeMachine$Assembler" "reader" "LTimeMachine$Reader;") (List.mem_of_getElem? (i := 6) rfl)) (fun _ h9 => h9) rfl dX1_fixed_50 ?_
        refine va_get (D := (dC, dI)) (ci := 10) (v := .int (sI s11.2 11)) (C := RX9) (T := TX9) (N := 20) hx hb hts hi_dm_X1_fixed_X9 hown hK hP 3 rfl rfl 19 (by decide) (hts (.fieldLink RX1 223 "TimeMachine$Reader" "trouble" "I") (List.mem_of_getElem? (i := 12) rfl)) (fun _ h9 => h9) rfl dX1_fixed_53 ?_
        refine lv_if_ne (tgt := 71) hx hb dX1_fixed_56 (by decide) (fun c12 => ?_) (fun c12 => ?_)
        · have h := nd_neg h c12
          exact (db_X1_fixed_71 C K)  s11 _ _ _ h hP hD hS (lv_sub hl [1] rfl)
        · have h := nd_pos h c12
          refine lv_iload hx hb dX1_fixed_59 (lv_at hl 0 rfl) ?_
          refine lv_iload_n hx hb dX1_fixed_61 rfl (lv_at hl 3 rfl) ?_
          refine lv_icmp_lt (tgt := 71) hx hb dX1_fixed_62 (by decide) (fun c17 => ?_) (fun c17 => ?_)
          · have h := nd_pos h c17
            exact (db_X1_fixed_71 C K)  s11 _ _ _ h hP hD hS (lv_sub hl [1] rfl)
          · have h := nd_neg h c17
            refine lv_iload hx hb dX1_fixed_65 (lv_at hl 0 rfl) ?_
            refine lv_iload_n hx hb dX1_fixed_67 rfl (lv_at hl 4 rfl) ?_
            refine lv_icmp_le (tgt := 99) hx hb dX1_fixed_68 (by decide) (fun c18 => ?_) (fun c18 => ?_)
            · have h := nd_pos h c18
              refine lv_iload hx hb dX1_fixed_99 (lv_at hl 0 rfl) ?_
              exact K _ _ _ _ _ _ dX1_fixed_101 rfl (Option.some.inj h).symm hP hD hS
            · have h := nd_neg h c18
              exact (db_X1_fixed_71 C K)  s11 _ _ _ h hP hD hS (lv_sub hl [1] rfl)
      · have h := nd_pos h c7
        exact (db_X1_fixed_23 C K) (v0) s0 _ _ _ h hP hD hS (lv_sub hl [0, 1] rfl)
  · have h := nd_neg h c1
    refine lv_iconst (v := 0) hx hb dX1_fixed_7 (by decide) ?_
    exact K _ _ _ _ _ _ dX1_fixed_8 rfl (Option.some.inj h).symm hP hD hS
set_option maxHeartbeats 40000000 in
set_option maxRecDepth 100000 in
theorem dm_X1_fixed (l : Launch) (hlt : l.stackTraces = false) (dC : Nat → ClassId) (dI : Nat → Nat → Nat) (a : Nat → Nat) (ac : Nat → ClassId) (n : Nat) (v0 : Int32) (v1 : Int32) (v2 : Int32) (s0 : St × (St)) {r : Int32 × (St × (St))} (h : df_X1_fixed n v0 v1 v2 s0 = some r) (sz : Nat) : Met l yX1_fixed ow_dm_X1_fixed ({ frames := 3, cells := 0, slots := 0, locals := 64 }) (va_Pc [.ref (a 0), .int v0, .int v1, .int v2] (fun U => U.heap.size = sz ∧ va_P (dC, dI) vwCl (dw_X1 a ac s0) U.heap ∧ va_K (dC, dI) vwCl (dk_X1 ac) U ∧ va_D (fun _ => True) (dw_X1 a ac s0) ∧ nv_E dI (va_A (dw_X1 a ac s0) sz) U)) (va_Qi (fun x _ => x = r.1) (fun (_ : Unit) t => va_P (dC, dI) vwCl (dw_X1 a ac r.2) t.heap ∧ va_K (dC, dI) vwCl (dk_X1 ac) t ∧ va_D (va_A (dw_X1 a ac s0) sz) (dw_X1 a ac r.2)) (va_A (dw_X1 a ac s0) sz)) 0 0 (va_A (dw_X1 a ac s0) sz) := by
  refine Met.ofW (cc := cX1_fixed) (maxL := 5) (ret := (some .int)) (by decide) rfl ?_
  intro p e s m args below meth c s₁ B hml hv
  obtain ⟨rfl, hsz, hP, hK, hD0, hN⟩ := hv
  have hx := B.exec
  have hb := B.bytes
  have hr := B.returns
  have hts := atoms_spec (ws := ow_dm_X1_fixed) B.pre
  have hown : s.vm.findClass RX1 = some m.cls := findClass_of_methodNamed B.named
  have hlocks := B.notSynchronized
  subst hsz
  have hD := hD0.self (sz := s.heap.size)
  generalize hAe : va_A (dw_X1 a ac s0) s.heap.size = A at hD hN ⊢
  have hA : ∀ q : Nat, s.heap.size ≤ q → A q := fun q h => by rw [← hAe]; exact Or.inr h
  have hl := lv_entry ([.ref (a 0), .int v0, .int v1, .int v2]) (n := 5) (Nat.le_of_ble_eq_true rfl)
  rw [lg_entry_eq]
  generalize (lg_sl ([.ref (a 0), .int v0, .int v1, .int v2]) ++ List.replicate (5 - (lg_sl ([.ref (a 0), .int v0, .int v1, .int v2])).length) Slot.unset).toArray = ls at hl ⊢
  have hl : lv_has ls 5 [(0, .ref (a 0)), (1, .int v0), (2, .int v1), (3, .int v2)] := hl
  exact db_X1_fixed_0 (dC := dC) (dI := dI) (a := a) (ac := ac) (n := n) (r := r) ⟨hlt, hx, hb, hml, hown, hts, hN, hA, hK⟩ (fun pc v τ H locs ls d z er hP hD hS => by subst er; exact W.zret (v := v) hx hb hr z (fun t ht hW => ⟨⟨v, (), rfl, rfl, by rw [ht]; exact hP, va_K.moved hW.alike hK, hD⟩, hS.F ht⟩) hS.2.2 d) v0 v1 v2 s0 _ _ _ h hP hD va_S.rf (lv_sub hl [0, 1, 2, 3] rfl)
def ow_dm_X9_emit : List Cond := Cond.code yX9_emit cX9_emit 3 none :: ([Cond.fieldLink RX9 39 "TimeMachine$Reader" "codes" "I", Cond.fieldLink RX9 16 "TimeMachine$Reader" "code" "[I", Cond.fieldLink RX9 20 "TimeMachine$Reader" "argument" "[I"] ++ (u_ws RX9 TX9 20 ++ []))
theorem gd_dm_X9_emit : ∀ w ∈ ow_dm_X9_emit, (w.onTables && w.keeps) = true ∨ ∃ ty, w = Cond.arrayClass ty := List.forall_mem_cons.mpr ⟨good_of_word rfl, List.forall_mem_append.mpr ⟨fun w h => good_of_word (List.all_eq_true.mp (by decide +kernel) w h), List.forall_mem_append.mpr ⟨gu_X9, fun _ h => nomatch h⟩⟩⟩
theorem hi_dm_X9_emit_X9 : ∀ w ∈ u_ws RX9 TX9 20, w ∈ ow_dm_X9_emit := fun w h => List.mem_cons_of_mem _ (List.mem_append_right _ (List.mem_append_left _ h))
def dj_X9_emit_42 (p : Program) (l : Launch) (e : Env) (s : State) (m : MethodId) (args : Array Value) (below : List Frame) (meth : Method) (c : Code) (Q : State → Prop) (A : Nat → Prop) (dC : Nat → ClassId) (dI : Nat → Nat → Nat) (a : Nat → Nat) (ac : Nat → ClassId) (g : (St) → Option (St)) (r : St) : Prop := ∀ (s0 : St) (H : Heap) (locs : List Loc) (ls : Array Slot), g s0 = some r → va_P (dC, dI) vwCl (dw_X9 a ac s0) H → va_D A (dw_X9 a ac s0) → va_S A s.heap H locs → lv_has ls 3 [] → W p l e (headSpec ow_dm_X9_emit ({ frames := 0, cells := 0, slots := 0, locals := 0 })).room s m args below meth c H locs 0 0 Q (F0 m 42 ls [])
def dj_X9_emit_0 (p : Program) (l : Launch) (e : Env) (s : State) (m : MethodId) (args : Array Value) (below : List Frame) (meth : Method) (c : Code) (Q : State → Prop) (A : Nat → Prop) (dC : Nat → ClassId) (dI : Nat → Nat → Nat) (a : Nat → Nat) (ac : Nat → ClassId) (g : Int32 → Int32 → (St) → Option (St)) (r : St) : Prop := ∀ (v0 : Int32) (v1 : Int32) (s0 : St) (H : Heap) (locs : List Loc) (ls : Array Slot), g v0 v1 s0 = some r → va_P (dC, dI) vwCl (dw_X9 a ac s0) H → va_D A (dw_X9 a ac s0) → va_S A s.heap H locs → lv_has ls 3 [(0, .ref (a 0)), (1, .int v0), (2, .int v1)] → W p l e (headSpec ow_dm_X9_emit ({ frames := 0, cells := 0, slots := 0, locals := 0 })).room s m args below meth c H locs 0 0 Q (F0 m 0 ls [])
set_option maxHeartbeats 40000000 in
set_option maxRecDepth 100000 in
theorem db_X9_emit_42 {p : Program} {l : Launch} {e : Env} {s : State} {m : MethodId} {args : Array Value} {below : List Frame} {meth : Method} {c : Code} {Q : State → Prop} {A : Nat → Prop} {dC : Nat → ClassId} {dI : Nat → Nat → Nat} {a : Nat → Nat} {ac : Nat → ClassId} {n : Nat} {r : St} (C : nd_C p l s m args c A (dC, dI) cX9_emit 3 RX9 ow_dm_X9_emit (dk_X9 ac)) (K : nd_Kv p l e (headSpec ow_dm_X9_emit ({ frames := 0, cells := 0, slots := 0, locals := 0 })).room s m args below meth c Q A (dC, dI) cX9_emit (St) (dw_X9 a ac) r) : dj_X9_emit_42 p l e s m args below meth c Q A dC dI a ac (df_X9_emit_42 n) r := by
  obtain ⟨hlt, hx, hb, hml, hown, hts, hN, hA, hK⟩ := id C
  intro s0 H locs ls h hP hD hS hl
  unfold df_X9_emit_42 at h
  exact K _ _ _ _ _ dX9_emit_42 (Option.some.inj h).symm hP hD hS
set_option maxHeartbeats 40000000 in
set_option maxRecDepth 100000 in
theorem db_X9_emit_0 {p : Program} {l : Launch} {e : Env} {s : State} {m : MethodId} {args : Array Value} {below : List Frame} {meth : Method} {c : Code} {Q : State → Prop} {A : Nat → Prop} {dC : Nat → ClassId} {dI : Nat → Nat → Nat} {a : Nat → Nat} {ac : Nat → ClassId} {n : Nat} {r : St} (C : nd_C p l s m args c A (dC, dI) cX9_emit 3 RX9 ow_dm_X9_emit (dk_X9 ac)) (K : nd_Kv p l e (headSpec ow_dm_X9_emit ({ frames := 0, cells := 0, slots := 0, locals := 0 })).room s m args below meth c Q A (dC, dI) cX9_emit (St) (dw_X9 a ac) r) : dj_X9_emit_0 p l e s m args below meth c Q A dC dI a ac (df_X9_emit_0 n) r := by
  obtain ⟨hlt, hx, hb, hml, hown, hts, hN, hA, hK⟩ := id C
  intro v0 v1 s0 H locs ls h hP hD hS hl
  unfold df_X9_emit_0 at h
  refine lv_aload_n hx hb dX9_emit_0 rfl (lv_at hl 0 rfl) ?_
  refine va_get (D := (dC, dI)) (ci := 10) (v := .int (sI s0 5)) (C := RX9) (T := TX9) (N := 20) hx hb hts hi_dm_X9_emit_X9 hown hK hP 0 rfl rfl 8 (by decide) (hts (.fieldLink RX9 39 "TimeMachine$Reader" "codes" "I") (List.mem_of_getElem? (i := 1) rfl)) (fun _ h9 => h9) rfl dX9_emit_1 ?_
  refine lv_aload_n hx hb dX9_emit_4 rfl (lv_at hl 0 rfl) ?_
  refine va_get (D := (dC, dI)) (ci := 10) (v := .ref (a 1)) (C := RX9) (T := TX9) (N := 20) hx hb hts hi_dm_X9_emit_X9 hown hK hP 0 rfl rfl 6 (by decide) (hts (.fieldLink RX9 16 "TimeMachine$Reader" "code" "[I") (List.mem_of_getElem? (i := 2) rfl)) (fun _ h9 => h9) rfl dX9_emit_5 ?_
  refine va_alen (v := 32832) hx hb hK hP 1 0 rfl rfl (show Int32.ofNat 32832 = 32832 by decide) dX9_emit_8 ?_
  refine lv_icmp_ge (tgt := 42) hx hb dX9_emit_9 (by decide) (fun c1 => ?_) (fun c1 => ?_)
  · have h := nd_pos h c1
    exact (db_X9_emit_42 C K)  s0 _ _ _ h hP hD hS (lv_sub hl [] rfl)
  · have h := nd_neg h c1
    refine lv_aload_n hx hb dX9_emit_12 rfl (lv_at hl 0 rfl) ?_
    refine va_get (D := (dC, dI)) (ci := 10) (v := .ref (a 1)) (C := RX9) (T := TX9) (N := 20) hx hb hts hi_dm_X9_emit_X9 hown hK hP 0 rfl rfl 6 (by decide) (hts (.fieldLink RX9 16 "TimeMachine$Reader" "code" "[I") (List.mem_of_getElem? (i := 2) rfl)) (fun _ h9 => h9) rfl dX9_emit_13 ?_
    refine lv_aload_n hx hb dX9_emit_16 rfl (lv_at hl 0 rfl) ?_
    refine va_get (D := (dC, dI)) (ci := 10) (v := .int (sI s0 5)) (C := RX9) (T := TX9) (N := 20) hx hb hts hi_dm_X9_emit_X9 hown hK hP 0 rfl rfl 8 (by decide) (hts (.fieldLink RX9 39 "TimeMachine$Reader" "codes" "I") (List.mem_of_getElem? (i := 1) rfl)) (fun _ h9 => h9) rfl dX9_emit_17 ?_
    refine lv_iload_n hx hb dX9_emit_20 rfl (lv_at hl 1 rfl) ?_
    obtain ⟨i2, h⟩ := nd_ck_e h
    refine va_iast (i := (sI s0 5)) (x := v0) hx hb hK hP hD hS 1 0 rfl rfl i2 dX9_emit_21 (fun H locs hP hD hS => ?_)
    obtain ⟨s3, es3, h⟩ := nd_let_e h
    have hP : va_P (dC, dI) vwCl (dw_X9 a ac s3) H := by rw [es3]; exact hP
    have hD : va_D A (dw_X9 a ac s3) := by rw [es3]; exact hD
    refine lv_aload_n hx hb dX9_emit_22 rfl (lv_at hl 0 rfl) ?_
    refine va_get (D := (dC, dI)) (ci := 10) (v := .ref (a 2)) (C := RX9) (T := TX9) (N := 20) hx hb hts hi_dm_X9_emit_X9 hown hK hP 0 rfl rfl 7 (by decide) (hts (.fieldLink RX9 20 "TimeMachine$Reader" "argument" "[I") (List.mem_of_getElem? (i := 3) rfl)) (fun _ h9 => h9) rfl dX9_emit_23 ?_
    refine lv_aload_n hx hb dX9_emit_26 rfl (lv_at hl 0 rfl) ?_
    refine va_get (D := (dC, dI)) (ci := 10) (v := .int (sI s3 5)) (C := RX9) (T := TX9) (N := 20) hx hb hts hi_dm_X9_emit_X9 hown hK hP 0 rfl rfl 8 (by decide) (hts (.fieldLink RX9 39 "TimeMachine$Reader" "codes" "I") (List.mem_of_getElem? (i := 1) rfl)) (fun _ h9 => h9) rfl dX9_emit_27 ?_
    refine lv_iload_n hx hb dX9_emit_30 rfl (lv_at hl 2 rfl) ?_
    obtain ⟨i4, h⟩ := nd_ck_e h
    refine va_iast (i := (sI s3 5)) (x := v1) hx hb hK hP hD hS 2 1 rfl rfl i4 dX9_emit_31 (fun H locs hP hD hS => ?_)
    obtain ⟨s5, es5, h⟩ := nd_let_e h
    have hP : va_P (dC, dI) vwCl (dw_X9 a ac s5) H := by rw [es5]; exact hP
    have hD : va_D A (dw_X9 a ac s5) := by rw [es5]; exact hD
    refine lv_aload_n hx hb dX9_emit_32 rfl (lv_at hl 0 rfl) ?_
    refine lv_dup hx hb dX9_emit_33 rfl ?_
    refine va_get (D := (dC, dI)) (ci := 10) (v := .int (sI s5 5)) (C := RX9) (T := TX9) (N := 20) hx hb hts hi_dm_X9_emit_X9 hown hK hP 0 rfl rfl 8 (by decide) (hts (.fieldLink RX9 39 "TimeMachine$Reader" "codes" "I") (List.mem_of_getElem? (i := 1) rfl)) (fun _ h9 => h9) rfl dX9_emit_34 ?_
    refine lv_iconst (v := 1) hx hb dX9_emit_37 (by decide) ?_
    refine lv_iadd hx hb dX9_emit_38 ?_
    refine va_put (D := (dC, dI)) (ci := 10) (v := .int ((sI s5 5) + 1)) (ty := .int) (C := RX9) (T := TX9) (N := 20) hx hb hts hi_dm_X9_emit_X9 tyX9 tyX9_ok nmX9 hown hK hP hD hS 0 rfl rfl 8 (by decide) (hts (.fieldLink RX9 39 "TimeMachine$Reader" "codes" "I") (List.mem_of_getElem? (i := 1) rfl)) (fun _ h9 => h9) rfl (by decide +kernel) rfl rfl (Nat.le_of_ble_eq_true rfl) dX9_emit_39 (fun H locs hP hD hS => ?_)
    obtain ⟨s6, es6, h⟩ := nd_let_e h
    have hP : va_P (dC, dI) vwCl (dw_X9 a ac s6) H := by rw [es6]; exact hP
    have hD : va_D A (dw_X9 a ac s6) := by rw [es6]; exact hD
    exact (db_X9_emit_42 C K)  s6 _ _ _ h hP hD hS (lv_sub hl [] rfl)
set_option maxHeartbeats 40000000 in
set_option maxRecDepth 100000 in
theorem dm_X9_emit (l : Launch) (hlt : l.stackTraces = false) (dC : Nat → ClassId) (dI : Nat → Nat → Nat) (a : Nat → Nat) (ac : Nat → ClassId) (n : Nat) (v0 : Int32) (v1 : Int32) (s0 : St) {r : St} (h : df_X9_emit n v0 v1 s0 = some r) (sz : Nat) : Met l yX9_emit ow_dm_X9_emit ({ frames := 0, cells := 0, slots := 0, locals := 0 }) (va_Pc [.ref (a 0), .int v0, .int v1] (fun U => U.heap.size = sz ∧ va_P (dC, dI) vwCl (dw_X9 a ac s0) U.heap ∧ va_K (dC, dI) vwCl (dk_X9 ac) U ∧ va_D (fun _ => True) (dw_X9 a ac s0) ∧ nv_E dI (va_A (dw_X9 a ac s0) sz) U)) (va_Qv (fun _ => True) (fun (_ : Unit) t => va_P (dC, dI) vwCl (dw_X9 a ac r) t.heap ∧ va_K (dC, dI) vwCl (dk_X9 ac) t ∧ va_D (va_A (dw_X9 a ac s0) sz) (dw_X9 a ac r)) (va_A (dw_X9 a ac s0) sz)) 0 0 (va_A (dw_X9 a ac s0) sz) := by
  refine Met.ofW (cc := cX9_emit) (maxL := 3) (ret := none) (by decide) rfl ?_
  intro p e s m args below meth c s₁ B hml hv
  obtain ⟨rfl, hsz, hP, hK, hD0, hN⟩ := hv
  have hx := B.exec
  have hb := B.bytes
  have hr := B.returns
  have hts := atoms_spec (ws := ow_dm_X9_emit) B.pre
  have hown : s.vm.findClass RX9 = some m.cls := findClass_of_methodNamed B.named
  have hlocks := B.notSynchronized
  subst hsz
  have hD := hD0.self (sz := s.heap.size)
  generalize hAe : va_A (dw_X9 a ac s0) s.heap.size = A at hD hN ⊢
  have hA : ∀ q : Nat, s.heap.size ≤ q → A q := fun q h => by rw [← hAe]; exact Or.inr h
  have hl := lv_entry ([.ref (a 0), .int v0, .int v1]) (n := 3) (Nat.le_of_ble_eq_true rfl)
  rw [lg_entry_eq]
  generalize (lg_sl ([.ref (a 0), .int v0, .int v1]) ++ List.replicate (3 - (lg_sl ([.ref (a 0), .int v0, .int v1])).length) Slot.unset).toArray = ls at hl ⊢
  have hl : lv_has ls 3 [(0, .ref (a 0)), (1, .int v0), (2, .int v1)] := hl
  exact db_X9_emit_0 (dC := dC) (dI := dI) (a := a) (ac := ac) (n := n) (r := r) ⟨hlt, hx, hb, hml, hown, hts, hN, hA, hK⟩ (fun pc τ H locs ls d er hP hD hS => by subst er; exact W.vret hx hb hr (fun t ht hW => ⟨⟨(), rfl, trivial, by rw [ht]; exact hP, va_K.moved hW.alike hK, hD⟩, hS.F ht⟩) hS.2.2 d) v0 v1 s0 _ _ _ h hP hD va_S.rf (lv_sub hl [0, 1, 2] rfl)
set_option maxHeartbeats 40000000 in
set_option maxRecDepth 100000 in
theorem dp_vX9_BY_0 {D : va_G} {H : Heap} {a : Nat → Nat} {ac : Nat → ClassId} {σ : St} (h : va_P D vwCl (dw_X9 a ac σ) H) : va_P D vwCl (dw_BY (fun k => a (nd_ix [8] k)) (fun k => ac (nd_ix [8] k)) ((pR nd_st0 0 (sR σ 7)))) H := h.sub [8] rfl
set_option maxHeartbeats 40000000 in
set_option maxRecDepth 100000 in
theorem dd_vX9_BY_0 {A : Nat → Prop} {a : Nat → Nat} {ac : Nat → ClassId} {σ : St} (h : va_D A (dw_X9 a ac σ)) : va_D A (dw_BY (fun k => a (nd_ix [8] k)) (fun k => ac (nd_ix [8] k)) ((pR nd_st0 0 (sR σ 7)))) := h.sub [8] (by decide) rfl
set_option maxHeartbeats 40000000 in
set_option maxRecDepth 100000 in
theorem dy_vX9_BY_0 {D : va_G} {U : State} {ac : Nat → ClassId} (h : va_K D vwCl (dk_X9 ac) U) : va_K D vwCl (dk_BY (fun k => ac (nd_ix [8] k))) U := h.sub [7] rfl
set_option maxHeartbeats 40000000 in
set_option maxRecDepth 100000 in
theorem dn_vX9_BY_0 {A0 : Nat → Prop} {D : va_G} {H H1 : Heap} {a : Nat → Nat} {ac : Nat → ClassId} {σ : St} {τ : St} (hP : va_P D vwCl (dw_X9 a ac σ) H) (hD : va_D A0 (dw_X9 a ac σ)) (hA : ∀ q : Nat, H.size ≤ q → A0 q) (hk : ∀ q : Nat, q < H.size → ¬ va_A (dw_BY (fun k => a (nd_ix [8] k)) (fun k => ac (nd_ix [8] k)) ((pR nd_st0 0 (sR σ 7)))) H.size q → H1[q]? = H[q]?) (h1 : va_P D vwCl (dw_BY (fun k => a (nd_ix [8] k)) (fun k => ac (nd_ix [8] k)) τ) H1) (h2 : va_D (va_A (dw_BY (fun k => a (nd_ix [8] k)) (fun k => ac (nd_ix [8] k)) ((pR nd_st0 0 (sR σ 7)))) H.size) (dw_BY (fun k => a (nd_ix [8] k)) (fun k => ac (nd_ix [8] k)) τ)) : va_P D vwCl (dw_X9 a ac (pR σ 7 (sR τ 0))) H1 ∧ va_D A0 (dw_X9 a ac (pR σ 7 (sR τ 0))) := by
  obtain ⟨h1, h2⟩ := va_join (wr := [0, 1, 2, 3, 4, 5, 6, 7].filterMap (fun i => (dw_X9 a ac σ)[i]?)) hP hD [8] [0, 1, 2, 3, 4, 5, 6, 7] rfl rfl (by decide) (by decide) hk (nd_rq (dd_vX9_BY_0 hD) hA) h1 h2
  exact ⟨h1.sub [0, 1, 2, 3, 4, 5, 6, 7, 8] rfl, h2.sub [0, 1, 2, 3, 4, 5, 6, 7, 8] (by decide) rfl⟩
def ow_dm_X9_takeHalf : List Cond := Cond.code yX9_takeHalf cX9_takeHalf 1 none :: ([Cond.fieldLink RX9 119 "TimeMachine$Reader" "state" "I", Cond.fieldLink RX9 73 "TimeMachine$Reader" "kind" "I", Cond.fieldLink RX9 9 "TimeMachine$Reader" "source" "[B", Cond.fieldLink RX9 70 "TimeMachine$Reader" "from" "I", Cond.fieldLink RX9 55 "TimeMachine$Reader" "at" "I", Cond.methodLink RX9 149 yX7_stands, Cond.static yX7_stands, Cond.initialized RX7, Cond.methodLink RX9 141 yX9_push, Cond.instanceMethod yX9_push, Cond.selects RX9 yX9_push yX9_push, Cond.initialized RX9, Cond.methodLink RX9 144 yX9_isSign, Cond.instanceMethod yX9_isSign, Cond.selects RX9 yX9_isSign yX9_isSign] ++ (u_ws RX9 TX9 20 ++ (ow_dm_X7_stands ++ (ow_dm_X9_push ++ (ow_dm_X9_isSign ++ [])))))
theorem gd_dm_X9_takeHalf : ∀ w ∈ ow_dm_X9_takeHalf, (w.onTables && w.keeps) = true ∨ ∃ ty, w = Cond.arrayClass ty := List.forall_mem_cons.mpr ⟨good_of_word rfl, List.forall_mem_append.mpr ⟨fun w h => good_of_word (List.all_eq_true.mp (by decide +kernel) w h), List.forall_mem_append.mpr ⟨gu_X9, List.forall_mem_append.mpr ⟨gd_dm_X7_stands, List.forall_mem_append.mpr ⟨gd_dm_X9_push, List.forall_mem_append.mpr ⟨gd_dm_X9_isSign, fun _ h => nomatch h⟩⟩⟩⟩⟩⟩
theorem hi_dm_X9_takeHalf_X9 : ∀ w ∈ u_ws RX9 TX9 20, w ∈ ow_dm_X9_takeHalf := fun w h => List.mem_cons_of_mem _ (List.mem_append_right _ (List.mem_append_left _ h))
theorem gi_dm_X9_takeHalf_0 : GoodIn ow_dm_X9_takeHalf (va_wsS RX9 149 yX7_stands ow_dm_X7_stands) := goodIn_app (goodIn_of _ (by decide +kernel)) (fun w h => ⟨List.mem_cons_of_mem _ (List.mem_append_right _ (List.mem_append_right _ (List.mem_append_left _ h))), gd_dm_X7_stands w h⟩)
theorem gi_dm_X9_takeHalf_1 : GoodIn ow_dm_X9_takeHalf (wsV RX9 141 RX9 yX9_push ow_dm_X9_push) := goodIn_app (goodIn_of _ (by decide +kernel)) (fun w h => ⟨List.mem_cons_of_mem _ (List.mem_append_right _ (List.mem_append_right _ (List.mem_append_right _ (List.mem_append_left _ h)))), gd_dm_X9_push w h⟩)
theorem gi_dm_X9_takeHalf_2 : GoodIn ow_dm_X9_takeHalf (wsV RX9 144 RX9 yX9_isSign ow_dm_X9_isSign) := goodIn_app (goodIn_of _ (by decide +kernel)) (fun w h => ⟨List.mem_cons_of_mem _ (List.mem_append_right _ (List.mem_append_right _ (List.mem_append_right _ (List.mem_append_right _ (List.mem_append_left _ h))))), gd_dm_X9_isSign w h⟩)
def dj_X9_takeHalf_133 (p : Program) (l : Launch) (e : Env) (s : State) (m : MethodId) (args : Array Value) (below : List Frame) (meth : Method) (c : Code) (Q : State → Prop) (A : Nat → Prop) (dC : Nat → ClassId) (dI : Nat → Nat → Nat) (a : Nat → Nat) (ac : Nat → ClassId) (g : (St) → Option (St)) (r : St) : Prop := ∀ (s0 : St) (H : Heap) (locs : List Loc) (ls : Array Slot), g s0 = some r → va_P (dC, dI) vwCl (dw_X9 a ac s0) H → va_D A (dw_X9 a ac s0) → va_S A s.heap H locs → lv_has ls 1 [] → W p l e (headSpec ow_dm_X9_takeHalf ({ frames := 5, cells := 0, slots := 0, locals := 109 })).room s m args below meth c H locs 0 0 Q (F0 m 133 ls [])
def dj_X9_takeHalf_130 (p : Program) (l : Launch) (e : Env) (s : State) (m : MethodId) (args : Array Value) (below : List Frame) (meth : Method) (c : Code) (Q : State → Prop) (A : Nat → Prop) (dC : Nat → ClassId) (dI : Nat → Nat → Nat) (a : Nat → Nat) (ac : Nat → ClassId) (g : Int32 → (St) → Option (St)) (r : St) : Prop := ∀ (y1 : Int32) (s0 : St) (H : Heap) (locs : List Loc) (ls : Array Slot), g y1 s0 = some r → va_P (dC, dI) vwCl (dw_X9 a ac s0) H → va_D A (dw_X9 a ac s0) → va_S A s.heap H locs → lv_has ls 1 [] → W p l e (headSpec ow_dm_X9_takeHalf ({ frames := 5, cells := 0, slots := 0, locals := 109 })).room s m args below meth c H locs 0 0 Q (F0 m 130 ls [.int y1, .ref (a 0)])
def dj_X9_takeHalf_128 (p : Program) (l : Launch) (e : Env) (s : State) (m : MethodId) (args : Array Value) (below : List Frame) (meth : Method) (c : Code) (Q : State → Prop) (A : Nat → Prop) (dC : Nat → ClassId) (dI : Nat → Nat → Nat) (a : Nat → Nat) (ac : Nat → ClassId) (g : (St) → Option (St)) (r : St) : Prop := ∀ (s0 : St) (H : Heap) (locs : List Loc) (ls : Array Slot), g s0 = some r → va_P (dC, dI) vwCl (dw_X9 a ac s0) H → va_D A (dw_X9 a ac s0) → va_S A s.heap H locs → lv_has ls 1 [] → W p l e (headSpec ow_dm_X9_takeHalf ({ frames := 5, cells := 0, slots := 0, locals := 109 })).room s m args below meth c H locs 0 0 Q (F0 m 128 ls [.ref (a 0)])
def dj_X9_takeHalf_90 (p : Program) (l : Launch) (e : Env) (s : State) (m : MethodId) (args : Array Value) (below : List Frame) (meth : Method) (c : Code) (Q : State → Prop) (A : Nat → Prop) (dC : Nat → ClassId) (dI : Nat → Nat → Nat) (a : Nat → Nat) (ac : Nat → ClassId) (g : (St) → Option (St)) (r : St) : Prop := ∀ (s0 : St) (H : Heap) (locs : List Loc) (ls : Array Slot), g s0 = some r → va_P (dC, dI) vwCl (dw_X9 a ac s0) H → va_D A (dw_X9 a ac s0) → va_S A s.heap H locs → lv_has ls 1 [(0, .ref (a 0))] → W p l e (headSpec ow_dm_X9_takeHalf ({ frames := 5, cells := 0, slots := 0, locals := 109 })).room s m args below meth c H locs 0 0 Q (F0 m 90 ls [])
def dj_X9_takeHalf_43 (p : Program) (l : Launch) (e : Env) (s : State) (m : MethodId) (args : Array Value) (below : List Frame) (meth : Method) (c : Code) (Q : State → Prop) (A : Nat → Prop) (dC : Nat → ClassId) (dI : Nat → Nat → Nat) (a : Nat → Nat) (ac : Nat → ClassId) (g : Int32 → (St) → Option (St)) (r : St) : Prop := ∀ (y1 : Int32) (s0 : St) (H : Heap) (locs : List Loc) (ls : Array Slot), g y1 s0 = some r → va_P (dC, dI) vwCl (dw_X9 a ac s0) H → va_D A (dw_X9 a ac s0) → va_S A s.heap H locs → lv_has ls 1 [] → W p l e (headSpec ow_dm_X9_takeHalf ({ frames := 5, cells := 0, slots := 0, locals := 109 })).room s m args below meth c H locs 0 0 Q (F0 m 43 ls [.int y1, .ref (a 0)])
def dj_X9_takeHalf_24 (p : Program) (l : Launch) (e : Env) (s : State) (m : MethodId) (args : Array Value) (below : List Frame) (meth : Method) (c : Code) (Q : State → Prop) (A : Nat → Prop) (dC : Nat → ClassId) (dI : Nat → Nat → Nat) (a : Nat → Nat) (ac : Nat → ClassId) (g : Int32 → (St) → Option (St)) (r : St) : Prop := ∀ (y1 : Int32) (s0 : St) (H : Heap) (locs : List Loc) (ls : Array Slot), g y1 s0 = some r → va_P (dC, dI) vwCl (dw_X9 a ac s0) H → va_D A (dw_X9 a ac s0) → va_S A s.heap H locs → lv_has ls 1 [(0, .ref (a 0))] → W p l e (headSpec ow_dm_X9_takeHalf ({ frames := 5, cells := 0, slots := 0, locals := 109 })).room s m args below meth c H locs 0 0 Q (F0 m 24 ls [.int y1, .ref (a 0)])
def dj_X9_takeHalf_0 (p : Program) (l : Launch) (e : Env) (s : State) (m : MethodId) (args : Array Value) (below : List Frame) (meth : Method) (c : Code) (Q : State → Prop) (A : Nat → Prop) (dC : Nat → ClassId) (dI : Nat → Nat → Nat) (a : Nat → Nat) (ac : Nat → ClassId) (g : (St) → Option (St)) (r : St) : Prop := ∀ (s0 : St) (H : Heap) (locs : List Loc) (ls : Array Slot), g s0 = some r → va_P (dC, dI) vwCl (dw_X9 a ac s0) H → va_D A (dw_X9 a ac s0) → va_S A s.heap H locs → lv_has ls 1 [(0, .ref (a 0))] → W p l e (headSpec ow_dm_X9_takeHalf ({ frames := 5, cells := 0, slots := 0, locals := 109 })).room s m args below meth c H locs 0 0 Q (F0 m 0 ls [])
set_option maxHeartbeats 40000000 in
set_option maxRecDepth 100000 in
theorem db_X9_takeHalf_133 {p : Program} {l : Launch} {e : Env} {s : State} {m : MethodId} {args : Array Value} {below : List Frame} {meth : Method} {c : Code} {Q : State → Prop} {A : Nat → Prop} {dC : Nat → ClassId} {dI : Nat → Nat → Nat} {a : Nat → Nat} {ac : Nat → ClassId} {n : Nat} {r : St} (C : nd_C p l s m args c A (dC, dI) cX9_takeHalf 1 RX9 ow_dm_X9_takeHalf (dk_X9 ac)) (K : nd_Kv p l e (headSpec ow_dm_X9_takeHalf ({ frames := 5, cells := 0, slots := 0, locals := 109 })).room s m args below meth c Q A (dC, dI) cX9_takeHalf (St) (dw_X9 a ac) r) : dj_X9_takeHalf_133 p l e s m args below meth c Q A dC dI a ac (df_X9_takeHalf_133 n) r := by
  obtain ⟨hlt, hx, hb, hml, hown, hts, hN, hA, hK⟩ := id C
  intro s0 H locs ls h hP hD hS hl
  unfold df_X9_takeHalf_133 at h
  exact K _ _ _ _ _ dX9_takeHalf_133 (Option.some.inj h).symm hP hD hS
set_option maxHeartbeats 40000000 in
set_option maxRecDepth 100000 in
theorem db_X9_takeHalf_130 {p : Program} {l : Launch} {e : Env} {s : State} {m : MethodId} {args : Array Value} {below : List Frame} {meth : Method} {c : Code} {Q : State → Prop} {A : Nat → Prop} {dC : Nat → ClassId} {dI : Nat → Nat → Nat} {a : Nat → Nat} {ac : Nat → ClassId} {n : Nat} {r : St} (C : nd_C p l s m args c A (dC, dI) cX9_takeHalf 1 RX9 ow_dm_X9_takeHalf (dk_X9 ac)) (K : nd_Kv p l e (headSpec ow_dm_X9_takeHalf ({ frames := 5, cells := 0, slots := 0, locals := 109 })).room s m args below meth c Q A (dC, dI) cX9_takeHalf (St) (dw_X9 a ac) r) : dj_X9_takeHalf_130 p l e s m args below meth c Q A dC dI a ac (df_X9_takeHalf_130 n) r := by
  obtain ⟨hlt, hx, hb, hml, hown, hts, hN, hA, hK⟩ := id C
  intro y1 s0 H locs ls h hP hD hS hl
  unfold df_X9_takeHalf_130 at h
  refine va_put (D := (dC, dI)) (ci := 10) (v := .int y1) (ty := .int) (C := RX9) (T := TX9) (N := 20) hx hb hts hi_dm_X9_takeHalf_X9 tyX9 tyX9_ok nmX9 hown hK hP hD hS 0 rfl rfl 11 (by decide) (hts (.fieldLink RX9 119 "TimeMachine$Reader" "state" "I") (List.mem_of_getElem? (i := 1) rfl)) (fun _ h9 => h9) rfl (by decide +kernel) rfl rfl (Nat.le_of_ble_eq_true rfl) dX9_takeHalf_130 (fun H locs hP hD hS => ?_)
  obtain ⟨s4, es4, h⟩ := nd_let_e h
  have hP : va_P (dC, dI) vwCl (dw_X9 a ac s4) H := by rw [es4]; exact hP
  have hD : va_D A (dw_X9 a ac s4) := by rw [es4]; exact hD
  exact (db_X9_takeHalf_133 C K)  s4 _ _ _ h hP hD hS (lv_sub hl [] rfl)
set_option maxHeartbeats 40000000 in
set_option maxRecDepth 100000 in
theorem db_X9_takeHalf_128 {p : Program} {l : Launch} {e : Env} {s : State} {m : MethodId} {args : Array Value} {below : List Frame} {meth : Method} {c : Code} {Q : State → Prop} {A : Nat → Prop} {dC : Nat → ClassId} {dI : Nat → Nat → Nat} {a : Nat → Nat} {ac : Nat → ClassId} {n : Nat} {r : St} (C : nd_C p l s m args c A (dC, dI) cX9_takeHalf 1 RX9 ow_dm_X9_takeHalf (dk_X9 ac)) (K : nd_Kv p l e (headSpec ow_dm_X9_takeHalf ({ frames := 5, cells := 0, slots := 0, locals := 109 })).room s m args below meth c Q A (dC, dI) cX9_takeHalf (St) (dw_X9 a ac) r) : dj_X9_takeHalf_128 p l e s m args below meth c Q A dC dI a ac (df_X9_takeHalf_128 n) r := by
  obtain ⟨hlt, hx, hb, hml, hown, hts, hN, hA, hK⟩ := id C
  intro s0 H locs ls h hP hD hS hl
  unfold df_X9_takeHalf_128 at h
  refine lv_bipush (v := 6) hx hb dX9_takeHalf_128 (by decide) ?_
  exact (db_X9_takeHalf_130 C K) (6) s0 _ _ _ h hP hD hS (lv_sub hl [] rfl)
set_option maxHeartbeats 40000000 in
set_option maxRecDepth 100000 in
theorem db_X9_takeHalf_90 {p : Program} {l : Launch} {e : Env} {s : State} {m : MethodId} {args : Array Value} {below : List Frame} {meth : Method} {c : Code} {Q : State → Prop} {A : Nat → Prop} {dC : Nat → ClassId} {dI : Nat → Nat → Nat} {a : Nat → Nat} {ac : Nat → ClassId} {n : Nat} {r : St} (C : nd_C p l s m args c A (dC, dI) cX9_takeHalf 1 RX9 ow_dm_X9_takeHalf (dk_X9 ac)) (K : nd_Kv p l e (headSpec ow_dm_X9_takeHalf ({ frames := 5, cells := 0, slots := 0, locals := 109 })).room s m args below meth c Q A (dC, dI) cX9_takeHalf (St) (dw_X9 a ac) r) : dj_X9_takeHalf_90 p l e s m args below meth c Q A dC dI a ac (df_X9_takeHalf_90 n) r := by
  obtain ⟨hlt, hx, hb, hml, hown, hts, hN, hA, hK⟩ := id C
  intro s0 H locs ls h hP hD hS hl
  unfold df_X9_takeHalf_90 at h
  refine lv_aload_n hx hb dX9_takeHalf_90 rfl (lv_at hl 0 rfl) ?_
  refine lv_aload_n hx hb dX9_takeHalf_91 rfl (lv_at hl 0 rfl) ?_
  refine va_get (D := (dC, dI)) (ci := 10) (v := .int (sI s0 2)) (C := RX9) (T := TX9) (N := 20) hx hb hts hi_dm_X9_takeHalf_X9 hown hK hP 0 rfl rfl 3 (by decide) (hts (.fieldLink RX9 73 "TimeMachine$Reader" "kind" "I") (List.mem_of_getElem? (i := 2) rfl)) (fun _ h9 => h9) rfl dX9_takeHalf_92 ?_
  refine lv_iconst (v := 1) hx hb dX9_takeHalf_95 (by decide) ?_
  refine lv_icmp_ne (tgt := 128) hx hb dX9_takeHalf_96 (by decide) (fun c3 => ?_) (fun c3 => ?_)
  · have h := nd_neg h c3
    exact (db_X9_takeHalf_128 C K)  s0 _ _ _ h hP hD hS (lv_sub hl [] rfl)
  · have h := nd_pos h c3
    have z5 : vk_R RX9 155 "lo" (dI 1000 20) s := hN.2.2.2.2.2.2.2.2.2.2.2.2.1 20 (by decide)
    refine va_ldcS hx hb hown z5 dX9_takeHalf_99 ?_
    refine lv_aload_n hx hb dX9_takeHalf_101 rfl (lv_at hl 0 rfl) ?_
    obtain ⟨o6, h⟩ := nd_o_e h
    refine va_get (D := (dC, dI)) (ci := 10) (v := .ref (a 8)) (C := RX9) (T := TX9) (N := 20) hx hb hts hi_dm_X9_takeHalf_X9 hown hK hP 0 rfl rfl 0 (by decide) (hts (.fieldLink RX9 9 "TimeMachine$Reader" "source" "[B") (List.mem_of_getElem? (i := 3) rfl)) (fun _ h9 => h9) (congrArg (fun z => some (va_rf (Option.map a z))) o6) dX9_takeHalf_102 ?_
    refine lv_aload_n hx hb dX9_takeHalf_105 rfl (lv_at hl 0 rfl) ?_
    refine va_get (D := (dC, dI)) (ci := 10) (v := .int (sI s0 3)) (C := RX9) (T := TX9) (N := 20) hx hb hts hi_dm_X9_takeHalf_X9 hown hK hP 0 rfl rfl 4 (by decide) (hts (.fieldLink RX9 70 "TimeMachine$Reader" "from" "I") (List.mem_of_getElem? (i := 4) rfl)) (fun _ h9 => h9) rfl dX9_takeHalf_106 ?_
    refine lv_aload_n hx hb dX9_takeHalf_109 rfl (lv_at hl 0 rfl) ?_
    refine va_get (D := (dC, dI)) (ci := 10) (v := .int (sI s0 0)) (C := RX9) (T := TX9) (N := 20) hx hb hts hi_dm_X9_takeHalf_X9 hown hK hP 0 rfl rfl 1 (by decide) (hts (.fieldLink RX9 55 "TimeMachine$Reader" "at" "I") (List.mem_of_getElem? (i := 5) rfl)) (fun _ h9 => h9) rfl dX9_takeHalf_110 ?_
    refine lv_aload_n hx hb dX9_takeHalf_113 rfl (lv_at hl 0 rfl) ?_
    refine va_get (D := (dC, dI)) (ci := 10) (v := .int (sI s0 3)) (C := RX9) (T := TX9) (N := 20) hx hb hts hi_dm_X9_takeHalf_X9 hown hK hP 0 rfl rfl 4 (by decide) (hts (.fieldLink RX9 70 "TimeMachine$Reader" "from" "I") (List.mem_of_getElem? (i := 4) rfl)) (fun _ h9 => h9) rfl dX9_takeHalf_114 ?_
    refine lv_isub hx hb dX9_takeHalf_117 ?_
    obtain ⟨q7, s8, hq, h⟩ := nd_b2_e h
    have hPc := dp_vX9_BY_0 hP
    have hDc := dd_vX9_BY_0 hD
    have hKc := dy_vX9_BY_0 hK
    have hFc := nd_rs hDc hS hA
    have hzA : ∀ q : Nat, H.size ≤ q → A q := fun q h => hA q (Nat.le_trans hS.1 h)
    refine nd_cSi (As := [.ref (dI 1000 20), .ref (a 8), .int (sI s0 3), .int ((sI s0 0) - (sI s0 3))]) (rest := [.ref (a 0)]) (q := q7) (w' := dw_BY (fun k => a (nd_ix [8] k)) (fun k => ac (nd_ix [8] k)) s8) ⟨hx, hb, hml, hown, hts⟩ (fun sz => dm_X7_stands l hlt dC dI (fun k => a (nd_ix [8] k)) (fun k => ac (nd_ix [8] k)) n (20) ((sI s0 3)) (((sI s0 0) - (sI s0 3))) ((pR nd_st0 0 (sR s0 7))) hq sz) (va_cwS 4 hts gi_dm_X9_takeHalf_0 rfl rfl rfl (by decide +kernel) ⟨Nat.le_of_ble_eq_true rfl, Nat.le_of_ble_eq_true rfl⟩) hPc hDc hKc hS hA hN rfl hl.1 rfl (Nat.le_of_ble_eq_true rfl) dX9_takeHalf_118 (fun H locs hP1 hD1 hk1 hS => ?_)
    obtain ⟨hP, hD⟩ := dn_vX9_BY_0 hP hD hzA hk1 hP1 hD1
    obtain ⟨s10, es10, h⟩ := nd_let_e h
    have hP : va_P (dC, dI) vwCl (dw_X9 a ac s10) H := by rw [es10]; exact hP
    have hD : va_D A (dw_X9 a ac s10) := by rw [es10]; exact hD
    refine lv_if_eq (tgt := 128) hx hb dX9_takeHalf_121 (by decide) (fun c11 => ?_) (fun c11 => ?_)
    · have h := nd_pos h c11
      exact (db_X9_takeHalf_128 C K)  s10 _ _ _ h hP hD hS (lv_sub hl [] rfl)
    · have h := nd_neg h c11
      refine lv_iconst (v := 4) hx hb dX9_takeHalf_124 (by decide) ?_
      refine lv_goto (tgt := 130) hx hb dX9_takeHalf_125 (by decide) ?_
      exact (db_X9_takeHalf_130 C K) (4) s10 _ _ _ h hP hD hS (lv_sub hl [] rfl)
set_option maxHeartbeats 40000000 in
set_option maxRecDepth 100000 in
theorem db_X9_takeHalf_43 {p : Program} {l : Launch} {e : Env} {s : State} {m : MethodId} {args : Array Value} {below : List Frame} {meth : Method} {c : Code} {Q : State → Prop} {A : Nat → Prop} {dC : Nat → ClassId} {dI : Nat → Nat → Nat} {a : Nat → Nat} {ac : Nat → ClassId} {n : Nat} {r : St} (C : nd_C p l s m args c A (dC, dI) cX9_takeHalf 1 RX9 ow_dm_X9_takeHalf (dk_X9 ac)) (K : nd_Kv p l e (headSpec ow_dm_X9_takeHalf ({ frames := 5, cells := 0, slots := 0, locals := 109 })).room s m args below meth c Q A (dC, dI) cX9_takeHalf (St) (dw_X9 a ac) r) : dj_X9_takeHalf_43 p l e s m args below meth c Q A dC dI a ac (df_X9_takeHalf_43 n) r := by
  obtain ⟨hlt, hx, hb, hml, hown, hts, hN, hA, hK⟩ := id C
  intro y1 s0 H locs ls h hP hD hS hl
  unfold df_X9_takeHalf_43 at h
  refine va_put (D := (dC, dI)) (ci := 10) (v := .int y1) (ty := .int) (C := RX9) (T := TX9) (N := 20) hx hb hts hi_dm_X9_takeHalf_X9 tyX9 tyX9_ok nmX9 hown hK hP hD hS 0 rfl rfl 11 (by decide) (hts (.fieldLink RX9 119 "TimeMachine$Reader" "state" "I") (List.mem_of_getElem? (i := 1) rfl)) (fun _ h9 => h9) rfl (by decide +kernel) rfl rfl (Nat.le_of_ble_eq_true rfl) dX9_takeHalf_43 (fun H locs hP hD hS => ?_)
  obtain ⟨s28, es28, h⟩ := nd_let_e h
  have hP : va_P (dC, dI) vwCl (dw_X9 a ac s28) H := by rw [es28]; exact hP
  have hD : va_D A (dw_X9 a ac s28) := by rw [es28]; exact hD
  refine lv_goto (tgt := 133) hx hb dX9_takeHalf_46 (by decide) ?_
  exact (db_X9_takeHalf_133 C K)  s28 _ _ _ h hP hD hS (lv_sub hl [] rfl)
set_option maxHeartbeats 40000000 in
set_option maxRecDepth 100000 in
theorem db_X9_takeHalf_24 {p : Program} {l : Launch} {e : Env} {s : State} {m : MethodId} {args : Array Value} {below : List Frame} {meth : Method} {c : Code} {Q : State → Prop} {A : Nat → Prop} {dC : Nat → ClassId} {dI : Nat → Nat → Nat} {a : Nat → Nat} {ac : Nat → ClassId} {n : Nat} {r : St} (C : nd_C p l s m args c A (dC, dI) cX9_takeHalf 1 RX9 ow_dm_X9_takeHalf (dk_X9 ac)) (K : nd_Kv p l e (headSpec ow_dm_X9_takeHalf ({ frames := 5, cells := 0, slots := 0, locals := 109 })).room s m args below meth c Q A (dC, dI) cX9_takeHalf (St) (dw_X9 a ac) r) : dj_X9_takeHalf_24 p l e s m args below meth c Q A dC dI a ac (df_X9_takeHalf_24 n) r := by
  obtain ⟨hlt, hx, hb, hml, hown, hts, hN, hA, hK⟩ := id C
  intro y1 s0 H locs ls h hP hD hS hl
  unfold df_X9_takeHalf_24 at h
  obtain ⟨s22, hq, h⟩ := nd_b1_e h
  have hPc := hP
  have hDc := hD
  have hKc := hK
  have hFc := nd_rs hD hS hA
  refine nd_cVv (As := [.int y1]) (rest := []) (w' := dw_X9 a ac s22) ⟨hx, hb, hml, hown, hts⟩ (fun sz => dm_X9_push l hlt dC dI a ac n (y1) s0 hq sz) (cwV 1 hts gi_dm_X9_takeHalf_1 rfl rfl rfl (by decide +kernel) ⟨Nat.le_of_ble_eq_true rfl, Nat.le_of_ble_eq_true rfl⟩) hPc hDc hKc hS hA hN (va_recv hKc hPc (ci := 10) (q0 := 0) rfl rfl) rfl hl.1 rfl (Nat.le_of_ble_eq_true rfl) dX9_takeHalf_24 (fun H locs hP1 hD1 hk1 hS => ?_)
  have hP := hP1
  have hD := hD1.weaken (fun k q _ h => hFc q.1 h)
  refine lv_aload_n hx hb dX9_takeHalf_27 rfl (lv_at hl 0 rfl) ?_
  refine lv_aload_n hx hb dX9_takeHalf_28 rfl (lv_at hl 0 rfl) ?_
  refine lv_bipush (v := 40) hx hb dX9_takeHalf_29 (by decide) ?_
  obtain ⟨q24, s25, hq, h⟩ := nd_b2_e h
  have hPc := hP
  have hDc := hD
  have hKc := hK
  have hFc := nd_rs hD hS hA
  refine nd_cVi (As := [.int 40]) (rest := [.ref (a 0)]) (q := q24) (w' := dw_X9 a ac s25) ⟨hx, hb, hml, hown, hts⟩ (fun sz => dm_X9_isSign l hlt dC dI a ac n (40) s22 hq sz) (cwV 1 hts gi_dm_X9_takeHalf_2 rfl rfl rfl (by decide +kernel) ⟨Nat.le_of_ble_eq_true rfl, Nat.le_of_ble_eq_true rfl⟩) hPc hDc hKc hS hA hN (va_recv hKc hPc (ci := 10) (q0 := 0) rfl rfl) rfl hl.1 rfl (Nat.le_of_ble_eq_true rfl) dX9_takeHalf_31 (fun H locs hP1 hD1 hk1 hS => ?_)
  have hP := hP1
  have hD := hD1.weaken (fun k q _ h => hFc q.1 h)
  refine lv_if_eq (tgt := 41) hx hb dX9_takeHalf_34 (by decide) (fun c27 => ?_) (fun c27 => ?_)
  · have h := nd_pos h c27
    refine lv_bipush (v := 6) hx hb dX9_takeHalf_41 (by decide) ?_
    exact (db_X9_takeHalf_43 C K) (6) s25 _ _ _ h hP hD hS (lv_sub hl [] rfl)
  · have h := nd_neg h c27
    refine lv_iconst (v := 0) hx hb dX9_takeHalf_37 (by decide) ?_
    refine lv_goto (tgt := 43) hx hb dX9_takeHalf_38 (by decide) ?_
    exact (db_X9_takeHalf_43 C K) (0) s25 _ _ _ h hP hD hS (lv_sub hl [] rfl)
set_option maxHeartbeats 40000000 in
set_option maxRecDepth 100000 in
theorem db_X9_takeHalf_0 {p : Program} {l : Launch} {e : Env} {s : State} {m : MethodId} {args : Array Value} {below : List Frame} {meth : Method} {c : Code} {Q : State → Prop} {A : Nat → Prop} {dC : Nat → ClassId} {dI : Nat → Nat → Nat} {a : Nat → Nat} {ac : Nat → ClassId} {n : Nat} {r : St} (C : nd_C p l s m args c A (dC, dI) cX9_takeHalf 1 RX9 ow_dm_X9_takeHalf (dk_X9 ac)) (K : nd_Kv p l e (headSpec ow_dm_X9_takeHalf ({ frames := 5, cells := 0, slots := 0, locals := 109 })).room s m args below meth c Q A (dC, dI) cX9_takeHalf (St) (dw_X9 a ac) r) : dj_X9_takeHalf_0 p l e s m args below meth c Q A dC dI a ac (df_X9_takeHalf_0 n) r := by
  obtain ⟨hlt, hx, hb, hml, hown, hts, hN, hA, hK⟩ := id C
  intro s0 H locs ls h hP hD hS hl
  unfold df_X9_takeHalf_0 at h
  refine lv_aload_n hx hb dX9_takeHalf_0 rfl (lv_at hl 0 rfl) ?_
  refine va_get (D := (dC, dI)) (ci := 10) (v := .int (sI s0 7)) (C := RX9) (T := TX9) (N := 20) hx hb hts hi_dm_X9_takeHalf_X9 hown hK hP 0 rfl rfl 11 (by decide) (hts (.fieldLink RX9 119 "TimeMachine$Reader" "state" "I") (List.mem_of_getElem? (i := 1) rfl)) (fun _ h9 => h9) rfl dX9_takeHalf_1 ?_
  refine lv_iconst (v := 2) hx hb dX9_takeHalf_4 (by decide) ?_
  refine lv_icmp_eq (tgt := 49) hx hb dX9_takeHalf_5 (by decide) (fun c1 => ?_) (fun c1 => ?_)
  · have h := nd_pos h c1
    refine lv_aload_n hx hb dX9_takeHalf_49 rfl (lv_at hl 0 rfl) ?_
    refine va_get (D := (dC, dI)) (ci := 10) (v := .int (sI s0 2)) (C := RX9) (T := TX9) (N := 20) hx hb hts hi_dm_X9_takeHalf_X9 hown hK hP 0 rfl rfl 3 (by decide) (hts (.fieldLink RX9 73 "TimeMachine$Reader" "kind" "I") (List.mem_of_getElem? (i := 2) rfl)) (fun _ h9 => h9) rfl dX9_takeHalf_50 ?_
    refine lv_iconst (v := 1) hx hb dX9_takeHalf_53 (by decide) ?_
    refine lv_icmp_ne (tgt := 90) hx hb dX9_takeHalf_54 (by decide) (fun c2 => ?_) (fun c2 => ?_)
    · have h := nd_neg h c2
      exact (db_X9_takeHalf_90 C K)  s0 _ _ _ h hP hD hS (lv_sub hl [0] rfl)
    · have h := nd_pos h c2
      have z12 : vk_R RX9 147 "hi" (dI 1000 19) s := hN.2.2.2.2.2.2.2.2.2.2.2.2.1 19 (by decide)
      refine va_ldcS hx hb hown z12 dX9_takeHalf_57 ?_
      refine lv_aload_n hx hb dX9_takeHalf_59 rfl (lv_at hl 0 rfl) ?_
      obtain ⟨o13, h⟩ := nd_o_e h
      refine va_get (D := (dC, dI)) (ci := 10) (v := .ref (a 8)) (C := RX9) (T := TX9) (N := 20) hx hb hts hi_dm_X9_takeHalf_X9 hown hK hP 0 rfl rfl 0 (by decide) (hts (.fieldLink RX9 9 "TimeMachine$Reader" "source" "[B") (List.mem_of_getElem? (i := 3) rfl)) (fun _ h9 => h9) (congrArg (fun z => some (va_rf (Option.map a z))) o13) dX9_takeHalf_60 ?_
      refine lv_aload_n hx hb dX9_takeHalf_63 rfl (lv_at hl 0 rfl) ?_
      refine va_get (D := (dC, dI)) (ci := 10) (v := .int (sI s0 3)) (C := RX9) (T := TX9) (N := 20) hx hb hts hi_dm_X9_takeHalf_X9 hown hK hP 0 rfl rfl 4 (by decide) (hts (.fieldLink RX9 70 "TimeMachine$Reader" "from" "I") (List.mem_of_getElem? (i := 4) rfl)) (fun _ h9 => h9) rfl dX9_takeHalf_64 ?_
      refine lv_aload_n hx hb dX9_takeHalf_67 rfl (lv_at hl 0 rfl) ?_
      refine va_get (D := (dC, dI)) (ci := 10) (v := .int (sI s0 0)) (C := RX9) (T := TX9) (N := 20) hx hb hts hi_dm_X9_takeHalf_X9 hown hK hP 0 rfl rfl 1 (by decide) (hts (.fieldLink RX9 55 "TimeMachine$Reader" "at" "I") (List.mem_of_getElem? (i := 5) rfl)) (fun _ h9 => h9) rfl dX9_takeHalf_68 ?_
      refine lv_aload_n hx hb dX9_takeHalf_71 rfl (lv_at hl 0 rfl) ?_
      refine va_get (D := (dC, dI)) (ci := 10) (v := .int (sI s0 3)) (C := RX9) (T := TX9) (N := 20) hx hb hts hi_dm_X9_takeHalf_X9 hown hK hP 0 rfl rfl 4 (by decide) (hts (.fieldLink RX9 70 "TimeMachine$Reader" "from" "I") (List.mem_of_getElem? (i := 4) rfl)) (fun _ h9 => h9) rfl dX9_takeHalf_72 ?_
      refine lv_isub hx hb dX9_takeHalf_75 ?_
      obtain ⟨q14, s15, hq, h⟩ := nd_b2_e h
      have hPc := dp_vX9_BY_0 hP
      have hDc := dd_vX9_BY_0 hD
      have hKc := dy_vX9_BY_0 hK
      have hFc := nd_rs hDc hS hA
      have hzA : ∀ q : Nat, H.size ≤ q → A q := fun q h => hA q (Nat.le_trans hS.1 h)
      refine nd_cSi (As := [.ref (dI 1000 19), .ref (a 8), .int (sI s0 3), .int ((sI s0 0) - (sI s0 3))]) (rest := []) (q := q14) (w' := dw_BY (fun k => a (nd_ix [8] k)) (fun k => ac (nd_ix [8] k)) s15) ⟨hx, hb, hml, hown, hts⟩ (fun sz => dm_X7_stands l hlt dC dI (fun k => a (nd_ix [8] k)) (fun k => ac (nd_ix [8] k)) n (19) ((sI s0 3)) (((sI s0 0) - (sI s0 3))) ((pR nd_st0 0 (sR s0 7))) hq sz) (va_cwS 4 hts gi_dm_X9_takeHalf_0 rfl rfl rfl (by decide +kernel) ⟨Nat.le_of_ble_eq_true rfl, Nat.le_of_ble_eq_true rfl⟩) hPc hDc hKc hS hA hN rfl hl.1 rfl (Nat.le_of_ble_eq_true rfl) dX9_takeHalf_76 (fun H locs hP1 hD1 hk1 hS => ?_)
      obtain ⟨hP, hD⟩ := dn_vX9_BY_0 hP hD hzA hk1 hP1 hD1
      obtain ⟨s17, es17, h⟩ := nd_let_e h
      have hP : va_P (dC, dI) vwCl (dw_X9 a ac s17) H := by rw [es17]; exact hP
      have hD : va_D A (dw_X9 a ac s17) := by rw [es17]; exact hD
      refine lv_if_eq (tgt := 90) hx hb dX9_takeHalf_79 (by decide) (fun c18 => ?_) (fun c18 => ?_)
      · have h := nd_pos h c18
        exact (db_X9_takeHalf_90 C K)  s17 _ _ _ h hP hD hS (lv_sub hl [0] rfl)
      · have h := nd_neg h c18
        refine lv_aload_n hx hb dX9_takeHalf_82 rfl (lv_at hl 0 rfl) ?_
        refine lv_iconst (v := 3) hx hb dX9_takeHalf_83 (by decide) ?_
        refine va_put (D := (dC, dI)) (ci := 10) (v := .int 3) (ty := .int) (C := RX9) (T := TX9) (N := 20) hx hb hts hi_dm_X9_takeHalf_X9 tyX9 tyX9_ok nmX9 hown hK hP hD hS 0 rfl rfl 11 (by decide) (hts (.fieldLink RX9 119 "TimeMachine$Reader" "state" "I") (List.mem_of_getElem? (i := 1) rfl)) (fun _ h9 => h9) rfl (by decide +kernel) rfl rfl (Nat.le_of_ble_eq_true rfl) dX9_takeHalf_84 (fun H locs hP hD hS => ?_)
        obtain ⟨s19, es19, h⟩ := nd_let_e h
        have hP : va_P (dC, dI) vwCl (dw_X9 a ac s19) H := by rw [es19]; exact hP
        have hD : va_D A (dw_X9 a ac s19) := by rw [es19]; exact hD
        refine lv_goto (tgt := 133) hx hb dX9_takeHalf_87 (by decide) ?_
        exact (db_X9_takeHalf_133 C K)  s19 _ _ _ h hP hD hS (lv_sub hl [] rfl)
  · have h := nd_neg h c1
    refine lv_aload_n hx hb dX9_takeHalf_8 rfl (lv_at hl 0 rfl) ?_
    refine lv_aload_n hx hb dX9_takeHalf_9 rfl (lv_at hl 0 rfl) ?_
    refine va_get (D := (dC, dI)) (ci := 10) (v := .int (sI s0 7)) (C := RX9) (T := TX9) (N := 20) hx hb hts hi_dm_X9_takeHalf_X9 hown hK hP 0 rfl rfl 11 (by decide) (hts (.fieldLink RX9 119 "TimeMachine$Reader" "state" "I") (List.mem_of_getElem? (i := 1) rfl)) (fun _ h9 => h9) rfl dX9_takeHalf_10 ?_
    refine lv_iconst (v := 3) hx hb dX9_takeHalf_13 (by decide) ?_
    refine lv_icmp_ne (tgt := 22) hx hb dX9_takeHalf_14 (by decide) (fun c20 => ?_) (fun c20 => ?_)
    · have h := nd_neg h c20
      refine lv_bipush (v := 14) hx hb dX9_takeHalf_22 (by decide) ?_
      exact (db_X9_takeHalf_24 C K) (14) s0 _ _ _ h hP hD hS (lv_sub hl [0] rfl)
    · have h := nd_pos h c20
      refine lv_bipush (v := 13) hx hb dX9_takeHalf_17 (by decide) ?_
      refine lv_goto (tgt := 24) hx hb dX9_takeHalf_19 (by decide) ?_
      exact (db_X9_takeHalf_24 C K) (13) s0 _ _ _ h hP hD hS (lv_sub hl [0] rfl)
set_option maxHeartbeats 40000000 in
set_option maxRecDepth 100000 in
theorem dm_X9_takeHalf (l : Launch) (hlt : l.stackTraces = false) (dC : Nat → ClassId) (dI : Nat → Nat → Nat) (a : Nat → Nat) (ac : Nat → ClassId) (n : Nat) (s0 : St) {r : St} (h : df_X9_takeHalf n s0 = some r) (sz : Nat) : Met l yX9_takeHalf ow_dm_X9_takeHalf ({ frames := 5, cells := 0, slots := 0, locals := 109 }) (va_Pc [.ref (a 0)] (fun U => U.heap.size = sz ∧ va_P (dC, dI) vwCl (dw_X9 a ac s0) U.heap ∧ va_K (dC, dI) vwCl (dk_X9 ac) U ∧ va_D (fun _ => True) (dw_X9 a ac s0) ∧ nv_E dI (va_A (dw_X9 a ac s0) sz) U)) (va_Qv (fun _ => True) (fun (_ : Unit) t => va_P (dC, dI) vwCl (dw_X9 a ac r) t.heap ∧ va_K (dC, dI) vwCl (dk_X9 ac) t ∧ va_D (va_A (dw_X9 a ac s0) sz) (dw_X9 a ac r)) (va_A (dw_X9 a ac s0) sz)) 0 0 (va_A (dw_X9 a ac s0) sz) := by
  refine Met.ofW (cc := cX9_takeHalf) (maxL := 1) (ret := none) (by decide) rfl ?_
  intro p e s m args below meth c s₁ B hml hv
  obtain ⟨rfl, hsz, hP, hK, hD0, hN⟩ := hv
  have hx := B.exec
  have hb := B.bytes
  have hr := B.returns
  have hts := atoms_spec (ws := ow_dm_X9_takeHalf) B.pre
  have hown : s.vm.findClass RX9 = some m.cls := findClass_of_methodNamed B.named
  have hlocks := B.notSynchronized
  subst hsz
  have hD := hD0.self (sz := s.heap.size)
  generalize hAe : va_A (dw_X9 a ac s0) s.heap.size = A at hD hN ⊢
  have hA : ∀ q : Nat, s.heap.size ≤ q → A q := fun q h => by rw [← hAe]; exact Or.inr h
  have hl := lv_entry ([.ref (a 0)]) (n := 1) (Nat.le_of_ble_eq_true rfl)
  rw [lg_entry_eq]
  generalize (lg_sl ([.ref (a 0)]) ++ List.replicate (1 - (lg_sl ([.ref (a 0)])).length) Slot.unset).toArray = ls at hl ⊢
  have hl : lv_has ls 1 [(0, .ref (a 0))] := hl
  exact db_X9_takeHalf_0 (dC := dC) (dI := dI) (a := a) (ac := ac) (n := n) (r := r) ⟨hlt, hx, hb, hml, hown, hts, hN, hA, hK⟩ (fun pc τ H locs ls d er hP hD hS => by subst er; exact W.vret hx hb hr (fun t ht hW => ⟨⟨(), rfl, trivial, by rw [ht]; exact hP, va_K.moved hW.alike hK, hD⟩, hS.F ht⟩) hS.2.2 d) s0 _ _ _ h hP hD va_S.rf (lv_sub hl [0] rfl)
def ow_dm_X9_popTo : List Cond := Cond.code yX9_popTo cX9_popTo 2 none :: ([Cond.fieldLink RX9 112 "TimeMachine$Reader" "top" "I", Cond.fieldLink RX9 23 "TimeMachine$Reader" "stack" "[I", Cond.fieldLink RX9 160 "TimeMachine$Reader" "RANK" "[I", Cond.methodLink RX9 131 yX9_emit, Cond.instanceMethod yX9_emit, Cond.selects RX9 yX9_emit yX9_emit, Cond.initialized RX9] ++ (u_ws RX9 TX9 20 ++ (ow_dm_X9_emit ++ [])))
theorem gd_dm_X9_popTo : ∀ w ∈ ow_dm_X9_popTo, (w.onTables && w.keeps) = true ∨ ∃ ty, w = Cond.arrayClass ty := List.forall_mem_cons.mpr ⟨good_of_word rfl, List.forall_mem_append.mpr ⟨fun w h => good_of_word (List.all_eq_true.mp (by decide +kernel) w h), List.forall_mem_append.mpr ⟨gu_X9, List.forall_mem_append.mpr ⟨gd_dm_X9_emit, fun _ h => nomatch h⟩⟩⟩⟩
theorem hi_dm_X9_popTo_X9 : ∀ w ∈ u_ws RX9 TX9 20, w ∈ ow_dm_X9_popTo := fun w h => List.mem_cons_of_mem _ (List.mem_append_right _ (List.mem_append_left _ h))
theorem gi_dm_X9_popTo_0 : GoodIn ow_dm_X9_popTo (wsV RX9 131 RX9 yX9_emit ow_dm_X9_emit) := goodIn_app (goodIn_of _ (by decide +kernel)) (fun w h => ⟨List.mem_cons_of_mem _ (List.mem_append_right _ (List.mem_append_right _ (List.mem_append_left _ h))), gd_dm_X9_emit w h⟩)
def dj_X9_popTo_69 (p : Program) (l : Launch) (e : Env) (s : State) (m : MethodId) (args : Array Value) (below : List Frame) (meth : Method) (c : Code) (Q : State → Prop) (A : Nat → Prop) (dC : Nat → ClassId) (dI : Nat → Nat → Nat) (a : Nat → Nat) (ac : Nat → ClassId) (g : (St) → Option (St)) (r : St) : Prop := ∀ (s0 : St) (H : Heap) (locs : List Loc) (ls : Array Slot), g s0 = some r → va_P (dC, dI) vwCl (dw_X9 a ac s0) H → va_D A (dw_X9 a ac s0) → va_S A s.heap H locs → lv_has ls 2 [] → W p l e (headSpec ow_dm_X9_popTo ({ frames := 1, cells := 0, slots := 0, locals := 22 })).room s m args below meth c H locs 0 0 Q (F0 m 69 ls [])
def dj_X9_popTo_0 (p : Program) (l : Launch) (e : Env) (s : State) (m : MethodId) (args : Array Value) (below : List Frame) (meth : Method) (c : Code) (Q : State → Prop) (A : Nat → Prop) (dC : Nat → ClassId) (dI : Nat → Nat → Nat) (a : Nat → Nat) (ac : Nat → ClassId) (g : Int32 → (St) → Option (St)) (r : St) : Prop := ∀ (x1 : Int32) (s0 : St) (H : Heap) (locs : List Loc) (ls : Array Slot), g x1 s0 = some r → va_P (dC, dI) vwCl (dw_X9 a ac s0) H → va_D A (dw_X9 a ac s0) → va_S A s.heap H locs → lv_has ls 2 [(0, .ref (a 0)), (1, .int x1)] → W p l e (headSpec ow_dm_X9_popTo ({ frames := 1, cells := 0, slots := 0, locals := 22 })).room s m args below meth c H locs 0 0 Q (F0 m 0 ls [])
set_option maxHeartbeats 40000000 in
set_option maxRecDepth 100000 in
theorem db_X9_popTo_69 {p : Program} {l : Launch} {e : Env} {s : State} {m : MethodId} {args : Array Value} {below : List Frame} {meth : Method} {c : Code} {Q : State → Prop} {A : Nat → Prop} {dC : Nat → ClassId} {dI : Nat → Nat → Nat} {a : Nat → Nat} {ac : Nat → ClassId} {n : Nat} {r : St} (C : nd_C p l s m args c A (dC, dI) cX9_popTo 2 RX9 ow_dm_X9_popTo (dk_X9 ac)) (K : nd_Kv p l e (headSpec ow_dm_X9_popTo ({ frames := 1, cells := 0, slots := 0, locals := 22 })).room s m args below meth c Q A (dC, dI) cX9_popTo (St) (dw_X9 a ac) r) : dj_X9_popTo_69 p l e s m args below meth c Q A dC dI a ac (df_X9_popTo_69 n) r := by
  obtain ⟨hlt, hx, hb, hml, hown, hts, hN, hA, hK⟩ := id C
  intro s0 H locs ls h hP hD hS hl
  unfold df_X9_popTo_69 at h
  exact K _ _ _ _ _ dX9_popTo_69 (Option.some.inj h).symm hP hD hS
set_option maxHeartbeats 40000000 in
set_option maxRecDepth 100000 in
theorem dB_X9_popTo_0 {p : Program} {l : Launch} {e : Env} {s : State} {m : MethodId} {args : Array Value} {below : List Frame} {meth : Method} {c : Code} {Q : State → Prop} {A : Nat → Prop} {dC : Nat → ClassId} {dI : Nat → Nat → Nat} {a : Nat → Nat} {ac : Nat → ClassId} {n : Nat} {r : St} (C : nd_C p l s m args c A (dC, dI) cX9_popTo 2 RX9 ow_dm_X9_popTo (dk_X9 ac)) (K : nd_Kv p l e (headSpec ow_dm_X9_popTo ({ frames := 1, cells := 0, slots := 0, locals := 22 })).room s m args below meth c Q A (dC, dI) cX9_popTo (St) (dw_X9 a ac) r) {g0 : Int32 → (St) → Option (St)} (J0 : dj_X9_popTo_0 p l e s m args below meth c Q A dC dI a ac g0 r) : dj_X9_popTo_0 p l e s m args below meth c Q A dC dI a ac (dF_X9_popTo_0 n g0) r := by
  obtain ⟨hlt, hx, hb, hml, hown, hts, hN, hA, hK⟩ := id C
  intro x1 s0 H locs ls h hP hD hS hl
  unfold dF_X9_popTo_0 at h
  refine lv_aload_n hx hb dX9_popTo_0 rfl (lv_at hl 0 rfl) ?_
  refine va_get (D := (dC, dI)) (ci := 10) (v := .int (sI s0 6)) (C := RX9) (T := TX9) (N := 20) hx hb hts hi_dm_X9_popTo_X9 hown hK hP 0 rfl rfl 10 (by decide) (hts (.fieldLink RX9 112 "TimeMachine$Reader" "top" "I") (List.mem_of_getElem? (i := 1) rfl)) (fun _ h9 => h9) rfl dX9_popTo_1 ?_
  refine lv_if_le (tgt := 69) hx hb dX9_popTo_4 (by decide) (fun c1 => ?_) (fun c1 => ?_)
  · have h := nd_pos h c1
    exact (db_X9_popTo_69 C K)  s0 _ _ _ h hP hD hS (lv_sub hl [] rfl)
  · have h := nd_neg h c1
    refine lv_aload_n hx hb dX9_popTo_7 rfl (lv_at hl 0 rfl) ?_
    refine va_get (D := (dC, dI)) (ci := 10) (v := .ref (a 3)) (C := RX9) (T := TX9) (N := 20) hx hb hts hi_dm_X9_popTo_X9 hown hK hP 0 rfl rfl 9 (by decide) (hts (.fieldLink RX9 23 "TimeMachine$Reader" "stack" "[I") (List.mem_of_getElem? (i := 2) rfl)) (fun _ h9 => h9) rfl dX9_popTo_8 ?_
    refine lv_aload_n hx hb dX9_popTo_11 rfl (lv_at hl 0 rfl) ?_
    refine va_get (D := (dC, dI)) (ci := 10) (v := .int (sI s0 6)) (C := RX9) (T := TX9) (N := 20) hx hb hts hi_dm_X9_popTo_X9 hown hK hP 0 rfl rfl 10 (by decide) (hts (.fieldLink RX9 112 "TimeMachine$Reader" "top" "I") (List.mem_of_getElem? (i := 1) rfl)) (fun _ h9 => h9) rfl dX9_popTo_12 ?_
    refine lv_iconst (v := 1) hx hb dX9_popTo_15 (by decide) ?_
    refine lv_isub hx hb dX9_popTo_16 ?_
    obtain ⟨i2, h⟩ := nd_ck_e h
    refine va_iald (i := ((sI s0 6) - 1)) hx hb hK hP 3 2 rfl rfl i2 dX9_popTo_17 ?_
    refine lv_bipush (v := 13) hx hb dX9_popTo_18 (by decide) ?_
    refine lv_icmp_ge (tgt := 69) hx hb dX9_popTo_20 (by decide) (fun c3 => ?_) (fun c3 => ?_)
    · have h := nd_pos h c3
      exact (db_X9_popTo_69 C K)  s0 _ _ _ h hP hD hS (lv_sub hl [] rfl)
    · have h := nd_neg h c3
      obtain ⟨b4, zb4, xb4, lb4, wb4⟩ := hN.2.2.2.2.2.2.2.2.2.2.1 nv_A2 (List.mem_of_getElem? (i := 2) rfl)
      have zb4 : va_Z "TimeMachine$Reader" "RANK" "[I" (.ref b4) A s s.heap := zb4
      have xb4 : va_X b4 13 tb_2 s s.heap := xb4
      refine va_gets (v := .ref b4) hx hb zb4 hS hown (hts (.fieldLink RX9 160 "TimeMachine$Reader" "RANK" "[I") (List.mem_of_getElem? (i := 3) rfl)) (fun _ h9 => h9) dX9_popTo_23 ?_
      refine lv_aload_n hx hb dX9_popTo_26 rfl (lv_at hl 0 rfl) ?_
      refine va_get (D := (dC, dI)) (ci := 10) (v := .ref (a 3)) (C := RX9) (T := TX9) (N := 20) hx hb hts hi_dm_X9_popTo_X9 hown hK hP 0 rfl rfl 9 (by decide) (hts (.fieldLink RX9 23 "TimeMachine$Reader" "stack" "[I") (List.mem_of_getElem? (i := 2) rfl)) (fun _ h9 => h9) rfl dX9_popTo_27 ?_
      refine lv_aload_n hx hb dX9_popTo_30 rfl (lv_at hl 0 rfl) ?_
      refine va_get (D := (dC, dI)) (ci := 10) (v := .int (sI s0 6)) (C := RX9) (T := TX9) (N := 20) hx hb hts hi_dm_X9_popTo_X9 hown hK hP 0 rfl rfl 10 (by decide) (hts (.fieldLink RX9 112 "TimeMachine$Reader" "top" "I") (List.mem_of_getElem? (i := 1) rfl)) (fun _ h9 => h9) rfl dX9_popTo_31 ?_
      refine lv_iconst (v := 1) hx hb dX9_popTo_34 (by decide) ?_
      refine lv_isub hx hb dX9_popTo_35 ?_
      obtain ⟨i5, h⟩ := nd_ck_e h
      refine va_iald (i := ((sI s0 6) - 1)) hx hb hK hP 3 2 rfl rfl i5 dX9_popTo_36 ?_
      obtain ⟨i6, h⟩ := nd_ck_e h
      refine va_sld (i := (sR s0 2 (Int32.toNatClampNeg ((sI s0 6) - 1)))) hx hb xb4 lb4 wb4 hS i6 dX9_popTo_37 ?_
      refine lv_iload_n hx hb dX9_popTo_38 rfl (lv_at hl 1 rfl) ?_
      refine lv_icmp_lt (tgt := 69) hx hb dX9_popTo_39 (by decide) (fun c7 => ?_) (fun c7 => ?_)
      · have h := nd_pos h c7
        exact (db_X9_popTo_69 C K)  s0 _ _ _ h hP hD hS (lv_sub hl [] rfl)
      · have h := nd_neg h c7
        refine lv_aload_n hx hb dX9_popTo_42 rfl (lv_at hl 0 rfl) ?_
        refine lv_dup hx hb dX9_popTo_43 rfl ?_
        refine va_get (D := (dC, dI)) (ci := 10) (v := .int (sI s0 6)) (C := RX9) (T := TX9) (N := 20) hx hb hts hi_dm_X9_popTo_X9 hown hK hP 0 rfl rfl 10 (by decide) (hts (.fieldLink RX9 112 "TimeMachine$Reader" "top" "I") (List.mem_of_getElem? (i := 1) rfl)) (fun _ h9 => h9) rfl dX9_popTo_44 ?_
        refine lv_iconst (v := 1) hx hb dX9_popTo_47 (by decide) ?_
        refine lv_isub hx hb dX9_popTo_48 ?_
        refine va_put (D := (dC, dI)) (ci := 10) (v := .int ((sI s0 6) - 1)) (ty := .int) (C := RX9) (T := TX9) (N := 20) hx hb hts hi_dm_X9_popTo_X9 tyX9 tyX9_ok nmX9 hown hK hP hD hS 0 rfl rfl 10 (by decide) (hts (.fieldLink RX9 112 "TimeMachine$Reader" "top" "I") (List.mem_of_getElem? (i := 1) rfl)) (fun _ h9 => h9) rfl (by decide +kernel) rfl rfl (Nat.le_of_ble_eq_true rfl) dX9_popTo_49 (fun H locs hP hD hS => ?_)
        obtain ⟨s8, es8, h⟩ := nd_let_e h
        have hP : va_P (dC, dI) vwCl (dw_X9 a ac s8) H := by rw [es8]; exact hP
        have hD : va_D A (dw_X9 a ac s8) := by rw [es8]; exact hD
        refine lv_aload_n hx hb dX9_popTo_52 rfl (lv_at hl 0 rfl) ?_
        refine lv_aload_n hx hb dX9_popTo_53 rfl (lv_at hl 0 rfl) ?_
        refine va_get (D := (dC, dI)) (ci := 10) (v := .ref (a 3)) (C := RX9) (T := TX9) (N := 20) hx hb hts hi_dm_X9_popTo_X9 hown hK hP 0 rfl rfl 9 (by decide) (hts (.fieldLink RX9 23 "TimeMachine$Reader" "stack" "[I") (List.mem_of_getElem? (i := 2) rfl)) (fun _ h9 => h9) rfl dX9_popTo_54 ?_
        refine lv_aload_n hx hb dX9_popTo_57 rfl (lv_at hl 0 rfl) ?_
        refine va_get (D := (dC, dI)) (ci := 10) (v := .int (sI s8 6)) (C := RX9) (T := TX9) (N := 20) hx hb hts hi_dm_X9_popTo_X9 hown hK hP 0 rfl rfl 10 (by decide) (hts (.fieldLink RX9 112 "TimeMachine$Reader" "top" "I") (List.mem_of_getElem? (i := 1) rfl)) (fun _ h9 => h9) rfl dX9_popTo_58 ?_
        obtain ⟨i9, h⟩ := nd_ck_e h
        refine va_iald (i := (sI s8 6)) hx hb hK hP 3 2 rfl rfl i9 dX9_popTo_61 ?_
        refine lv_iconst (v := 0) hx hb dX9_popTo_62 (by decide) ?_
        obtain ⟨s11, hq, h⟩ := nd_b1_e h
        have hPc := hP
        have hDc := hD
        have hKc := hK
        have hFc := nd_rs hD hS hA
        refine nd_cVv (As := [.int (sR s8 2 (Int32.toNatClampNeg (sI s8 6))), .int 0]) (rest := []) (w' := dw_X9 a ac s11) ⟨hx, hb, hml, hown, hts⟩ (fun sz => dm_X9_emit l hlt dC dI a ac n ((sR s8 2 (Int32.toNatClampNeg (sI s8 6)))) (0) s8 hq sz) (cwV 2 hts gi_dm_X9_popTo_0 rfl rfl rfl (by decide +kernel) ⟨Nat.le_of_ble_eq_true rfl, Nat.le_of_ble_eq_true rfl⟩) hPc hDc hKc hS hA hN (va_recv hKc hPc (ci := 10) (q0 := 0) rfl rfl) rfl hl.1 rfl (Nat.le_of_ble_eq_true rfl) dX9_popTo_63 (fun H locs hP1 hD1 hk1 hS => ?_)
        have hP := hP1
        have hD := hD1.weaken (fun k q _ h => hFc q.1 h)
        refine lv_goto (tgt := 0) hx hb dX9_popTo_66 (by decide) ?_
        exact (J0) (x1) s11 _ _ _ h hP hD hS (lv_sub hl [0, 1] rfl)
set_option maxHeartbeats 40000000 in
set_option maxRecDepth 100000 in
theorem db_X9_popTo_0 {p : Program} {l : Launch} {e : Env} {s : State} {m : MethodId} {args : Array Value} {below : List Frame} {meth : Method} {c : Code} {Q : State → Prop} {A : Nat → Prop} {dC : Nat → ClassId} {dI : Nat → Nat → Nat} {a : Nat → Nat} {ac : Nat → ClassId} {n : Nat} {r : St} (C : nd_C p l s m args c A (dC, dI) cX9_popTo 2 RX9 ow_dm_X9_popTo (dk_X9 ac)) (K : nd_Kv p l e (headSpec ow_dm_X9_popTo ({ frames := 1, cells := 0, slots := 0, locals := 22 })).room s m args below meth c Q A (dC, dI) cX9_popTo (St) (dw_X9 a ac) r) (k : Nat) : dj_X9_popTo_0 p l e s m args below meth c Q A dC dI a ac (df_X9_popTo_0 n k) r := by
  induction k with
  | zero => intro x1 s0 H locs ls h; exact nomatch (show (none : Option (St)) = some r from h)
  | succ k ih => exact dB_X9_popTo_0 C K ih
set_option maxHeartbeats 40000000 in
set_option maxRecDepth 100000 in
theorem dm_X9_popTo (l : Launch) (hlt : l.stackTraces = false) (dC : Nat → ClassId) (dI : Nat → Nat → Nat) (a : Nat → Nat) (ac : Nat → ClassId) (n : Nat) (v0 : Int32) (s0 : St) {r : St} (h : df_X9_popTo n v0 s0 = some r) (sz : Nat) : Met l yX9_popTo ow_dm_X9_popTo ({ frames := 1, cells := 0, slots := 0, locals := 22 }) (va_Pc [.ref (a 0), .int v0] (fun U => U.heap.size = sz ∧ va_P (dC, dI) vwCl (dw_X9 a ac s0) U.heap ∧ va_K (dC, dI) vwCl (dk_X9 ac) U ∧ va_D (fun _ => True) (dw_X9 a ac s0) ∧ nv_E dI (va_A (dw_X9 a ac s0) sz) U)) (va_Qv (fun _ => True) (fun (_ : Unit) t => va_P (dC, dI) vwCl (dw_X9 a ac r) t.heap ∧ va_K (dC, dI) vwCl (dk_X9 ac) t ∧ va_D (va_A (dw_X9 a ac s0) sz) (dw_X9 a ac r)) (va_A (dw_X9 a ac s0) sz)) 0 0 (va_A (dw_X9 a ac s0) sz) := by
  refine Met.ofW (cc := cX9_popTo) (maxL := 2) (ret := none) (by decide) rfl ?_
  intro p e s m args below meth c s₁ B hml hv
  obtain ⟨rfl, hsz, hP, hK, hD0, hN⟩ := hv
  have hx := B.exec
  have hb := B.bytes
  have hr := B.returns
  have hts := atoms_spec (ws := ow_dm_X9_popTo) B.pre
  have hown : s.vm.findClass RX9 = some m.cls := findClass_of_methodNamed B.named
  have hlocks := B.notSynchronized
  subst hsz
  have hD := hD0.self (sz := s.heap.size)
  generalize hAe : va_A (dw_X9 a ac s0) s.heap.size = A at hD hN ⊢
  have hA : ∀ q : Nat, s.heap.size ≤ q → A q := fun q h => by rw [← hAe]; exact Or.inr h
  have hl := lv_entry ([.ref (a 0), .int v0]) (n := 2) (Nat.le_of_ble_eq_true rfl)
  rw [lg_entry_eq]
  generalize (lg_sl ([.ref (a 0), .int v0]) ++ List.replicate (2 - (lg_sl ([.ref (a 0), .int v0])).length) Slot.unset).toArray = ls at hl ⊢
  have hl : lv_has ls 2 [(0, .ref (a 0)), (1, .int v0)] := hl
  exact db_X9_popTo_0 (dC := dC) (dI := dI) (a := a) (ac := ac) (n := n) (r := r) ⟨hlt, hx, hb, hml, hown, hts, hN, hA, hK⟩ (fun pc τ H locs ls d er hP hD hS => by subst er; exact W.vret hx hb hr (fun t ht hW => ⟨⟨(), rfl, trivial, by rw [ht]; exact hP, va_K.moved hW.alike hK, hD⟩, hS.F ht⟩) hS.2.2 d) n v0 s0 _ _ _ h hP hD va_S.rf (lv_sub hl [0, 1] rfl)
def ow_dm_X9_binary : List Cond := Cond.code yX9_binary cX9_binary 1 (some .int) :: ([] ++ [])
theorem gd_dm_X9_binary : ∀ w ∈ ow_dm_X9_binary, (w.onTables && w.keeps) = true ∨ ∃ ty, w = Cond.arrayClass ty := List.forall_mem_cons.mpr ⟨good_of_word rfl, List.forall_mem_append.mpr ⟨fun w h => good_of_word (List.all_eq_true.mp (by decide +kernel) w h), fun _ h => nomatch h⟩⟩
def dj_X9_binary_0 (p : Program) (l : Launch) (e : Env) (s : State) (m : MethodId) (args : Array Value) (below : List Frame) (meth : Method) (c : Code) (Q : State → Prop) (A : Nat → Prop) (dC : Nat → ClassId) (dI : Nat → Nat → Nat) (a : Nat → Nat) (ac : Nat → ClassId) (g : Int32 → (Unit) → Option (Int32 × (Unit))) (r : Int32 × (Unit)) : Prop := ∀ (v0 : Int32) (s0 : Unit) (H : Heap) (locs : List Loc) (ls : Array Slot), g v0 s0 = some r → va_P (dC, dI) vwCl (dw_P a ac s0) H → va_D A (dw_P a ac s0) → va_S A s.heap H locs → lv_has ls 1 [(0, .int v0)] → W p l e (headSpec ow_dm_X9_binary ({ frames := 0, cells := 0, slots := 0, locals := 0 })).room s m args below meth c H locs 0 0 Q (F0 m 0 ls [])
set_option maxHeartbeats 40000000 in
set_option maxRecDepth 100000 in
theorem db_X9_binary_0 {p : Program} {l : Launch} {e : Env} {s : State} {m : MethodId} {args : Array Value} {below : List Frame} {meth : Method} {c : Code} {Q : State → Prop} {A : Nat → Prop} {dC : Nat → ClassId} {dI : Nat → Nat → Nat} {a : Nat → Nat} {ac : Nat → ClassId} {n : Nat} {r : Int32 × (Unit)} (C : nd_C p l s m args c A (dC, dI) cX9_binary 1 RX9 ow_dm_X9_binary (dk_P ac)) (K : nd_Ki p l e (headSpec ow_dm_X9_binary ({ frames := 0, cells := 0, slots := 0, locals := 0 })).room s m args below meth c Q A (dC, dI) cX9_binary .int (Unit) (dw_P a ac) r) : dj_X9_binary_0 p l e s m args below meth c Q A dC dI a ac (df_X9_binary_0 n) r := by
  obtain ⟨hlt, hx, hb, hml, hown, hts, hN, hA, hK⟩ := id C
  intro v0 s0 H locs ls h hP hD hS hl
  unfold df_X9_binary_0 at h
  refine lv_iload_n hx hb dX9_binary_0 rfl (lv_at hl 0 rfl) ?_
  by_cases c1 : v0 = 37
  · have h := nd_pos h c1
    refine lv_lookup (off := 95) (tgt := 96) hx hb dX9_binary_1 (by decide) (by rw [c1]; decide) (by decide) ?_
    refine lv_iconst (v := 3) hx hb dX9_binary_96 (by decide) ?_
    exact K _ _ _ _ _ _ dX9_binary_97 rfl (Option.some.inj h).symm hP hD hS
  have h := nd_neg h c1
  by_cases c2 : v0 = 38
  · have h := nd_pos h c2
    refine lv_lookup (off := 107) (tgt := 108) hx hb dX9_binary_1 (by decide) (by rw [c2]; decide) (by decide) ?_
    refine lv_bipush (v := 8) hx hb dX9_binary_108 (by decide) ?_
    exact K _ _ _ _ _ _ dX9_binary_110 rfl (Option.some.inj h).symm hP hD hS
  have h := nd_neg h c2
  by_cases c3 : v0 = 42
  · have h := nd_pos h c3
    refine lv_lookup (off := 91) (tgt := 92) hx hb dX9_binary_1 (by decide) (by rw [c3]; decide) (by decide) ?_
    refine lv_iconst (v := 1) hx hb dX9_binary_92 (by decide) ?_
    exact K _ _ _ _ _ _ dX9_binary_93 rfl (Option.some.inj h).symm hP hD hS
  have h := nd_neg h c3
  by_cases c4 : v0 = 43
  · have h := nd_pos h c4
    refine lv_lookup (off := 97) (tgt := 98) hx hb dX9_binary_1 (by decide) (by rw [c4]; decide) (by decide) ?_
    refine lv_iconst (v := 4) hx hb dX9_binary_98 (by decide) ?_
    exact K _ _ _ _ _ _ dX9_binary_99 rfl (Option.some.inj h).symm hP hD hS
  have h := nd_neg h c4
  by_cases c5 : v0 = 45
  · have h := nd_pos h c5
    refine lv_lookup (off := 99) (tgt := 100) hx hb dX9_binary_1 (by decide) (by rw [c5]; decide) (by decide) ?_
    refine lv_iconst (v := 5) hx hb dX9_binary_100 (by decide) ?_
    exact K _ _ _ _ _ _ dX9_binary_101 rfl (Option.some.inj h).symm hP hD hS
  have h := nd_neg h c5
  by_cases c6 : v0 = 47
  · have h := nd_pos h c6
    refine lv_lookup (off := 93) (tgt := 94) hx hb dX9_binary_1 (by decide) (by rw [c6]; decide) (by decide) ?_
    refine lv_iconst (v := 2) hx hb dX9_binary_94 (by decide) ?_
    exact K _ _ _ _ _ _ dX9_binary_95 rfl (Option.some.inj h).symm hP hD hS
  have h := nd_neg h c6
  by_cases c7 : v0 = 94
  · have h := nd_pos h c7
    refine lv_lookup (off := 110) (tgt := 111) hx hb dX9_binary_1 (by decide) (by rw [c7]; decide) (by decide) ?_
    refine lv_bipush (v := 9) hx hb dX9_binary_111 (by decide) ?_
    exact K _ _ _ _ _ _ dX9_binary_113 rfl (Option.some.inj h).symm hP hD hS
  have h := nd_neg h c7
  by_cases c8 : v0 = 124
  · have h := nd_pos h c8
    refine lv_lookup (off := 113) (tgt := 114) hx hb dX9_binary_1 (by decide) (by rw [c8]; decide) (by decide) ?_
    refine lv_bipush (v := 10) hx hb dX9_binary_114 (by decide) ?_
    exact K _ _ _ _ _ _ dX9_binary_116 rfl (Option.some.inj h).symm hP hD hS
  have h := nd_neg h c8
  by_cases c9 : v0 = 256
  · have h := nd_pos h c9
    refine lv_lookup (off := 101) (tgt := 102) hx hb dX9_binary_1 (by decide) (by rw [c9]; decide) (by decide) ?_
    refine lv_bipush (v := 6) hx hb dX9_binary_102 (by decide) ?_
    exact K _ _ _ _ _ _ dX9_binary_104 rfl (Option.some.inj h).symm hP hD hS
  have h := nd_neg h c9
  by_cases c10 : v0 = 257
  · have h := nd_pos h c10
    refine lv_lookup (off := 104) (tgt := 105) hx hb dX9_binary_1 (by decide) (by rw [c10]; decide) (by decide) ?_
    refine lv_bipush (v := 7) hx hb dX9_binary_105 (by decide) ?_
    exact K _ _ _ _ _ _ dX9_binary_107 rfl (Option.some.inj h).symm hP hD hS
  have h := nd_neg h c10
  refine lv_lookup (off := 116) (tgt := 117) hx hb dX9_binary_1 (by decide) (show Op.lookupswitch.offset [(37, 95), (38, 107), (42, 91), (43, 97), (45, 99), (47, 93), (94, 110), (124, 113), (256, 101), (257, 104)] 116 (v0 : Int32).toInt = 116 by rw [lv_osw c1 (by decide), lv_osw c2 (by decide), lv_osw c3 (by decide), lv_osw c4 (by decide), lv_osw c5 (by decide), lv_osw c6 (by decide), lv_osw c7 (by decide), lv_osw c8 (by decide), lv_osw c9 (by decide), lv_osw c10 (by decide)] <;> rfl) (by decide) ?_
  refine lv_iconst (v := 0) hx hb dX9_binary_117 (by decide) ?_
  exact K _ _ _ _ _ _ dX9_binary_118 rfl (Option.some.inj h).symm hP hD hS
set_option maxHeartbeats 40000000 in
set_option maxRecDepth 100000 in
theorem dm_X9_binary (l : Launch) (hlt : l.stackTraces = false) (dC : Nat → ClassId) (dI : Nat → Nat → Nat) (a : Nat → Nat) (ac : Nat → ClassId) (n : Nat) (v0 : Int32) (s0 : Unit) {r : Int32 × (Unit)} (h : df_X9_binary n v0 s0 = some r) (sz : Nat) : Met l yX9_binary ow_dm_X9_binary ({ frames := 0, cells := 0, slots := 0, locals := 0 }) (va_Pc [.int v0] (fun U => U.heap.size = sz ∧ va_P (dC, dI) vwCl (dw_P a ac s0) U.heap ∧ va_K (dC, dI) vwCl (dk_P ac) U ∧ va_D (fun _ => True) (dw_P a ac s0) ∧ nv_E dI (va_A (dw_P a ac s0) sz) U)) (va_Qi (fun x _ => x = r.1) (fun (_ : Unit) t => va_P (dC, dI) vwCl (dw_P a ac r.2) t.heap ∧ va_K (dC, dI) vwCl (dk_P ac) t ∧ va_D (va_A (dw_P a ac s0) sz) (dw_P a ac r.2)) (va_A (dw_P a ac s0) sz)) 0 0 (va_A (dw_P a ac s0) sz) := by
  refine Met.ofW (cc := cX9_binary) (maxL := 1) (ret := (some .int)) (by decide) rfl ?_
  intro p e s m args below meth c s₁ B hml hv
  obtain ⟨rfl, hsz, hP, hK, hD0, hN⟩ := hv
  have hx := B.exec
  have hb := B.bytes
  have hr := B.returns
  have hts := atoms_spec (ws := ow_dm_X9_binary) B.pre
  have hown : s.vm.findClass RX9 = some m.cls := findClass_of_methodNamed B.named
  have hlocks := B.notSynchronized
  subst hsz
  have hD := hD0.self (sz := s.heap.size)
  generalize hAe : va_A (dw_P a ac s0) s.heap.size = A at hD hN ⊢
  have hA : ∀ q : Nat, s.heap.size ≤ q → A q := fun q h => by rw [← hAe]; exact Or.inr h
  have hl := lv_entry ([.int v0]) (n := 1) (Nat.le_of_ble_eq_true rfl)
  rw [lg_entry_eq]
  generalize (lg_sl ([.int v0]) ++ List.replicate (1 - (lg_sl ([.int v0])).length) Slot.unset).toArray = ls at hl ⊢
  have hl : lv_has ls 1 [(0, .int v0)] := hl
  exact db_X9_binary_0 (dC := dC) (dI := dI) (a := a) (ac := ac) (n := n) (r := r) ⟨hlt, hx, hb, hml, hown, hts, hN, hA, hK⟩ (fun pc v τ H locs ls d z er hP hD hS => by subst er; exact W.zret (v := v) hx hb hr z (fun t ht hW => ⟨⟨v, (), rfl, rfl, by rw [ht]; exact hP, va_K.moved hW.alike hK, hD⟩, hS.F ht⟩) hS.2.2 d) v0 s0 _ _ _ h hP hD va_S.rf (lv_sub hl [0] rfl)
def ow_dm_X9_takeOperator : List Cond := Cond.code yX9_takeOperator cX9_takeOperator 2 none :: ([Cond.fieldLink RX9 73 "TimeMachine$Reader" "kind" "I", Cond.methodLink RX9 163 yX9_popTo, Cond.instanceMethod yX9_popTo, Cond.selects RX9 yX9_popTo yX9_popTo, Cond.initialized RX9, Cond.fieldLink RX9 112 "TimeMachine$Reader" "top" "I", Cond.methodLink RX9 144 yX9_isSign, Cond.instanceMethod yX9_isSign, Cond.selects RX9 yX9_isSign yX9_isSign, Cond.fieldLink RX9 119 "TimeMachine$Reader" "state" "I", Cond.fieldLink RX9 23 "TimeMachine$Reader" "stack" "[I", Cond.methodLink RX9 131 yX9_emit, Cond.instanceMethod yX9_emit, Cond.selects RX9 yX9_emit yX9_emit, Cond.fieldLink RX9 160 "TimeMachine$Reader" "RANK" "[I", Cond.methodLink RX9 141 yX9_push, Cond.instanceMethod yX9_push, Cond.selects RX9 yX9_push yX9_push, Cond.fieldLink RX9 93 "TimeMachine$Reader" "number" "I", Cond.methodLink RX9 157 yX9_binary, Cond.static yX9_binary] ++ (u_ws RX9 TX9 20 ++ (ow_dm_X9_popTo ++ (ow_dm_X9_isSign ++ (ow_dm_X9_emit ++ (ow_dm_X9_push ++ (ow_dm_X9_binary ++ [])))))))
theorem gd_dm_X9_takeOperator : ∀ w ∈ ow_dm_X9_takeOperator, (w.onTables && w.keeps) = true ∨ ∃ ty, w = Cond.arrayClass ty := List.forall_mem_cons.mpr ⟨good_of_word rfl, List.forall_mem_append.mpr ⟨fun w h => good_of_word (List.all_eq_true.mp (by decide +kernel) w h), List.forall_mem_append.mpr ⟨gu_X9, List.forall_mem_append.mpr ⟨gd_dm_X9_popTo, List.forall_mem_append.mpr ⟨gd_dm_X9_isSign, List.forall_mem_append.mpr ⟨gd_dm_X9_emit, List.forall_mem_append.mpr ⟨gd_dm_X9_push, List.forall_mem_append.mpr ⟨gd_dm_X9_binary, fun _ h => nomatch h⟩⟩⟩⟩⟩⟩⟩⟩
theorem hi_dm_X9_takeOperator_X9 : ∀ w ∈ u_ws RX9 TX9 20, w ∈ ow_dm_X9_takeOperator := fun w h => List.mem_cons_of_mem _ (List.mem_append_right _ (List.mem_append_left _ h))
theorem gi_dm_X9_takeOperator_0 : GoodIn ow_dm_X9_takeOperator (wsV RX9 163 RX9 yX9_popTo ow_dm_X9_popTo) := goodIn_app (goodIn_of _ (by decide +kernel)) (fun w h => ⟨List.mem_cons_of_mem _ (List.mem_append_right _ (List.mem_append_right _ (List.mem_append_left _ h))), gd_dm_X9_popTo w h⟩)
theorem gi_dm_X9_takeOperator_1 : GoodIn ow_dm_X9_takeOperator (wsV RX9 144 RX9 yX9_isSign ow_dm_X9_isSign) := goodIn_app (goodIn_of _ (by decide +kernel)) (fun w h => ⟨List.mem_cons_of_mem _ (List.mem_append_right _ (List.mem_append_right _ (List.mem_append_right _ (List.mem_append_left _ h)))), gd_dm_X9_isSign w h⟩)
theorem gi_dm_X9_takeOperator_2 : GoodIn ow_dm_X9_takeOperator (wsV RX9 131 RX9 yX9_emit ow_dm_X9_emit) := goodIn_app (goodIn_of _ (by decide +kernel)) (fun w h => ⟨List.mem_cons_of_mem _ (List.mem_append_right _ (List.mem_append_right _ (List.mem_append_right _ (List.mem_append_right _ (List.mem_append_left _ h))))), gd_dm_X9_emit w h⟩)
theorem gi_dm_X9_takeOperator_3 : GoodIn ow_dm_X9_takeOperator (wsV RX9 141 RX9 yX9_push ow_dm_X9_push) := goodIn_app (goodIn_of _ (by decide +kernel)) (fun w h => ⟨List.mem_cons_of_mem _ (List.mem_append_right _ (List.mem_append_right _ (List.mem_append_right _ (List.mem_append_right _ (List.mem_append_right _ (List.mem_append_left _ h)))))), gd_dm_X9_push w h⟩)
theorem gi_dm_X9_takeOperator_4 : GoodIn ow_dm_X9_takeOperator (wsS RX9 157 yX9_binary ow_dm_X9_binary) := goodIn_app (goodIn_of _ (by decide +kernel)) (fun w h => ⟨List.mem_cons_of_mem _ (List.mem_append_right _ (List.mem_append_right _ (List.mem_append_right _ (List.mem_append_right _ (List.mem_append_right _ (List.mem_append_right _ (List.mem_append_left _ h))))))), gd_dm_X9_binary w h⟩)
def dj_X9_takeOperator_120 (p : Program) (l : Launch) (e : Env) (s : State) (m : MethodId) (args : Array Value) (below : List Frame) (meth : Method) (c : Code) (Q : State → Prop) (A : Nat → Prop) (dC : Nat → ClassId) (dI : Nat → Nat → Nat) (a : Nat → Nat) (ac : Nat → ClassId) (g : (St) → Option (St)) (r : St) : Prop := ∀ (s0 : St) (H : Heap) (locs : List Loc) (ls : Array Slot), g s0 = some r → va_P (dC, dI) vwCl (dw_X9 a ac s0) H → va_D A (dw_X9 a ac s0) → va_S A s.heap H locs → lv_has ls 2 [] → W p l e (headSpec ow_dm_X9_takeOperator ({ frames := 2, cells := 0, slots := 0, locals := 43 })).room s m args below meth c H locs 0 0 Q (F0 m 120 ls [])
def dj_X9_takeOperator_19 (p : Program) (l : Launch) (e : Env) (s : State) (m : MethodId) (args : Array Value) (below : List Frame) (meth : Method) (c : Code) (Q : State → Prop) (A : Nat → Prop) (dC : Nat → ClassId) (dI : Nat → Nat → Nat) (a : Nat → Nat) (ac : Nat → ClassId) (g : Int32 → (St) → Option (St)) (r : St) : Prop := ∀ (y0 : Int32) (s0 : St) (H : Heap) (locs : List Loc) (ls : Array Slot), g y0 s0 = some r → va_P (dC, dI) vwCl (dw_X9 a ac s0) H → va_D A (dw_X9 a ac s0) → va_S A s.heap H locs → lv_has ls 2 [(0, .ref (a 0))] → W p l e (headSpec ow_dm_X9_takeOperator ({ frames := 2, cells := 0, slots := 0, locals := 43 })).room s m args below meth c H locs 0 0 Q (F0 m 19 ls [.int y0])
def dj_X9_takeOperator_0 (p : Program) (l : Launch) (e : Env) (s : State) (m : MethodId) (args : Array Value) (below : List Frame) (meth : Method) (c : Code) (Q : State → Prop) (A : Nat → Prop) (dC : Nat → ClassId) (dI : Nat → Nat → Nat) (a : Nat → Nat) (ac : Nat → ClassId) (g : (St) → Option (St)) (r : St) : Prop := ∀ (s0 : St) (H : Heap) (locs : List Loc) (ls : Array Slot), g s0 = some r → va_P (dC, dI) vwCl (dw_X9 a ac s0) H → va_D A (dw_X9 a ac s0) → va_S A s.heap H locs → lv_has ls 2 [(0, .ref (a 0))] → W p l e (headSpec ow_dm_X9_takeOperator ({ frames := 2, cells := 0, slots := 0, locals := 43 })).room s m args below meth c H locs 0 0 Q (F0 m 0 ls [])
set_option maxHeartbeats 40000000 in
set_option maxRecDepth 100000 in
theorem db_X9_takeOperator_120 {p : Program} {l : Launch} {e : Env} {s : State} {m : MethodId} {args : Array Value} {below : List Frame} {meth : Method} {c : Code} {Q : State → Prop} {A : Nat → Prop} {dC : Nat → ClassId} {dI : Nat → Nat → Nat} {a : Nat → Nat} {ac : Nat → ClassId} {n : Nat} {r : St} (C : nd_C p l s m args c A (dC, dI) cX9_takeOperator 2 RX9 ow_dm_X9_takeOperator (dk_X9 ac)) (K : nd_Kv p l e (headSpec ow_dm_X9_takeOperator ({ frames := 2, cells := 0, slots := 0, locals := 43 })).room s m args below meth c Q A (dC, dI) cX9_takeOperator (St) (dw_X9 a ac) r) : dj_X9_takeOperator_120 p l e s m args below meth c Q A dC dI a ac (df_X9_takeOperator_120 n) r := by
  obtain ⟨hlt, hx, hb, hml, hown, hts, hN, hA, hK⟩ := id C
  intro s0 H locs ls h hP hD hS hl
  unfold df_X9_takeOperator_120 at h
  exact K _ _ _ _ _ dX9_takeOperator_120 (Option.some.inj h).symm hP hD hS
set_option maxHeartbeats 40000000 in
set_option maxRecDepth 100000 in
theorem db_X9_takeOperator_19 {p : Program} {l : Launch} {e : Env} {s : State} {m : MethodId} {args : Array Value} {below : List Frame} {meth : Method} {c : Code} {Q : State → Prop} {A : Nat → Prop} {dC : Nat → ClassId} {dI : Nat → Nat → Nat} {a : Nat → Nat} {ac : Nat → ClassId} {n : Nat} {r : St} (C : nd_C p l s m args c A (dC, dI) cX9_takeOperator 2 RX9 ow_dm_X9_takeOperator (dk_X9 ac)) (K : nd_Kv p l e (headSpec ow_dm_X9_takeOperator ({ frames := 2, cells := 0, slots := 0, locals := 43 })).room s m args below meth c Q A (dC, dI) cX9_takeOperator (St) (dw_X9 a ac) r) : dj_X9_takeOperator_19 p l e s m args below meth c Q A dC dI a ac (df_X9_takeOperator_19 n) r := by
  obtain ⟨hlt, hx, hb, hml, hown, hts, hN, hA, hK⟩ := id C
  intro y0 s0 H locs ls h hP hD hS hl
  unfold df_X9_takeOperator_19 at h
  refine lv_istore_n (lv' := [(1, .int y0), (0, .ref (a 0))]) hx hb dX9_takeOperator_19 rfl hl (by decide) rfl (fun ls hl => ?_)
  refine lv_iload_n hx hb dX9_takeOperator_20 rfl (lv_at hl 0 rfl) ?_
  refine lv_if_eq (tgt := 44) hx hb dX9_takeOperator_21 (by decide) (fun c2 => ?_) (fun c2 => ?_)
  · have h := nd_pos h c2
    refine lv_aload_n hx hb dX9_takeOperator_44 rfl (lv_at hl 1 rfl) ?_
    refine lv_iconst (v := 0) hx hb dX9_takeOperator_45 (by decide) ?_
    obtain ⟨s4, hq, h⟩ := nd_b1_e h
    have hPc := hP
    have hDc := hD
    have hKc := hK
    have hFc := nd_rs hD hS hA
    refine nd_cVv (As := [.int 0]) (rest := []) (w' := dw_X9 a ac s4) ⟨hx, hb, hml, hown, hts⟩ (fun sz => dm_X9_popTo l hlt dC dI a ac n (0) s0 hq sz) (cwV 1 hts gi_dm_X9_takeOperator_0 rfl rfl rfl (by decide +kernel) ⟨Nat.le_of_ble_eq_true rfl, Nat.le_of_ble_eq_true rfl⟩) hPc hDc hKc hS hA hN (va_recv hKc hPc (ci := 10) (q0 := 0) rfl rfl) rfl hl.1 rfl (Nat.le_of_ble_eq_true rfl) dX9_takeOperator_46 (fun H locs hP1 hD1 hk1 hS => ?_)
    have hP := hP1
    have hD := hD1.weaken (fun k q _ h => hFc q.1 h)
    refine lv_aload_n hx hb dX9_takeOperator_49 rfl (lv_at hl 1 rfl) ?_
    refine va_get (D := (dC, dI)) (ci := 10) (v := .int (sI s4 6)) (C := RX9) (T := TX9) (N := 20) hx hb hts hi_dm_X9_takeOperator_X9 hown hK hP 0 rfl rfl 10 (by decide) (hts (.fieldLink RX9 112 "TimeMachine$Reader" "top" "I") (List.mem_of_getElem? (i := 6) rfl)) (fun _ h9 => h9) rfl dX9_takeOperator_50 ?_
    refine lv_if_ne (tgt := 64) hx hb dX9_takeOperator_53 (by decide) (fun c6 => ?_) (fun c6 => ?_)
    · have h := nd_neg h c6
      refine lv_aload_n hx hb dX9_takeOperator_64 rfl (lv_at hl 1 rfl) ?_
      refine lv_bipush (v := 41) hx hb dX9_takeOperator_65 (by decide) ?_
      obtain ⟨q7, s8, hq, h⟩ := nd_b2_e h
      have hPc := hP
      have hDc := hD
      have hKc := hK
      have hFc := nd_rs hD hS hA
      refine nd_cVi (As := [.int 41]) (rest := []) (q := q7) (w' := dw_X9 a ac s8) ⟨hx, hb, hml, hown, hts⟩ (fun sz => dm_X9_isSign l hlt dC dI a ac n (41) s4 hq sz) (cwV 1 hts gi_dm_X9_takeOperator_1 rfl rfl rfl (by decide +kernel) ⟨Nat.le_of_ble_eq_true rfl, Nat.le_of_ble_eq_true rfl⟩) hPc hDc hKc hS hA hN (va_recv hKc hPc (ci := 10) (q0 := 0) rfl rfl) rfl hl.1 rfl (Nat.le_of_ble_eq_true rfl) dX9_takeOperator_67 (fun H locs hP1 hD1 hk1 hS => ?_)
      have hP := hP1
      have hD := hD1.weaken (fun k q _ h => hFc q.1 h)
      refine lv_if_eq (tgt := 114) hx hb dX9_takeOperator_70 (by decide) (fun c10 => ?_) (fun c10 => ?_)
      · have h := nd_pos h c10
        refine lv_aload_n hx hb dX9_takeOperator_114 rfl (lv_at hl 1 rfl) ?_
        refine lv_bipush (v := 6) hx hb dX9_takeOperator_115 (by decide) ?_
        refine va_put (D := (dC, dI)) (ci := 10) (v := .int 6) (ty := .int) (C := RX9) (T := TX9) (N := 20) hx hb hts hi_dm_X9_takeOperator_X9 tyX9 tyX9_ok nmX9 hown hK hP hD hS 0 rfl rfl 11 (by decide) (hts (.fieldLink RX9 119 "TimeMachine$Reader" "state" "I") (List.mem_of_getElem? (i := 10) rfl)) (fun _ h9 => h9) rfl (by decide +kernel) rfl rfl (Nat.le_of_ble_eq_true rfl) dX9_takeOperator_117 (fun H locs hP hD hS => ?_)
        obtain ⟨s11, es11, h⟩ := nd_let_e h
        have hP : va_P (dC, dI) vwCl (dw_X9 a ac s11) H := by rw [es11]; exact hP
        have hD : va_D A (dw_X9 a ac s11) := by rw [es11]; exact hD
        exact (db_X9_takeOperator_120 C K)  s11 _ _ _ h hP hD hS (lv_sub hl [] rfl)
      · have h := nd_neg h c10
        refine lv_aload_n hx hb dX9_takeOperator_73 rfl (lv_at hl 1 rfl) ?_
        refine lv_dup hx hb dX9_takeOperator_74 rfl ?_
        refine va_get (D := (dC, dI)) (ci := 10) (v := .int (sI s8 6)) (C := RX9) (T := TX9) (N := 20) hx hb hts hi_dm_X9_takeOperator_X9 hown hK hP 0 rfl rfl 10 (by decide) (hts (.fieldLink RX9 112 "TimeMachine$Reader" "top" "I") (List.mem_of_getElem? (i := 6) rfl)) (fun _ h9 => h9) rfl dX9_takeOperator_75 ?_
        refine lv_iconst (v := 1) hx hb dX9_takeOperator_78 (by decide) ?_
        refine lv_isub hx hb dX9_takeOperator_79 ?_
        refine va_put (D := (dC, dI)) (ci := 10) (v := .int ((sI s8 6) - 1)) (ty := .int) (C := RX9) (T := TX9) (N := 20) hx hb hts hi_dm_X9_takeOperator_X9 tyX9 tyX9_ok nmX9 hown hK hP hD hS 0 rfl rfl 10 (by decide) (hts (.fieldLink RX9 112 "TimeMachine$Reader" "top" "I") (List.mem_of_getElem? (i := 6) rfl)) (fun _ h9 => h9) rfl (by decide +kernel) rfl rfl (Nat.le_of_ble_eq_true rfl) dX9_takeOperator_80 (fun H locs hP hD hS => ?_)
        obtain ⟨s12, es12, h⟩ := nd_let_e h
        have hP : va_P (dC, dI) vwCl (dw_X9 a ac s12) H := by rw [es12]; exact hP
        have hD : va_D A (dw_X9 a ac s12) := by rw [es12]; exact hD
        refine lv_aload_n hx hb dX9_takeOperator_83 rfl (lv_at hl 1 rfl) ?_
        refine va_get (D := (dC, dI)) (ci := 10) (v := .ref (a 3)) (C := RX9) (T := TX9) (N := 20) hx hb hts hi_dm_X9_takeOperator_X9 hown hK hP 0 rfl rfl 9 (by decide) (hts (.fieldLink RX9 23 "TimeMachine$Reader" "stack" "[I") (List.mem_of_getElem? (i := 11) rfl)) (fun _ h9 => h9) rfl dX9_takeOperator_84 ?_
        refine lv_aload_n hx hb dX9_takeOperator_87 rfl (lv_at hl 1 rfl) ?_
        refine va_get (D := (dC, dI)) (ci := 10) (v := .int (sI s12 6)) (C := RX9) (T := TX9) (N := 20) hx hb hts hi_dm_X9_takeOperator_X9 hown hK hP 0 rfl rfl 10 (by decide) (hts (.fieldLink RX9 112 "TimeMachine$Reader" "top" "I") (List.mem_of_getElem? (i := 6) rfl)) (fun _ h9 => h9) rfl dX9_takeOperator_88 ?_
        obtain ⟨i13, h⟩ := nd_ck_e h
        refine va_iald (i := (sI s12 6)) hx hb hK hP 3 2 rfl rfl i13 dX9_takeOperator_91 ?_
        refine lv_bipush (v := 15) hx hb dX9_takeOperator_92 (by decide) ?_
        refine lv_icmp_eq (tgt := 120) hx hb dX9_takeOperator_94 (by decide) (fun c14 => ?_) (fun c14 => ?_)
        · have h := nd_pos h c14
          exact (db_X9_takeOperator_120 C K)  s12 _ _ _ h hP hD hS (lv_sub hl [] rfl)
        · have h := nd_neg h c14
          refine lv_aload_n hx hb dX9_takeOperator_97 rfl (lv_at hl 1 rfl) ?_
          refine lv_aload_n hx hb dX9_takeOperator_98 rfl (lv_at hl 1 rfl) ?_
          refine va_get (D := (dC, dI)) (ci := 10) (v := .ref (a 3)) (C := RX9) (T := TX9) (N := 20) hx hb hts hi_dm_X9_takeOperator_X9 hown hK hP 0 rfl rfl 9 (by decide) (hts (.fieldLink RX9 23 "TimeMachine$Reader" "stack" "[I") (List.mem_of_getElem? (i := 11) rfl)) (fun _ h9 => h9) rfl dX9_takeOperator_99 ?_
          refine lv_aload_n hx hb dX9_takeOperator_102 rfl (lv_at hl 1 rfl) ?_
          refine va_get (D := (dC, dI)) (ci := 10) (v := .int (sI s12 6)) (C := RX9) (T := TX9) (N := 20) hx hb hts hi_dm_X9_takeOperator_X9 hown hK hP 0 rfl rfl 10 (by decide) (hts (.fieldLink RX9 112 "TimeMachine$Reader" "top" "I") (List.mem_of_getElem? (i := 6) rfl)) (fun _ h9 => h9) rfl dX9_takeOperator_103 ?_
          obtain ⟨i15, h⟩ := nd_ck_e h
          refine va_iald (i := (sI s12 6)) hx hb hK hP 3 2 rfl rfl i15 dX9_takeOperator_106 ?_
          refine lv_iconst (v := 0) hx hb dX9_takeOperator_107 (by decide) ?_
          obtain ⟨s17, hq, h⟩ := nd_b1_e h
          have hPc := hP
          have hDc := hD
          have hKc := hK
          have hFc := nd_rs hD hS hA
          refine nd_cVv (As := [.int (sR s12 2 (Int32.toNatClampNeg (sI s12 6))), .int 0]) (rest := []) (w' := dw_X9 a ac s17) ⟨hx, hb, hml, hown, hts⟩ (fun sz => dm_X9_emit l hlt dC dI a ac n ((sR s12 2 (Int32.toNatClampNeg (sI s12 6)))) (0) s12 hq sz) (cwV 2 hts gi_dm_X9_takeOperator_2 rfl rfl rfl (by decide +kernel) ⟨Nat.le_of_ble_eq_true rfl, Nat.le_of_ble_eq_true rfl⟩) hPc hDc hKc hS hA hN (va_recv hKc hPc (ci := 10) (q0 := 0) rfl rfl) rfl hl.1 rfl (Nat.le_of_ble_eq_true rfl) dX9_takeOperator_108 (fun H locs hP1 hD1 hk1 hS => ?_)
          have hP := hP1
          have hD := hD1.weaken (fun k q _ h => hFc q.1 h)
          refine lv_goto (tgt := 120) hx hb dX9_takeOperator_111 (by decide) ?_
          exact (db_X9_takeOperator_120 C K)  s17 _ _ _ h hP hD hS (lv_sub hl [] rfl)
    · have h := nd_pos h c6
      refine lv_aload_n hx hb dX9_takeOperator_56 rfl (lv_at hl 1 rfl) ?_
      refine lv_iconst (v := 5) hx hb dX9_takeOperator_57 (by decide) ?_
      refine va_put (D := (dC, dI)) (ci := 10) (v := .int 5) (ty := .int) (C := RX9) (T := TX9) (N := 20) hx hb hts hi_dm_X9_takeOperator_X9 tyX9 tyX9_ok nmX9 hown hK hP hD hS 0 rfl rfl 11 (by decide) (hts (.fieldLink RX9 119 "TimeMachine$Reader" "state" "I") (List.mem_of_getElem? (i := 10) rfl)) (fun _ h9 => h9) rfl (by decide +kernel) rfl rfl (Nat.le_of_ble_eq_true rfl) dX9_takeOperator_58 (fun H locs hP hD hS => ?_)
      obtain ⟨s19, es19, h⟩ := nd_let_e h
      have hP : va_P (dC, dI) vwCl (dw_X9 a ac s19) H := by rw [es19]; exact hP
      have hD : va_D A (dw_X9 a ac s19) := by rw [es19]; exact hD
      refine lv_goto (tgt := 120) hx hb dX9_takeOperator_61 (by decide) ?_
      exact (db_X9_takeOperator_120 C K)  s19 _ _ _ h hP hD hS (lv_sub hl [] rfl)
  · have h := nd_neg h c2
    refine lv_aload_n hx hb dX9_takeOperator_24 rfl (lv_at hl 1 rfl) ?_
    obtain ⟨b20, zb20, xb20, lb20, wb20⟩ := hN.2.2.2.2.2.2.2.2.2.2.1 nv_A2 (List.mem_of_getElem? (i := 2) rfl)
    have zb20 : va_Z "TimeMachine$Reader" "RANK" "[I" (.ref b20) A s s.heap := zb20
    have xb20 : va_X b20 13 tb_2 s s.heap := xb20
    refine va_gets (v := .ref b20) hx hb zb20 hS hown (hts (.fieldLink RX9 160 "TimeMachine$Reader" "RANK" "[I") (List.mem_of_getElem? (i := 15) rfl)) (fun _ h9 => h9) dX9_takeOperator_25 ?_
    refine lv_iload_n hx hb dX9_takeOperator_28 rfl (lv_at hl 0 rfl) ?_
    obtain ⟨i21, h⟩ := nd_ck_e h
    refine va_sld (i := y0) hx hb xb20 lb20 wb20 hS i21 dX9_takeOperator_29 ?_
    obtain ⟨s23, hq, h⟩ := nd_b1_e h
    have hPc := hP
    have hDc := hD
    have hKc := hK
    have hFc := nd_rs hD hS hA
    refine nd_cVv (As := [.int (tb_2 (Int32.toNatClampNeg y0))]) (rest := []) (w' := dw_X9 a ac s23) ⟨hx, hb, hml, hown, hts⟩ (fun sz => dm_X9_popTo l hlt dC dI a ac n ((tb_2 (Int32.toNatClampNeg y0))) s0 hq sz) (cwV 1 hts gi_dm_X9_takeOperator_0 rfl rfl rfl (by decide +kernel) ⟨Nat.le_of_ble_eq_true rfl, Nat.le_of_ble_eq_true rfl⟩) hPc hDc hKc hS hA hN (va_recv hKc hPc (ci := 10) (q0 := 0) rfl rfl) rfl hl.1 rfl (Nat.le_of_ble_eq_true rfl) dX9_takeOperator_30 (fun H locs hP1 hD1 hk1 hS => ?_)
    have hP := hP1
    have hD := hD1.weaken (fun k q _ h => hFc q.1 h)
    refine lv_aload_n hx hb dX9_takeOperator_33 rfl (lv_at hl 1 rfl) ?_
    refine lv_iload_n hx hb dX9_takeOperator_34 rfl (lv_at hl 0 rfl) ?_
    obtain ⟨s26, hq, h⟩ := nd_b1_e h
    have hPc := hP
    have hDc := hD
    have hKc := hK
    have hFc := nd_rs hD hS hA
    refine nd_cVv (As := [.int y0]) (rest := []) (w' := dw_X9 a ac s26) ⟨hx, hb, hml, hown, hts⟩ (fun sz => dm_X9_push l hlt dC dI a ac n (y0) s23 hq sz) (cwV 1 hts gi_dm_X9_takeOperator_3 rfl rfl rfl (by decide +kernel) ⟨Nat.le_of_ble_eq_true rfl, Nat.le_of_ble_eq_true rfl⟩) hPc hDc hKc hS hA hN (va_recv hKc hPc (ci := 10) (q0 := 0) rfl rfl) rfl hl.1 rfl (Nat.le_of_ble_eq_true rfl) dX9_takeOperator_35 (fun H locs hP1 hD1 hk1 hS => ?_)
    have hP := hP1
    have hD := hD1.weaken (fun k q _ h => hFc q.1 h)
    refine lv_aload_n hx hb dX9_takeOperator_38 rfl (lv_at hl 1 rfl) ?_
    refine lv_iconst (v := 0) hx hb dX9_takeOperator_39 (by decide) ?_
    refine va_put (D := (dC, dI)) (ci := 10) (v := .int 0) (ty := .int) (C := RX9) (T := TX9) (N := 20) hx hb hts hi_dm_X9_takeOperator_X9 tyX9 tyX9_ok nmX9 hown hK hP hD hS 0 rfl rfl 11 (by decide) (hts (.fieldLink RX9 119 "TimeMachine$Reader" "state" "I") (List.mem_of_getElem? (i := 10) rfl)) (fun _ h9 => h9) rfl (by decide +kernel) rfl rfl (Nat.le_of_ble_eq_true rfl) dX9_takeOperator_40 (fun H locs hP hD hS => ?_)
    obtain ⟨s28, es28, h⟩ := nd_let_e h
    have hP : va_P (dC, dI) vwCl (dw_X9 a ac s28) H := by rw [es28]; exact hP
    have hD : va_D A (dw_X9 a ac s28) := by rw [es28]; exact hD
    exact K _ _ _ _ _ dX9_takeOperator_43 (Option.some.inj h).symm hP hD hS
set_option maxHeartbeats 40000000 in
set_option maxRecDepth 100000 in
theorem db_X9_takeOperator_0 {p : Program} {l : Launch} {e : Env} {s : State} {m : MethodId} {args : Array Value} {below : List Frame} {meth : Method} {c : Code} {Q : State → Prop} {A : Nat → Prop} {dC : Nat → ClassId} {dI : Nat → Nat → Nat} {a : Nat → Nat} {ac : Nat → ClassId} {n : Nat} {r : St} (C : nd_C p l s m args c A (dC, dI) cX9_takeOperator 2 RX9 ow_dm_X9_takeOperator (dk_X9 ac)) (K : nd_Kv p l e (headSpec ow_dm_X9_takeOperator ({ frames := 2, cells := 0, slots := 0, locals := 43 })).room s m args below meth c Q A (dC, dI) cX9_takeOperator (St) (dw_X9 a ac) r) : dj_X9_takeOperator_0 p l e s m args below meth c Q A dC dI a ac (df_X9_takeOperator_0 n) r := by
  obtain ⟨hlt, hx, hb, hml, hown, hts, hN, hA, hK⟩ := id C
  intro s0 H locs ls h hP hD hS hl
  unfold df_X9_takeOperator_0 at h
  refine lv_aload_n hx hb dX9_takeOperator_0 rfl (lv_at hl 0 rfl) ?_
  refine va_get (D := (dC, dI)) (ci := 10) (v := .int (sI s0 2)) (C := RX9) (T := TX9) (N := 20) hx hb hts hi_dm_X9_takeOperator_X9 hown hK hP 0 rfl rfl 3 (by decide) (hts (.fieldLink RX9 73 "TimeMachine$Reader" "kind" "I") (List.mem_of_getElem? (i := 1) rfl)) (fun _ h9 => h9) rfl dX9_takeOperator_1 ?_
  refine lv_iconst (v := 5) hx hb dX9_takeOperator_4 (by decide) ?_
  refine lv_icmp_ne (tgt := 18) hx hb dX9_takeOperator_5 (by decide) (fun c1 => ?_) (fun c1 => ?_)
  · have h := nd_neg h c1
    refine lv_iconst (v := 0) hx hb dX9_takeOperator_18 (by decide) ?_
    exact (db_X9_takeOperator_19 C K) (0) s0 _ _ _ h hP hD hS (lv_sub hl [0] rfl)
  · have h := nd_pos h c1
    refine lv_aload_n hx hb dX9_takeOperator_8 rfl (lv_at hl 0 rfl) ?_
    refine va_get (D := (dC, dI)) (ci := 10) (v := .int (sI s0 4)) (C := RX9) (T := TX9) (N := 20) hx hb hts hi_dm_X9_takeOperator_X9 hown hK hP 0 rfl rfl 5 (by decide) (hts (.fieldLink RX9 93 "TimeMachine$Reader" "number" "I") (List.mem_of_getElem? (i := 19) rfl)) (fun _ h9 => h9) rfl dX9_takeOperator_9 ?_
    obtain ⟨q29, s30, hq, h⟩ := nd_b2_e h
    have hPc : va_P (dC, dI) vwCl (dw_P a ac ()) H := nd_p0
    have hDc : va_D A (dw_P a ac ()) := nd_d0
    have hKc : va_K (dC, dI) vwCl (dk_P ac) s := nd_y0 hK
    have hFc : ∀ q, va_A (dw_P a ac ()) H.size q → A q := nd_r0 hS hA
    refine nd_cSi (As := [.int (sI s0 4)]) (rest := []) (q := q29) (w' := dw_P a ac s30) ⟨hx, hb, hml, hown, hts⟩ (fun sz => dm_X9_binary l hlt dC dI a ac n ((sI s0 4)) () hq sz) (cwS 1 hts gi_dm_X9_takeOperator_4 rfl rfl rfl (by decide +kernel) ⟨Nat.le_of_ble_eq_true rfl, Nat.le_of_ble_eq_true rfl⟩) hPc hDc hKc hS hA hN rfl hl.1 rfl (Nat.le_of_ble_eq_true rfl) dX9_takeOperator_12 (fun H locs hP1 hD1 hk1 hS => ?_)
    have hP := nd_n0 hP hk1
    refine lv_goto (tgt := 19) hx hb dX9_takeOperator_15 (by decide) ?_
    exact (db_X9_takeOperator_19 C K) (q29) s0 _ _ _ h hP hD hS (lv_sub hl [0] rfl)
set_option maxHeartbeats 40000000 in
set_option maxRecDepth 100000 in
theorem dm_X9_takeOperator (l : Launch) (hlt : l.stackTraces = false) (dC : Nat → ClassId) (dI : Nat → Nat → Nat) (a : Nat → Nat) (ac : Nat → ClassId) (n : Nat) (s0 : St) {r : St} (h : df_X9_takeOperator n s0 = some r) (sz : Nat) : Met l yX9_takeOperator ow_dm_X9_takeOperator ({ frames := 2, cells := 0, slots := 0, locals := 43 }) (va_Pc [.ref (a 0)] (fun U => U.heap.size = sz ∧ va_P (dC, dI) vwCl (dw_X9 a ac s0) U.heap ∧ va_K (dC, dI) vwCl (dk_X9 ac) U ∧ va_D (fun _ => True) (dw_X9 a ac s0) ∧ nv_E dI (va_A (dw_X9 a ac s0) sz) U)) (va_Qv (fun _ => True) (fun (_ : Unit) t => va_P (dC, dI) vwCl (dw_X9 a ac r) t.heap ∧ va_K (dC, dI) vwCl (dk_X9 ac) t ∧ va_D (va_A (dw_X9 a ac s0) sz) (dw_X9 a ac r)) (va_A (dw_X9 a ac s0) sz)) 0 0 (va_A (dw_X9 a ac s0) sz) := by
  refine Met.ofW (cc := cX9_takeOperator) (maxL := 2) (ret := none) (by decide) rfl ?_
  intro p e s m args below meth c s₁ B hml hv
  obtain ⟨rfl, hsz, hP, hK, hD0, hN⟩ := hv
  have hx := B.exec
  have hb := B.bytes
  have hr := B.returns
  have hts := atoms_spec (ws := ow_dm_X9_takeOperator) B.pre
  have hown : s.vm.findClass RX9 = some m.cls := findClass_of_methodNamed B.named
  have hlocks := B.notSynchronized
  subst hsz
  have hD := hD0.self (sz := s.heap.size)
  generalize hAe : va_A (dw_X9 a ac s0) s.heap.size = A at hD hN ⊢
  have hA : ∀ q : Nat, s.heap.size ≤ q → A q := fun q h => by rw [← hAe]; exact Or.inr h
  have hl := lv_entry ([.ref (a 0)]) (n := 2) (Nat.le_of_ble_eq_true rfl)
  rw [lg_entry_eq]
  generalize (lg_sl ([.ref (a 0)]) ++ List.replicate (2 - (lg_sl ([.ref (a 0)])).length) Slot.unset).toArray = ls at hl ⊢
  have hl : lv_has ls 2 [(0, .ref (a 0))] := hl
  exact db_X9_takeOperator_0 (dC := dC) (dI := dI) (a := a) (ac := ac) (n := n) (r := r) ⟨hlt, hx, hb, hml, hown, hts, hN, hA, hK⟩ (fun pc τ H locs ls d er hP hD hS => by subst er; exact W.vret hx hb hr (fun t ht hW => ⟨⟨(), rfl, trivial, by rw [ht]; exact hP, va_K.moved hW.alike hK, hD⟩, hS.F ht⟩) hS.2.2 d) s0 _ _ _ h hP hD va_S.rf (lv_sub hl [0] rfl)
def ow_dm_X9_takeNear : List Cond := Cond.code yX9_takeNear cX9_takeNear 2 none :: ([Cond.fieldLink RX9 115 "TimeMachine$Reader" "fixed" "Z", Cond.fieldLink RX9 33 "TimeMachine$Reader" "near" "[I", Cond.fieldLink RX9 93 "TimeMachine$Reader" "number" "I", Cond.fieldLink RX9 9 "TimeMachine$Reader" "source" "[B", Cond.fieldLink RX9 70 "TimeMachine$Reader" "from" "I", Cond.methodLink RX9 131 yX9_emit, Cond.instanceMethod yX9_emit, Cond.selects RX9 yX9_emit yX9_emit, Cond.initialized RX9] ++ (u_ws RX9 TX9 20 ++ (ow_dm_X9_emit ++ [])))
theorem gd_dm_X9_takeNear : ∀ w ∈ ow_dm_X9_takeNear, (w.onTables && w.keeps) = true ∨ ∃ ty, w = Cond.arrayClass ty := List.forall_mem_cons.mpr ⟨good_of_word rfl, List.forall_mem_append.mpr ⟨fun w h => good_of_word (List.all_eq_true.mp (by decide +kernel) w h), List.forall_mem_append.mpr ⟨gu_X9, List.forall_mem_append.mpr ⟨gd_dm_X9_emit, fun _ h => nomatch h⟩⟩⟩⟩
theorem hi_dm_X9_takeNear_X9 : ∀ w ∈ u_ws RX9 TX9 20, w ∈ ow_dm_X9_takeNear := fun w h => List.mem_cons_of_mem _ (List.mem_append_right _ (List.mem_append_left _ h))
theorem gi_dm_X9_takeNear_0 : GoodIn ow_dm_X9_takeNear (wsV RX9 131 RX9 yX9_emit ow_dm_X9_emit) := goodIn_app (goodIn_of _ (by decide +kernel)) (fun w h => ⟨List.mem_cons_of_mem _ (List.mem_append_right _ (List.mem_append_right _ (List.mem_append_left _ h))), gd_dm_X9_emit w h⟩)
def dj_X9_takeNear_66 (p : Program) (l : Launch) (e : Env) (s : State) (m : MethodId) (args : Array Value) (below : List Frame) (meth : Method) (c : Code) (Q : State → Prop) (A : Nat → Prop) (dC : Nat → ClassId) (dI : Nat → Nat → Nat) (a : Nat → Nat) (ac : Nat → ClassId) (g : (St) → Option (St)) (r : St) : Prop := ∀ (s0 : St) (H : Heap) (locs : List Loc) (ls : Array Slot), g s0 = some r → va_P (dC, dI) vwCl (dw_X9 a ac s0) H → va_D A (dw_X9 a ac s0) → va_S A s.heap H locs → lv_has ls 2 [] → W p l e (headSpec ow_dm_X9_takeNear ({ frames := 1, cells := 0, slots := 0, locals := 22 })).room s m args below meth c H locs 0 0 Q (F0 m 66 ls [])
def dj_X9_takeNear_63 (p : Program) (l : Launch) (e : Env) (s : State) (m : MethodId) (args : Array Value) (below : List Frame) (meth : Method) (c : Code) (Q : State → Prop) (A : Nat → Prop) (dC : Nat → ClassId) (dI : Nat → Nat → Nat) (a : Nat → Nat) (ac : Nat → ClassId) (g : Int32 → Int32 → (St) → Option (St)) (r : St) : Prop := ∀ (y1 : Int32) (y2 : Int32) (s0 : St) (H : Heap) (locs : List Loc) (ls : Array Slot), g y1 y2 s0 = some r → va_P (dC, dI) vwCl (dw_X9 a ac s0) H → va_D A (dw_X9 a ac s0) → va_S A s.heap H locs → lv_has ls 2 [] → W p l e (headSpec ow_dm_X9_takeNear ({ frames := 1, cells := 0, slots := 0, locals := 22 })).room s m args below meth c H locs 0 0 Q (F0 m 63 ls [.int y2, .int y1, .ref (a 0)])
def dj_X9_takeNear_0 (p : Program) (l : Launch) (e : Env) (s : State) (m : MethodId) (args : Array Value) (below : List Frame) (meth : Method) (c : Code) (Q : State → Prop) (A : Nat → Prop) (dC : Nat → ClassId) (dI : Nat → Nat → Nat) (a : Nat → Nat) (ac : Nat → ClassId) (g : (St) → Option (St)) (r : St) : Prop := ∀ (s0 : St) (H : Heap) (locs : List Loc) (ls : Array Slot), g s0 = some r → va_P (dC, dI) vwCl (dw_X9 a ac s0) H → va_D A (dw_X9 a ac s0) → va_S A s.heap H locs → lv_has ls 2 [(0, .ref (a 0))] → W p l e (headSpec ow_dm_X9_takeNear ({ frames := 1, cells := 0, slots := 0, locals := 22 })).room s m args below meth c H locs 0 0 Q (F0 m 0 ls [])
set_option maxHeartbeats 40000000 in
set_option maxRecDepth 100000 in
theorem db_X9_takeNear_66 {p : Program} {l : Launch} {e : Env} {s : State} {m : MethodId} {args : Array Value} {below : List Frame} {meth : Method} {c : Code} {Q : State → Prop} {A : Nat → Prop} {dC : Nat → ClassId} {dI : Nat → Nat → Nat} {a : Nat → Nat} {ac : Nat → ClassId} {n : Nat} {r : St} (C : nd_C p l s m args c A (dC, dI) cX9_takeNear 2 RX9 ow_dm_X9_takeNear (dk_X9 ac)) (K : nd_Kv p l e (headSpec ow_dm_X9_takeNear ({ frames := 1, cells := 0, slots := 0, locals := 22 })).room s m args below meth c Q A (dC, dI) cX9_takeNear (St) (dw_X9 a ac) r) : dj_X9_takeNear_66 p l e s m args below meth c Q A dC dI a ac (df_X9_takeNear_66 n) r := by
  obtain ⟨hlt, hx, hb, hml, hown, hts, hN, hA, hK⟩ := id C
  intro s0 H locs ls h hP hD hS hl
  unfold df_X9_takeNear_66 at h
  exact K _ _ _ _ _ dX9_takeNear_66 (Option.some.inj h).symm hP hD hS
set_option maxHeartbeats 40000000 in
set_option maxRecDepth 100000 in
theorem db_X9_takeNear_63 {p : Program} {l : Launch} {e : Env} {s : State} {m : MethodId} {args : Array Value} {below : List Frame} {meth : Method} {c : Code} {Q : State → Prop} {A : Nat → Prop} {dC : Nat → ClassId} {dI : Nat → Nat → Nat} {a : Nat → Nat} {ac : Nat → ClassId} {n : Nat} {r : St} (C : nd_C p l s m args c A (dC, dI) cX9_takeNear 2 RX9 ow_dm_X9_takeNear (dk_X9 ac)) (K : nd_Kv p l e (headSpec ow_dm_X9_takeNear ({ frames := 1, cells := 0, slots := 0, locals := 22 })).room s m args below meth c Q A (dC, dI) cX9_takeNear (St) (dw_X9 a ac) r) : dj_X9_takeNear_63 p l e s m args below meth c Q A dC dI a ac (df_X9_takeNear_63 n) r := by
  obtain ⟨hlt, hx, hb, hml, hown, hts, hN, hA, hK⟩ := id C
  intro y1 y2 s0 H locs ls h hP hD hS hl
  unfold df_X9_takeNear_63 at h
  obtain ⟨s9, hq, h⟩ := nd_b1_e h
  have hPc := hP
  have hDc := hD
  have hKc := hK
  have hFc := nd_rs hD hS hA
  refine nd_cVv (As := [.int y1, .int y2]) (rest := []) (w' := dw_X9 a ac s9) ⟨hx, hb, hml, hown, hts⟩ (fun sz => dm_X9_emit l hlt dC dI a ac n (y1) (y2) s0 hq sz) (cwV 2 hts gi_dm_X9_takeNear_0 rfl rfl rfl (by decide +kernel) ⟨Nat.le_of_ble_eq_true rfl, Nat.le_of_ble_eq_true rfl⟩) hPc hDc hKc hS hA hN (va_recv hKc hPc (ci := 10) (q0 := 0) rfl rfl) rfl hl.1 rfl (Nat.le_of_ble_eq_true rfl) dX9_takeNear_63 (fun H locs hP1 hD1 hk1 hS => ?_)
  have hP := hP1
  have hD := hD1.weaken (fun k q _ h => hFc q.1 h)
  exact (db_X9_takeNear_66 C K)  s9 _ _ _ h hP hD hS (lv_sub hl [] rfl)
set_option maxHeartbeats 40000000 in
set_option maxRecDepth 100000 in
theorem db_X9_takeNear_0 {p : Program} {l : Launch} {e : Env} {s : State} {m : MethodId} {args : Array Value} {below : List Frame} {meth : Method} {c : Code} {Q : State → Prop} {A : Nat → Prop} {dC : Nat → ClassId} {dI : Nat → Nat → Nat} {a : Nat → Nat} {ac : Nat → ClassId} {n : Nat} {r : St} (C : nd_C p l s m args c A (dC, dI) cX9_takeNear 2 RX9 ow_dm_X9_takeNear (dk_X9 ac)) (K : nd_Kv p l e (headSpec ow_dm_X9_takeNear ({ frames := 1, cells := 0, slots := 0, locals := 22 })).room s m args below meth c Q A (dC, dI) cX9_takeNear (St) (dw_X9 a ac) r) : dj_X9_takeNear_0 p l e s m args below meth c Q A dC dI a ac (df_X9_takeNear_0 n) r := by
  obtain ⟨hlt, hx, hb, hml, hown, hts, hN, hA, hK⟩ := id C
  intro s0 H locs ls h hP hD hS hl
  unfold df_X9_takeNear_0 at h
  refine lv_aload_n hx hb dX9_takeNear_0 rfl (lv_at hl 0 rfl) ?_
  refine lv_iconst (v := 0) hx hb dX9_takeNear_1 (by decide) ?_
  refine va_put (D := (dC, dI)) (ci := 10) (v := .int 0) (ty := .boolean) (C := RX9) (T := TX9) (N := 20) hx hb hts hi_dm_X9_takeNear_X9 tyX9 tyX9_ok nmX9 hown hK hP hD hS 0 rfl rfl 18 (by decide) (hts (.fieldLink RX9 115 "TimeMachine$Reader" "fixed" "Z") (List.mem_of_getElem? (i := 1) rfl)) (fun _ h9 => h9) rfl (by decide +kernel) (by first | rfl | decide) rfl (Nat.le_of_ble_eq_true rfl) dX9_takeNear_2 (fun H locs hP hD hS => ?_)
  obtain ⟨s1, es1, h⟩ := nd_let_e h
  have hP : va_P (dC, dI) vwCl (dw_X9 a ac s1) H := by rw [es1]; exact hP
  have hD : va_D A (dw_X9 a ac s1) := by rw [es1]; exact hD
  refine lv_aload_n hx hb dX9_takeNear_5 rfl (lv_at hl 0 rfl) ?_
  refine va_get (D := (dC, dI)) (ci := 10) (v := .ref (a 6)) (C := RX9) (T := TX9) (N := 20) hx hb hts hi_dm_X9_takeNear_X9 hown hK hP 0 rfl rfl 15 (by decide) (hts (.fieldLink RX9 33 "TimeMachine$Reader" "near" "[I") (List.mem_of_getElem? (i := 2) rfl)) (fun _ h9 => h9) rfl dX9_takeNear_6 ?_
  refine lv_bipush (v := 10) hx hb dX9_takeNear_9 (by decide) ?_
  refine lv_aload_n hx hb dX9_takeNear_11 rfl (lv_at hl 0 rfl) ?_
  refine va_get (D := (dC, dI)) (ci := 10) (v := .int (sI s1 4)) (C := RX9) (T := TX9) (N := 20) hx hb hts hi_dm_X9_takeNear_X9 hown hK hP 0 rfl rfl 5 (by decide) (hts (.fieldLink RX9 93 "TimeMachine$Reader" "number" "I") (List.mem_of_getElem? (i := 3) rfl)) (fun _ h9 => h9) rfl dX9_takeNear_12 ?_
  refine lv_iadd hx hb dX9_takeNear_15 ?_
  obtain ⟨i2, h⟩ := nd_ck_e h
  refine va_iald (i := (10 + (sI s1 4))) hx hb hK hP 6 5 rfl rfl i2 dX9_takeNear_16 ?_
  refine lv_iconst (v := 1) hx hb dX9_takeNear_17 (by decide) ?_
  refine lv_isub hx hb dX9_takeNear_18 ?_
  refine lv_topi (fun z3 ez3 => ?_)
  have h := nd_at h ez3
  refine lv_istore_n (lv' := [(1, .int z3), (0, .ref (a 0))]) hx hb dX9_takeNear_19 rfl hl (by decide) rfl (fun ls hl => ?_)
  refine lv_aload_n hx hb dX9_takeNear_20 rfl (lv_at hl 1 rfl) ?_
  obtain ⟨o4, h⟩ := nd_o_e h
  refine va_get (D := (dC, dI)) (ci := 10) (v := .ref (a 8)) (C := RX9) (T := TX9) (N := 20) hx hb hts hi_dm_X9_takeNear_X9 hown hK hP 0 rfl rfl 0 (by decide) (hts (.fieldLink RX9 9 "TimeMachine$Reader" "source" "[B") (List.mem_of_getElem? (i := 4) rfl)) (fun _ h9 => h9) (congrArg (fun z => some (va_rf (Option.map a z))) o4) dX9_takeNear_21 ?_
  refine lv_aload_n hx hb dX9_takeNear_24 rfl (lv_at hl 1 rfl) ?_
  refine va_get (D := (dC, dI)) (ci := 10) (v := .int (sI s1 3)) (C := RX9) (T := TX9) (N := 20) hx hb hts hi_dm_X9_takeNear_X9 hown hK hP 0 rfl rfl 4 (by decide) (hts (.fieldLink RX9 70 "TimeMachine$Reader" "from" "I") (List.mem_of_getElem? (i := 5) rfl)) (fun _ h9 => h9) rfl dX9_takeNear_25 ?_
  refine lv_iconst (v := 1) hx hb dX9_takeNear_28 (by decide) ?_
  refine lv_iadd hx hb dX9_takeNear_29 ?_
  obtain ⟨i5, h⟩ := nd_ck_e h
  refine va_bald (i := ((sI s1 3) + 1)) hx hb hK hP 8 7 rfl rfl i5 dX9_takeNear_30 ?_
  refine lv_bipush (v := 98) hx hb dX9_takeNear_31 (by decide) ?_
  refine lv_icmp_ne (tgt := 46) hx hb dX9_takeNear_33 (by decide) (fun c6 => ?_) (fun c6 => ?_)
  · have h := nd_neg h c6
    refine lv_aload_n hx hb dX9_takeNear_46 rfl (lv_at hl 1 rfl) ?_
    refine lv_bipush (v := 19) hx hb dX9_takeNear_47 (by decide) ?_
    refine lv_iload_n hx hb dX9_takeNear_49 rfl (lv_at hl 0 rfl) ?_
    refine lv_if_lt (tgt := 57) hx hb dX9_takeNear_50 (by decide) (fun c7 => ?_) (fun c7 => ?_)
    · have h := nd_pos h c7
      refine lv_iconst (v := (-1)) hx hb dX9_takeNear_57 (by decide) ?_
      refine lv_aload_n hx hb dX9_takeNear_58 rfl (lv_at hl 1 rfl) ?_
      refine va_get (D := (dC, dI)) (ci := 10) (v := .int (sI s1 4)) (C := RX9) (T := TX9) (N := 20) hx hb hts hi_dm_X9_takeNear_X9 hown hK hP 0 rfl rfl 5 (by decide) (hts (.fieldLink RX9 93 "TimeMachine$Reader" "number" "I") (List.mem_of_getElem? (i := 3) rfl)) (fun _ h9 => h9) rfl dX9_takeNear_59 ?_
      refine lv_isub hx hb dX9_takeNear_62 ?_
      exact (db_X9_takeNear_63 C K) (19) (((-1) - (sI s1 4))) s1 _ _ _ h hP hD hS (lv_sub hl [] rfl)
    · have h := nd_neg h c7
      refine lv_iload_n hx hb dX9_takeNear_53 rfl (lv_at hl 0 rfl) ?_
      refine lv_goto (tgt := 63) hx hb dX9_takeNear_54 (by decide) ?_
      exact (db_X9_takeNear_63 C K) (19) (z3) s1 _ _ _ h hP hD hS (lv_sub hl [] rfl)
  · have h := nd_pos h c6
    refine lv_aload_n hx hb dX9_takeNear_36 rfl (lv_at hl 1 rfl) ?_
    refine lv_bipush (v := 20) hx hb dX9_takeNear_37 (by decide) ?_
    refine lv_iload_n hx hb dX9_takeNear_39 rfl (lv_at hl 0 rfl) ?_
    obtain ⟨s12, hq, h⟩ := nd_b1_e h
    have hPc := hP
    have hDc := hD
    have hKc := hK
    have hFc := nd_rs hD hS hA
    refine nd_cVv (As := [.int 20, .int z3]) (rest := []) (w' := dw_X9 a ac s12) ⟨hx, hb, hml, hown, hts⟩ (fun sz => dm_X9_emit l hlt dC dI a ac n (20) (z3) s1 hq sz) (cwV 2 hts gi_dm_X9_takeNear_0 rfl rfl rfl (by decide +kernel) ⟨Nat.le_of_ble_eq_true rfl, Nat.le_of_ble_eq_true rfl⟩) hPc hDc hKc hS hA hN (va_recv hKc hPc (ci := 10) (q0 := 0) rfl rfl) rfl hl.1 rfl (Nat.le_of_ble_eq_true rfl) dX9_takeNear_40 (fun H locs hP1 hD1 hk1 hS => ?_)
    have hP := hP1
    have hD := hD1.weaken (fun k q _ h => hFc q.1 h)
    refine lv_goto (tgt := 66) hx hb dX9_takeNear_43 (by decide) ?_
    exact (db_X9_takeNear_66 C K)  s12 _ _ _ h hP hD hS (lv_sub hl [] rfl)
set_option maxHeartbeats 40000000 in
set_option maxRecDepth 100000 in
theorem dm_X9_takeNear (l : Launch) (hlt : l.stackTraces = false) (dC : Nat → ClassId) (dI : Nat → Nat → Nat) (a : Nat → Nat) (ac : Nat → ClassId) (n : Nat) (s0 : St) {r : St} (h : df_X9_takeNear n s0 = some r) (sz : Nat) : Met l yX9_takeNear ow_dm_X9_takeNear ({ frames := 1, cells := 0, slots := 0, locals := 22 }) (va_Pc [.ref (a 0)] (fun U => U.heap.size = sz ∧ va_P (dC, dI) vwCl (dw_X9 a ac s0) U.heap ∧ va_K (dC, dI) vwCl (dk_X9 ac) U ∧ va_D (fun _ => True) (dw_X9 a ac s0) ∧ nv_E dI (va_A (dw_X9 a ac s0) sz) U)) (va_Qv (fun _ => True) (fun (_ : Unit) t => va_P (dC, dI) vwCl (dw_X9 a ac r) t.heap ∧ va_K (dC, dI) vwCl (dk_X9 ac) t ∧ va_D (va_A (dw_X9 a ac s0) sz) (dw_X9 a ac r)) (va_A (dw_X9 a ac s0) sz)) 0 0 (va_A (dw_X9 a ac s0) sz) := by
  refine Met.ofW (cc := cX9_takeNear) (maxL := 2) (ret := none) (by decide) rfl ?_
  intro p e s m args below meth c s₁ B hml hv
  obtain ⟨rfl, hsz, hP, hK, hD0, hN⟩ := hv
  have hx := B.exec
  have hb := B.bytes
  have hr := B.returns
  have hts := atoms_spec (ws := ow_dm_X9_takeNear) B.pre
  have hown : s.vm.findClass RX9 = some m.cls := findClass_of_methodNamed B.named
  have hlocks := B.notSynchronized
  subst hsz
  have hD := hD0.self (sz := s.heap.size)
  generalize hAe : va_A (dw_X9 a ac s0) s.heap.size = A at hD hN ⊢
  have hA : ∀ q : Nat, s.heap.size ≤ q → A q := fun q h => by rw [← hAe]; exact Or.inr h
  have hl := lv_entry ([.ref (a 0)]) (n := 2) (Nat.le_of_ble_eq_true rfl)
  rw [lg_entry_eq]
  generalize (lg_sl ([.ref (a 0)]) ++ List.replicate (2 - (lg_sl ([.ref (a 0)])).length) Slot.unset).toArray = ls at hl ⊢
  have hl : lv_has ls 2 [(0, .ref (a 0))] := hl
  exact db_X9_takeNear_0 (dC := dC) (dI := dI) (a := a) (ac := ac) (n := n) (r := r) ⟨hlt, hx, hb, hml, hown, hts, hN, hA, hK⟩ (fun pc τ H locs ls d er hP hD hS => by subst er; exact W.vret hx hb hr (fun t ht hW => ⟨⟨(), rfl, trivial, by rw [ht]; exact hP, va_K.moved hW.alike hK, hD⟩, hS.F ht⟩) hS.2.2 d) s0 _ _ _ h hP hD va_S.rf (lv_sub hl [0] rfl)
def ow_dm_X9_takeOperand : List Cond := Cond.code yX9_takeOperand cX9_takeOperand 2 none :: ([Cond.fieldLink RX9 119 "TimeMachine$Reader" "state" "I", Cond.fieldLink RX9 73 "TimeMachine$Reader" "kind" "I", Cond.methodLink RX9 144 yX9_isSign, Cond.instanceMethod yX9_isSign, Cond.selects RX9 yX9_isSign yX9_isSign, Cond.initialized RX9, Cond.fieldLink RX9 93 "TimeMachine$Reader" "number" "I", Cond.methodLink RX9 141 yX9_push, Cond.instanceMethod yX9_push, Cond.selects RX9 yX9_push yX9_push, Cond.methodLink RX9 138 yX9_takeNear, Cond.instanceMethod yX9_takeNear, Cond.selects RX9 yX9_takeNear yX9_takeNear, Cond.fieldLink RX9 70 "TimeMachine$Reader" "from" "I", Cond.fieldLink RX9 55 "TimeMachine$Reader" "at" "I", Cond.methodLink RX9 135 yX9_nameAt, Cond.instanceMethod yX9_nameAt, Cond.selects RX9 yX9_nameAt yX9_nameAt, Cond.fieldLink RX9 115 "TimeMachine$Reader" "fixed" "Z", Cond.methodLink RX9 131 yX9_emit, Cond.instanceMethod yX9_emit, Cond.selects RX9 yX9_emit yX9_emit, Cond.fieldLink RX9 27 "TimeMachine$Reader" "name" "[I", Cond.fieldLink RX9 9 "TimeMachine$Reader" "source" "[B"] ++ (u_ws RX9 TX9 20 ++ (ow_dm_X9_isSign ++ (ow_dm_X9_push ++ (ow_dm_X9_takeNear ++ (ow_dm_X9_nameAt ++ (ow_dm_X9_emit ++ [])))))))
theorem gd_dm_X9_takeOperand : ∀ w ∈ ow_dm_X9_takeOperand, (w.onTables && w.keeps) = true ∨ ∃ ty, w = Cond.arrayClass ty := List.forall_mem_cons.mpr ⟨good_of_word rfl, List.forall_mem_append.mpr ⟨fun w h => good_of_word (List.all_eq_true.mp (by decide +kernel) w h), List.forall_mem_append.mpr ⟨gu_X9, List.forall_mem_append.mpr ⟨gd_dm_X9_isSign, List.forall_mem_append.mpr ⟨gd_dm_X9_push, List.forall_mem_append.mpr ⟨gd_dm_X9_takeNear, List.forall_mem_append.mpr ⟨gd_dm_X9_nameAt, List.forall_mem_append.mpr ⟨gd_dm_X9_emit, fun _ h => nomatch h⟩⟩⟩⟩⟩⟩⟩⟩
theorem hi_dm_X9_takeOperand_X9 : ∀ w ∈ u_ws RX9 TX9 20, w ∈ ow_dm_X9_takeOperand := fun w h => List.mem_cons_of_mem _ (List.mem_append_right _ (List.mem_append_left _ h))
theorem gi_dm_X9_takeOperand_0 : GoodIn ow_dm_X9_takeOperand (wsV RX9 144 RX9 yX9_isSign ow_dm_X9_isSign) := goodIn_app (goodIn_of _ (by decide +kernel)) (fun w h => ⟨List.mem_cons_of_mem _ (List.mem_append_right _ (List.mem_append_right _ (List.mem_append_left _ h))), gd_dm_X9_isSign w h⟩)
theorem gi_dm_X9_takeOperand_1 : GoodIn ow_dm_X9_takeOperand (wsV RX9 141 RX9 yX9_push ow_dm_X9_push) := goodIn_app (goodIn_of _ (by decide +kernel)) (fun w h => ⟨List.mem_cons_of_mem _ (List.mem_append_right _ (List.mem_append_right _ (List.mem_append_right _ (List.mem_append_left _ h)))), gd_dm_X9_push w h⟩)
theorem gi_dm_X9_takeOperand_2 : GoodIn ow_dm_X9_takeOperand (wsV RX9 138 RX9 yX9_takeNear ow_dm_X9_takeNear) := goodIn_app (goodIn_of _ (by decide +kernel)) (fun w h => ⟨List.mem_cons_of_mem _ (List.mem_append_right _ (List.mem_append_right _ (List.mem_append_right _ (List.mem_append_right _ (List.mem_append_left _ h))))), gd_dm_X9_takeNear w h⟩)
theorem gi_dm_X9_takeOperand_3 : GoodIn ow_dm_X9_takeOperand (wsV RX9 135 RX9 yX9_nameAt ow_dm_X9_nameAt) := goodIn_app (goodIn_of _ (by decide +kernel)) (fun w h => ⟨List.mem_cons_of_mem _ (List.mem_append_right _ (List.mem_append_right _ (List.mem_append_right _ (List.mem_append_right _ (List.mem_append_right _ (List.mem_append_left _ h)))))), gd_dm_X9_nameAt w h⟩)
theorem gi_dm_X9_takeOperand_4 : GoodIn ow_dm_X9_takeOperand (wsV RX9 131 RX9 yX9_emit ow_dm_X9_emit) := goodIn_app (goodIn_of _ (by decide +kernel)) (fun w h => ⟨List.mem_cons_of_mem _ (List.mem_append_right _ (List.mem_append_right _ (List.mem_append_right _ (List.mem_append_right _ (List.mem_append_right _ (List.mem_append_right _ (List.mem_append_left _ h))))))), gd_dm_X9_emit w h⟩)
def dj_X9_takeOperand_253 (p : Program) (l : Launch) (e : Env) (s : State) (m : MethodId) (args : Array Value) (below : List Frame) (meth : Method) (c : Code) (Q : State → Prop) (A : Nat → Prop) (dC : Nat → ClassId) (dI : Nat → Nat → Nat) (a : Nat → Nat) (ac : Nat → ClassId) (g : (St) → Option (St)) (r : St) : Prop := ∀ (s0 : St) (H : Heap) (locs : List Loc) (ls : Array Slot), g s0 = some r → va_P (dC, dI) vwCl (dw_X9 a ac s0) H → va_D A (dw_X9 a ac s0) → va_S A s.heap H locs → lv_has ls 2 [] → W p l e (headSpec ow_dm_X9_takeOperand ({ frames := 2, cells := 0, slots := 0, locals := 43 })).room s m args below meth c H locs 0 0 Q (F0 m 253 ls [])
def dj_X9_takeOperand_250 (p : Program) (l : Launch) (e : Env) (s : State) (m : MethodId) (args : Array Value) (below : List Frame) (meth : Method) (c : Code) (Q : State → Prop) (A : Nat → Prop) (dC : Nat → ClassId) (dI : Nat → Nat → Nat) (a : Nat → Nat) (ac : Nat → ClassId) (g : Int32 → (St) → Option (St)) (r : St) : Prop := ∀ (y1 : Int32) (s0 : St) (H : Heap) (locs : List Loc) (ls : Array Slot), g y1 s0 = some r → va_P (dC, dI) vwCl (dw_X9 a ac s0) H → va_D A (dw_X9 a ac s0) → va_S A s.heap H locs → lv_has ls 2 [] → W p l e (headSpec ow_dm_X9_takeOperand ({ frames := 2, cells := 0, slots := 0, locals := 43 })).room s m args below meth c H locs 0 0 Q (F0 m 250 ls [.int y1, .ref (a 0)])
def dj_X9_takeOperand_234 (p : Program) (l : Launch) (e : Env) (s : State) (m : MethodId) (args : Array Value) (below : List Frame) (meth : Method) (c : Code) (Q : State → Prop) (A : Nat → Prop) (dC : Nat → ClassId) (dI : Nat → Nat → Nat) (a : Nat → Nat) (ac : Nat → ClassId) (g : (St) → Option (St)) (r : St) : Prop := ∀ (s0 : St) (H : Heap) (locs : List Loc) (ls : Array Slot), g s0 = some r → va_P (dC, dI) vwCl (dw_X9 a ac s0) H → va_D A (dw_X9 a ac s0) → va_S A s.heap H locs → lv_has ls 2 [(0, .ref (a 0))] → W p l e (headSpec ow_dm_X9_takeOperand ({ frames := 2, cells := 0, slots := 0, locals := 43 })).room s m args below meth c H locs 0 0 Q (F0 m 234 ls [])
def dj_X9_takeOperand_223 (p : Program) (l : Launch) (e : Env) (s : State) (m : MethodId) (args : Array Value) (below : List Frame) (meth : Method) (c : Code) (Q : State → Prop) (A : Nat → Prop) (dC : Nat → ClassId) (dI : Nat → Nat → Nat) (a : Nat → Nat) (ac : Nat → ClassId) (g : Int32 → (St) → Option (St)) (r : St) : Prop := ∀ (y1 : Int32) (s0 : St) (H : Heap) (locs : List Loc) (ls : Array Slot), g y1 s0 = some r → va_P (dC, dI) vwCl (dw_X9 a ac s0) H → va_D A (dw_X9 a ac s0) → va_S A s.heap H locs → lv_has ls 2 [(0, .ref (a 0))] → W p l e (headSpec ow_dm_X9_takeOperand ({ frames := 2, cells := 0, slots := 0, locals := 43 })).room s m args below meth c H locs 0 0 Q (F0 m 223 ls [.int y1, .ref (a 0)])
def dj_X9_takeOperand_192 (p : Program) (l : Launch) (e : Env) (s : State) (m : MethodId) (args : Array Value) (below : List Frame) (meth : Method) (c : Code) (Q : State → Prop) (A : Nat → Prop) (dC : Nat → ClassId) (dI : Nat → Nat → Nat) (a : Nat → Nat) (ac : Nat → ClassId) (g : (St) → Option (St)) (r : St) : Prop := ∀ (s0 : St) (H : Heap) (locs : List Loc) (ls : Array Slot), g s0 = some r → va_P (dC, dI) vwCl (dw_X9 a ac s0) H → va_D A (dw_X9 a ac s0) → va_S A s.heap H locs → lv_has ls 2 [(0, .ref (a 0))] → W p l e (headSpec ow_dm_X9_takeOperand ({ frames := 2, cells := 0, slots := 0, locals := 43 })).room s m args below meth c H locs 0 0 Q (F0 m 192 ls [])
def dj_X9_takeOperand_129 (p : Program) (l : Launch) (e : Env) (s : State) (m : MethodId) (args : Array Value) (below : List Frame) (meth : Method) (c : Code) (Q : State → Prop) (A : Nat → Prop) (dC : Nat → ClassId) (dI : Nat → Nat → Nat) (a : Nat → Nat) (ac : Nat → ClassId) (g : Int32 → Int32 → (St) → Option (St)) (r : St) : Prop := ∀ (x1 : Int32) (y1 : Int32) (s0 : St) (H : Heap) (locs : List Loc) (ls : Array Slot), g x1 y1 s0 = some r → va_P (dC, dI) vwCl (dw_X9 a ac s0) H → va_D A (dw_X9 a ac s0) → va_S A s.heap H locs → lv_has ls 2 [(0, .ref (a 0)), (1, .int x1)] → W p l e (headSpec ow_dm_X9_takeOperand ({ frames := 2, cells := 0, slots := 0, locals := 43 })).room s m args below meth c H locs 0 0 Q (F0 m 129 ls [.int y1, .ref (a 0)])
def dj_X9_takeOperand_128 (p : Program) (l : Launch) (e : Env) (s : State) (m : MethodId) (args : Array Value) (below : List Frame) (meth : Method) (c : Code) (Q : State → Prop) (A : Nat → Prop) (dC : Nat → ClassId) (dI : Nat → Nat → Nat) (a : Nat → Nat) (ac : Nat → ClassId) (g : Int32 → (St) → Option (St)) (r : St) : Prop := ∀ (x1 : Int32) (s0 : St) (H : Heap) (locs : List Loc) (ls : Array Slot), g x1 s0 = some r → va_P (dC, dI) vwCl (dw_X9 a ac s0) H → va_D A (dw_X9 a ac s0) → va_S A s.heap H locs → lv_has ls 2 [(0, .ref (a 0)), (1, .int x1)] → W p l e (headSpec ow_dm_X9_takeOperand ({ frames := 2, cells := 0, slots := 0, locals := 43 })).room s m args below meth c H locs 0 0 Q (F0 m 128 ls [.ref (a 0)])
def dj_X9_takeOperand_76 (p : Program) (l : Launch) (e : Env) (s : State) (m : MethodId) (args : Array Value) (below : List Frame) (meth : Method) (c : Code) (Q : State → Prop) (A : Nat → Prop) (dC : Nat → ClassId) (dI : Nat → Nat → Nat) (a : Nat → Nat) (ac : Nat → ClassId) (g : (St) → Option (St)) (r : St) : Prop := ∀ (s0 : St) (H : Heap) (locs : List Loc) (ls : Array Slot), g s0 = some r → va_P (dC, dI) vwCl (dw_X9 a ac s0) H → va_D A (dw_X9 a ac s0) → va_S A s.heap H locs → lv_has ls 2 [(0, .ref (a 0))] → W p l e (headSpec ow_dm_X9_takeOperand ({ frames := 2, cells := 0, slots := 0, locals := 43 })).room s m args below meth c H locs 0 0 Q (F0 m 76 ls [])
def dj_X9_takeOperand_0 (p : Program) (l : Launch) (e : Env) (s : State) (m : MethodId) (args : Array Value) (below : List Frame) (meth : Method) (c : Code) (Q : State → Prop) (A : Nat → Prop) (dC : Nat → ClassId) (dI : Nat → Nat → Nat) (a : Nat → Nat) (ac : Nat → ClassId) (g : (St) → Option (St)) (r : St) : Prop := ∀ (s0 : St) (H : Heap) (locs : List Loc) (ls : Array Slot), g s0 = some r → va_P (dC, dI) vwCl (dw_X9 a ac s0) H → va_D A (dw_X9 a ac s0) → va_S A s.heap H locs → lv_has ls 2 [(0, .ref (a 0))] → W p l e (headSpec ow_dm_X9_takeOperand ({ frames := 2, cells := 0, slots := 0, locals := 43 })).room s m args below meth c H locs 0 0 Q (F0 m 0 ls [])
set_option maxHeartbeats 40000000 in
set_option maxRecDepth 100000 in
theorem db_X9_takeOperand_253 {p : Program} {l : Launch} {e : Env} {s : State} {m : MethodId} {args : Array Value} {below : List Frame} {meth : Method} {c : Code} {Q : State → Prop} {A : Nat → Prop} {dC : Nat → ClassId} {dI : Nat → Nat → Nat} {a : Nat → Nat} {ac : Nat → ClassId} {n : Nat} {r : St} (C : nd_C p l s m args c A (dC, dI) cX9_takeOperand 2 RX9 ow_dm_X9_takeOperand (dk_X9 ac)) (K : nd_Kv p l e (headSpec ow_dm_X9_takeOperand ({ frames := 2, cells := 0, slots := 0, locals := 43 })).room s m args below meth c Q A (dC, dI) cX9_takeOperand (St) (dw_X9 a ac) r) : dj_X9_takeOperand_253 p l e s m args below meth c Q A dC dI a ac (df_X9_takeOperand_253 n) r := by
  obtain ⟨hlt, hx, hb, hml, hown, hts, hN, hA, hK⟩ := id C
  intro s0 H locs ls h hP hD hS hl
  unfold df_X9_takeOperand_253 at h
  exact K _ _ _ _ _ dX9_takeOperand_253 (Option.some.inj h).symm hP hD hS
set_option maxHeartbeats 40000000 in
set_option maxRecDepth 100000 in
theorem db_X9_takeOperand_250 {p : Program} {l : Launch} {e : Env} {s : State} {m : MethodId} {args : Array Value} {below : List Frame} {meth : Method} {c : Code} {Q : State → Prop} {A : Nat → Prop} {dC : Nat → ClassId} {dI : Nat → Nat → Nat} {a : Nat → Nat} {ac : Nat → ClassId} {n : Nat} {r : St} (C : nd_C p l s m args c A (dC, dI) cX9_takeOperand 2 RX9 ow_dm_X9_takeOperand (dk_X9 ac)) (K : nd_Kv p l e (headSpec ow_dm_X9_takeOperand ({ frames := 2, cells := 0, slots := 0, locals := 43 })).room s m args below meth c Q A (dC, dI) cX9_takeOperand (St) (dw_X9 a ac) r) : dj_X9_takeOperand_250 p l e s m args below meth c Q A dC dI a ac (df_X9_takeOperand_250 n) r := by
  obtain ⟨hlt, hx, hb, hml, hown, hts, hN, hA, hK⟩ := id C
  intro y1 s0 H locs ls h hP hD hS hl
  unfold df_X9_takeOperand_250 at h
  refine va_put (D := (dC, dI)) (ci := 10) (v := .int y1) (ty := .int) (C := RX9) (T := TX9) (N := 20) hx hb hts hi_dm_X9_takeOperand_X9 tyX9 tyX9_ok nmX9 hown hK hP hD hS 0 rfl rfl 11 (by decide) (hts (.fieldLink RX9 119 "TimeMachine$Reader" "state" "I") (List.mem_of_getElem? (i := 1) rfl)) (fun _ h9 => h9) rfl (by decide +kernel) rfl rfl (Nat.le_of_ble_eq_true rfl) dX9_takeOperand_250 (fun H locs hP hD hS => ?_)
  obtain ⟨s11, es11, h⟩ := nd_let_e h
  have hP : va_P (dC, dI) vwCl (dw_X9 a ac s11) H := by rw [es11]; exact hP
  have hD : va_D A (dw_X9 a ac s11) := by rw [es11]; exact hD
  exact (db_X9_takeOperand_253 C K)  s11 _ _ _ h hP hD hS (lv_sub hl [] rfl)
set_option maxHeartbeats 40000000 in
set_option maxRecDepth 100000 in
theorem db_X9_takeOperand_234 {p : Program} {l : Launch} {e : Env} {s : State} {m : MethodId} {args : Array Value} {below : List Frame} {meth : Method} {c : Code} {Q : State → Prop} {A : Nat → Prop} {dC : Nat → ClassId} {dI : Nat → Nat → Nat} {a : Nat → Nat} {ac : Nat → ClassId} {n : Nat} {r : St} (C : nd_C p l s m args c A (dC, dI) cX9_takeOperand 2 RX9 ow_dm_X9_takeOperand (dk_X9 ac)) (K : nd_Kv p l e (headSpec ow_dm_X9_takeOperand ({ frames := 2, cells := 0, slots := 0, locals := 43 })).room s m args below meth c Q A (dC, dI) cX9_takeOperand (St) (dw_X9 a ac) r) : dj_X9_takeOperand_234 p l e s m args below meth c Q A dC dI a ac (df_X9_takeOperand_234 n) r := by
  obtain ⟨hlt, hx, hb, hml, hown, hts, hN, hA, hK⟩ := id C
  intro s0 H locs ls h hP hD hS hl
  unfold df_X9_takeOperand_234 at h
  refine lv_aload_n hx hb dX9_takeOperand_234 rfl (lv_at hl 0 rfl) ?_
  refine lv_aload_n hx hb dX9_takeOperand_235 rfl (lv_at hl 0 rfl) ?_
  refine lv_bipush (v := 37) hx hb dX9_takeOperand_236 (by decide) ?_
  obtain ⟨q7, s8, hq, h⟩ := nd_b2_e h
  have hPc := hP
  have hDc := hD
  have hKc := hK
  have hFc := nd_rs hD hS hA
  refine nd_cVi (As := [.int 37]) (rest := [.ref (a 0)]) (q := q7) (w' := dw_X9 a ac s8) ⟨hx, hb, hml, hown, hts⟩ (fun sz => dm_X9_isSign l hlt dC dI a ac n (37) s0 hq sz) (cwV 1 hts gi_dm_X9_takeOperand_0 rfl rfl rfl (by decide +kernel) ⟨Nat.le_of_ble_eq_true rfl, Nat.le_of_ble_eq_true rfl⟩) hPc hDc hKc hS hA hN (va_recv hKc hPc (ci := 10) (q0 := 0) rfl rfl) rfl hl.1 rfl (Nat.le_of_ble_eq_true rfl) dX9_takeOperand_238 (fun H locs hP1 hD1 hk1 hS => ?_)
  have hP := hP1
  have hD := hD1.weaken (fun k q _ h => hFc q.1 h)
  refine lv_if_eq (tgt := 248) hx hb dX9_takeOperand_241 (by decide) (fun c10 => ?_) (fun c10 => ?_)
  · have h := nd_pos h c10
    refine lv_bipush (v := 6) hx hb dX9_takeOperand_248 (by decide) ?_
    exact (db_X9_takeOperand_250 C K) (6) s8 _ _ _ h hP hD hS (lv_sub hl [] rfl)
  · have h := nd_neg h c10
    refine lv_iconst (v := 2) hx hb dX9_takeOperand_244 (by decide) ?_
    refine lv_goto (tgt := 250) hx hb dX9_takeOperand_245 (by decide) ?_
    exact (db_X9_takeOperand_250 C K) (2) s8 _ _ _ h hP hD hS (lv_sub hl [] rfl)
set_option maxHeartbeats 40000000 in
set_option maxRecDepth 100000 in
theorem db_X9_takeOperand_223 {p : Program} {l : Launch} {e : Env} {s : State} {m : MethodId} {args : Array Value} {below : List Frame} {meth : Method} {c : Code} {Q : State → Prop} {A : Nat → Prop} {dC : Nat → ClassId} {dI : Nat → Nat → Nat} {a : Nat → Nat} {ac : Nat → ClassId} {n : Nat} {r : St} (C : nd_C p l s m args c A (dC, dI) cX9_takeOperand 2 RX9 ow_dm_X9_takeOperand (dk_X9 ac)) (K : nd_Kv p l e (headSpec ow_dm_X9_takeOperand ({ frames := 2, cells := 0, slots := 0, locals := 43 })).room s m args below meth c Q A (dC, dI) cX9_takeOperand (St) (dw_X9 a ac) r) : dj_X9_takeOperand_223 p l e s m args below meth c Q A dC dI a ac (df_X9_takeOperand_223 n) r := by
  obtain ⟨hlt, hx, hb, hml, hown, hts, hN, hA, hK⟩ := id C
  intro y1 s0 H locs ls h hP hD hS hl
  unfold df_X9_takeOperand_223 at h
  obtain ⟨s16, hq, h⟩ := nd_b1_e h
  have hPc := hP
  have hDc := hD
  have hKc := hK
  have hFc := nd_rs hD hS hA
  refine nd_cVv (As := [.int y1]) (rest := []) (w' := dw_X9 a ac s16) ⟨hx, hb, hml, hown, hts⟩ (fun sz => dm_X9_push l hlt dC dI a ac n (y1) s0 hq sz) (cwV 1 hts gi_dm_X9_takeOperand_1 rfl rfl rfl (by decide +kernel) ⟨Nat.le_of_ble_eq_true rfl, Nat.le_of_ble_eq_true rfl⟩) hPc hDc hKc hS hA hN (va_recv hKc hPc (ci := 10) (q0 := 0) rfl rfl) rfl hl.1 rfl (Nat.le_of_ble_eq_true rfl) dX9_takeOperand_223 (fun H locs hP1 hD1 hk1 hS => ?_)
  have hP := hP1
  have hD := hD1.weaken (fun k q _ h => hFc q.1 h)
  refine lv_aload_n hx hb dX9_takeOperand_226 rfl (lv_at hl 0 rfl) ?_
  refine lv_iconst (v := 0) hx hb dX9_takeOperand_227 (by decide) ?_
  refine va_put (D := (dC, dI)) (ci := 10) (v := .int 0) (ty := .int) (C := RX9) (T := TX9) (N := 20) hx hb hts hi_dm_X9_takeOperand_X9 tyX9 tyX9_ok nmX9 hown hK hP hD hS 0 rfl rfl 11 (by decide) (hts (.fieldLink RX9 119 "TimeMachine$Reader" "state" "I") (List.mem_of_getElem? (i := 1) rfl)) (fun _ h9 => h9) rfl (by decide +kernel) rfl rfl (Nat.le_of_ble_eq_true rfl) dX9_takeOperand_228 (fun H locs hP hD hS => ?_)
  obtain ⟨s18, es18, h⟩ := nd_let_e h
  have hP : va_P (dC, dI) vwCl (dw_X9 a ac s18) H := by rw [es18]; exact hP
  have hD : va_D A (dw_X9 a ac s18) := by rw [es18]; exact hD
  refine lv_goto (tgt := 253) hx hb dX9_takeOperand_231 (by decide) ?_
  exact (db_X9_takeOperand_253 C K)  s18 _ _ _ h hP hD hS (lv_sub hl [] rfl)
set_option maxHeartbeats 40000000 in
set_option maxRecDepth 100000 in
theorem db_X9_takeOperand_192 {p : Program} {l : Launch} {e : Env} {s : State} {m : MethodId} {args : Array Value} {below : List Frame} {meth : Method} {c : Code} {Q : State → Prop} {A : Nat → Prop} {dC : Nat → ClassId} {dI : Nat → Nat → Nat} {a : Nat → Nat} {ac : Nat → ClassId} {n : Nat} {r : St} (C : nd_C p l s m args c A (dC, dI) cX9_takeOperand 2 RX9 ow_dm_X9_takeOperand (dk_X9 ac)) (K : nd_Kv p l e (headSpec ow_dm_X9_takeOperand ({ frames := 2, cells := 0, slots := 0, locals := 43 })).room s m args below meth c Q A (dC, dI) cX9_takeOperand (St) (dw_X9 a ac) r) : dj_X9_takeOperand_192 p l e s m args below meth c Q A dC dI a ac (df_X9_takeOperand_192 n) r := by
  obtain ⟨hlt, hx, hb, hml, hown, hts, hN, hA, hK⟩ := id C
  intro s0 H locs ls h hP hD hS hl
  unfold df_X9_takeOperand_192 at h
  refine lv_aload_n hx hb dX9_takeOperand_192 rfl (lv_at hl 0 rfl) ?_
  refine lv_aload_n hx hb dX9_takeOperand_193 rfl (lv_at hl 0 rfl) ?_
  refine va_get (D := (dC, dI)) (ci := 10) (v := .int (sI s0 4)) (C := RX9) (T := TX9) (N := 20) hx hb hts hi_dm_X9_takeOperand_X9 hown hK hP 0 rfl rfl 5 (by decide) (hts (.fieldLink RX9 93 "TimeMachine$Reader" "number" "I") (List.mem_of_getElem? (i := 7) rfl)) (fun _ h9 => h9) rfl dX9_takeOperand_194 ?_
  refine lv_bipush (v := 45) hx hb dX9_takeOperand_197 (by decide) ?_
  refine lv_icmp_ne (tgt := 207) hx hb dX9_takeOperand_199 (by decide) (fun c13 => ?_) (fun c13 => ?_)
  · have h := nd_neg h c13
    refine lv_aload_n hx hb dX9_takeOperand_207 rfl (lv_at hl 0 rfl) ?_
    refine va_get (D := (dC, dI)) (ci := 10) (v := .int (sI s0 4)) (C := RX9) (T := TX9) (N := 20) hx hb hts hi_dm_X9_takeOperand_X9 hown hK hP 0 rfl rfl 5 (by decide) (hts (.fieldLink RX9 93 "TimeMachine$Reader" "number" "I") (List.mem_of_getElem? (i := 7) rfl)) (fun _ h9 => h9) rfl dX9_takeOperand_208 ?_
    refine lv_bipush (v := 126) hx hb dX9_takeOperand_211 (by decide) ?_
    refine lv_icmp_ne (tgt := 221) hx hb dX9_takeOperand_213 (by decide) (fun c14 => ?_) (fun c14 => ?_)
    · have h := nd_neg h c14
      refine lv_bipush (v := 15) hx hb dX9_takeOperand_221 (by decide) ?_
      exact (db_X9_takeOperand_223 C K) (15) s0 _ _ _ h hP hD hS (lv_sub hl [0] rfl)
    · have h := nd_pos h c14
      refine lv_bipush (v := 12) hx hb dX9_takeOperand_216 (by decide) ?_
      refine lv_goto (tgt := 223) hx hb dX9_takeOperand_218 (by decide) ?_
      exact (db_X9_takeOperand_223 C K) (12) s0 _ _ _ h hP hD hS (lv_sub hl [0] rfl)
  · have h := nd_pos h c13
    refine lv_bipush (v := 11) hx hb dX9_takeOperand_202 (by decide) ?_
    refine lv_goto (tgt := 223) hx hb dX9_takeOperand_204 (by decide) ?_
    exact (db_X9_takeOperand_223 C K) (11) s0 _ _ _ h hP hD hS (lv_sub hl [0] rfl)
set_option maxHeartbeats 40000000 in
set_option maxRecDepth 100000 in
theorem db_X9_takeOperand_129 {p : Program} {l : Launch} {e : Env} {s : State} {m : MethodId} {args : Array Value} {below : List Frame} {meth : Method} {c : Code} {Q : State → Prop} {A : Nat → Prop} {dC : Nat → ClassId} {dI : Nat → Nat → Nat} {a : Nat → Nat} {ac : Nat → ClassId} {n : Nat} {r : St} (C : nd_C p l s m args c A (dC, dI) cX9_takeOperand 2 RX9 ow_dm_X9_takeOperand (dk_X9 ac)) (K : nd_Kv p l e (headSpec ow_dm_X9_takeOperand ({ frames := 2, cells := 0, slots := 0, locals := 43 })).room s m args below meth c Q A (dC, dI) cX9_takeOperand (St) (dw_X9 a ac) r) : dj_X9_takeOperand_129 p l e s m args below meth c Q A dC dI a ac (df_X9_takeOperand_129 n) r := by
  obtain ⟨hlt, hx, hb, hml, hown, hts, hN, hA, hK⟩ := id C
  intro x1 y1 s0 H locs ls h hP hD hS hl
  unfold df_X9_takeOperand_129 at h
  obtain ⟨n28, h⟩ := nd_f_e h
  obtain ⟨n29, h⟩ := nd_z_e ⟨_, rfl⟩ h
  refine va_put (D := (dC, dI)) (ci := 10) (v := .int y1) (ty := .boolean) (C := RX9) (T := TX9) (N := 20) hx hb hts hi_dm_X9_takeOperand_X9 tyX9 tyX9_ok nmX9 hown hK hP hD hS 0 rfl rfl 18 (by decide) (hts (.fieldLink RX9 115 "TimeMachine$Reader" "fixed" "Z") (List.mem_of_getElem? (i := 19) rfl)) (fun _ h9 => h9) rfl (by decide +kernel) n29 n28 (Nat.le_of_ble_eq_true rfl) dX9_takeOperand_129 (fun H locs hP hD hS => ?_)
  obtain ⟨s30, es30, h⟩ := nd_let_e h
  have hP : va_P (dC, dI) vwCl (dw_X9 a ac s30) H := by rw [es30]; exact hP
  have hD : va_D A (dw_X9 a ac s30) := by rw [es30]; exact hD
  refine lv_aload_n hx hb dX9_takeOperand_132 rfl (lv_at hl 0 rfl) ?_
  refine lv_bipush (v := 17) hx hb dX9_takeOperand_133 (by decide) ?_
  refine lv_iload_n hx hb dX9_takeOperand_135 rfl (lv_at hl 1 rfl) ?_
  obtain ⟨s32, hq, h⟩ := nd_b1_e h
  have hPc := hP
  have hDc := hD
  have hKc := hK
  have hFc := nd_rs hD hS hA
  refine nd_cVv (As := [.int 17, .int x1]) (rest := []) (w' := dw_X9 a ac s32) ⟨hx, hb, hml, hown, hts⟩ (fun sz => dm_X9_emit l hlt dC dI a ac n (17) (x1) s30 hq sz) (cwV 2 hts gi_dm_X9_takeOperand_4 rfl rfl rfl (by decide +kernel) ⟨Nat.le_of_ble_eq_true rfl, Nat.le_of_ble_eq_true rfl⟩) hPc hDc hKc hS hA hN (va_recv hKc hPc (ci := 10) (q0 := 0) rfl rfl) rfl hl.1 rfl (Nat.le_of_ble_eq_true rfl) dX9_takeOperand_136 (fun H locs hP1 hD1 hk1 hS => ?_)
  have hP := hP1
  have hD := hD1.weaken (fun k q _ h => hFc q.1 h)
  refine lv_goto (tgt := 253) hx hb dX9_takeOperand_139 (by decide) ?_
  exact (db_X9_takeOperand_253 C K)  s32 _ _ _ h hP hD hS (lv_sub hl [] rfl)
set_option maxHeartbeats 40000000 in
set_option maxRecDepth 100000 in
theorem db_X9_takeOperand_128 {p : Program} {l : Launch} {e : Env} {s : State} {m : MethodId} {args : Array Value} {below : List Frame} {meth : Method} {c : Code} {Q : State → Prop} {A : Nat → Prop} {dC : Nat → ClassId} {dI : Nat → Nat → Nat} {a : Nat → Nat} {ac : Nat → ClassId} {n : Nat} {r : St} (C : nd_C p l s m args c A (dC, dI) cX9_takeOperand 2 RX9 ow_dm_X9_takeOperand (dk_X9 ac)) (K : nd_Kv p l e (headSpec ow_dm_X9_takeOperand ({ frames := 2, cells := 0, slots := 0, locals := 43 })).room s m args below meth c Q A (dC, dI) cX9_takeOperand (St) (dw_X9 a ac) r) : dj_X9_takeOperand_128 p l e s m args below meth c Q A dC dI a ac (df_X9_takeOperand_128 n) r := by
  obtain ⟨hlt, hx, hb, hml, hown, hts, hN, hA, hK⟩ := id C
  intro x1 s0 H locs ls h hP hD hS hl
  unfold df_X9_takeOperand_128 at h
  refine lv_iconst (v := 0) hx hb dX9_takeOperand_128 (by decide) ?_
  exact (db_X9_takeOperand_129 C K) (x1) (0) s0 _ _ _ h hP hD hS (lv_sub hl [0, 1] rfl)
set_option maxHeartbeats 40000000 in
set_option maxRecDepth 100000 in
theorem db_X9_takeOperand_76 {p : Program} {l : Launch} {e : Env} {s : State} {m : MethodId} {args : Array Value} {below : List Frame} {meth : Method} {c : Code} {Q : State → Prop} {A : Nat → Prop} {dC : Nat → ClassId} {dI : Nat → Nat → Nat} {a : Nat → Nat} {ac : Nat → ClassId} {n : Nat} {r : St} (C : nd_C p l s m args c A (dC, dI) cX9_takeOperand 2 RX9 ow_dm_X9_takeOperand (dk_X9 ac)) (K : nd_Kv p l e (headSpec ow_dm_X9_takeOperand ({ frames := 2, cells := 0, slots := 0, locals := 43 })).room s m args below meth c Q A (dC, dI) cX9_takeOperand (St) (dw_X9 a ac) r) : dj_X9_takeOperand_76 p l e s m args below meth c Q A dC dI a ac (df_X9_takeOperand_76 n) r := by
  obtain ⟨hlt, hx, hb, hml, hown, hts, hN, hA, hK⟩ := id C
  intro s0 H locs ls h hP hD hS hl
  unfold df_X9_takeOperand_76 at h
  refine lv_aload_n hx hb dX9_takeOperand_76 rfl (lv_at hl 0 rfl) ?_
  refine va_get (D := (dC, dI)) (ci := 10) (v := .int (sI s0 2)) (C := RX9) (T := TX9) (N := 20) hx hb hts hi_dm_X9_takeOperand_X9 hown hK hP 0 rfl rfl 3 (by decide) (hts (.fieldLink RX9 73 "TimeMachine$Reader" "kind" "I") (List.mem_of_getElem? (i := 2) rfl)) (fun _ h9 => h9) rfl dX9_takeOperand_77 ?_
  refine lv_iconst (v := 1) hx hb dX9_takeOperand_80 (by decide) ?_
  refine lv_icmp_ne (tgt := 142) hx hb dX9_takeOperand_81 (by decide) (fun c4 => ?_) (fun c4 => ?_)
  · have h := nd_neg h c4
    refine lv_aload_n hx hb dX9_takeOperand_142 rfl (lv_at hl 0 rfl) ?_
    refine va_get (D := (dC, dI)) (ci := 10) (v := .int (sI s0 2)) (C := RX9) (T := TX9) (N := 20) hx hb hts hi_dm_X9_takeOperand_X9 hown hK hP 0 rfl rfl 3 (by decide) (hts (.fieldLink RX9 73 "TimeMachine$Reader" "kind" "I") (List.mem_of_getElem? (i := 2) rfl)) (fun _ h9 => h9) rfl dX9_takeOperand_143 ?_
    refine lv_iconst (v := 3) hx hb dX9_takeOperand_146 (by decide) ?_
    refine lv_icmp_ne (tgt := 157) hx hb dX9_takeOperand_147 (by decide) (fun c5 => ?_) (fun c5 => ?_)
    · have h := nd_neg h c5
      refine lv_aload_n hx hb dX9_takeOperand_157 rfl (lv_at hl 0 rfl) ?_
      refine va_get (D := (dC, dI)) (ci := 10) (v := .int (sI s0 2)) (C := RX9) (T := TX9) (N := 20) hx hb hts hi_dm_X9_takeOperand_X9 hown hK hP 0 rfl rfl 3 (by decide) (hts (.fieldLink RX9 73 "TimeMachine$Reader" "kind" "I") (List.mem_of_getElem? (i := 2) rfl)) (fun _ h9 => h9) rfl dX9_takeOperand_158 ?_
      refine lv_iconst (v := 5) hx hb dX9_takeOperand_161 (by decide) ?_
      refine lv_icmp_ne (tgt := 234) hx hb dX9_takeOperand_162 (by decide) (fun c6 => ?_) (fun c6 => ?_)
      · have h := nd_neg h c6
        exact (db_X9_takeOperand_234 C K)  s0 _ _ _ h hP hD hS (lv_sub hl [0] rfl)
      · have h := nd_pos h c6
        refine lv_aload_n hx hb dX9_takeOperand_165 rfl (lv_at hl 0 rfl) ?_
        refine va_get (D := (dC, dI)) (ci := 10) (v := .int (sI s0 4)) (C := RX9) (T := TX9) (N := 20) hx hb hts hi_dm_X9_takeOperand_X9 hown hK hP 0 rfl rfl 5 (by decide) (hts (.fieldLink RX9 93 "TimeMachine$Reader" "number" "I") (List.mem_of_getElem? (i := 7) rfl)) (fun _ h9 => h9) rfl dX9_takeOperand_166 ?_
        refine lv_bipush (v := 45) hx hb dX9_takeOperand_169 (by decide) ?_
        refine lv_icmp_eq (tgt := 192) hx hb dX9_takeOperand_171 (by decide) (fun c12 => ?_) (fun c12 => ?_)
        · have h := nd_pos h c12
          exact (db_X9_takeOperand_192 C K)  s0 _ _ _ h hP hD hS (lv_sub hl [0] rfl)
        · have h := nd_neg h c12
          refine lv_aload_n hx hb dX9_takeOperand_174 rfl (lv_at hl 0 rfl) ?_
          refine va_get (D := (dC, dI)) (ci := 10) (v := .int (sI s0 4)) (C := RX9) (T := TX9) (N := 20) hx hb hts hi_dm_X9_takeOperand_X9 hown hK hP 0 rfl rfl 5 (by decide) (hts (.fieldLink RX9 93 "TimeMachine$Reader" "number" "I") (List.mem_of_getElem? (i := 7) rfl)) (fun _ h9 => h9) rfl dX9_takeOperand_175 ?_
          refine lv_bipush (v := 126) hx hb dX9_takeOperand_178 (by decide) ?_
          refine lv_icmp_eq (tgt := 192) hx hb dX9_takeOperand_180 (by decide) (fun c19 => ?_) (fun c19 => ?_)
          · have h := nd_pos h c19
            exact (db_X9_takeOperand_192 C K)  s0 _ _ _ h hP hD hS (lv_sub hl [0] rfl)
          · have h := nd_neg h c19
            refine lv_aload_n hx hb dX9_takeOperand_183 rfl (lv_at hl 0 rfl) ?_
            refine va_get (D := (dC, dI)) (ci := 10) (v := .int (sI s0 4)) (C := RX9) (T := TX9) (N := 20) hx hb hts hi_dm_X9_takeOperand_X9 hown hK hP 0 rfl rfl 5 (by decide) (hts (.fieldLink RX9 93 "TimeMachine$Reader" "number" "I") (List.mem_of_getElem? (i := 7) rfl)) (fun _ h9 => h9) rfl dX9_takeOperand_184 ?_
            refine lv_bipush (v := 40) hx hb dX9_takeOperand_187 (by decide) ?_
            refine lv_icmp_ne (tgt := 234) hx hb dX9_takeOperand_189 (by decide) (fun c20 => ?_) (fun c20 => ?_)
            · have h := nd_neg h c20
              exact (db_X9_takeOperand_234 C K)  s0 _ _ _ h hP hD hS (lv_sub hl [0] rfl)
            · have h := nd_pos h c20
              exact (db_X9_takeOperand_192 C K)  s0 _ _ _ h hP hD hS (lv_sub hl [0] rfl)
    · have h := nd_pos h c5
      refine lv_aload_n hx hb dX9_takeOperand_150 rfl (lv_at hl 0 rfl) ?_
      obtain ⟨s22, hq, h⟩ := nd_b1_e h
      have hPc := hP
      have hDc := hD
      have hKc := hK
      have hFc := nd_rs hD hS hA
      refine nd_cVv (As := []) (rest := []) (w' := dw_X9 a ac s22) ⟨hx, hb, hml, hown, hts⟩ (fun sz => dm_X9_takeNear l hlt dC dI a ac n  s0 hq sz) (cwV 0 hts gi_dm_X9_takeOperand_2 rfl rfl rfl (by decide +kernel) ⟨Nat.le_of_ble_eq_true rfl, Nat.le_of_ble_eq_true rfl⟩) hPc hDc hKc hS hA hN (va_recv hKc hPc (ci := 10) (q0 := 0) rfl rfl) rfl hl.1 rfl (Nat.le_of_ble_eq_true rfl) dX9_takeOperand_151 (fun H locs hP1 hD1 hk1 hS => ?_)
      have hP := hP1
      have hD := hD1.weaken (fun k q _ h => hFc q.1 h)
      refine lv_goto (tgt := 253) hx hb dX9_takeOperand_154 (by decide) ?_
      exact (db_X9_takeOperand_253 C K)  s22 _ _ _ h hP hD hS (lv_sub hl [] rfl)
  · have h := nd_pos h c4
    refine lv_aload_n hx hb dX9_takeOperand_84 rfl (lv_at hl 0 rfl) ?_
    refine lv_aload_n hx hb dX9_takeOperand_85 rfl (lv_at hl 0 rfl) ?_
    refine va_get (D := (dC, dI)) (ci := 10) (v := .int (sI s0 3)) (C := RX9) (T := TX9) (N := 20) hx hb hts hi_dm_X9_takeOperand_X9 hown hK hP 0 rfl rfl 4 (by decide) (hts (.fieldLink RX9 70 "TimeMachine$Reader" "from" "I") (List.mem_of_getElem? (i := 14) rfl)) (fun _ h9 => h9) rfl dX9_takeOperand_86 ?_
    refine lv_aload_n hx hb dX9_takeOperand_89 rfl (lv_at hl 0 rfl) ?_
    refine va_get (D := (dC, dI)) (ci := 10) (v := .int (sI s0 0)) (C := RX9) (T := TX9) (N := 20) hx hb hts hi_dm_X9_takeOperand_X9 hown hK hP 0 rfl rfl 1 (by decide) (hts (.fieldLink RX9 55 "TimeMachine$Reader" "at" "I") (List.mem_of_getElem? (i := 15) rfl)) (fun _ h9 => h9) rfl dX9_takeOperand_90 ?_
    refine lv_aload_n hx hb dX9_takeOperand_93 rfl (lv_at hl 0 rfl) ?_
    refine va_get (D := (dC, dI)) (ci := 10) (v := .int (sI s0 3)) (C := RX9) (T := TX9) (N := 20) hx hb hts hi_dm_X9_takeOperand_X9 hown hK hP 0 rfl rfl 4 (by decide) (hts (.fieldLink RX9 70 "TimeMachine$Reader" "from" "I") (List.mem_of_getElem? (i := 14) rfl)) (fun _ h9 => h9) rfl dX9_takeOperand_94 ?_
    refine lv_isub hx hb dX9_takeOperand_97 ?_
    obtain ⟨q24, s25, hq, h⟩ := nd_b2_e h
    have hPc := hP
    have hDc := hD
    have hKc := hK
    have hFc := nd_rs hD hS hA
    refine nd_cVi (As := [.int (sI s0 3), .int ((sI s0 0) - (sI s0 3))]) (rest := []) (q := q24) (w' := dw_X9 a ac s25) ⟨hx, hb, hml, hown, hts⟩ (fun sz => dm_X9_nameAt l hlt dC dI a ac n ((sI s0 3)) (((sI s0 0) - (sI s0 3))) s0 hq sz) (cwV 2 hts gi_dm_X9_takeOperand_3 rfl rfl rfl (by decide +kernel) ⟨Nat.le_of_ble_eq_true rfl, Nat.le_of_ble_eq_true rfl⟩) hPc hDc hKc hS hA hN (va_recv hKc hPc (ci := 10) (q0 := 0) rfl rfl) rfl hl.1 rfl (Nat.le_of_ble_eq_true rfl) dX9_takeOperand_98 (fun H locs hP1 hD1 hk1 hS => ?_)
    have hP := hP1
    have hD := hD1.weaken (fun k q _ h => hFc q.1 h)
    refine lv_istore_n (lv' := [(1, .int q24), (0, .ref (a 0))]) hx hb dX9_takeOperand_101 rfl hl (by decide) rfl (fun ls hl => ?_)
    refine lv_aload_n hx hb dX9_takeOperand_102 rfl (lv_at hl 1 rfl) ?_
    refine lv_aload_n hx hb dX9_takeOperand_103 rfl (lv_at hl 1 rfl) ?_
    refine va_get (D := (dC, dI)) (ci := 10) (v := .int (sI s25 10)) (C := RX9) (T := TX9) (N := 20) hx hb hts hi_dm_X9_takeOperand_X9 hown hK hP 0 rfl rfl 18 (by decide) (hts (.fieldLink RX9 115 "TimeMachine$Reader" "fixed" "Z") (List.mem_of_getElem? (i := 19) rfl)) (fun _ h9 => h9) rfl dX9_takeOperand_104 ?_
    refine lv_if_eq (tgt := 128) hx hb dX9_takeOperand_107 (by decide) (fun c27 => ?_) (fun c27 => ?_)
    · have h := nd_pos h c27
      exact (db_X9_takeOperand_128 C K) (q24) s25 _ _ _ h hP hD hS (lv_sub hl [1, 0] rfl)
    · have h := nd_neg h c27
      refine lv_aload_n hx hb dX9_takeOperand_110 rfl (lv_at hl 1 rfl) ?_
      refine va_get (D := (dC, dI)) (ci := 10) (v := .ref (a 4)) (C := RX9) (T := TX9) (N := 20) hx hb hts hi_dm_X9_takeOperand_X9 hown hK hP 0 rfl rfl 12 (by decide) (hts (.fieldLink RX9 27 "TimeMachine$Reader" "name" "[I") (List.mem_of_getElem? (i := 23) rfl)) (fun _ h9 => h9) rfl dX9_takeOperand_111 ?_
      refine lv_iload_n hx hb dX9_takeOperand_114 rfl (lv_at hl 0 rfl) ?_
      refine lv_iconst (v := 5) hx hb dX9_takeOperand_115 (by decide) ?_
      refine lv_imul hx hb dX9_takeOperand_116 ?_
      refine lv_iconst (v := 2) hx hb dX9_takeOperand_117 (by decide) ?_
      refine lv_iadd hx hb dX9_takeOperand_118 ?_
      obtain ⟨i34, h⟩ := nd_ck_e h
      refine va_iald (i := ((q24 * 5) + 2)) hx hb hK hP 4 3 rfl rfl i34 dX9_takeOperand_119 ?_
      refine lv_iconst (v := 1) hx hb dX9_takeOperand_120 (by decide) ?_
      refine lv_icmp_ne (tgt := 128) hx hb dX9_takeOperand_121 (by decide) (fun c35 => ?_) (fun c35 => ?_)
      · have h := nd_neg h c35
        exact (db_X9_takeOperand_128 C K) (q24) s25 _ _ _ h hP hD hS (lv_sub hl [1, 0] rfl)
      · have h := nd_pos h c35
        refine lv_iconst (v := 1) hx hb dX9_takeOperand_124 (by decide) ?_
        refine lv_goto (tgt := 129) hx hb dX9_takeOperand_125 (by decide) ?_
        exact (db_X9_takeOperand_129 C K) (q24) (1) s25 _ _ _ h hP hD hS (lv_sub hl [1, 0] rfl)
set_option maxHeartbeats 40000000 in
set_option maxRecDepth 100000 in
theorem db_X9_takeOperand_0 {p : Program} {l : Launch} {e : Env} {s : State} {m : MethodId} {args : Array Value} {below : List Frame} {meth : Method} {c : Code} {Q : State → Prop} {A : Nat → Prop} {dC : Nat → ClassId} {dI : Nat → Nat → Nat} {a : Nat → Nat} {ac : Nat → ClassId} {n : Nat} {r : St} (C : nd_C p l s m args c A (dC, dI) cX9_takeOperand 2 RX9 ow_dm_X9_takeOperand (dk_X9 ac)) (K : nd_Kv p l e (headSpec ow_dm_X9_takeOperand ({ frames := 2, cells := 0, slots := 0, locals := 43 })).room s m args below meth c Q A (dC, dI) cX9_takeOperand (St) (dw_X9 a ac) r) : dj_X9_takeOperand_0 p l e s m args below meth c Q A dC dI a ac (df_X9_takeOperand_0 n) r := by
  obtain ⟨hlt, hx, hb, hml, hown, hts, hN, hA, hK⟩ := id C
  intro s0 H locs ls h hP hD hS hl
  unfold df_X9_takeOperand_0 at h
  refine lv_aload_n hx hb dX9_takeOperand_0 rfl (lv_at hl 0 rfl) ?_
  refine lv_iconst (v := 1) hx hb dX9_takeOperand_1 (by decide) ?_
  refine va_put (D := (dC, dI)) (ci := 10) (v := .int 1) (ty := .int) (C := RX9) (T := TX9) (N := 20) hx hb hts hi_dm_X9_takeOperand_X9 tyX9 tyX9_ok nmX9 hown hK hP hD hS 0 rfl rfl 11 (by decide) (hts (.fieldLink RX9 119 "TimeMachine$Reader" "state" "I") (List.mem_of_getElem? (i := 1) rfl)) (fun _ h9 => h9) rfl (by decide +kernel) rfl rfl (Nat.le_of_ble_eq_true rfl) dX9_takeOperand_2 (fun H locs hP hD hS => ?_)
  obtain ⟨s1, es1, h⟩ := nd_let_e h
  have hP : va_P (dC, dI) vwCl (dw_X9 a ac s1) H := by rw [es1]; exact hP
  have hD : va_D A (dw_X9 a ac s1) := by rw [es1]; exact hD
  refine lv_aload_n hx hb dX9_takeOperand_5 rfl (lv_at hl 0 rfl) ?_
  refine va_get (D := (dC, dI)) (ci := 10) (v := .int (sI s1 2)) (C := RX9) (T := TX9) (N := 20) hx hb hts hi_dm_X9_takeOperand_X9 hown hK hP 0 rfl rfl 3 (by decide) (hts (.fieldLink RX9 73 "TimeMachine$Reader" "kind" "I") (List.mem_of_getElem? (i := 2) rfl)) (fun _ h9 => h9) rfl dX9_takeOperand_6 ?_
  refine lv_iconst (v := 2) hx hb dX9_takeOperand_9 (by decide) ?_
  refine lv_icmp_ne (tgt := 26) hx hb dX9_takeOperand_10 (by decide) (fun c2 => ?_) (fun c2 => ?_)
  · have h := nd_neg h c2
    refine lv_aload_n hx hb dX9_takeOperand_26 rfl (lv_at hl 0 rfl) ?_
    refine va_get (D := (dC, dI)) (ci := 10) (v := .int (sI s1 2)) (C := RX9) (T := TX9) (N := 20) hx hb hts hi_dm_X9_takeOperand_X9 hown hK hP 0 rfl rfl 3 (by decide) (hts (.fieldLink RX9 73 "TimeMachine$Reader" "kind" "I") (List.mem_of_getElem? (i := 2) rfl)) (fun _ h9 => h9) rfl dX9_takeOperand_27 ?_
    refine lv_iconst (v := 1) hx hb dX9_takeOperand_30 (by decide) ?_
    refine lv_icmp_ne (tgt := 76) hx hb dX9_takeOperand_31 (by decide) (fun c3 => ?_) (fun c3 => ?_)
    · have h := nd_neg h c3
      exact (db_X9_takeOperand_76 C K)  s1 _ _ _ h hP hD hS (lv_sub hl [0] rfl)
    · have h := nd_pos h c3
      refine lv_aload_n hx hb dX9_takeOperand_34 rfl (lv_at hl 0 rfl) ?_
      refine va_get (D := (dC, dI)) (ci := 10) (v := .int (sI s1 0)) (C := RX9) (T := TX9) (N := 20) hx hb hts hi_dm_X9_takeOperand_X9 hown hK hP 0 rfl rfl 1 (by decide) (hts (.fieldLink RX9 55 "TimeMachine$Reader" "at" "I") (List.mem_of_getElem? (i := 15) rfl)) (fun _ h9 => h9) rfl dX9_takeOperand_35 ?_
      refine lv_aload_n hx hb dX9_takeOperand_38 rfl (lv_at hl 0 rfl) ?_
      refine va_get (D := (dC, dI)) (ci := 10) (v := .int (sI s1 3)) (C := RX9) (T := TX9) (N := 20) hx hb hts hi_dm_X9_takeOperand_X9 hown hK hP 0 rfl rfl 4 (by decide) (hts (.fieldLink RX9 70 "TimeMachine$Reader" "from" "I") (List.mem_of_getElem? (i := 14) rfl)) (fun _ h9 => h9) rfl dX9_takeOperand_39 ?_
      refine lv_isub hx hb dX9_takeOperand_42 ?_
      refine lv_iconst (v := 1) hx hb dX9_takeOperand_43 (by decide) ?_
      refine lv_icmp_ne (tgt := 76) hx hb dX9_takeOperand_44 (by decide) (fun c36 => ?_) (fun c36 => ?_)
      · have h := nd_neg h c36
        exact (db_X9_takeOperand_76 C K)  s1 _ _ _ h hP hD hS (lv_sub hl [0] rfl)
      · have h := nd_pos h c36
        refine lv_aload_n hx hb dX9_takeOperand_47 rfl (lv_at hl 0 rfl) ?_
        obtain ⟨o37, h⟩ := nd_o_e h
        refine va_get (D := (dC, dI)) (ci := 10) (v := .ref (a 8)) (C := RX9) (T := TX9) (N := 20) hx hb hts hi_dm_X9_takeOperand_X9 hown hK hP 0 rfl rfl 0 (by decide) (hts (.fieldLink RX9 9 "TimeMachine$Reader" "source" "[B") (List.mem_of_getElem? (i := 24) rfl)) (fun _ h9 => h9) (congrArg (fun z => some (va_rf (Option.map a z))) o37) dX9_takeOperand_48 ?_
        refine lv_aload_n hx hb dX9_takeOperand_51 rfl (lv_at hl 0 rfl) ?_
        refine va_get (D := (dC, dI)) (ci := 10) (v := .int (sI s1 3)) (C := RX9) (T := TX9) (N := 20) hx hb hts hi_dm_X9_takeOperand_X9 hown hK hP 0 rfl rfl 4 (by decide) (hts (.fieldLink RX9 70 "TimeMachine$Reader" "from" "I") (List.mem_of_getElem? (i := 14) rfl)) (fun _ h9 => h9) rfl dX9_takeOperand_52 ?_
        obtain ⟨i38, h⟩ := nd_ck_e h
        refine va_bald (i := (sI s1 3)) hx hb hK hP 8 7 rfl rfl i38 dX9_takeOperand_55 ?_
        refine lv_bipush (v := 46) hx hb dX9_takeOperand_56 (by decide) ?_
        refine lv_icmp_ne (tgt := 76) hx hb dX9_takeOperand_58 (by decide) (fun c39 => ?_) (fun c39 => ?_)
        · have h := nd_neg h c39
          exact (db_X9_takeOperand_76 C K)  s1 _ _ _ h hP hD hS (lv_sub hl [0] rfl)
        · have h := nd_pos h c39
          refine lv_aload_n hx hb dX9_takeOperand_61 rfl (lv_at hl 0 rfl) ?_
          refine lv_iconst (v := 0) hx hb dX9_takeOperand_62 (by decide) ?_
          refine va_put (D := (dC, dI)) (ci := 10) (v := .int 0) (ty := .boolean) (C := RX9) (T := TX9) (N := 20) hx hb hts hi_dm_X9_takeOperand_X9 tyX9 tyX9_ok nmX9 hown hK hP hD hS 0 rfl rfl 18 (by decide) (hts (.fieldLink RX9 115 "TimeMachine$Reader" "fixed" "Z") (List.mem_of_getElem? (i := 19) rfl)) (fun _ h9 => h9) rfl (by decide +kernel) (by first | rfl | decide) rfl (Nat.le_of_ble_eq_true rfl) dX9_takeOperand_63 (fun H locs hP hD hS => ?_)
          obtain ⟨s40, es40, h⟩ := nd_let_e h
          have hP : va_P (dC, dI) vwCl (dw_X9 a ac s40) H := by rw [es40]; exact hP
          have hD : va_D A (dw_X9 a ac s40) := by rw [es40]; exact hD
          refine lv_aload_n hx hb dX9_takeOperand_66 rfl (lv_at hl 0 rfl) ?_
          refine lv_bipush (v := 18) hx hb dX9_takeOperand_67 (by decide) ?_
          refine lv_iconst (v := 0) hx hb dX9_takeOperand_69 (by decide) ?_
          obtain ⟨s42, hq, h⟩ := nd_b1_e h
          have hPc := hP
          have hDc := hD
          have hKc := hK
          have hFc := nd_rs hD hS hA
          refine nd_cVv (As := [.int 18, .int 0]) (rest := []) (w' := dw_X9 a ac s42) ⟨hx, hb, hml, hown, hts⟩ (fun sz => dm_X9_emit l hlt dC dI a ac n (18) (0) s40 hq sz) (cwV 2 hts gi_dm_X9_takeOperand_4 rfl rfl rfl (by decide +kernel) ⟨Nat.le_of_ble_eq_true rfl, Nat.le_of_ble_eq_true rfl⟩) hPc hDc hKc hS hA hN (va_recv hKc hPc (ci := 10) (q0 := 0) rfl rfl) rfl hl.1 rfl (Nat.le_of_ble_eq_true rfl) dX9_takeOperand_70 (fun H locs hP1 hD1 hk1 hS => ?_)
          have hP := hP1
          have hD := hD1.weaken (fun k q _ h => hFc q.1 h)
          refine lv_goto (tgt := 253) hx hb dX9_takeOperand_73 (by decide) ?_
          exact (db_X9_takeOperand_253 C K)  s42 _ _ _ h hP hD hS (lv_sub hl [] rfl)
  · have h := nd_pos h c2
    refine lv_aload_n hx hb dX9_takeOperand_13 rfl (lv_at hl 0 rfl) ?_
    refine lv_bipush (v := 16) hx hb dX9_takeOperand_14 (by decide) ?_
    refine lv_aload_n hx hb dX9_takeOperand_16 rfl (lv_at hl 0 rfl) ?_
    refine va_get (D := (dC, dI)) (ci := 10) (v := .int (sI s1 4)) (C := RX9) (T := TX9) (N := 20) hx hb hts hi_dm_X9_takeOperand_X9 hown hK hP 0 rfl rfl 5 (by decide) (hts (.fieldLink RX9 93 "TimeMachine$Reader" "number" "I") (List.mem_of_getElem? (i := 7) rfl)) (fun _ h9 => h9) rfl dX9_takeOperand_17 ?_
    obtain ⟨s45, hq, h⟩ := nd_b1_e h
    have hPc := hP
    have hDc := hD
    have hKc := hK
    have hFc := nd_rs hD hS hA
    refine nd_cVv (As := [.int 16, .int (sI s1 4)]) (rest := []) (w' := dw_X9 a ac s45) ⟨hx, hb, hml, hown, hts⟩ (fun sz => dm_X9_emit l hlt dC dI a ac n (16) ((sI s1 4)) s1 hq sz) (cwV 2 hts gi_dm_X9_takeOperand_4 rfl rfl rfl (by decide +kernel) ⟨Nat.le_of_ble_eq_true rfl, Nat.le_of_ble_eq_true rfl⟩) hPc hDc hKc hS hA hN (va_recv hKc hPc (ci := 10) (q0 := 0) rfl rfl) rfl hl.1 rfl (Nat.le_of_ble_eq_true rfl) dX9_takeOperand_20 (fun H locs hP1 hD1 hk1 hS => ?_)
    have hP := hP1
    have hD := hD1.weaken (fun k q _ h => hFc q.1 h)
    refine lv_goto (tgt := 253) hx hb dX9_takeOperand_23 (by decide) ?_
    exact (db_X9_takeOperand_253 C K)  s45 _ _ _ h hP hD hS (lv_sub hl [] rfl)
set_option maxHeartbeats 40000000 in
set_option maxRecDepth 100000 in
theorem dm_X9_takeOperand (l : Launch) (hlt : l.stackTraces = false) (dC : Nat → ClassId) (dI : Nat → Nat → Nat) (a : Nat → Nat) (ac : Nat → ClassId) (n : Nat) (s0 : St) {r : St} (h : df_X9_takeOperand n s0 = some r) (sz : Nat) : Met l yX9_takeOperand ow_dm_X9_takeOperand ({ frames := 2, cells := 0, slots := 0, locals := 43 }) (va_Pc [.ref (a 0)] (fun U => U.heap.size = sz ∧ va_P (dC, dI) vwCl (dw_X9 a ac s0) U.heap ∧ va_K (dC, dI) vwCl (dk_X9 ac) U ∧ va_D (fun _ => True) (dw_X9 a ac s0) ∧ nv_E dI (va_A (dw_X9 a ac s0) sz) U)) (va_Qv (fun _ => True) (fun (_ : Unit) t => va_P (dC, dI) vwCl (dw_X9 a ac r) t.heap ∧ va_K (dC, dI) vwCl (dk_X9 ac) t ∧ va_D (va_A (dw_X9 a ac s0) sz) (dw_X9 a ac r)) (va_A (dw_X9 a ac s0) sz)) 0 0 (va_A (dw_X9 a ac s0) sz) := by
  refine Met.ofW (cc := cX9_takeOperand) (maxL := 2) (ret := none) (by decide) rfl ?_
  intro p e s m args below meth c s₁ B hml hv
  obtain ⟨rfl, hsz, hP, hK, hD0, hN⟩ := hv
  have hx := B.exec
  have hb := B.bytes
  have hr := B.returns
  have hts := atoms_spec (ws := ow_dm_X9_takeOperand) B.pre
  have hown : s.vm.findClass RX9 = some m.cls := findClass_of_methodNamed B.named
  have hlocks := B.notSynchronized
  subst hsz
  have hD := hD0.self (sz := s.heap.size)
  generalize hAe : va_A (dw_X9 a ac s0) s.heap.size = A at hD hN ⊢
  have hA : ∀ q : Nat, s.heap.size ≤ q → A q := fun q h => by rw [← hAe]; exact Or.inr h
  have hl := lv_entry ([.ref (a 0)]) (n := 2) (Nat.le_of_ble_eq_true rfl)
  rw [lg_entry_eq]
  generalize (lg_sl ([.ref (a 0)]) ++ List.replicate (2 - (lg_sl ([.ref (a 0)])).length) Slot.unset).toArray = ls at hl ⊢
  have hl : lv_has ls 2 [(0, .ref (a 0))] := hl
  exact db_X9_takeOperand_0 (dC := dC) (dI := dI) (a := a) (ac := ac) (n := n) (r := r) ⟨hlt, hx, hb, hml, hown, hts, hN, hA, hK⟩ (fun pc τ H locs ls d er hP hD hS => by subst er; exact W.vret hx hb hr (fun t ht hW => ⟨⟨(), rfl, trivial, by rw [ht]; exact hP, va_K.moved hW.alike hK, hD⟩, hS.F ht⟩) hS.2.2 d) s0 _ _ _ h hP hD va_S.rf (lv_sub hl [0] rfl)
def ow_dm_X9_sum : List Cond := Cond.code yX9_sum cX9_sum 3 (some .int) :: ([Cond.fieldLink RX9 39 "TimeMachine$Reader" "codes" "I", Cond.fieldLink RX9 112 "TimeMachine$Reader" "top" "I", Cond.fieldLink RX9 115 "TimeMachine$Reader" "fixed" "Z", Cond.fieldLink RX9 119 "TimeMachine$Reader" "state" "I", Cond.fieldLink RX9 9 "TimeMachine$Reader" "source" "[B", Cond.methodLink RX9 131 yX9_emit, Cond.instanceMethod yX9_emit, Cond.selects RX9 yX9_emit yX9_emit, Cond.initialized RX9, Cond.methodLink RX9 128 yX9_takeHalf, Cond.instanceMethod yX9_takeHalf, Cond.selects RX9 yX9_takeHalf yX9_takeHalf, Cond.methodLink RX9 67 yX9_next, Cond.instanceMethod yX9_next, Cond.selects RX9 yX9_next yX9_next, Cond.methodLink RX9 125 yX9_takeOperator, Cond.instanceMethod yX9_takeOperator, Cond.selects RX9 yX9_takeOperator yX9_takeOperator, Cond.methodLink RX9 122 yX9_takeOperand, Cond.instanceMethod yX9_takeOperand, Cond.selects RX9 yX9_takeOperand yX9_takeOperand] ++ (u_ws RX9 TX9 20 ++ (ow_dm_X9_emit ++ (ow_dm_X9_takeHalf ++ (ow_dm_X9_next ++ (ow_dm_X9_takeOperator ++ (ow_dm_X9_takeOperand ++ [])))))))
theorem gd_dm_X9_sum : ∀ w ∈ ow_dm_X9_sum, (w.onTables && w.keeps) = true ∨ ∃ ty, w = Cond.arrayClass ty := List.forall_mem_cons.mpr ⟨good_of_word rfl, List.forall_mem_append.mpr ⟨fun w h => good_of_word (List.all_eq_true.mp (by decide +kernel) w h), List.forall_mem_append.mpr ⟨gu_X9, List.forall_mem_append.mpr ⟨gd_dm_X9_emit, List.forall_mem_append.mpr ⟨gd_dm_X9_takeHalf, List.forall_mem_append.mpr ⟨gd_dm_X9_next, List.forall_mem_append.mpr ⟨gd_dm_X9_takeOperator, List.forall_mem_append.mpr ⟨gd_dm_X9_takeOperand, fun _ h => nomatch h⟩⟩⟩⟩⟩⟩⟩⟩
theorem hi_dm_X9_sum_X9 : ∀ w ∈ u_ws RX9 TX9 20, w ∈ ow_dm_X9_sum := fun w h => List.mem_cons_of_mem _ (List.mem_append_right _ (List.mem_append_left _ h))
theorem gi_dm_X9_sum_0 : GoodIn ow_dm_X9_sum (wsV RX9 131 RX9 yX9_emit ow_dm_X9_emit) := goodIn_app (goodIn_of _ (by decide +kernel)) (fun w h => ⟨List.mem_cons_of_mem _ (List.mem_append_right _ (List.mem_append_right _ (List.mem_append_left _ h))), gd_dm_X9_emit w h⟩)
theorem gi_dm_X9_sum_1 : GoodIn ow_dm_X9_sum (wsV RX9 128 RX9 yX9_takeHalf ow_dm_X9_takeHalf) := goodIn_app (goodIn_of _ (by decide +kernel)) (fun w h => ⟨List.mem_cons_of_mem _ (List.mem_append_right _ (List.mem_append_right _ (List.mem_append_right _ (List.mem_append_left _ h)))), gd_dm_X9_takeHalf w h⟩)
theorem gi_dm_X9_sum_2 : GoodIn ow_dm_X9_sum (wsV RX9 67 RX9 yX9_next ow_dm_X9_next) := goodIn_app (goodIn_of _ (by decide +kernel)) (fun w h => ⟨List.mem_cons_of_mem _ (List.mem_append_right _ (List.mem_append_right _ (List.mem_append_right _ (List.mem_append_right _ (List.mem_append_left _ h))))), gd_dm_X9_next w h⟩)
theorem gi_dm_X9_sum_3 : GoodIn ow_dm_X9_sum (wsV RX9 125 RX9 yX9_takeOperator ow_dm_X9_takeOperator) := goodIn_app (goodIn_of _ (by decide +kernel)) (fun w h => ⟨List.mem_cons_of_mem _ (List.mem_append_right _ (List.mem_append_right _ (List.mem_append_right _ (List.mem_append_right _ (List.mem_append_right _ (List.mem_append_left _ h)))))), gd_dm_X9_takeOperator w h⟩)
theorem gi_dm_X9_sum_4 : GoodIn ow_dm_X9_sum (wsV RX9 122 RX9 yX9_takeOperand ow_dm_X9_takeOperand) := goodIn_app (goodIn_of _ (by decide +kernel)) (fun w h => ⟨List.mem_cons_of_mem _ (List.mem_append_right _ (List.mem_append_right _ (List.mem_append_right _ (List.mem_append_right _ (List.mem_append_right _ (List.mem_append_right _ (List.mem_append_left _ h))))))), gd_dm_X9_takeOperand w h⟩)
def dj_X9_sum_127 (p : Program) (l : Launch) (e : Env) (s : State) (m : MethodId) (args : Array Value) (below : List Frame) (meth : Method) (c : Code) (Q : State → Prop) (A : Nat → Prop) (dC : Nat → ClassId) (dI : Nat → Nat → Nat) (a : Nat → Nat) (ac : Nat → ClassId) (g : Int32 → (St) → Option (Int32 × (St))) (r : Int32 × (St)) : Prop := ∀ (y0 : Int32) (s0 : St) (H : Heap) (locs : List Loc) (ls : Array Slot), g y0 s0 = some r → va_P (dC, dI) vwCl (dw_X9 a ac s0) H → va_D A (dw_X9 a ac s0) → va_S A s.heap H locs → lv_has ls 3 [] → W p l e (headSpec ow_dm_X9_sum ({ frames := 6, cells := 0, slots := 0, locals := 133 })).room s m args below meth c H locs 0 0 Q (F0 m 127 ls [.int y0])
def dj_X9_sum_107 (p : Program) (l : Launch) (e : Env) (s : State) (m : MethodId) (args : Array Value) (below : List Frame) (meth : Method) (c : Code) (Q : State → Prop) (A : Nat → Prop) (dC : Nat → ClassId) (dI : Nat → Nat → Nat) (a : Nat → Nat) (ac : Nat → ClassId) (g : Int32 → (St) → Option (Int32 × (St))) (r : Int32 × (St)) : Prop := ∀ (x1 : Int32) (s0 : St) (H : Heap) (locs : List Loc) (ls : Array Slot), g x1 s0 = some r → va_P (dC, dI) vwCl (dw_X9 a ac s0) H → va_D A (dw_X9 a ac s0) → va_S A s.heap H locs → lv_has ls 3 [(0, .ref (a 0)), (1, .int x1)] → W p l e (headSpec ow_dm_X9_sum ({ frames := 6, cells := 0, slots := 0, locals := 133 })).room s m args below meth c H locs 0 0 Q (F0 m 107 ls [])
def dj_X9_sum_101 (p : Program) (l : Launch) (e : Env) (s : State) (m : MethodId) (args : Array Value) (below : List Frame) (meth : Method) (c : Code) (Q : State → Prop) (A : Nat → Prop) (dC : Nat → ClassId) (dI : Nat → Nat → Nat) (a : Nat → Nat) (ac : Nat → ClassId) (g : Int32 → Int32 → (St) → Option (Int32 × (St))) (r : Int32 × (St)) : Prop := ∀ (x1 : Int32) (x2 : Int32) (s0 : St) (H : Heap) (locs : List Loc) (ls : Array Slot), g x1 x2 s0 = some r → va_P (dC, dI) vwCl (dw_X9 a ac s0) H → va_D A (dw_X9 a ac s0) → va_S A s.heap H locs → lv_has ls 3 [(0, .ref (a 0)), (1, .int x1), (2, .int x2)] → W p l e (headSpec ow_dm_X9_sum ({ frames := 6, cells := 0, slots := 0, locals := 133 })).room s m args below meth c H locs 0 0 Q (F0 m 101 ls [])
def dj_X9_sum_80 (p : Program) (l : Launch) (e : Env) (s : State) (m : MethodId) (args : Array Value) (below : List Frame) (meth : Method) (c : Code) (Q : State → Prop) (A : Nat → Prop) (dC : Nat → ClassId) (dI : Nat → Nat → Nat) (a : Nat → Nat) (ac : Nat → ClassId) (g : Int32 → Int32 → (St) → Option (Int32 × (St))) (r : Int32 × (St)) : Prop := ∀ (x1 : Int32) (x2 : Int32) (s0 : St) (H : Heap) (locs : List Loc) (ls : Array Slot), g x1 x2 s0 = some r → va_P (dC, dI) vwCl (dw_X9 a ac s0) H → va_D A (dw_X9 a ac s0) → va_S A s.heap H locs → lv_has ls 3 [(0, .ref (a 0)), (1, .int x1), (2, .int x2)] → W p l e (headSpec ow_dm_X9_sum ({ frames := 6, cells := 0, slots := 0, locals := 133 })).room s m args below meth c H locs 0 0 Q (F0 m 80 ls [])
def dj_X9_sum_26 (p : Program) (l : Launch) (e : Env) (s : State) (m : MethodId) (args : Array Value) (below : List Frame) (meth : Method) (c : Code) (Q : State → Prop) (A : Nat → Prop) (dC : Nat → ClassId) (dI : Nat → Nat → Nat) (a : Nat → Nat) (ac : Nat → ClassId) (g : Int32 → Int32 → (St) → Option (Int32 × (St))) (r : Int32 × (St)) : Prop := ∀ (x1 : Int32) (x2 : Int32) (s0 : St) (H : Heap) (locs : List Loc) (ls : Array Slot), g x1 x2 s0 = some r → va_P (dC, dI) vwCl (dw_X9 a ac s0) H → va_D A (dw_X9 a ac s0) → va_S A s.heap H locs → lv_has ls 3 [(0, .ref (a 0)), (1, .int x1), (2, .int x2)] → W p l e (headSpec ow_dm_X9_sum ({ frames := 6, cells := 0, slots := 0, locals := 133 })).room s m args below meth c H locs 0 0 Q (F0 m 26 ls [])
def dj_X9_sum_0 (p : Program) (l : Launch) (e : Env) (s : State) (m : MethodId) (args : Array Value) (below : List Frame) (meth : Method) (c : Code) (Q : State → Prop) (A : Nat → Prop) (dC : Nat → ClassId) (dI : Nat → Nat → Nat) (a : Nat → Nat) (ac : Nat → ClassId) (g : (St) → Option (Int32 × (St))) (r : Int32 × (St)) : Prop := ∀ (s0 : St) (H : Heap) (locs : List Loc) (ls : Array Slot), g s0 = some r → va_P (dC, dI) vwCl (dw_X9 a ac s0) H → va_D A (dw_X9 a ac s0) → va_S A s.heap H locs → lv_has ls 3 [(0, .ref (a 0))] → W p l e (headSpec ow_dm_X9_sum ({ frames := 6, cells := 0, slots := 0, locals := 133 })).room s m args below meth c H locs 0 0 Q (F0 m 0 ls [])
set_option maxHeartbeats 40000000 in
set_option maxRecDepth 100000 in
theorem db_X9_sum_127 {p : Program} {l : Launch} {e : Env} {s : State} {m : MethodId} {args : Array Value} {below : List Frame} {meth : Method} {c : Code} {Q : State → Prop} {A : Nat → Prop} {dC : Nat → ClassId} {dI : Nat → Nat → Nat} {a : Nat → Nat} {ac : Nat → ClassId} {n : Nat} {r : Int32 × (St)} (C : nd_C p l s m args c A (dC, dI) cX9_sum 3 RX9 ow_dm_X9_sum (dk_X9 ac)) (K : nd_Ki p l e (headSpec ow_dm_X9_sum ({ frames := 6, cells := 0, slots := 0, locals := 133 })).room s m args below meth c Q A (dC, dI) cX9_sum .int (St) (dw_X9 a ac) r) : dj_X9_sum_127 p l e s m args below meth c Q A dC dI a ac (df_X9_sum_127 n) r := by
  obtain ⟨hlt, hx, hb, hml, hown, hts, hN, hA, hK⟩ := id C
  intro y0 s0 H locs ls h hP hD hS hl
  unfold df_X9_sum_127 at h
  exact K _ _ _ _ _ _ dX9_sum_127 rfl (Option.some.inj h).symm hP hD hS
set_option maxHeartbeats 40000000 in
set_option maxRecDepth 100000 in
theorem db_X9_sum_107 {p : Program} {l : Launch} {e : Env} {s : State} {m : MethodId} {args : Array Value} {below : List Frame} {meth : Method} {c : Code} {Q : State → Prop} {A : Nat → Prop} {dC : Nat → ClassId} {dI : Nat → Nat → Nat} {a : Nat → Nat} {ac : Nat → ClassId} {n : Nat} {r : Int32 × (St)} (C : nd_C p l s m args c A (dC, dI) cX9_sum 3 RX9 ow_dm_X9_sum (dk_X9 ac)) (K : nd_Ki p l e (headSpec ow_dm_X9_sum ({ frames := 6, cells := 0, slots := 0, locals := 133 })).room s m args below meth c Q A (dC, dI) cX9_sum .int (St) (dw_X9 a ac) r) : dj_X9_sum_107 p l e s m args below meth c Q A dC dI a ac (df_X9_sum_107 n) r := by
  obtain ⟨hlt, hx, hb, hml, hown, hts, hN, hA, hK⟩ := id C
  intro x1 s0 H locs ls h hP hD hS hl
  unfold df_X9_sum_107 at h
  refine lv_aload_n hx hb dX9_sum_107 rfl (lv_at hl 0 rfl) ?_
  refine lv_bipush (v := 21) hx hb dX9_sum_108 (by decide) ?_
  refine lv_iconst (v := 0) hx hb dX9_sum_110 (by decide) ?_
  obtain ⟨s8, hq, h⟩ := nd_b1_e h
  have hPc := hP
  have hDc := hD
  have hKc := hK
  have hFc := nd_rs hD hS hA
  refine nd_cVv (As := [.int 21, .int 0]) (rest := []) (w' := dw_X9 a ac s8) ⟨hx, hb, hml, hown, hts⟩ (fun sz => dm_X9_emit l hlt dC dI a ac n (21) (0) s0 hq sz) (cwV 2 hts gi_dm_X9_sum_0 rfl rfl rfl (by decide +kernel) ⟨Nat.le_of_ble_eq_true rfl, Nat.le_of_ble_eq_true rfl⟩) hPc hDc hKc hS hA hN (va_recv hKc hPc (ci := 10) (q0 := 0) rfl rfl) rfl hl.1 rfl (Nat.le_of_ble_eq_true rfl) dX9_sum_111 (fun H locs hP1 hD1 hk1 hS => ?_)
  have hP := hP1
  have hD := hD1.weaken (fun k q _ h => hFc q.1 h)
  refine lv_aload_n hx hb dX9_sum_114 rfl (lv_at hl 0 rfl) ?_
  refine va_get (D := (dC, dI)) (ci := 10) (v := .int (sI s8 7)) (C := RX9) (T := TX9) (N := 20) hx hb hts hi_dm_X9_sum_X9 hown hK hP 0 rfl rfl 11 (by decide) (hts (.fieldLink RX9 119 "TimeMachine$Reader" "state" "I") (List.mem_of_getElem? (i := 4) rfl)) (fun _ h9 => h9) rfl dX9_sum_115 ?_
  refine lv_iconst (v := 5) hx hb dX9_sum_118 (by decide) ?_
  refine lv_icmp_ne (tgt := 126) hx hb dX9_sum_119 (by decide) (fun c10 => ?_) (fun c10 => ?_)
  · have h := nd_neg h c10
    refine lv_iconst (v := (-1)) hx hb dX9_sum_126 (by decide) ?_
    exact (db_X9_sum_127 C K) ((-1)) s8 _ _ _ h hP hD hS (lv_sub hl [] rfl)
  · have h := nd_pos h c10
    refine lv_iload_n hx hb dX9_sum_122 rfl (lv_at hl 1 rfl) ?_
    refine lv_goto (tgt := 127) hx hb dX9_sum_123 (by decide) ?_
    exact (db_X9_sum_127 C K) (x1) s8 _ _ _ h hP hD hS (lv_sub hl [] rfl)
set_option maxHeartbeats 40000000 in
set_option maxRecDepth 100000 in
theorem db_X9_sum_101 {p : Program} {l : Launch} {e : Env} {s : State} {m : MethodId} {args : Array Value} {below : List Frame} {meth : Method} {c : Code} {Q : State → Prop} {A : Nat → Prop} {dC : Nat → ClassId} {dI : Nat → Nat → Nat} {a : Nat → Nat} {ac : Nat → ClassId} {n : Nat} {r : Int32 × (St)} (C : nd_C p l s m args c A (dC, dI) cX9_sum 3 RX9 ow_dm_X9_sum (dk_X9 ac)) (K : nd_Ki p l e (headSpec ow_dm_X9_sum ({ frames := 6, cells := 0, slots := 0, locals := 133 })).room s m args below meth c Q A (dC, dI) cX9_sum .int (St) (dw_X9 a ac) r) {g26 : Int32 → Int32 → (St) → Option (Int32 × (St))} (J26 : dj_X9_sum_26 p l e s m args below meth c Q A dC dI a ac g26 r) : dj_X9_sum_101 p l e s m args below meth c Q A dC dI a ac (df_X9_sum_101 n g26) r := by
  obtain ⟨hlt, hx, hb, hml, hown, hts, hN, hA, hK⟩ := id C
  intro x1 x2 s0 H locs ls h hP hD hS hl
  unfold df_X9_sum_101 at h
  obtain ⟨z19, ez19, h⟩ := nd_let_e h
  refine lv_iinc (v := z19) (lv' := [(2, .int z19), (0, .ref (a 0)), (1, .int x1)]) hx hb dX9_sum_101 hl (k := 2) rfl (by rw [ez19]) (by decide) rfl (fun ls hl => ?_)
  refine lv_goto (tgt := 26) hx hb dX9_sum_104 (by decide) ?_
  exact (J26) (x1) (z19) s0 _ _ _ h hP hD hS (lv_sub hl [1, 2, 0] rfl)
set_option maxHeartbeats 40000000 in
set_option maxRecDepth 100000 in
theorem db_X9_sum_80 {p : Program} {l : Launch} {e : Env} {s : State} {m : MethodId} {args : Array Value} {below : List Frame} {meth : Method} {c : Code} {Q : State → Prop} {A : Nat → Prop} {dC : Nat → ClassId} {dI : Nat → Nat → Nat} {a : Nat → Nat} {ac : Nat → ClassId} {n : Nat} {r : Int32 × (St)} (C : nd_C p l s m args c A (dC, dI) cX9_sum 3 RX9 ow_dm_X9_sum (dk_X9 ac)) (K : nd_Ki p l e (headSpec ow_dm_X9_sum ({ frames := 6, cells := 0, slots := 0, locals := 133 })).room s m args below meth c Q A (dC, dI) cX9_sum .int (St) (dw_X9 a ac) r) {g26 : Int32 → Int32 → (St) → Option (Int32 × (St))} (J26 : dj_X9_sum_26 p l e s m args below meth c Q A dC dI a ac g26 r) : dj_X9_sum_80 p l e s m args below meth c Q A dC dI a ac (df_X9_sum_80 n g26) r := by
  obtain ⟨hlt, hx, hb, hml, hown, hts, hN, hA, hK⟩ := id C
  intro x1 x2 s0 H locs ls h hP hD hS hl
  unfold df_X9_sum_80 at h
  refine lv_aload_n hx hb dX9_sum_80 rfl (lv_at hl 0 rfl) ?_
  refine va_get (D := (dC, dI)) (ci := 10) (v := .int (sI s0 7)) (C := RX9) (T := TX9) (N := 20) hx hb hts hi_dm_X9_sum_X9 hown hK hP 0 rfl rfl 11 (by decide) (hts (.fieldLink RX9 119 "TimeMachine$Reader" "state" "I") (List.mem_of_getElem? (i := 4) rfl)) (fun _ h9 => h9) rfl dX9_sum_81 ?_
  refine lv_iconst (v := 5) hx hb dX9_sum_84 (by decide) ?_
  refine lv_icmp_eq (tgt := 101) hx hb dX9_sum_85 (by decide) (fun c18 => ?_) (fun c18 => ?_)
  · have h := nd_pos h c18
    exact (db_X9_sum_101 C K J26) (x1) (x2) s0 _ _ _ h hP hD hS (lv_sub hl [0, 1, 2] rfl)
  · have h := nd_neg h c18
    refine lv_aload_n hx hb dX9_sum_88 rfl (lv_at hl 0 rfl) ?_
    refine va_get (D := (dC, dI)) (ci := 10) (v := .int (sI s0 7)) (C := RX9) (T := TX9) (N := 20) hx hb hts hi_dm_X9_sum_X9 hown hK hP 0 rfl rfl 11 (by decide) (hts (.fieldLink RX9 119 "TimeMachine$Reader" "state" "I") (List.mem_of_getElem? (i := 4) rfl)) (fun _ h9 => h9) rfl dX9_sum_89 ?_
    refine lv_bipush (v := 6) hx hb dX9_sum_92 (by decide) ?_
    refine lv_icmp_eq (tgt := 101) hx hb dX9_sum_94 (by decide) (fun c20 => ?_) (fun c20 => ?_)
    · have h := nd_pos h c20
      exact (db_X9_sum_101 C K J26) (x1) (x2) s0 _ _ _ h hP hD hS (lv_sub hl [0, 1, 2] rfl)
    · have h := nd_neg h c20
      refine lv_aload_n hx hb dX9_sum_97 rfl (lv_at hl 0 rfl) ?_
      obtain ⟨s22, hq, h⟩ := nd_b1_e h
      have hPc := hP
      have hDc := hD
      have hKc := hK
      have hFc := nd_rs hD hS hA
      refine nd_cVv (As := []) (rest := []) (w' := dw_X9 a ac s22) ⟨hx, hb, hml, hown, hts⟩ (fun sz => dm_X9_next l hlt dC dI a ac n  s0 hq sz) (cwV 0 hts gi_dm_X9_sum_2 rfl rfl rfl (by decide +kernel) ⟨Nat.le_of_ble_eq_true rfl, Nat.le_of_ble_eq_true rfl⟩) hPc hDc hKc hS hA hN (va_recv hKc hPc (ci := 10) (q0 := 0) rfl rfl) rfl hl.1 rfl (Nat.le_of_ble_eq_true rfl) dX9_sum_98 (fun H locs hP1 hD1 hk1 hS => ?_)
      have hP := hP1
      have hD := hD1.weaken (fun k q _ h => hFc q.1 h)
      exact (db_X9_sum_101 C K J26) (x1) (x2) s22 _ _ _ h hP hD hS (lv_sub hl [0, 1, 2] rfl)
set_option maxHeartbeats 40000000 in
set_option maxRecDepth 100000 in
theorem dB_X9_sum_26 {p : Program} {l : Launch} {e : Env} {s : State} {m : MethodId} {args : Array Value} {below : List Frame} {meth : Method} {c : Code} {Q : State → Prop} {A : Nat → Prop} {dC : Nat → ClassId} {dI : Nat → Nat → Nat} {a : Nat → Nat} {ac : Nat → ClassId} {n : Nat} {r : Int32 × (St)} (C : nd_C p l s m args c A (dC, dI) cX9_sum 3 RX9 ow_dm_X9_sum (dk_X9 ac)) (K : nd_Ki p l e (headSpec ow_dm_X9_sum ({ frames := 6, cells := 0, slots := 0, locals := 133 })).room s m args below meth c Q A (dC, dI) cX9_sum .int (St) (dw_X9 a ac) r) {g26 : Int32 → Int32 → (St) → Option (Int32 × (St))} (J26 : dj_X9_sum_26 p l e s m args below meth c Q A dC dI a ac g26 r) : dj_X9_sum_26 p l e s m args below meth c Q A dC dI a ac (dF_X9_sum_26 n g26) r := by
  obtain ⟨hlt, hx, hb, hml, hown, hts, hN, hA, hK⟩ := id C
  intro x1 x2 s0 H locs ls h hP hD hS hl
  unfold dF_X9_sum_26 at h
  refine lv_iload_n hx hb dX9_sum_26 rfl (lv_at hl 2 rfl) ?_
  refine lv_if_lt (tgt := 107) hx hb dX9_sum_27 (by decide) (fun c6 => ?_) (fun c6 => ?_)
  · have h := nd_pos h c6
    exact (db_X9_sum_107 C K) (x1) s0 _ _ _ h hP hD hS (lv_sub hl [0, 1] rfl)
  · have h := nd_neg h c6
    refine lv_aload_n hx hb dX9_sum_30 rfl (lv_at hl 0 rfl) ?_
    refine va_get (D := (dC, dI)) (ci := 10) (v := .int (sI s0 7)) (C := RX9) (T := TX9) (N := 20) hx hb hts hi_dm_X9_sum_X9 hown hK hP 0 rfl rfl 11 (by decide) (hts (.fieldLink RX9 119 "TimeMachine$Reader" "state" "I") (List.mem_of_getElem? (i := 4) rfl)) (fun _ h9 => h9) rfl dX9_sum_31 ?_
    refine lv_iconst (v := 5) hx hb dX9_sum_34 (by decide) ?_
    refine lv_icmp_eq (tgt := 107) hx hb dX9_sum_35 (by decide) (fun c11 => ?_) (fun c11 => ?_)
    · have h := nd_pos h c11
      exact (db_X9_sum_107 C K) (x1) s0 _ _ _ h hP hD hS (lv_sub hl [0, 1] rfl)
    · have h := nd_neg h c11
      refine lv_aload_n hx hb dX9_sum_38 rfl (lv_at hl 0 rfl) ?_
      refine va_get (D := (dC, dI)) (ci := 10) (v := .int (sI s0 7)) (C := RX9) (T := TX9) (N := 20) hx hb hts hi_dm_X9_sum_X9 hown hK hP 0 rfl rfl 11 (by decide) (hts (.fieldLink RX9 119 "TimeMachine$Reader" "state" "I") (List.mem_of_getElem? (i := 4) rfl)) (fun _ h9 => h9) rfl dX9_sum_39 ?_
      refine lv_bipush (v := 6) hx hb dX9_sum_42 (by decide) ?_
      refine lv_icmp_eq (tgt := 107) hx hb dX9_sum_44 (by decide) (fun c12 => ?_) (fun c12 => ?_)
      · have h := nd_pos h c12
        exact (db_X9_sum_107 C K) (x1) s0 _ _ _ h hP hD hS (lv_sub hl [0, 1] rfl)
      · have h := nd_neg h c12
        refine lv_aload_n hx hb dX9_sum_47 rfl (lv_at hl 0 rfl) ?_
        refine va_get (D := (dC, dI)) (ci := 10) (v := .int (sI s0 7)) (C := RX9) (T := TX9) (N := 20) hx hb hts hi_dm_X9_sum_X9 hown hK hP 0 rfl rfl 11 (by decide) (hts (.fieldLink RX9 119 "TimeMachine$Reader" "state" "I") (List.mem_of_getElem? (i := 4) rfl)) (fun _ h9 => h9) rfl dX9_sum_48 ?_
        refine lv_if_ne (tgt := 61) hx hb dX9_sum_51 (by decide) (fun c13 => ?_) (fun c13 => ?_)
        · have h := nd_neg h c13
          refine lv_aload_n hx hb dX9_sum_61 rfl (lv_at hl 0 rfl) ?_
          refine va_get (D := (dC, dI)) (ci := 10) (v := .int (sI s0 7)) (C := RX9) (T := TX9) (N := 20) hx hb hts hi_dm_X9_sum_X9 hown hK hP 0 rfl rfl 11 (by decide) (hts (.fieldLink RX9 119 "TimeMachine$Reader" "state" "I") (List.mem_of_getElem? (i := 4) rfl)) (fun _ h9 => h9) rfl dX9_sum_62 ?_
          refine lv_iconst (v := 1) hx hb dX9_sum_65 (by decide) ?_
          refine lv_icmp_ne (tgt := 76) hx hb dX9_sum_66 (by decide) (fun c14 => ?_) (fun c14 => ?_)
          · have h := nd_neg h c14
            refine lv_aload_n hx hb dX9_sum_76 rfl (lv_at hl 0 rfl) ?_
            obtain ⟨s16, hq, h⟩ := nd_b1_e h
            have hPc := hP
            have hDc := hD
            have hKc := hK
            have hFc := nd_rs hD hS hA
            refine nd_cVv (As := []) (rest := []) (w' := dw_X9 a ac s16) ⟨hx, hb, hml, hown, hts⟩ (fun sz => dm_X9_takeHalf l hlt dC dI a ac n  s0 hq sz) (cwV 0 hts gi_dm_X9_sum_1 rfl rfl rfl (by decide +kernel) ⟨Nat.le_of_ble_eq_true rfl, Nat.le_of_ble_eq_true rfl⟩) hPc hDc hKc hS hA hN (va_recv hKc hPc (ci := 10) (q0 := 0) rfl rfl) rfl hl.1 rfl (Nat.le_of_ble_eq_true rfl) dX9_sum_77 (fun H locs hP1 hD1 hk1 hS => ?_)
            have hP := hP1
            have hD := hD1.weaken (fun k q _ h => hFc q.1 h)
            exact (db_X9_sum_80 C K J26) (x1) (x2) s16 _ _ _ h hP hD hS (lv_sub hl [0, 1, 2] rfl)
          · have h := nd_pos h c14
            refine lv_aload_n hx hb dX9_sum_69 rfl (lv_at hl 0 rfl) ?_
            obtain ⟨s25, hq, h⟩ := nd_b1_e h
            have hPc := hP
            have hDc := hD
            have hKc := hK
            have hFc := nd_rs hD hS hA
            refine nd_cVv (As := []) (rest := []) (w' := dw_X9 a ac s25) ⟨hx, hb, hml, hown, hts⟩ (fun sz => dm_X9_takeOperator l hlt dC dI a ac n  s0 hq sz) (cwV 0 hts gi_dm_X9_sum_3 rfl rfl rfl (by decide +kernel) ⟨Nat.le_of_ble_eq_true rfl, Nat.le_of_ble_eq_true rfl⟩) hPc hDc hKc hS hA hN (va_recv hKc hPc (ci := 10) (q0 := 0) rfl rfl) rfl hl.1 rfl (Nat.le_of_ble_eq_true rfl) dX9_sum_70 (fun H locs hP1 hD1 hk1 hS => ?_)
            have hP := hP1
            have hD := hD1.weaken (fun k q _ h => hFc q.1 h)
            refine lv_goto (tgt := 80) hx hb dX9_sum_73 (by decide) ?_
            exact (db_X9_sum_80 C K J26) (x1) (x2) s25 _ _ _ h hP hD hS (lv_sub hl [0, 1, 2] rfl)
        · have h := nd_pos h c13
          refine lv_aload_n hx hb dX9_sum_54 rfl (lv_at hl 0 rfl) ?_
          obtain ⟨s28, hq, h⟩ := nd_b1_e h
          have hPc := hP
          have hDc := hD
          have hKc := hK
          have hFc := nd_rs hD hS hA
          refine nd_cVv (As := []) (rest := []) (w' := dw_X9 a ac s28) ⟨hx, hb, hml, hown, hts⟩ (fun sz => dm_X9_takeOperand l hlt dC dI a ac n  s0 hq sz) (cwV 0 hts gi_dm_X9_sum_4 rfl rfl rfl (by decide +kernel) ⟨Nat.le_of_ble_eq_true rfl, Nat.le_of_ble_eq_true rfl⟩) hPc hDc hKc hS hA hN (va_recv hKc hPc (ci := 10) (q0 := 0) rfl rfl) rfl hl.1 rfl (Nat.le_of_ble_eq_true rfl) dX9_sum_55 (fun H locs hP1 hD1 hk1 hS => ?_)
          have hP := hP1
          have hD := hD1.weaken (fun k q _ h => hFc q.1 h)
          refine lv_goto (tgt := 80) hx hb dX9_sum_58 (by decide) ?_
          exact (db_X9_sum_80 C K J26) (x1) (x2) s28 _ _ _ h hP hD hS (lv_sub hl [0, 1, 2] rfl)
set_option maxHeartbeats 40000000 in
set_option maxRecDepth 100000 in
theorem db_X9_sum_26 {p : Program} {l : Launch} {e : Env} {s : State} {m : MethodId} {args : Array Value} {below : List Frame} {meth : Method} {c : Code} {Q : State → Prop} {A : Nat → Prop} {dC : Nat → ClassId} {dI : Nat → Nat → Nat} {a : Nat → Nat} {ac : Nat → ClassId} {n : Nat} {r : Int32 × (St)} (C : nd_C p l s m args c A (dC, dI) cX9_sum 3 RX9 ow_dm_X9_sum (dk_X9 ac)) (K : nd_Ki p l e (headSpec ow_dm_X9_sum ({ frames := 6, cells := 0, slots := 0, locals := 133 })).room s m args below meth c Q A (dC, dI) cX9_sum .int (St) (dw_X9 a ac) r) (k : Nat) : dj_X9_sum_26 p l e s m args below meth c Q A dC dI a ac (df_X9_sum_26 n k) r := by
  induction k with
  | zero => intro x1 x2 s0 H locs ls h; exact nomatch (show (none : Option (Int32 × (St))) = some r from h)
  | succ k ih => exact dB_X9_sum_26 C K ih
set_option maxHeartbeats 40000000 in
set_option maxRecDepth 100000 in
theorem db_X9_sum_0 {p : Program} {l : Launch} {e : Env} {s : State} {m : MethodId} {args : Array Value} {below : List Frame} {meth : Method} {c : Code} {Q : State → Prop} {A : Nat → Prop} {dC : Nat → ClassId} {dI : Nat → Nat → Nat} {a : Nat → Nat} {ac : Nat → ClassId} {n : Nat} {r : Int32 × (St)} (C : nd_C p l s m args c A (dC, dI) cX9_sum 3 RX9 ow_dm_X9_sum (dk_X9 ac)) (K : nd_Ki p l e (headSpec ow_dm_X9_sum ({ frames := 6, cells := 0, slots := 0, locals := 133 })).room s m args below meth c Q A (dC, dI) cX9_sum .int (St) (dw_X9 a ac) r) : dj_X9_sum_0 p l e s m args below meth c Q A dC dI a ac (df_X9_sum_0 n) r := by
  obtain ⟨hlt, hx, hb, hml, hown, hts, hN, hA, hK⟩ := id C
  intro s0 H locs ls h hP hD hS hl
  unfold df_X9_sum_0 at h
  refine lv_aload_n hx hb dX9_sum_0 rfl (lv_at hl 0 rfl) ?_
  refine va_get (D := (dC, dI)) (ci := 10) (v := .int (sI s0 5)) (C := RX9) (T := TX9) (N := 20) hx hb hts hi_dm_X9_sum_X9 hown hK hP 0 rfl rfl 8 (by decide) (hts (.fieldLink RX9 39 "TimeMachine$Reader" "codes" "I") (List.mem_of_getElem? (i := 1) rfl)) (fun _ h9 => h9) rfl dX9_sum_1 ?_
  refine lv_topi (fun z1 ez1 => ?_)
  have h := nd_at h ez1
  refine lv_istore_n (lv' := [(1, .int z1), (0, .ref (a 0))]) hx hb dX9_sum_4 rfl hl (by decide) rfl (fun ls hl => ?_)
  refine lv_aload_n hx hb dX9_sum_5 rfl (lv_at hl 1 rfl) ?_
  refine lv_iconst (v := 0) hx hb dX9_sum_6 (by decide) ?_
  refine va_put (D := (dC, dI)) (ci := 10) (v := .int 0) (ty := .int) (C := RX9) (T := TX9) (N := 20) hx hb hts hi_dm_X9_sum_X9 tyX9 tyX9_ok nmX9 hown hK hP hD hS 0 rfl rfl 10 (by decide) (hts (.fieldLink RX9 112 "TimeMachine$Reader" "top" "I") (List.mem_of_getElem? (i := 2) rfl)) (fun _ h9 => h9) rfl (by decide +kernel) rfl rfl (Nat.le_of_ble_eq_true rfl) dX9_sum_7 (fun H locs hP hD hS => ?_)
  obtain ⟨s2, es2, h⟩ := nd_let_e h
  have hP : va_P (dC, dI) vwCl (dw_X9 a ac s2) H := by rw [es2]; exact hP
  have hD : va_D A (dw_X9 a ac s2) := by rw [es2]; exact hD
  refine lv_aload_n hx hb dX9_sum_10 rfl (lv_at hl 1 rfl) ?_
  refine lv_iconst (v := 1) hx hb dX9_sum_11 (by decide) ?_
  refine va_put (D := (dC, dI)) (ci := 10) (v := .int 1) (ty := .boolean) (C := RX9) (T := TX9) (N := 20) hx hb hts hi_dm_X9_sum_X9 tyX9 tyX9_ok nmX9 hown hK hP hD hS 0 rfl rfl 18 (by decide) (hts (.fieldLink RX9 115 "TimeMachine$Reader" "fixed" "Z") (List.mem_of_getElem? (i := 3) rfl)) (fun _ h9 => h9) rfl (by decide +kernel) (by first | rfl | decide) rfl (Nat.le_of_ble_eq_true rfl) dX9_sum_12 (fun H locs hP hD hS => ?_)
  obtain ⟨s3, es3, h⟩ := nd_let_e h
  have hP : va_P (dC, dI) vwCl (dw_X9 a ac s3) H := by rw [es3]; exact hP
  have hD : va_D A (dw_X9 a ac s3) := by rw [es3]; exact hD
  refine lv_aload_n hx hb dX9_sum_15 rfl (lv_at hl 1 rfl) ?_
  refine lv_iconst (v := 0) hx hb dX9_sum_16 (by decide) ?_
  refine va_put (D := (dC, dI)) (ci := 10) (v := .int 0) (ty := .int) (C := RX9) (T := TX9) (N := 20) hx hb hts hi_dm_X9_sum_X9 tyX9 tyX9_ok nmX9 hown hK hP hD hS 0 rfl rfl 11 (by decide) (hts (.fieldLink RX9 119 "TimeMachine$Reader" "state" "I") (List.mem_of_getElem? (i := 4) rfl)) (fun _ h9 => h9) rfl (by decide +kernel) rfl rfl (Nat.le_of_ble_eq_true rfl) dX9_sum_17 (fun H locs hP hD hS => ?_)
  obtain ⟨s4, es4, h⟩ := nd_let_e h
  have hP : va_P (dC, dI) vwCl (dw_X9 a ac s4) H := by rw [es4]; exact hP
  have hD : va_D A (dw_X9 a ac s4) := by rw [es4]; exact hD
  refine lv_aload_n hx hb dX9_sum_20 rfl (lv_at hl 1 rfl) ?_
  obtain ⟨o5, h⟩ := nd_o_e h
  refine va_get (D := (dC, dI)) (ci := 10) (v := .ref (a 8)) (C := RX9) (T := TX9) (N := 20) hx hb hts hi_dm_X9_sum_X9 hown hK hP 0 rfl rfl 0 (by decide) (hts (.fieldLink RX9 9 "TimeMachine$Reader" "source" "[B") (List.mem_of_getElem? (i := 5) rfl)) (fun _ h9 => h9) (congrArg (fun z => some (va_rf (Option.map a z))) o5) dX9_sum_21 ?_
  refine va_alen (v := 32768) hx hb hK hP 8 7 rfl rfl (show Int32.ofNat 32768 = 32768 by decide) dX9_sum_24 ?_
  refine lv_istore_n (lv' := [(2, .int 32768), (1, .int z1), (0, .ref (a 0))]) hx hb dX9_sum_25 rfl hl (by decide) rfl (fun ls hl => ?_)
  exact (db_X9_sum_26 C K n) (z1) (32768) s4 _ _ _ h hP hD hS (lv_sub hl [2, 1, 0] rfl)
set_option maxHeartbeats 40000000 in
set_option maxRecDepth 100000 in
theorem dm_X9_sum (l : Launch) (hlt : l.stackTraces = false) (dC : Nat → ClassId) (dI : Nat → Nat → Nat) (a : Nat → Nat) (ac : Nat → ClassId) (n : Nat) (s0 : St) {r : Int32 × (St)} (h : df_X9_sum n s0 = some r) (sz : Nat) : Met l yX9_sum ow_dm_X9_sum ({ frames := 6, cells := 0, slots := 0, locals := 133 }) (va_Pc [.ref (a 0)] (fun U => U.heap.size = sz ∧ va_P (dC, dI) vwCl (dw_X9 a ac s0) U.heap ∧ va_K (dC, dI) vwCl (dk_X9 ac) U ∧ va_D (fun _ => True) (dw_X9 a ac s0) ∧ nv_E dI (va_A (dw_X9 a ac s0) sz) U)) (va_Qi (fun x _ => x = r.1) (fun (_ : Unit) t => va_P (dC, dI) vwCl (dw_X9 a ac r.2) t.heap ∧ va_K (dC, dI) vwCl (dk_X9 ac) t ∧ va_D (va_A (dw_X9 a ac s0) sz) (dw_X9 a ac r.2)) (va_A (dw_X9 a ac s0) sz)) 0 0 (va_A (dw_X9 a ac s0) sz) := by
  refine Met.ofW (cc := cX9_sum) (maxL := 3) (ret := (some .int)) (by decide) rfl ?_
  intro p e s m args below meth c s₁ B hml hv
  obtain ⟨rfl, hsz, hP, hK, hD0, hN⟩ := hv
  have hx := B.exec
  have hb := B.bytes
  have hr := B.returns
  have hts := atoms_spec (ws := ow_dm_X9_sum) B.pre
  have hown : s.vm.findClass RX9 = some m.cls := findClass_of_methodNamed B.named
  have hlocks := B.notSynchronized
  subst hsz
  have hD := hD0.self (sz := s.heap.size)
  generalize hAe : va_A (dw_X9 a ac s0) s.heap.size = A at hD hN ⊢
  have hA : ∀ q : Nat, s.heap.size ≤ q → A q := fun q h => by rw [← hAe]; exact Or.inr h
  have hl := lv_entry ([.ref (a 0)]) (n := 3) (Nat.le_of_ble_eq_true rfl)
  rw [lg_entry_eq]
  generalize (lg_sl ([.ref (a 0)]) ++ List.replicate (3 - (lg_sl ([.ref (a 0)])).length) Slot.unset).toArray = ls at hl ⊢
  have hl : lv_has ls 3 [(0, .ref (a 0))] := hl
  exact db_X9_sum_0 (dC := dC) (dI := dI) (a := a) (ac := ac) (n := n) (r := r) ⟨hlt, hx, hb, hml, hown, hts, hN, hA, hK⟩ (fun pc v τ H locs ls d z er hP hD hS => by subst er; exact W.zret (v := v) hx hb hr z (fun t ht hW => ⟨⟨v, (), rfl, rfl, by rw [ht]; exact hP, va_K.moved hW.alike hK, hD⟩, hS.F ht⟩) hS.2.2 d) s0 _ _ _ h hP hD va_S.rf (lv_sub hl [0] rfl)
def ow_dm_X1_readConstant : List Cond := Cond.code yX1_readConstant cX1_readConstant 5 none :: ([Cond.fieldLink RX1 12 "TimeMachine$Assembler" "reader" "LTimeMachine$Reader;", Cond.fieldLink RX1 85 "TimeMachine$Reader" "kind" "I", Cond.fieldLink RX1 91 "TimeMachine$Reader" "at" "I", Cond.fieldLink RX1 88 "TimeMachine$Reader" "from" "I", Cond.methodLink RX1 116 yX9_nameAt, Cond.instanceMethod yX9_nameAt, Cond.selects RX9 yX9_nameAt yX9_nameAt, Cond.initialized RX9, Cond.fieldLink RX1 120 "TimeMachine$Reader" "source" "[B", Cond.methodLink RX1 123 yX7_registerAt, Cond.static yX7_registerAt, Cond.initialized RX7, Cond.methodLink RX1 77 yX1_blame, Cond.instanceMethod yX1_blame, Cond.selects RX1 yX1_blame yX1_blame, Cond.initialized RX1, Cond.methodLink RX1 129 yX9_isDefined, Cond.instanceMethod yX9_isDefined, Cond.selects RX9 yX9_isDefined yX9_isDefined, Cond.methodLink RX1 97 yX9_next, Cond.instanceMethod yX9_next, Cond.selects RX9 yX9_next yX9_next, Cond.methodLink RX1 194 yX1_expect, Cond.instanceMethod yX1_expect, Cond.selects RX1 yX1_expect yX1_expect, Cond.fieldLink RX1 32 "TimeMachine$Assembler" "fault" "I", Cond.constant RX1 199 (-2147483648), Cond.constant RX1 200 (2147483647), Cond.methodLink RX1 173 yX1_fixed, Cond.instanceMethod yX1_fixed, Cond.selects RX1 yX1_fixed yX1_fixed, Cond.methodLink RX1 132 yX9_define, Cond.instanceMethod yX9_define, Cond.selects RX9 yX9_define yX9_define, Cond.fieldLink RX1 74 "TimeMachine$Assembler" "constants" "I", Cond.methodLink RX1 170 yX9_sum, Cond.instanceMethod yX9_sum, Cond.selects RX9 yX9_sum yX9_sum] ++ (u_ws RX1 TX1 13 ++ (u_ws RX9 TX9 20 ++ (ow_dm_X9_nameAt ++ (ow_dm_X7_registerAt ++ (ow_dm_X1_blame ++ (ow_dm_X9_isDefined ++ (ow_dm_X9_next ++ (ow_dm_X1_expect ++ (ow_dm_X1_fixed ++ (ow_dm_X9_define ++ (ow_dm_X9_sum ++ []))))))))))))
theorem gd_dm_X1_readConstant : ∀ w ∈ ow_dm_X1_readConstant, (w.onTables && w.keeps) = true ∨ ∃ ty, w = Cond.arrayClass ty := List.forall_mem_cons.mpr ⟨good_of_word rfl, List.forall_mem_append.mpr ⟨fun w h => good_of_word (List.all_eq_true.mp (by decide +kernel) w h), List.forall_mem_append.mpr ⟨gu_X1, List.forall_mem_append.mpr ⟨gu_X9, List.forall_mem_append.mpr ⟨gd_dm_X9_nameAt, List.forall_mem_append.mpr ⟨gd_dm_X7_registerAt, List.forall_mem_append.mpr ⟨gd_dm_X1_blame, List.forall_mem_append.mpr ⟨gd_dm_X9_isDefined, List.forall_mem_append.mpr ⟨gd_dm_X9_next, List.forall_mem_append.mpr ⟨gd_dm_X1_expect, List.forall_mem_append.mpr ⟨gd_dm_X1_fixed, List.forall_mem_append.mpr ⟨gd_dm_X9_define, List.forall_mem_append.mpr ⟨gd_dm_X9_sum, fun _ h => nomatch h⟩⟩⟩⟩⟩⟩⟩⟩⟩⟩⟩⟩⟩
theorem hi_dm_X1_readConstant_X1 : ∀ w ∈ u_ws RX1 TX1 13, w ∈ ow_dm_X1_readConstant := fun w h => List.mem_cons_of_mem _ (List.mem_append_right _ (List.mem_append_left _ h))
theorem hi_dm_X1_readConstant_X9 : ∀ w ∈ u_ws RX9 TX9 20, w ∈ ow_dm_X1_readConstant := fun w h => List.mem_cons_of_mem _ (List.mem_append_right _ (List.mem_append_right _ (List.mem_append_left _ h)))
theorem gi_dm_X1_readConstant_0 : GoodIn ow_dm_X1_readConstant (wsV RX1 116 RX9 yX9_nameAt ow_dm_X9_nameAt) := goodIn_app (goodIn_of _ (by decide +kernel)) (fun w h => ⟨List.mem_cons_of_mem _ (List.mem_append_right _ (List.mem_append_right _ (List.mem_append_right _ (List.mem_append_left _ h)))), gd_dm_X9_nameAt w h⟩)
theorem gi_dm_X1_readConstant_1 : GoodIn ow_dm_X1_readConstant (va_wsS RX1 123 yX7_registerAt ow_dm_X7_registerAt) := goodIn_app (goodIn_of _ (by decide +kernel)) (fun w h => ⟨List.mem_cons_of_mem _ (List.mem_append_right _ (List.mem_append_right _ (List.mem_append_right _ (List.mem_append_right _ (List.mem_append_left _ h))))), gd_dm_X7_registerAt w h⟩)
theorem gi_dm_X1_readConstant_2 : GoodIn ow_dm_X1_readConstant (wsV RX1 77 RX1 yX1_blame ow_dm_X1_blame) := goodIn_app (goodIn_of _ (by decide +kernel)) (fun w h => ⟨List.mem_cons_of_mem _ (List.mem_append_right _ (List.mem_append_right _ (List.mem_append_right _ (List.mem_append_right _ (List.mem_append_right _ (List.mem_append_left _ h)))))), gd_dm_X1_blame w h⟩)
theorem gi_dm_X1_readConstant_3 : GoodIn ow_dm_X1_readConstant (wsV RX1 129 RX9 yX9_isDefined ow_dm_X9_isDefined) := goodIn_app (goodIn_of _ (by decide +kernel)) (fun w h => ⟨List.mem_cons_of_mem _ (List.mem_append_right _ (List.mem_append_right _ (List.mem_append_right _ (List.mem_append_right _ (List.mem_append_right _ (List.mem_append_right _ (List.mem_append_left _ h))))))), gd_dm_X9_isDefined w h⟩)
theorem gi_dm_X1_readConstant_4 : GoodIn ow_dm_X1_readConstant (wsV RX1 97 RX9 yX9_next ow_dm_X9_next) := goodIn_app (goodIn_of _ (by decide +kernel)) (fun w h => ⟨List.mem_cons_of_mem _ (List.mem_append_right _ (List.mem_append_right _ (List.mem_append_right _ (List.mem_append_right _ (List.mem_append_right _ (List.mem_append_right _ (List.mem_append_right _ (List.mem_append_left _ h)))))))), gd_dm_X9_next w h⟩)
theorem gi_dm_X1_readConstant_5 : GoodIn ow_dm_X1_readConstant (wsV RX1 194 RX1 yX1_expect ow_dm_X1_expect) := goodIn_app (goodIn_of _ (by decide +kernel)) (fun w h => ⟨List.mem_cons_of_mem _ (List.mem_append_right _ (List.mem_append_right _ (List.mem_append_right _ (List.mem_append_right _ (List.mem_append_right _ (List.mem_append_right _ (List.mem_append_right _ (List.mem_append_right _ (List.mem_append_left _ h))))))))), gd_dm_X1_expect w h⟩)
theorem gi_dm_X1_readConstant_6 : GoodIn ow_dm_X1_readConstant (wsV RX1 173 RX1 yX1_fixed ow_dm_X1_fixed) := goodIn_app (goodIn_of _ (by decide +kernel)) (fun w h => ⟨List.mem_cons_of_mem _ (List.mem_append_right _ (List.mem_append_right _ (List.mem_append_right _ (List.mem_append_right _ (List.mem_append_right _ (List.mem_append_right _ (List.mem_append_right _ (List.mem_append_right _ (List.mem_append_right _ (List.mem_append_left _ h)))))))))), gd_dm_X1_fixed w h⟩)
theorem gi_dm_X1_readConstant_7 : GoodIn ow_dm_X1_readConstant (wsV RX1 132 RX9 yX9_define ow_dm_X9_define) := goodIn_app (goodIn_of _ (by decide +kernel)) (fun w h => ⟨List.mem_cons_of_mem _ (List.mem_append_right _ (List.mem_append_right _ (List.mem_append_right _ (List.mem_append_right _ (List.mem_append_right _ (List.mem_append_right _ (List.mem_append_right _ (List.mem_append_right _ (List.mem_append_right _ (List.mem_append_right _ (List.mem_append_left _ h))))))))))), gd_dm_X9_define w h⟩)
theorem gi_dm_X1_readConstant_8 : GoodIn ow_dm_X1_readConstant (wsV RX1 170 RX9 yX9_sum ow_dm_X9_sum) := goodIn_app (goodIn_of _ (by decide +kernel)) (fun w h => ⟨List.mem_cons_of_mem _ (List.mem_append_right _ (List.mem_append_right _ (List.mem_append_right _ (List.mem_append_right _ (List.mem_append_right _ (List.mem_append_right _ (List.mem_append_right _ (List.mem_append_right _ (List.mem_append_right _ (List.mem_append_right _ (List.mem_append_right _ (List.mem_append_left _ h)))))))))))), gd_dm_X9_sum w h⟩)
def dj_X1_readConstant_81 (p : Program) (l : Launch) (e : Env) (s : State) (m : MethodId) (args : Array Value) (below : List Frame) (meth : Method) (c : Code) (Q : State → Prop) (A : Nat → Prop) (dC : Nat → ClassId) (dI : Nat → Nat → Nat) (a : Nat → Nat) (ac : Nat → ClassId) (g : (St × (St)) → Option (St × (St))) (r : St × (St)) : Prop := ∀ (s0 : St × (St)) (H : Heap) (locs : List Loc) (ls : Array Slot), g s0 = some r → va_P (dC, dI) vwCl (dw_X1 a ac s0) H → va_D A (dw_X1 a ac s0) → va_S A s.heap H locs → lv_has ls 5 [(0, .ref (a 0))] → W p l e (headSpec ow_dm_X1_readConstant ({ frames := 7, cells := 0, slots := 0, locals := 155 })).room s m args below meth c H locs 0 0 Q (F0 m 81 ls [])
def dj_X1_readConstant_158 (p : Program) (l : Launch) (e : Env) (s : State) (m : MethodId) (args : Array Value) (below : List Frame) (meth : Method) (c : Code) (Q : State → Prop) (A : Nat → Prop) (dC : Nat → ClassId) (dI : Nat → Nat → Nat) (a : Nat → Nat) (ac : Nat → ClassId) (g : (St × (St)) → Option (St × (St))) (r : St × (St)) : Prop := ∀ (s0 : St × (St)) (H : Heap) (locs : List Loc) (ls : Array Slot), g s0 = some r → va_P (dC, dI) vwCl (dw_X1 a ac s0) H → va_D A (dw_X1 a ac s0) → va_S A s.heap H locs → lv_has ls 5 [] → W p l e (headSpec ow_dm_X1_readConstant ({ frames := 7, cells := 0, slots := 0, locals := 155 })).room s m args below meth c H locs 0 0 Q (F0 m 158 ls [])
def dj_X1_readConstant_118 (p : Program) (l : Launch) (e : Env) (s : State) (m : MethodId) (args : Array Value) (below : List Frame) (meth : Method) (c : Code) (Q : State → Prop) (A : Nat → Prop) (dC : Nat → ClassId) (dI : Nat → Nat → Nat) (a : Nat → Nat) (ac : Nat → ClassId) (g : Int32 → Int32 → (St × (St)) → Option (St × (St))) (r : St × (St)) : Prop := ∀ (x2 : Int32) (y0 : Int32) (s0 : St × (St)) (H : Heap) (locs : List Loc) (ls : Array Slot), g x2 y0 s0 = some r → va_P (dC, dI) vwCl (dw_X1 a ac s0) H → va_D A (dw_X1 a ac s0) → va_S A s.heap H locs → lv_has ls 5 [(0, .ref (a 0)), (2, .int x2)] → W p l e (headSpec ow_dm_X1_readConstant ({ frames := 7, cells := 0, slots := 0, locals := 155 })).room s m args below meth c H locs 0 0 Q (F0 m 118 ls [.int y0])
def dj_X1_readConstant_0 (p : Program) (l : Launch) (e : Env) (s : State) (m : MethodId) (args : Array Value) (below : List Frame) (meth : Method) (c : Code) (Q : State → Prop) (A : Nat → Prop) (dC : Nat → ClassId) (dI : Nat → Nat → Nat) (a : Nat → Nat) (ac : Nat → ClassId) (g : (St × (St)) → Option (St × (St))) (r : St × (St)) : Prop := ∀ (s0 : St × (St)) (H : Heap) (locs : List Loc) (ls : Array Slot), g s0 = some r → va_P (dC, dI) vwCl (dw_X1 a ac s0) H → va_D A (dw_X1 a ac s0) → va_S A s.heap H locs → lv_has ls 5 [(0, .ref (a 0))] → W p l e (headSpec ow_dm_X1_readConstant ({ frames := 7, cells := 0, slots := 0, locals := 155 })).room s m args below meth c H locs 0 0 Q (F0 m 0 ls [])
set_option maxHeartbeats 40000000 in
set_option maxRecDepth 100000 in
theorem db_X1_readConstant_81 {p : Program} {l : Launch} {e : Env} {s : State} {m : MethodId} {args : Array Value} {below : List Frame} {meth : Method} {c : Code} {Q : State → Prop} {A : Nat → Prop} {dC : Nat → ClassId} {dI : Nat → Nat → Nat} {a : Nat → Nat} {ac : Nat → ClassId} {n : Nat} {r : St × (St)} (C : nd_C p l s m args c A (dC, dI) cX1_readConstant 5 RX1 ow_dm_X1_readConstant (dk_X1 ac)) (K : nd_Kv p l e (headSpec ow_dm_X1_readConstant ({ frames := 7, cells := 0, slots := 0, locals := 155 })).room s m args below meth c Q A (dC, dI) cX1_readConstant (St × (St)) (dw_X1 a ac) r) : dj_X1_readConstant_81 p l e s m args below meth c Q A dC dI a ac (df_X1_readConstant_81 n) r := by
  obtain ⟨hlt, hx, hb, hml, hown, hts, hN, hA, hK⟩ := id C
  intro s0 H locs ls h hP hD hS hl
  unfold df_X1_readConstant_81 at h
  refine lv_aload_n hx hb dX1_readConstant_81 rfl (lv_at hl 0 rfl) ?_
  refine lv_iconst (v := 4) hx hb dX1_readConstant_82 (by decide) ?_
  obtain ⟨s14, hq, h⟩ := nd_b1_e h
  have hPc := hP
  have hDc := hD
  have hKc := hK
  have hFc := nd_rs hD hS hA
  refine nd_cVv (As := [.int 4]) (rest := []) (w' := dw_X1 a ac s14) ⟨hx, hb, hml, hown, hts⟩ (fun sz => dm_X1_blame l hlt dC dI a ac n (4) s0 hq sz) (cwV 1 hts gi_dm_X1_readConstant_2 rfl rfl rfl (by decide +kernel) ⟨Nat.le_of_ble_eq_true rfl, Nat.le_of_ble_eq_true rfl⟩) hPc hDc hKc hS hA hN (va_recv hKc hPc (ci := 2) (q0 := 0) rfl rfl) rfl hl.1 rfl (Nat.le_of_ble_eq_true rfl) dX1_readConstant_83 (fun H locs hP1 hD1 hk1 hS => ?_)
  have hP := hP1
  have hD := hD1.weaken (fun k q _ h => hFc q.1 h)
  exact K _ _ _ _ _ dX1_readConstant_86 (Option.some.inj h).symm hP hD hS
set_option maxHeartbeats 40000000 in
set_option maxRecDepth 100000 in
theorem db_X1_readConstant_158 {p : Program} {l : Launch} {e : Env} {s : State} {m : MethodId} {args : Array Value} {below : List Frame} {meth : Method} {c : Code} {Q : State → Prop} {A : Nat → Prop} {dC : Nat → ClassId} {dI : Nat → Nat → Nat} {a : Nat → Nat} {ac : Nat → ClassId} {n : Nat} {r : St × (St)} (C : nd_C p l s m args c A (dC, dI) cX1_readConstant 5 RX1 ow_dm_X1_readConstant (dk_X1 ac)) (K : nd_Kv p l e (headSpec ow_dm_X1_readConstant ({ frames := 7, cells := 0, slots := 0, locals := 155 })).room s m args below meth c Q A (dC, dI) cX1_readConstant (St × (St)) (dw_X1 a ac) r) : dj_X1_readConstant_158 p l e s m args below meth c Q A dC dI a ac (df_X1_readConstant_158 n) r := by
  obtain ⟨hlt, hx, hb, hml, hown, hts, hN, hA, hK⟩ := id C
  intro s0 H locs ls h hP hD hS hl
  unfold df_X1_readConstant_158 at h
  exact K _ _ _ _ _ dX1_readConstant_158 (Option.some.inj h).symm hP hD hS
set_option maxHeartbeats 40000000 in
set_option maxRecDepth 100000 in
theorem db_X1_readConstant_118 {p : Program} {l : Launch} {e : Env} {s : State} {m : MethodId} {args : Array Value} {below : List Frame} {meth : Method} {c : Code} {Q : State → Prop} {A : Nat → Prop} {dC : Nat → ClassId} {dI : Nat → Nat → Nat} {a : Nat → Nat} {ac : Nat → ClassId} {n : Nat} {r : St × (St)} (C : nd_C p l s m args c A (dC, dI) cX1_readConstant 5 RX1 ow_dm_X1_readConstant (dk_X1 ac)) (K : nd_Kv p l e (headSpec ow_dm_X1_readConstant ({ frames := 7, cells := 0, slots := 0, locals := 155 })).room s m args below meth c Q A (dC, dI) cX1_readConstant (St × (St)) (dw_X1 a ac) r) : dj_X1_readConstant_118 p l e s m args below meth c Q A dC dI a ac (df_X1_readConstant_118 n) r := by
  obtain ⟨hlt, hx, hb, hml, hown, hts, hN, hA, hK⟩ := id C
  intro x2 y0 s0 H locs ls h hP hD hS hl
  unfold df_X1_readConstant_118 at h
  refine lv_istore_n (lv' := [(3, .int y0), (0, .ref (a 0)), (2, .int x2)]) hx hb dX1_readConstant_118 rfl hl (by decide) rfl (fun ls hl => ?_)
  refine lv_aload_n hx hb dX1_readConstant_119 rfl (lv_at hl 1 rfl) ?_
  refine lv_iload_n hx hb dX1_readConstant_120 rfl (lv_at hl 0 rfl) ?_
  refine lv_ldc hx hb hown (hts (.constant RX1 199 (-2147483648)) (List.mem_of_getElem? (i := 27) rfl)) dX1_readConstant_121 ?_
  refine lv_ldc hx hb hown (hts (.constant RX1 200 (2147483647)) (List.mem_of_getElem? (i := 28) rfl)) dX1_readConstant_123 ?_
  obtain ⟨q29, s30, hq, h⟩ := nd_b2_e h
  have hPc := hP
  have hDc := hD
  have hKc := hK
  have hFc := nd_rs hD hS hA
  refine nd_cVi (As := [.int y0, .int (-2147483648), .int 2147483647]) (rest := []) (q := q29) (w' := dw_X1 a ac s30) ⟨hx, hb, hml, hown, hts⟩ (fun sz => dm_X1_fixed l hlt dC dI a ac n (y0) ((-2147483648)) (2147483647) s0 hq sz) (cwV 3 hts gi_dm_X1_readConstant_6 rfl rfl rfl (by decide +kernel) ⟨Nat.le_of_ble_eq_true rfl, Nat.le_of_ble_eq_true rfl⟩) hPc hDc hKc hS hA hN (va_recv hKc hPc (ci := 2) (q0 := 0) rfl rfl) rfl hl.1 rfl (Nat.le_of_ble_eq_true rfl) dX1_readConstant_125 (fun H locs hP1 hD1 hk1 hS => ?_)
  have hP := hP1
  have hD := hD1.weaken (fun k q _ h => hFc q.1 h)
  refine lv_istore (lv' := [(4, .int q29), (3, .int y0), (0, .ref (a 0)), (2, .int x2)]) hx hb dX1_readConstant_128 hl (by decide) rfl (fun ls hl => ?_)
  refine lv_aload_n hx hb dX1_readConstant_130 rfl (lv_at hl 2 rfl) ?_
  refine va_get (D := (dC, dI)) (ci := 2) (v := .int (sI s30.1 2)) (C := RX1) (T := TX1) (N := 13) hx hb hts hi_dm_X1_readConstant_X1 hown hK hP 0 rfl rfl 5 (by decide) (hts (.fieldLink RX1 32 "TimeMachine$Assembler" "fault" "I") (List.mem_of_getElem? (i := 26) rfl)) (fun _ h9 => h9) rfl dX1_readConstant_131 ?_
  refine lv_if_ne (tgt := 158) hx hb dX1_readConstant_134 (by decide) (fun c32 => ?_) (fun c32 => ?_)
  · have h := nd_neg h c32
    exact (db_X1_readConstant_158 C K)  s30 _ _ _ h hP hD hS (lv_sub hl [] rfl)
  · have h := nd_pos h c32
    refine lv_aload_n hx hb dX1_readConstant_137 rfl (lv_at hl 2 rfl) ?_
    refine va_get (D := (dC, dI)) (ci := 2) (v := .ref (a 3)) (C := RX1) (T := TX1) (N := 13) hx hb hts hi_dm_X1_readConstant_X1 hown hK hP 0 rfl rfl 0 (by decide) (hts (.fieldLink RX1 12 "TimeMachine$Assembler" "reader" "LTimeMachine$Reader;") (List.mem_of_getElem? (i := 1) rfl)) (fun _ h9 => h9) rfl dX1_readConstant_138 ?_
    refine lv_iload_n hx hb dX1_readConstant_141 rfl (lv_at hl 3 rfl) ?_
    refine lv_iconst (v := 1) hx hb dX1_readConstant_142 (by decide) ?_
    refine lv_iload hx hb dX1_readConstant_143 (lv_at hl 0 rfl) ?_
    obtain ⟨s34, hq, h⟩ := nd_b1_e h
    have hPc := dp_X1_3 hP
    have hDc := dd_X1_3 hD
    have hKc := dy_X1_3 hK
    have hFc := nd_rs hDc hS hA
    have hzA : ∀ q : Nat, H.size ≤ q → A q := fun q h => hA q (Nat.le_trans hS.1 h)
    refine nd_cVv (As := [.int x2, .int 1, .int q29]) (rest := []) (w' := dw_X9 (fun k => a (k + 3)) (fun k => ac (k + 3)) s34) ⟨hx, hb, hml, hown, hts⟩ (fun sz => dm_X9_define l hlt dC dI (fun k => a (k + 3)) (fun k => ac (k + 3)) n (x2) (1) (q29) s30.2 hq sz) (cwV 3 hts gi_dm_X1_readConstant_7 rfl rfl rfl (by decide +kernel) ⟨Nat.le_of_ble_eq_true rfl, Nat.le_of_ble_eq_true rfl⟩) hPc hDc hKc hS hA hN (va_recv hKc hPc (ci := 10) (q0 := 0) rfl rfl) rfl hl.1 rfl (Nat.le_of_ble_eq_true rfl) dX1_readConstant_145 (fun H locs hP1 hD1 hk1 hS => ?_)
    obtain ⟨hP, hD⟩ := dn_X1_3 hP hD hzA hk1 hP1 hD1
    obtain ⟨s36, es36, h⟩ := nd_let_e h
    have hP : va_P (dC, dI) vwCl (dw_X1 a ac s36) H := by rw [es36]; exact hP
    have hD : va_D A (dw_X1 a ac s36) := by rw [es36]; exact hD
    refine lv_aload_n hx hb dX1_readConstant_148 rfl (lv_at hl 2 rfl) ?_
    refine lv_dup hx hb dX1_readConstant_149 rfl ?_
    refine va_get (D := (dC, dI)) (ci := 2) (v := .int (sI s36.1 6)) (C := RX1) (T := TX1) (N := 13) hx hb hts hi_dm_X1_readConstant_X1 hown hK hP 0 rfl rfl 9 (by decide) (hts (.fieldLink RX1 74 "TimeMachine$Assembler" "constants" "I") (List.mem_of_getElem? (i := 35) rfl)) (fun _ h9 => h9) rfl dX1_readConstant_150 ?_
    refine lv_iconst (v := 1) hx hb dX1_readConstant_153 (by decide) ?_
    refine lv_iadd hx hb dX1_readConstant_154 ?_
    refine va_put (D := (dC, dI)) (ci := 2) (v := .int ((sI s36.1 6) + 1)) (ty := .int) (C := RX1) (T := TX1) (N := 13) hx hb hts hi_dm_X1_readConstant_X1 tyX1 tyX1_ok nmX1 hown hK hP hD hS 0 rfl rfl 9 (by decide) (hts (.fieldLink RX1 74 "TimeMachine$Assembler" "constants" "I") (List.mem_of_getElem? (i := 35) rfl)) (fun _ h9 => h9) rfl (by decide +kernel) rfl rfl (Nat.le_of_ble_eq_true rfl) dX1_readConstant_155 (fun H locs hP hD hS => ?_)
    obtain ⟨s37, es37, h⟩ := nd_let_e h
    have hP : va_P (dC, dI) vwCl (dw_X1 a ac s37) H := by rw [es37]; exact hP
    have hD : va_D A (dw_X1 a ac s37) := by rw [es37]; exact hD
    exact (db_X1_readConstant_158 C K)  s37 _ _ _ h hP hD hS (lv_sub hl [] rfl)
set_option maxHeartbeats 40000000 in
set_option maxRecDepth 100000 in
theorem db_X1_readConstant_0 {p : Program} {l : Launch} {e : Env} {s : State} {m : MethodId} {args : Array Value} {below : List Frame} {meth : Method} {c : Code} {Q : State → Prop} {A : Nat → Prop} {dC : Nat → ClassId} {dI : Nat → Nat → Nat} {a : Nat → Nat} {ac : Nat → ClassId} {n : Nat} {r : St × (St)} (C : nd_C p l s m args c A (dC, dI) cX1_readConstant 5 RX1 ow_dm_X1_readConstant (dk_X1 ac)) (K : nd_Kv p l e (headSpec ow_dm_X1_readConstant ({ frames := 7, cells := 0, slots := 0, locals := 155 })).room s m args below meth c Q A (dC, dI) cX1_readConstant (St × (St)) (dw_X1 a ac) r) : dj_X1_readConstant_0 p l e s m args below meth c Q A dC dI a ac (df_X1_readConstant_0 n) r := by
  obtain ⟨hlt, hx, hb, hml, hown, hts, hN, hA, hK⟩ := id C
  intro s0 H locs ls h hP hD hS hl
  unfold df_X1_readConstant_0 at h
  refine lv_aload_n hx hb dX1_readConstant_0 rfl (lv_at hl 0 rfl) ?_
  refine va_get (D := (dC, dI)) (ci := 2) (v := .ref (a 3)) (C := RX1) (T := TX1) (N := 13) hx hb hts hi_dm_X1_readConstant_X1 hown hK hP 0 rfl rfl 0 (by decide) (hts (.fieldLink RX1 12 "TimeMachine$Assembler" "reader" "LTimeMachine$Reader;") (List.mem_of_getElem? (i := 1) rfl)) (fun _ h9 => h9) rfl dX1_readConstant_1 ?_
  refine va_get (D := (dC, dI)) (ci := 10) (v := .int (sI s0.2 2)) (C := RX9) (T := TX9) (N := 20) hx hb hts hi_dm_X1_readConstant_X9 hown hK hP 3 rfl rfl 3 (by decide) (hts (.fieldLink RX1 85 "TimeMachine$Reader" "kind" "I") (List.mem_of_getElem? (i := 2) rfl)) (fun _ h9 => h9) rfl dX1_readConstant_4 ?_
  refine lv_iconst (v := 1) hx hb dX1_readConstant_7 (by decide) ?_
  refine lv_icmp_eq (tgt := 17) hx hb dX1_readConstant_8 (by decide) (fun c1 => ?_) (fun c1 => ?_)
  · have h := nd_pos h c1
    refine lv_aload_n hx hb dX1_readConstant_17 rfl (lv_at hl 0 rfl) ?_
    refine va_get (D := (dC, dI)) (ci := 2) (v := .ref (a 3)) (C := RX1) (T := TX1) (N := 13) hx hb hts hi_dm_X1_readConstant_X1 hown hK hP 0 rfl rfl 0 (by decide) (hts (.fieldLink RX1 12 "TimeMachine$Assembler" "reader" "LTimeMachine$Reader;") (List.mem_of_getElem? (i := 1) rfl)) (fun _ h9 => h9) rfl dX1_readConstant_18 ?_
    refine va_get (D := (dC, dI)) (ci := 10) (v := .int (sI s0.2 0)) (C := RX9) (T := TX9) (N := 20) hx hb hts hi_dm_X1_readConstant_X9 hown hK hP 3 rfl rfl 1 (by decide) (hts (.fieldLink RX1 91 "TimeMachine$Reader" "at" "I") (List.mem_of_getElem? (i := 3) rfl)) (fun _ h9 => h9) rfl dX1_readConstant_21 ?_
    refine lv_aload_n hx hb dX1_readConstant_24 rfl (lv_at hl 0 rfl) ?_
    refine va_get (D := (dC, dI)) (ci := 2) (v := .ref (a 3)) (C := RX1) (T := TX1) (N := 13) hx hb hts hi_dm_X1_readConstant_X1 hown hK hP 0 rfl rfl 0 (by decide) (hts (.fieldLink RX1 12 "TimeMachine$Assembler" "reader" "LTimeMachine$Reader;") (List.mem_of_getElem? (i := 1) rfl)) (fun _ h9 => h9) rfl dX1_readConstant_25 ?_
    refine va_get (D := (dC, dI)) (ci := 10) (v := .int (sI s0.2 3)) (C := RX9) (T := TX9) (N := 20) hx hb hts hi_dm_X1_readConstant_X9 hown hK hP 3 rfl rfl 4 (by decide) (hts (.fieldLink RX1 88 "TimeMachine$Reader" "from" "I") (List.mem_of_getElem? (i := 4) rfl)) (fun _ h9 => h9) rfl dX1_readConstant_28 ?_
    refine lv_isub hx hb dX1_readConstant_31 ?_
    refine lv_topi (fun z2 ez2 => ?_)
    have h := nd_at h ez2
    refine lv_istore_n (lv' := [(1, .int z2), (0, .ref (a 0))]) hx hb dX1_readConstant_32 rfl hl (by decide) rfl (fun ls hl => ?_)
    refine lv_aload_n hx hb dX1_readConstant_33 rfl (lv_at hl 1 rfl) ?_
    refine va_get (D := (dC, dI)) (ci := 2) (v := .ref (a 3)) (C := RX1) (T := TX1) (N := 13) hx hb hts hi_dm_X1_readConstant_X1 hown hK hP 0 rfl rfl 0 (by decide) (hts (.fieldLink RX1 12 "TimeMachine$Assembler" "reader" "LTimeMachine$Reader;") (List.mem_of_getElem? (i := 1) rfl)) (fun _ h9 => h9) rfl dX1_readConstant_34 ?_
    refine lv_aload_n hx hb dX1_readConstant_37 rfl (lv_at hl 1 rfl) ?_
    refine va_get (D := (dC, dI)) (ci := 2) (v := .ref (a 3)) (C := RX1) (T := TX1) (N := 13) hx hb hts hi_dm_X1_readConstant_X1 hown hK hP 0 rfl rfl 0 (by decide) (hts (.fieldLink RX1 12 "TimeMachine$Assembler" "reader" "LTimeMachine$Reader;") (List.mem_of_getElem? (i := 1) rfl)) (fun _ h9 => h9) rfl dX1_readConstant_38 ?_
    refine va_get (D := (dC, dI)) (ci := 10) (v := .int (sI s0.2 3)) (C := RX9) (T := TX9) (N := 20) hx hb hts hi_dm_X1_readConstant_X9 hown hK hP 3 rfl rfl 4 (by decide) (hts (.fieldLink RX1 88 "TimeMachine$Reader" "from" "I") (List.mem_of_getElem? (i := 4) rfl)) (fun _ h9 => h9) rfl dX1_readConstant_41 ?_
    refine lv_iload_n hx hb dX1_readConstant_44 rfl (lv_at hl 0 rfl) ?_
    obtain ⟨q3, s4, hq, h⟩ := nd_b2_e h
    have hPc := dp_X1_3 hP
    have hDc := dd_X1_3 hD
    have hKc := dy_X1_3 hK
    have hFc := nd_rs hDc hS hA
    have hzA : ∀ q : Nat, H.size ≤ q → A q := fun q h => hA q (Nat.le_trans hS.1 h)
    refine nd_cVi (As := [.int (sI s0.2 3), .int z2]) (rest := []) (q := q3) (w' := dw_X9 (fun k => a (k + 3)) (fun k => ac (k + 3)) s4) ⟨hx, hb, hml, hown, hts⟩ (fun sz => dm_X9_nameAt l hlt dC dI (fun k => a (k + 3)) (fun k => ac (k + 3)) n ((sI s0.2 3)) (z2) s0.2 hq sz) (cwV 2 hts gi_dm_X1_readConstant_0 rfl rfl rfl (by decide +kernel) ⟨Nat.le_of_ble_eq_true rfl, Nat.le_of_ble_eq_true rfl⟩) hPc hDc hKc hS hA hN (va_recv hKc hPc (ci := 10) (q0 := 0) rfl rfl) rfl hl.1 rfl (Nat.le_of_ble_eq_true rfl) dX1_readConstant_45 (fun H locs hP1 hD1 hk1 hS => ?_)
    obtain ⟨hP, hD⟩ := dn_X1_3 hP hD hzA hk1 hP1 hD1
    obtain ⟨s6, es6, h⟩ := nd_let_e h
    have hP : va_P (dC, dI) vwCl (dw_X1 a ac s6) H := by rw [es6]; exact hP
    have hD : va_D A (dw_X1 a ac s6) := by rw [es6]; exact hD
    refine lv_istore_n (lv' := [(2, .int q3), (1, .int z2), (0, .ref (a 0))]) hx hb dX1_readConstant_48 rfl hl (by decide) rfl (fun ls hl => ?_)
    refine lv_aload_n hx hb dX1_readConstant_49 rfl (lv_at hl 2 rfl) ?_
    refine va_get (D := (dC, dI)) (ci := 2) (v := .ref (a 3)) (C := RX1) (T := TX1) (N := 13) hx hb hts hi_dm_X1_readConstant_X1 hown hK hP 0 rfl rfl 0 (by decide) (hts (.fieldLink RX1 12 "TimeMachine$Assembler" "reader" "LTimeMachine$Reader;") (List.mem_of_getElem? (i := 1) rfl)) (fun _ h9 => h9) rfl dX1_readConstant_50 ?_
    obtain ⟨o7, h⟩ := nd_o_e h
    refine va_get (D := (dC, dI)) (ci := 10) (v := .ref (a 11)) (C := RX9) (T := TX9) (N := 20) hx hb hts hi_dm_X1_readConstant_X9 hown hK hP 3 rfl rfl 0 (by decide) (hts (.fieldLink RX1 120 "TimeMachine$Reader" "source" "[B") (List.mem_of_getElem? (i := 9) rfl)) (fun _ h9 => h9) (congrArg (fun z => some (va_rf (Option.map (fun k => a (k + 3)) z))) o7) dX1_readConstant_53 ?_
    refine lv_aload_n hx hb dX1_readConstant_56 rfl (lv_at hl 2 rfl) ?_
    refine va_get (D := (dC, dI)) (ci := 2) (v := .ref (a 3)) (C := RX1) (T := TX1) (N := 13) hx hb hts hi_dm_X1_readConstant_X1 hown hK hP 0 rfl rfl 0 (by decide) (hts (.fieldLink RX1 12 "TimeMachine$Assembler" "reader" "LTimeMachine$Reader;") (List.mem_of_getElem? (i := 1) rfl)) (fun _ h9 => h9) rfl dX1_readConstant_57 ?_
    refine va_get (D := (dC, dI)) (ci := 10) (v := .int (sI s6.2 3)) (C := RX9) (T := TX9) (N := 20) hx hb hts hi_dm_X1_readConstant_X9 hown hK hP 3 rfl rfl 4 (by decide) (hts (.fieldLink RX1 88 "TimeMachine$Reader" "from" "I") (List.mem_of_getElem? (i := 4) rfl)) (fun _ h9 => h9) rfl dX1_readConstant_60 ?_
    refine lv_iload_n hx hb dX1_readConstant_63 rfl (lv_at hl 1 rfl) ?_
    obtain ⟨q8, s9, hq, h⟩ := nd_b2_e h
    have hPc := dp_vX1_BY_0 hP
    have hDc := dd_vX1_BY_0 hD
    have hKc := dy_vX1_BY_0 hK
    have hFc := nd_rs hDc hS hA
    have hzA : ∀ q : Nat, H.size ≤ q → A q := fun q h => hA q (Nat.le_trans hS.1 h)
    refine nd_cSi (As := [.ref (a 11), .int (sI s6.2 3), .int z2]) (rest := []) (q := q8) (w' := dw_BY (fun k => a (nd_ix [11] k)) (fun k => ac (nd_ix [11] k)) s9) ⟨hx, hb, hml, hown, hts⟩ (fun sz => dm_X7_registerAt l hlt dC dI (fun k => a (nd_ix [11] k)) (fun k => ac (nd_ix [11] k)) n ((sI s6.2 3)) (z2) ((pR nd_st0 0 (sR s6.2 7))) hq sz) (va_cwS 3 hts gi_dm_X1_readConstant_1 rfl rfl rfl (by decide +kernel) ⟨Nat.le_of_ble_eq_true rfl, Nat.le_of_ble_eq_true rfl⟩) hPc hDc hKc hS hA hN rfl hl.1 rfl (Nat.le_of_ble_eq_true rfl) dX1_readConstant_64 (fun H locs hP1 hD1 hk1 hS => ?_)
    obtain ⟨hP, hD⟩ := dn_vX1_BY_0 hP hD hzA hk1 hP1 hD1
    obtain ⟨s11, es11, h⟩ := nd_let_e h
    have hP : va_P (dC, dI) vwCl (dw_X1 a ac s11) H := by rw [es11]; exact hP
    have hD : va_D A (dw_X1 a ac s11) := by rw [es11]; exact hD
    refine lv_if_ge (tgt := 81) hx hb dX1_readConstant_67 (by decide) (fun c12 => ?_) (fun c12 => ?_)
    · have h := nd_pos h c12
      exact (db_X1_readConstant_81 C K)  s11 _ _ _ h hP hD hS (lv_sub hl [2] rfl)
    · have h := nd_neg h c12
      refine lv_aload_n hx hb dX1_readConstant_70 rfl (lv_at hl 2 rfl) ?_
      refine va_get (D := (dC, dI)) (ci := 2) (v := .ref (a 3)) (C := RX1) (T := TX1) (N := 13) hx hb hts hi_dm_X1_readConstant_X1 hown hK hP 0 rfl rfl 0 (by decide) (hts (.fieldLink RX1 12 "TimeMachine$Assembler" "reader" "LTimeMachine$Reader;") (List.mem_of_getElem? (i := 1) rfl)) (fun _ h9 => h9) rfl dX1_readConstant_71 ?_
      refine lv_iload_n hx hb dX1_readConstant_74 rfl (lv_at hl 0 rfl) ?_
      obtain ⟨q16, s17, hq, h⟩ := nd_b2_e h
      have hPc := dp_X1_3 hP
      have hDc := dd_X1_3 hD
      have hKc := dy_X1_3 hK
      have hFc := nd_rs hDc hS hA
      have hzA : ∀ q : Nat, H.size ≤ q → A q := fun q h => hA q (Nat.le_trans hS.1 h)
      refine nd_cVi (As := [.int q3]) (rest := []) (q := q16) (w' := dw_X9 (fun k => a (k + 3)) (fun k => ac (k + 3)) s17) ⟨hx, hb, hml, hown, hts⟩ (fun sz => dm_X9_isDefined l hlt dC dI (fun k => a (k + 3)) (fun k => ac (k + 3)) n (q3) s11.2 hq sz) (cwV 1 hts gi_dm_X1_readConstant_3 rfl rfl rfl (by decide +kernel) ⟨Nat.le_of_ble_eq_true rfl, Nat.le_of_ble_eq_true rfl⟩) hPc hDc hKc hS hA hN (va_recv hKc hPc (ci := 10) (q0 := 0) rfl rfl) rfl hl.1 rfl (Nat.le_of_ble_eq_true rfl) dX1_readConstant_75 (fun H locs hP1 hD1 hk1 hS => ?_)
      obtain ⟨hP, hD⟩ := dn_X1_3 hP hD hzA hk1 hP1 hD1
      obtain ⟨s19, es19, h⟩ := nd_let_e h
      have hP : va_P (dC, dI) vwCl (dw_X1 a ac s19) H := by rw [es19]; exact hP
      have hD : va_D A (dw_X1 a ac s19) := by rw [es19]; exact hD
      refine lv_if_eq (tgt := 87) hx hb dX1_readConstant_78 (by decide) (fun c20 => ?_) (fun c20 => ?_)
      · have h := nd_pos h c20
        refine lv_aload_n hx hb dX1_readConstant_87 rfl (lv_at hl 2 rfl) ?_
        refine va_get (D := (dC, dI)) (ci := 2) (v := .ref (a 3)) (C := RX1) (T := TX1) (N := 13) hx hb hts hi_dm_X1_readConstant_X1 hown hK hP 0 rfl rfl 0 (by decide) (hts (.fieldLink RX1 12 "TimeMachine$Assembler" "reader" "LTimeMachine$Reader;") (List.mem_of_getElem? (i := 1) rfl)) (fun _ h9 => h9) rfl dX1_readConstant_88 ?_
        obtain ⟨s22, hq, h⟩ := nd_b1_e h
        have hPc := dp_X1_3 hP
        have hDc := dd_X1_3 hD
        have hKc := dy_X1_3 hK
        have hFc := nd_rs hDc hS hA
        have hzA : ∀ q : Nat, H.size ≤ q → A q := fun q h => hA q (Nat.le_trans hS.1 h)
        refine nd_cVv (As := []) (rest := []) (w' := dw_X9 (fun k => a (k + 3)) (fun k => ac (k + 3)) s22) ⟨hx, hb, hml, hown, hts⟩ (fun sz => dm_X9_next l hlt dC dI (fun k => a (k + 3)) (fun k => ac (k + 3)) n  s19.2 hq sz) (cwV 0 hts gi_dm_X1_readConstant_4 rfl rfl rfl (by decide +kernel) ⟨Nat.le_of_ble_eq_true rfl, Nat.le_of_ble_eq_true rfl⟩) hPc hDc hKc hS hA hN (va_recv hKc hPc (ci := 10) (q0 := 0) rfl rfl) rfl hl.1 rfl (Nat.le_of_ble_eq_true rfl) dX1_readConstant_91 (fun H locs hP1 hD1 hk1 hS => ?_)
        obtain ⟨hP, hD⟩ := dn_X1_3 hP hD hzA hk1 hP1 hD1
        obtain ⟨s24, es24, h⟩ := nd_let_e h
        have hP : va_P (dC, dI) vwCl (dw_X1 a ac s24) H := by rw [es24]; exact hP
        have hD : va_D A (dw_X1 a ac s24) := by rw [es24]; exact hD
        refine lv_aload_n hx hb dX1_readConstant_94 rfl (lv_at hl 2 rfl) ?_
        refine lv_bipush (v := 44) hx hb dX1_readConstant_95 (by decide) ?_
        obtain ⟨s26, hq, h⟩ := nd_b1_e h
        have hPc := hP
        have hDc := hD
        have hKc := hK
        have hFc := nd_rs hD hS hA
        refine nd_cVv (As := [.int 44]) (rest := []) (w' := dw_X1 a ac s26) ⟨hx, hb, hml, hown, hts⟩ (fun sz => dm_X1_expect l hlt dC dI a ac n (44) s24 hq sz) (cwV 1 hts gi_dm_X1_readConstant_5 rfl rfl rfl (by decide +kernel) ⟨Nat.le_of_ble_eq_true rfl, Nat.le_of_ble_eq_true rfl⟩) hPc hDc hKc hS hA hN (va_recv hKc hPc (ci := 2) (q0 := 0) rfl rfl) rfl hl.1 rfl (Nat.le_of_ble_eq_true rfl) dX1_readConstant_97 (fun H locs hP1 hD1 hk1 hS => ?_)
        have hP := hP1
        have hD := hD1.weaken (fun k q _ h => hFc q.1 h)
        refine lv_aload_n hx hb dX1_readConstant_100 rfl (lv_at hl 2 rfl) ?_
        refine va_get (D := (dC, dI)) (ci := 2) (v := .int (sI s26.1 2)) (C := RX1) (T := TX1) (N := 13) hx hb hts hi_dm_X1_readConstant_X1 hown hK hP 0 rfl rfl 5 (by decide) (hts (.fieldLink RX1 32 "TimeMachine$Assembler" "fault" "I") (List.mem_of_getElem? (i := 26) rfl)) (fun _ h9 => h9) rfl dX1_readConstant_101 ?_
        refine lv_if_ne (tgt := 117) hx hb dX1_readConstant_104 (by decide) (fun c28 => ?_) (fun c28 => ?_)
        · have h := nd_neg h c28
          refine lv_iconst (v := 0) hx hb dX1_readConstant_117 (by decide) ?_
          exact (db_X1_readConstant_118 C K) (q3) (0) s26 _ _ _ h hP hD hS (lv_sub hl [2, 0] rfl)
        · have h := nd_pos h c28
          refine lv_aload_n hx hb dX1_readConstant_107 rfl (lv_at hl 2 rfl) ?_
          refine va_get (D := (dC, dI)) (ci := 2) (v := .ref (a 3)) (C := RX1) (T := TX1) (N := 13) hx hb hts hi_dm_X1_readConstant_X1 hown hK hP 0 rfl rfl 0 (by decide) (hts (.fieldLink RX1 12 "TimeMachine$Assembler" "reader" "LTimeMachine$Reader;") (List.mem_of_getElem? (i := 1) rfl)) (fun _ h9 => h9) rfl dX1_readConstant_108 ?_
          obtain ⟨q38, s39, hq, h⟩ := nd_b2_e h
          have hPc := dp_X1_3 hP
          have hDc := dd_X1_3 hD
          have hKc := dy_X1_3 hK
          have hFc := nd_rs hDc hS hA
          have hzA : ∀ q : Nat, H.size ≤ q → A q := fun q h => hA q (Nat.le_trans hS.1 h)
          refine nd_cVi (As := []) (rest := []) (q := q38) (w' := dw_X9 (fun k => a (k + 3)) (fun k => ac (k + 3)) s39) ⟨hx, hb, hml, hown, hts⟩ (fun sz => dm_X9_sum l hlt dC dI (fun k => a (k + 3)) (fun k => ac (k + 3)) n  s26.2 hq sz) (cwV 0 hts gi_dm_X1_readConstant_8 rfl rfl rfl (by decide +kernel) ⟨Nat.le_of_ble_eq_true rfl, Nat.le_of_ble_eq_true rfl⟩) hPc hDc hKc hS hA hN (va_recv hKc hPc (ci := 10) (q0 := 0) rfl rfl) rfl hl.1 rfl (Nat.le_of_ble_eq_true rfl) dX1_readConstant_111 (fun H locs hP1 hD1 hk1 hS => ?_)
          obtain ⟨hP, hD⟩ := dn_X1_3 hP hD hzA hk1 hP1 hD1
          obtain ⟨s41, es41, h⟩ := nd_let_e h
          have hP : va_P (dC, dI) vwCl (dw_X1 a ac s41) H := by rw [es41]; exact hP
          have hD : va_D A (dw_X1 a ac s41) := by rw [es41]; exact hD
          refine lv_goto (tgt := 118) hx hb dX1_readConstant_114 (by decide) ?_
          exact (db_X1_readConstant_118 C K) (q3) (q38) s41 _ _ _ h hP hD hS (lv_sub hl [2, 0] rfl)
      · have h := nd_neg h c20
        exact (db_X1_readConstant_81 C K)  s19 _ _ _ h hP hD hS (lv_sub hl [2] rfl)
  · have h := nd_neg h c1
    refine lv_aload_n hx hb dX1_readConstant_11 rfl (lv_at hl 0 rfl) ?_
    refine lv_iconst (v := 1) hx hb dX1_readConstant_12 (by decide) ?_
    obtain ⟨s43, hq, h⟩ := nd_b1_e h
    have hPc := hP
    have hDc := hD
    have hKc := hK
    have hFc := nd_rs hD hS hA
    refine nd_cVv (As := [.int 1]) (rest := []) (w' := dw_X1 a ac s43) ⟨hx, hb, hml, hown, hts⟩ (fun sz => dm_X1_blame l hlt dC dI a ac n (1) s0 hq sz) (cwV 1 hts gi_dm_X1_readConstant_2 rfl rfl rfl (by decide +kernel) ⟨Nat.le_of_ble_eq_true rfl, Nat.le_of_ble_eq_true rfl⟩) hPc hDc hKc hS hA hN (va_recv hKc hPc (ci := 2) (q0 := 0) rfl rfl) rfl hl.1 rfl (Nat.le_of_ble_eq_true rfl) dX1_readConstant_13 (fun H locs hP1 hD1 hk1 hS => ?_)
    have hP := hP1
    have hD := hD1.weaken (fun k q _ h => hFc q.1 h)
    exact K _ _ _ _ _ dX1_readConstant_16 (Option.some.inj h).symm hP hD hS
set_option maxHeartbeats 40000000 in
set_option maxRecDepth 100000 in
theorem dm_X1_readConstant (l : Launch) (hlt : l.stackTraces = false) (dC : Nat → ClassId) (dI : Nat → Nat → Nat) (a : Nat → Nat) (ac : Nat → ClassId) (n : Nat) (s0 : St × (St)) {r : St × (St)} (h : df_X1_readConstant n s0 = some r) (sz : Nat) : Met l yX1_readConstant ow_dm_X1_readConstant ({ frames := 7, cells := 0, slots := 0, locals := 155 }) (va_Pc [.ref (a 0)] (fun U => U.heap.size = sz ∧ va_P (dC, dI) vwCl (dw_X1 a ac s0) U.heap ∧ va_K (dC, dI) vwCl (dk_X1 ac) U ∧ va_D (fun _ => True) (dw_X1 a ac s0) ∧ nv_E dI (va_A (dw_X1 a ac s0) sz) U)) (va_Qv (fun _ => True) (fun (_ : Unit) t => va_P (dC, dI) vwCl (dw_X1 a ac r) t.heap ∧ va_K (dC, dI) vwCl (dk_X1 ac) t ∧ va_D (va_A (dw_X1 a ac s0) sz) (dw_X1 a ac r)) (va_A (dw_X1 a ac s0) sz)) 0 0 (va_A (dw_X1 a ac s0) sz) := by
  refine Met.ofW (cc := cX1_readConstant) (maxL := 5) (ret := none) (by decide) rfl ?_
  intro p e s m args below meth c s₁ B hml hv
  obtain ⟨rfl, hsz, hP, hK, hD0, hN⟩ := hv
  have hx := B.exec
  have hb := B.bytes
  have hr := B.returns
  have hts := atoms_spec (ws := ow_dm_X1_readConstant) B.pre
  have hown : s.vm.findClass RX1 = some m.cls := findClass_of_methodNamed B.named
  have hlocks := B.notSynchronized
  subst hsz
  have hD := hD0.self (sz := s.heap.size)
  generalize hAe : va_A (dw_X1 a ac s0) s.heap.size = A at hD hN ⊢
  have hA : ∀ q : Nat, s.heap.size ≤ q → A q := fun q h => by rw [← hAe]; exact Or.inr h
  have hl := lv_entry ([.ref (a 0)]) (n := 5) (Nat.le_of_ble_eq_true rfl)
  rw [lg_entry_eq]
  generalize (lg_sl ([.ref (a 0)]) ++ List.replicate (5 - (lg_sl ([.ref (a 0)])).length) Slot.unset).toArray = ls at hl ⊢
  have hl : lv_has ls 5 [(0, .ref (a 0))] := hl
  exact db_X1_readConstant_0 (dC := dC) (dI := dI) (a := a) (ac := ac) (n := n) (r := r) ⟨hlt, hx, hb, hml, hown, hts, hN, hA, hK⟩ (fun pc τ H locs ls d er hP hD hS => by subst er; exact W.vret hx hb hr (fun t ht hW => ⟨⟨(), rfl, trivial, by rw [ht]; exact hP, va_K.moved hW.alike hK, hD⟩, hS.F ht⟩) hS.2.2 d) s0 _ _ _ h hP hD va_S.rf (lv_sub hl [0] rfl)
def ow_dm_X1_add : List Cond := Cond.code yX1_add cX1_add 6 none :: ([Cond.fieldLink RX1 32 "TimeMachine$Assembler" "fault" "I", Cond.fieldLink RX1 65 "TimeMachine$Assembler" "statements" "I", Cond.fieldLink RX1 19 "TimeMachine$Assembler" "statement" "[I", Cond.fieldLink RX1 36 "TimeMachine$Assembler" "line" "I", Cond.fieldLink RX1 71 "TimeMachine$Assembler" "section" "I"] ++ (u_ws RX1 TX1 13 ++ []))
theorem gd_dm_X1_add : ∀ w ∈ ow_dm_X1_add, (w.onTables && w.keeps) = true ∨ ∃ ty, w = Cond.arrayClass ty := List.forall_mem_cons.mpr ⟨good_of_word rfl, List.forall_mem_append.mpr ⟨fun w h => good_of_word (List.all_eq_true.mp (by decide +kernel) w h), List.forall_mem_append.mpr ⟨gu_X1, fun _ h => nomatch h⟩⟩⟩
theorem hi_dm_X1_add_X1 : ∀ w ∈ u_ws RX1 TX1 13, w ∈ ow_dm_X1_add := fun w h => List.mem_cons_of_mem _ (List.mem_append_right _ (List.mem_append_left _ h))
def dj_X1_add_17 (p : Program) (l : Launch) (e : Env) (s : State) (m : MethodId) (args : Array Value) (below : List Frame) (meth : Method) (c : Code) (Q : State → Prop) (A : Nat → Prop) (dC : Nat → ClassId) (dI : Nat → Nat → Nat) (a : Nat → Nat) (ac : Nat → ClassId) (g : (St × (St)) → Option (St × (St))) (r : St × (St)) : Prop := ∀ (s0 : St × (St)) (H : Heap) (locs : List Loc) (ls : Array Slot), g s0 = some r → va_P (dC, dI) vwCl (dw_X1 a ac s0) H → va_D A (dw_X1 a ac s0) → va_S A s.heap H locs → lv_has ls 6 [] → W p l e (headSpec ow_dm_X1_add ({ frames := 0, cells := 0, slots := 0, locals := 0 })).room s m args below meth c H locs 0 0 Q (F0 m 17 ls [])
def dj_X1_add_0 (p : Program) (l : Launch) (e : Env) (s : State) (m : MethodId) (args : Array Value) (below : List Frame) (meth : Method) (c : Code) (Q : State → Prop) (A : Nat → Prop) (dC : Nat → ClassId) (dI : Nat → Nat → Nat) (a : Nat → Nat) (ac : Nat → ClassId) (g : Int32 → Int32 → Int32 → Int32 → (St × (St)) → Option (St × (St))) (r : St × (St)) : Prop := ∀ (v0 : Int32) (v1 : Int32) (v2 : Int32) (v3 : Int32) (s0 : St × (St)) (H : Heap) (locs : List Loc) (ls : Array Slot), g v0 v1 v2 v3 s0 = some r → va_P (dC, dI) vwCl (dw_X1 a ac s0) H → va_D A (dw_X1 a ac s0) → va_S A s.heap H locs → lv_has ls 6 [(0, .ref (a 0)), (1, .int v0), (2, .int v1), (3, .int v2), (4, .int v3)] → W p l e (headSpec ow_dm_X1_add ({ frames := 0, cells := 0, slots := 0, locals := 0 })).room s m args below meth c H locs 0 0 Q (F0 m 0 ls [])
set_option maxHeartbeats 40000000 in
set_option maxRecDepth 100000 in
theorem db_X1_add_17 {p : Program} {l : Launch} {e : Env} {s : State} {m : MethodId} {args : Array Value} {below : List Frame} {meth : Method} {c : Code} {Q : State → Prop} {A : Nat → Prop} {dC : Nat → ClassId} {dI : Nat → Nat → Nat} {a : Nat → Nat} {ac : Nat → ClassId} {n : Nat} {r : St × (St)} (C : nd_C p l s m args c A (dC, dI) cX1_add 6 RX1 ow_dm_X1_add (dk_X1 ac)) (K : nd_Kv p l e (headSpec ow_dm_X1_add ({ frames := 0, cells := 0, slots := 0, locals := 0 })).room s m args below meth c Q A (dC, dI) cX1_add (St × (St)) (dw_X1 a ac) r) : dj_X1_add_17 p l e s m args below meth c Q A dC dI a ac (df_X1_add_17 n) r := by
  obtain ⟨hlt, hx, hb, hml, hown, hts, hN, hA, hK⟩ := id C
  intro s0 H locs ls h hP hD hS hl
  unfold df_X1_add_17 at h
  exact K _ _ _ _ _ dX1_add_17 (Option.some.inj h).symm hP hD hS
set_option maxHeartbeats 40000000 in
set_option maxRecDepth 100000 in
theorem db_X1_add_0 {p : Program} {l : Launch} {e : Env} {s : State} {m : MethodId} {args : Array Value} {below : List Frame} {meth : Method} {c : Code} {Q : State → Prop} {A : Nat → Prop} {dC : Nat → ClassId} {dI : Nat → Nat → Nat} {a : Nat → Nat} {ac : Nat → ClassId} {n : Nat} {r : St × (St)} (C : nd_C p l s m args c A (dC, dI) cX1_add 6 RX1 ow_dm_X1_add (dk_X1 ac)) (K : nd_Kv p l e (headSpec ow_dm_X1_add ({ frames := 0, cells := 0, slots := 0, locals := 0 })).room s m args below meth c Q A (dC, dI) cX1_add (St × (St)) (dw_X1 a ac) r) : dj_X1_add_0 p l e s m args below meth c Q A dC dI a ac (df_X1_add_0 n) r := by
  obtain ⟨hlt, hx, hb, hml, hown, hts, hN, hA, hK⟩ := id C
  intro v0 v1 v2 v3 s0 H locs ls h hP hD hS hl
  unfold df_X1_add_0 at h
  refine lv_aload_n hx hb dX1_add_0 rfl (lv_at hl 0 rfl) ?_
  refine va_get (D := (dC, dI)) (ci := 2) (v := .int (sI s0.1 2)) (C := RX1) (T := TX1) (N := 13) hx hb hts hi_dm_X1_add_X1 hown hK hP 0 rfl rfl 5 (by decide) (hts (.fieldLink RX1 32 "TimeMachine$Assembler" "fault" "I") (List.mem_of_getElem? (i := 1) rfl)) (fun _ h9 => h9) rfl dX1_add_1 ?_
  refine lv_if_ne (tgt := 17) hx hb dX1_add_4 (by decide) (fun c1 => ?_) (fun c1 => ?_)
  · have h := nd_neg h c1
    exact (db_X1_add_17 C K)  s0 _ _ _ h hP hD hS (lv_sub hl [] rfl)
  · have h := nd_pos h c1
    refine lv_aload_n hx hb dX1_add_7 rfl (lv_at hl 0 rfl) ?_
    refine va_get (D := (dC, dI)) (ci := 2) (v := .int (sI s0.1 0)) (C := RX1) (T := TX1) (N := 13) hx hb hts hi_dm_X1_add_X1 hown hK hP 0 rfl rfl 2 (by decide) (hts (.fieldLink RX1 65 "TimeMachine$Assembler" "statements" "I") (List.mem_of_getElem? (i := 2) rfl)) (fun _ h9 => h9) rfl dX1_add_8 ?_
    refine lv_sipush (v := 8194) hx hb dX1_add_11 (by decide) ?_
    refine lv_icmp_lt (tgt := 18) hx hb dX1_add_14 (by decide) (fun c2 => ?_) (fun c2 => ?_)
    · have h := nd_pos h c2
      refine lv_aload_n hx hb dX1_add_18 rfl (lv_at hl 0 rfl) ?_
      refine va_get (D := (dC, dI)) (ci := 2) (v := .int (sI s0.1 0)) (C := RX1) (T := TX1) (N := 13) hx hb hts hi_dm_X1_add_X1 hown hK hP 0 rfl rfl 2 (by decide) (hts (.fieldLink RX1 65 "TimeMachine$Assembler" "statements" "I") (List.mem_of_getElem? (i := 2) rfl)) (fun _ h9 => h9) rfl dX1_add_19 ?_
      refine lv_bipush (v := 8) hx hb dX1_add_22 (by decide) ?_
      refine lv_imul hx hb dX1_add_24 ?_
      refine lv_topi (fun z3 ez3 => ?_)
      have h := nd_at h ez3
      refine lv_istore (lv' := [(5, .int z3), (0, .ref (a 0)), (1, .int v0), (2, .int v1), (3, .int v2), (4, .int v3)]) hx hb dX1_add_25 hl (by decide) rfl (fun ls hl => ?_)
      refine lv_aload_n hx hb dX1_add_27 rfl (lv_at hl 1 rfl) ?_
      refine va_get (D := (dC, dI)) (ci := 2) (v := .ref (a 1)) (C := RX1) (T := TX1) (N := 13) hx hb hts hi_dm_X1_add_X1 hown hK hP 0 rfl rfl 1 (by decide) (hts (.fieldLink RX1 19 "TimeMachine$Assembler" "statement" "[I") (List.mem_of_getElem? (i := 3) rfl)) (fun _ h9 => h9) rfl dX1_add_28 ?_
      refine lv_iload hx hb dX1_add_31 (lv_at hl 0 rfl) ?_
      refine lv_iconst (v := 0) hx hb dX1_add_33 (by decide) ?_
      refine lv_iadd hx hb dX1_add_34 ?_
      refine lv_aload_n hx hb dX1_add_35 rfl (lv_at hl 1 rfl) ?_
      refine va_get (D := (dC, dI)) (ci := 2) (v := .int (sI s0.1 3)) (C := RX1) (T := TX1) (N := 13) hx hb hts hi_dm_X1_add_X1 hown hK hP 0 rfl rfl 6 (by decide) (hts (.fieldLink RX1 36 "TimeMachine$Assembler" "line" "I") (List.mem_of_getElem? (i := 4) rfl)) (fun _ h9 => h9) rfl dX1_add_36 ?_
      obtain ⟨i4, h⟩ := nd_ck_e h
      refine va_iast (i := (z3 + 0)) (x := (sI s0.1 3)) hx hb hK hP hD hS 1 0 rfl rfl i4 dX1_add_39 (fun H locs hP hD hS => ?_)
      obtain ⟨s5, es5, h⟩ := nd_let_e h
      have hP : va_P (dC, dI) vwCl (dw_X1 a ac s5) H := by rw [es5]; exact hP
      have hD : va_D A (dw_X1 a ac s5) := by rw [es5]; exact hD
      refine lv_aload_n hx hb dX1_add_40 rfl (lv_at hl 1 rfl) ?_
      refine va_get (D := (dC, dI)) (ci := 2) (v := .ref (a 1)) (C := RX1) (T := TX1) (N := 13) hx hb hts hi_dm_X1_add_X1 hown hK hP 0 rfl rfl 1 (by decide) (hts (.fieldLink RX1 19 "TimeMachine$Assembler" "statement" "[I") (List.mem_of_getElem? (i := 3) rfl)) (fun _ h9 => h9) rfl dX1_add_41 ?_
      refine lv_iload hx hb dX1_add_44 (lv_at hl 0 rfl) ?_
      refine lv_iconst (v := 1) hx hb dX1_add_46 (by decide) ?_
      refine lv_iadd hx hb dX1_add_47 ?_
      refine lv_aload_n hx hb dX1_add_48 rfl (lv_at hl 1 rfl) ?_
      refine va_get (D := (dC, dI)) (ci := 2) (v := .int (sI s5.1 4)) (C := RX1) (T := TX1) (N := 13) hx hb hts hi_dm_X1_add_X1 hown hK hP 0 rfl rfl 7 (by decide) (hts (.fieldLink RX1 71 "TimeMachine$Assembler" "section" "I") (List.mem_of_getElem? (i := 5) rfl)) (fun _ h9 => h9) rfl dX1_add_49 ?_
      obtain ⟨i6, h⟩ := nd_ck_e h
      refine va_iast (i := (z3 + 1)) (x := (sI s5.1 4)) hx hb hK hP hD hS 1 0 rfl rfl i6 dX1_add_52 (fun H locs hP hD hS => ?_)
      obtain ⟨s7, es7, h⟩ := nd_let_e h
      have hP : va_P (dC, dI) vwCl (dw_X1 a ac s7) H := by rw [es7]; exact hP
      have hD : va_D A (dw_X1 a ac s7) := by rw [es7]; exact hD
      refine lv_aload_n hx hb dX1_add_53 rfl (lv_at hl 1 rfl) ?_
      refine va_get (D := (dC, dI)) (ci := 2) (v := .ref (a 1)) (C := RX1) (T := TX1) (N := 13) hx hb hts hi_dm_X1_add_X1 hown hK hP 0 rfl rfl 1 (by decide) (hts (.fieldLink RX1 19 "TimeMachine$Assembler" "statement" "[I") (List.mem_of_getElem? (i := 3) rfl)) (fun _ h9 => h9) rfl dX1_add_54 ?_
      refine lv_iload hx hb dX1_add_57 (lv_at hl 0 rfl) ?_
      refine lv_iconst (v := 2) hx hb dX1_add_59 (by decide) ?_
      refine lv_iadd hx hb dX1_add_60 ?_
      refine lv_iconst (v := 0) hx hb dX1_add_61 (by decide) ?_
      obtain ⟨i8, h⟩ := nd_ck_e h
      refine va_iast (i := (z3 + 2)) (x := 0) hx hb hK hP hD hS 1 0 rfl rfl i8 dX1_add_62 (fun H locs hP hD hS => ?_)
      obtain ⟨s9, es9, h⟩ := nd_let_e h
      have hP : va_P (dC, dI) vwCl (dw_X1 a ac s9) H := by rw [es9]; exact hP
      have hD : va_D A (dw_X1 a ac s9) := by rw [es9]; exact hD
      refine lv_aload_n hx hb dX1_add_63 rfl (lv_at hl 1 rfl) ?_
      refine va_get (D := (dC, dI)) (ci := 2) (v := .ref (a 1)) (C := RX1) (T := TX1) (N := 13) hx hb hts hi_dm_X1_add_X1 hown hK hP 0 rfl rfl 1 (by decide) (hts (.fieldLink RX1 19 "TimeMachine$Assembler" "statement" "[I") (List.mem_of_getElem? (i := 3) rfl)) (fun _ h9 => h9) rfl dX1_add_64 ?_
      refine lv_iload hx hb dX1_add_67 (lv_at hl 0 rfl) ?_
      refine lv_iconst (v := 3) hx hb dX1_add_69 (by decide) ?_
      refine lv_iadd hx hb dX1_add_70 ?_
      refine lv_iload_n hx hb dX1_add_71 rfl (lv_at hl 3 rfl) ?_
      obtain ⟨i10, h⟩ := nd_ck_e h
      refine va_iast (i := (z3 + 3)) (x := v1) hx hb hK hP hD hS 1 0 rfl rfl i10 dX1_add_72 (fun H locs hP hD hS => ?_)
      obtain ⟨s11, es11, h⟩ := nd_let_e h
      have hP : va_P (dC, dI) vwCl (dw_X1 a ac s11) H := by rw [es11]; exact hP
      have hD : va_D A (dw_X1 a ac s11) := by rw [es11]; exact hD
      refine lv_aload_n hx hb dX1_add_73 rfl (lv_at hl 1 rfl) ?_
      refine va_get (D := (dC, dI)) (ci := 2) (v := .ref (a 1)) (C := RX1) (T := TX1) (N := 13) hx hb hts hi_dm_X1_add_X1 hown hK hP 0 rfl rfl 1 (by decide) (hts (.fieldLink RX1 19 "TimeMachine$Assembler" "statement" "[I") (List.mem_of_getElem? (i := 3) rfl)) (fun _ h9 => h9) rfl dX1_add_74 ?_
      refine lv_iload hx hb dX1_add_77 (lv_at hl 0 rfl) ?_
      refine lv_iconst (v := 4) hx hb dX1_add_79 (by decide) ?_
      refine lv_iadd hx hb dX1_add_80 ?_
      refine lv_iload_n hx hb dX1_add_81 rfl (lv_at hl 2 rfl) ?_
      obtain ⟨i12, h⟩ := nd_ck_e h
      refine va_iast (i := (z3 + 4)) (x := v0) hx hb hK hP hD hS 1 0 rfl rfl i12 dX1_add_82 (fun H locs hP hD hS => ?_)
      obtain ⟨s13, es13, h⟩ := nd_let_e h
      have hP : va_P (dC, dI) vwCl (dw_X1 a ac s13) H := by rw [es13]; exact hP
      have hD : va_D A (dw_X1 a ac s13) := by rw [es13]; exact hD
      refine lv_aload_n hx hb dX1_add_83 rfl (lv_at hl 1 rfl) ?_
      refine va_get (D := (dC, dI)) (ci := 2) (v := .ref (a 1)) (C := RX1) (T := TX1) (N := 13) hx hb hts hi_dm_X1_add_X1 hown hK hP 0 rfl rfl 1 (by decide) (hts (.fieldLink RX1 19 "TimeMachine$Assembler" "statement" "[I") (List.mem_of_getElem? (i := 3) rfl)) (fun _ h9 => h9) rfl dX1_add_84 ?_
      refine lv_iload hx hb dX1_add_87 (lv_at hl 0 rfl) ?_
      refine lv_iconst (v := 5) hx hb dX1_add_89 (by decide) ?_
      refine lv_iadd hx hb dX1_add_90 ?_
      refine lv_iload_n hx hb dX1_add_91 rfl (lv_at hl 4 rfl) ?_
      obtain ⟨i14, h⟩ := nd_ck_e h
      refine va_iast (i := (z3 + 5)) (x := v2) hx hb hK hP hD hS 1 0 rfl rfl i14 dX1_add_92 (fun H locs hP hD hS => ?_)
      obtain ⟨s15, es15, h⟩ := nd_let_e h
      have hP : va_P (dC, dI) vwCl (dw_X1 a ac s15) H := by rw [es15]; exact hP
      have hD : va_D A (dw_X1 a ac s15) := by rw [es15]; exact hD
      refine lv_aload_n hx hb dX1_add_93 rfl (lv_at hl 1 rfl) ?_
      refine va_get (D := (dC, dI)) (ci := 2) (v := .ref (a 1)) (C := RX1) (T := TX1) (N := 13) hx hb hts hi_dm_X1_add_X1 hown hK hP 0 rfl rfl 1 (by decide) (hts (.fieldLink RX1 19 "TimeMachine$Assembler" "statement" "[I") (List.mem_of_getElem? (i := 3) rfl)) (fun _ h9 => h9) rfl dX1_add_94 ?_
      refine lv_iload hx hb dX1_add_97 (lv_at hl 0 rfl) ?_
      refine lv_bipush (v := 6) hx hb dX1_add_99 (by decide) ?_
      refine lv_iadd hx hb dX1_add_101 ?_
      refine lv_iload hx hb dX1_add_102 (lv_at hl 5 rfl) ?_
      obtain ⟨i16, h⟩ := nd_ck_e h
      refine va_iast (i := (z3 + 6)) (x := v3) hx hb hK hP hD hS 1 0 rfl rfl i16 dX1_add_104 (fun H locs hP hD hS => ?_)
      obtain ⟨s17, es17, h⟩ := nd_let_e h
      have hP : va_P (dC, dI) vwCl (dw_X1 a ac s17) H := by rw [es17]; exact hP
      have hD : va_D A (dw_X1 a ac s17) := by rw [es17]; exact hD
      refine lv_aload_n hx hb dX1_add_105 rfl (lv_at hl 1 rfl) ?_
      refine va_get (D := (dC, dI)) (ci := 2) (v := .ref (a 1)) (C := RX1) (T := TX1) (N := 13) hx hb hts hi_dm_X1_add_X1 hown hK hP 0 rfl rfl 1 (by decide) (hts (.fieldLink RX1 19 "TimeMachine$Assembler" "statement" "[I") (List.mem_of_getElem? (i := 3) rfl)) (fun _ h9 => h9) rfl dX1_add_106 ?_
      refine lv_iload hx hb dX1_add_109 (lv_at hl 0 rfl) ?_
      refine lv_bipush (v := 7) hx hb dX1_add_111 (by decide) ?_
      refine lv_iadd hx hb dX1_add_113 ?_
      refine lv_iconst (v := 0) hx hb dX1_add_114 (by decide) ?_
      obtain ⟨i18, h⟩ := nd_ck_e h
      refine va_iast (i := (z3 + 7)) (x := 0) hx hb hK hP hD hS 1 0 rfl rfl i18 dX1_add_115 (fun H locs hP hD hS => ?_)
      obtain ⟨s19, es19, h⟩ := nd_let_e h
      have hP : va_P (dC, dI) vwCl (dw_X1 a ac s19) H := by rw [es19]; exact hP
      have hD : va_D A (dw_X1 a ac s19) := by rw [es19]; exact hD
      refine lv_aload_n hx hb dX1_add_116 rfl (lv_at hl 1 rfl) ?_
      refine lv_dup hx hb dX1_add_117 rfl ?_
      refine va_get (D := (dC, dI)) (ci := 2) (v := .int (sI s19.1 0)) (C := RX1) (T := TX1) (N := 13) hx hb hts hi_dm_X1_add_X1 hown hK hP 0 rfl rfl 2 (by decide) (hts (.fieldLink RX1 65 "TimeMachine$Assembler" "statements" "I") (List.mem_of_getElem? (i := 2) rfl)) (fun _ h9 => h9) rfl dX1_add_118 ?_
      refine lv_iconst (v := 1) hx hb dX1_add_121 (by decide) ?_
      refine lv_iadd hx hb dX1_add_122 ?_
      refine va_put (D := (dC, dI)) (ci := 2) (v := .int ((sI s19.1 0) + 1)) (ty := .int) (C := RX1) (T := TX1) (N := 13) hx hb hts hi_dm_X1_add_X1 tyX1 tyX1_ok nmX1 hown hK hP hD hS 0 rfl rfl 2 (by decide) (hts (.fieldLink RX1 65 "TimeMachine$Assembler" "statements" "I") (List.mem_of_getElem? (i := 2) rfl)) (fun _ h9 => h9) rfl (by decide +kernel) rfl rfl (Nat.le_of_ble_eq_true rfl) dX1_add_123 (fun H locs hP hD hS => ?_)
      obtain ⟨s20, es20, h⟩ := nd_let_e h
      have hP : va_P (dC, dI) vwCl (dw_X1 a ac s20) H := by rw [es20]; exact hP
      have hD : va_D A (dw_X1 a ac s20) := by rw [es20]; exact hD
      exact K _ _ _ _ _ dX1_add_126 (Option.some.inj h).symm hP hD hS
    · have h := nd_neg h c2
      exact (db_X1_add_17 C K)  s0 _ _ _ h hP hD hS (lv_sub hl [] rfl)
set_option maxHeartbeats 40000000 in
set_option maxRecDepth 100000 in
theorem dm_X1_add (l : Launch) (hlt : l.stackTraces = false) (dC : Nat → ClassId) (dI : Nat → Nat → Nat) (a : Nat → Nat) (ac : Nat → ClassId) (n : Nat) (v0 : Int32) (v1 : Int32) (v2 : Int32) (v3 : Int32) (s0 : St × (St)) {r : St × (St)} (h : df_X1_add n v0 v1 v2 v3 s0 = some r) (sz : Nat) : Met l yX1_add ow_dm_X1_add ({ frames := 0, cells := 0, slots := 0, locals := 0 }) (va_Pc [.ref (a 0), .int v0, .int v1, .int v2, .int v3] (fun U => U.heap.size = sz ∧ va_P (dC, dI) vwCl (dw_X1 a ac s0) U.heap ∧ va_K (dC, dI) vwCl (dk_X1 ac) U ∧ va_D (fun _ => True) (dw_X1 a ac s0) ∧ nv_E dI (va_A (dw_X1 a ac s0) sz) U)) (va_Qv (fun _ => True) (fun (_ : Unit) t => va_P (dC, dI) vwCl (dw_X1 a ac r) t.heap ∧ va_K (dC, dI) vwCl (dk_X1 ac) t ∧ va_D (va_A (dw_X1 a ac s0) sz) (dw_X1 a ac r)) (va_A (dw_X1 a ac s0) sz)) 0 0 (va_A (dw_X1 a ac s0) sz) := by
  refine Met.ofW (cc := cX1_add) (maxL := 6) (ret := none) (by decide) rfl ?_
  intro p e s m args below meth c s₁ B hml hv
  obtain ⟨rfl, hsz, hP, hK, hD0, hN⟩ := hv
  have hx := B.exec
  have hb := B.bytes
  have hr := B.returns
  have hts := atoms_spec (ws := ow_dm_X1_add) B.pre
  have hown : s.vm.findClass RX1 = some m.cls := findClass_of_methodNamed B.named
  have hlocks := B.notSynchronized
  subst hsz
  have hD := hD0.self (sz := s.heap.size)
  generalize hAe : va_A (dw_X1 a ac s0) s.heap.size = A at hD hN ⊢
  have hA : ∀ q : Nat, s.heap.size ≤ q → A q := fun q h => by rw [← hAe]; exact Or.inr h
  have hl := lv_entry ([.ref (a 0), .int v0, .int v1, .int v2, .int v3]) (n := 6) (Nat.le_of_ble_eq_true rfl)
  rw [lg_entry_eq]
  generalize (lg_sl ([.ref (a 0), .int v0, .int v1, .int v2, .int v3]) ++ List.replicate (6 - (lg_sl ([.ref (a 0), .int v0, .int v1, .int v2, .int v3])).length) Slot.unset).toArray = ls at hl ⊢
  have hl : lv_has ls 6 [(0, .ref (a 0)), (1, .int v0), (2, .int v1), (3, .int v2), (4, .int v3)] := hl
  exact db_X1_add_0 (dC := dC) (dI := dI) (a := a) (ac := ac) (n := n) (r := r) ⟨hlt, hx, hb, hml, hown, hts, hN, hA, hK⟩ (fun pc τ H locs ls d er hP hD hS => by subst er; exact W.vret hx hb hr (fun t ht hW => ⟨⟨(), rfl, trivial, by rw [ht]; exact hP, va_K.moved hW.alike hK, hD⟩, hS.F ht⟩) hS.2.2 d) v0 v1 v2 v3 s0 _ _ _ h hP hD va_S.rf (lv_sub hl [0, 1, 2, 3, 4] rfl)

