set_option maxHeartbeats 40000000 in
set_option maxRecDepth 100000 in
theorem dm_X6_byteAt (l : Launch) (hlt : l.stackTraces = false) (dC : Nat → ClassId) (dI : Nat → Nat → Nat) (a : Nat → Nat) (ac : Nat → ClassId) (n : Nat) (v0 : Int32) (v1 : Int32) (s0 : St × (St)) {r : Int32 × (St × (St))} (h : df_X6_byteAt n v0 v1 s0 = some r) (sz : Nat) : Met l yX6_byteAt ow_dm_X6_byteAt ({ frames := 0, cells := 0, slots := 0, locals := 0 }) (va_Pc [.ref (a 0), .int v0, .int v1] (fun U => U.heap.size = sz ∧ va_P (dC, dI) vwCl (dw_X6 a ac s0) U.heap ∧ va_K (dC, dI) vwCl (dk_X6 ac) U ∧ va_D (fun _ => True) (dw_X6 a ac s0) ∧ nv_E (va_A (dw_X6 a ac s0) sz) U)) (va_Qi (fun x _ => x = r.1) (fun (_ : Unit) t => va_P (dC, dI) vwCl (dw_X6 a ac r.2) t.heap ∧ va_K (dC, dI) vwCl (dk_X6 ac) t ∧ va_D (va_A (dw_X6 a ac s0) sz) (dw_X6 a ac r.2)) (va_A (dw_X6 a ac s0) sz)) 0 0 (va_A (dw_X6 a ac s0) sz) := by
  refine Met.ofW (cc := cX6_byteAt) (maxL := 4) (ret := (some .int)) (by decide) rfl ?_
  intro p e s m args below meth c s₁ B hml hv
  obtain ⟨rfl, hsz, hP, hK, hD0, hN⟩ := hv
  have hx := B.exec
  have hb := B.bytes
  have hr := B.returns
  have hts := atoms_spec (ws := ow_dm_X6_byteAt) B.pre
  have hown : s.vm.findClass RX6 = some m.cls := findClass_of_methodNamed B.named
  have hlocks := B.notSynchronized
  subst hsz
  have hD := hD0.self (sz := s.heap.size)
  generalize hAe : va_A (dw_X6 a ac s0) s.heap.size = A at hD hN ⊢
  have hA : ∀ q : Nat, s.heap.size ≤ q → A q := fun q h => by rw [← hAe]; exact Or.inr h
  have hl := lv_entry ([.ref (a 0), .int v0, .int v1]) (n := 4) (Nat.le_of_ble_eq_true rfl)
  rw [lg_entry_eq]
  generalize (lg_sl ([.ref (a 0), .int v0, .int v1]) ++ List.replicate (4 - (lg_sl ([.ref (a 0), .int v0, .int v1])).length) Slot.unset).toArray = ls at hl ⊢
  have hl : lv_has ls 4 [(0, .ref (a 0)), (1, .int v0), (2, .int v1)] := hl
  exact db_X6_byteAt_0 (dC := dC) (dI := dI) (a := a) (ac := ac) (n := n) (r := r) ⟨hlt, hx, hb, hml, hown, hts, hN, hA, hK⟩ (fun pc v τ H locs ls d z er hP hD hS => by subst er; exact W.zret (v := v) hx hb hr z (fun t ht hW => ⟨⟨v, (), rfl, rfl, by rw [ht]; exact hP, va_K.moved hW.alike hK, hD⟩, hS.F ht⟩) hS.2.2 d) v0 v1 s0 _ _ _ h hP hD va_S.rf (lv_sub hl [0, 1, 2] rfl)
def ow_dm_X4_set : List Cond := .code yX4_set cX4_set 4 none :: ([.fieldLink RX4 19 "TimeMachine$Hart" "reg" "[I", .fieldLink RX4 24 "TimeMachine$Hart" "base" "I"] ++ (u_ws RX4 TX4 6 ++ []))
theorem gd_dm_X4_set : ∀ w ∈ ow_dm_X4_set, (w.onTables && w.keeps) = true ∨ ∃ ty, w = Cond.arrayClass ty := List.forall_mem_cons.mpr ⟨good_of_word rfl, List.forall_mem_append.mpr ⟨fun w h => good_of_word (List.all_eq_true.mp (by decide +kernel) w h), List.forall_mem_append.mpr ⟨gu_X4, fun _ h => nomatch h⟩⟩⟩
theorem hi_dm_X4_set_X4 : ∀ w ∈ u_ws RX4 TX4 6, w ∈ ow_dm_X4_set := fun w h => List.mem_cons_of_mem _ (List.mem_append_right _ (List.mem_append_left _ h))
def dj_X4_set_24 (p : Program) (l : Launch) (e : Env) (s : State) (m : MethodId) (args : Array Value) (below : List Frame) (meth : Method) (c : Code) (Q : State → Prop) (A : Nat → Prop) (dC : Nat → ClassId) (dI : Nat → Nat → Nat) (a : Nat → Nat) (ac : Nat → ClassId) (g : (St × (St × (St))) → Option (St × (St × (St)))) (r : St × (St × (St))) : Prop := ∀ (s0 : St × (St × (St))) (H : Heap) (locs : List Loc) (ls : Array Slot), g s0 = some r → va_P (dC, dI) vwCl (dw_X4 a ac s0) H → va_D A (dw_X4 a ac s0) → va_S A s.heap H locs → lv_has ls 4 [] → W p l e (headSpec ow_dm_X4_set ({ frames := 0, cells := 0, slots := 0, locals := 0 })).room s m args below meth c H locs 0 0 Q (F0 m 24 ls [])
def dj_X4_set_0 (p : Program) (l : Launch) (e : Env) (s : State) (m : MethodId) (args : Array Value) (below : List Frame) (meth : Method) (c : Code) (Q : State → Prop) (A : Nat → Prop) (dC : Nat → ClassId) (dI : Nat → Nat → Nat) (a : Nat → Nat) (ac : Nat → ClassId) (g : Int32 → Int32 → (St × (St × (St))) → Option (St × (St × (St)))) (r : St × (St × (St))) : Prop := ∀ (v0 : Int32) (v1 : Int32) (s0 : St × (St × (St))) (H : Heap) (locs : List Loc) (ls : Array Slot), g v0 v1 s0 = some r → va_P (dC, dI) vwCl (dw_X4 a ac s0) H → va_D A (dw_X4 a ac s0) → va_S A s.heap H locs → lv_has ls 4 [(0, .ref (a 0)), (1, .int v0), (2, .int v1)] → W p l e (headSpec ow_dm_X4_set ({ frames := 0, cells := 0, slots := 0, locals := 0 })).room s m args below meth c H locs 0 0 Q (F0 m 0 ls [])
set_option maxHeartbeats 40000000 in
set_option maxRecDepth 100000 in
theorem db_X4_set_24 {p : Program} {l : Launch} {e : Env} {s : State} {m : MethodId} {args : Array Value} {below : List Frame} {meth : Method} {c : Code} {Q : State → Prop} {A : Nat → Prop} {dC : Nat → ClassId} {dI : Nat → Nat → Nat} {a : Nat → Nat} {ac : Nat → ClassId} {n : Nat} {r : St × (St × (St))} (C : nd_C p l s m args c A (dC, dI) cX4_set 4 RX4 ow_dm_X4_set (dk_X4 ac)) (K : nd_Kv p l e (headSpec ow_dm_X4_set ({ frames := 0, cells := 0, slots := 0, locals := 0 })).room s m args below meth c Q A (dC, dI) cX4_set (St × (St × (St))) (dw_X4 a ac) r) : dj_X4_set_24 p l e s m args below meth c Q A dC dI a ac (df_X4_set_24 n) r := by
  obtain ⟨hlt, hx, hb, hml, hown, hts, hN, hA, hK⟩ := id C
  intro s0 H locs ls h hP hD hS hl
  unfold df_X4_set_24 at h
  exact K _ _ _ _ _ dX4_set_24 (Option.some.inj h).symm hP hD hS
set_option maxHeartbeats 40000000 in
set_option maxRecDepth 100000 in
theorem db_X4_set_0 {p : Program} {l : Launch} {e : Env} {s : State} {m : MethodId} {args : Array Value} {below : List Frame} {meth : Method} {c : Code} {Q : State → Prop} {A : Nat → Prop} {dC : Nat → ClassId} {dI : Nat → Nat → Nat} {a : Nat → Nat} {ac : Nat → ClassId} {n : Nat} {r : St × (St × (St))} (C : nd_C p l s m args c A (dC, dI) cX4_set 4 RX4 ow_dm_X4_set (dk_X4 ac)) (K : nd_Kv p l e (headSpec ow_dm_X4_set ({ frames := 0, cells := 0, slots := 0, locals := 0 })).room s m args below meth c Q A (dC, dI) cX4_set (St × (St × (St))) (dw_X4 a ac) r) : dj_X4_set_0 p l e s m args below meth c Q A dC dI a ac (df_X4_set_0 n) r := by
  obtain ⟨hlt, hx, hb, hml, hown, hts, hN, hA, hK⟩ := id C
  intro v0 v1 s0 H locs ls h hP hD hS hl
  unfold df_X4_set_0 at h
  refine lv_iload_n hx hb dX4_set_0 rfl (lv_at hl 1 rfl) ?_
  refine lv_bipush (v := 7) hx hb dX4_set_1 (by decide) ?_
  refine lv_ishr hx hb dX4_set_3 ?_
  refine lv_bipush (v := 31) hx hb dX4_set_4 (by decide) ?_
  refine lv_iand hx hb dX4_set_6 ?_
  refine lv_topi (fun z1 ez1 => ?_)
  have h := nd_at h ez1
  refine lv_istore_n (lv' := [(3, .int z1), (0, .ref (a 0)), (1, .int v0), (2, .int v1)]) hx hb dX4_set_7 rfl hl (by decide) rfl (fun ls hl => ?_)
  refine lv_iload_n hx hb dX4_set_8 rfl (lv_at hl 0 rfl) ?_
  refine lv_if_eq (tgt := 24) hx hb dX4_set_9 (by decide) (fun c2 => ?_) (fun c2 => ?_)
  · have h := nd_pos h c2
    exact (db_X4_set_24 C K)  s0 _ _ _ h hP hD hS (lv_sub hl [] rfl)
  · have h := nd_neg h c2
    refine lv_aload_n hx hb dX4_set_12 rfl (lv_at hl 1 rfl) ?_
    refine va_get (D := (dC, dI)) (ci := 5) (v := .ref (a 5)) (C := RX4) (T := TX4) (N := 6) hx hb hts hi_dm_X4_set_X4 hown hK hP 0 rfl rfl 1 (by decide) (hts (.fieldLink RX4 19 "TimeMachine$Hart" "reg" "[I") (List.mem_of_getElem? (i := 1) rfl)) (fun _ h9 => h9) rfl dX4_set_13 ?_
    refine lv_aload_n hx hb dX4_set_16 rfl (lv_at hl 1 rfl) ?_
    refine va_get (D := (dC, dI)) (ci := 5) (v := .int (sI s0.1 1)) (C := RX4) (T := TX4) (N := 6) hx hb hts hi_dm_X4_set_X4 hown hK hP 0 rfl rfl 3 (by decide) (hts (.fieldLink RX4 24 "TimeMachine$Hart" "base" "I") (List.mem_of_getElem? (i := 2) rfl)) (fun _ h9 => h9) rfl dX4_set_17 ?_
    refine lv_iload_n hx hb dX4_set_20 rfl (lv_at hl 0 rfl) ?_
    refine lv_iadd hx hb dX4_set_21 ?_
    refine lv_iload_n hx hb dX4_set_22 rfl (lv_at hl 3 rfl) ?_
    obtain ⟨i3, h⟩ := nd_ck_e h
    refine va_iast (i := ((sI s0.1 1) + z1)) (x := v1) hx hb hK hP hD hS 5 3 rfl rfl i3 dX4_set_23 (fun H locs hP hD hS => ?_)
    obtain ⟨s4, es4, h⟩ := nd_let_e h
    have hP : va_P (dC, dI) vwCl (dw_X4 a ac s4) H := by rw [es4]; exact hP
    have hD : va_D A (dw_X4 a ac s4) := by rw [es4]; exact hD
    exact (db_X4_set_24 C K)  s4 _ _ _ h hP hD hS (lv_sub hl [] rfl)
set_option maxHeartbeats 40000000 in
set_option maxRecDepth 100000 in
theorem dm_X4_set (l : Launch) (hlt : l.stackTraces = false) (dC : Nat → ClassId) (dI : Nat → Nat → Nat) (a : Nat → Nat) (ac : Nat → ClassId) (n : Nat) (v0 : Int32) (v1 : Int32) (s0 : St × (St × (St))) {r : St × (St × (St))} (h : df_X4_set n v0 v1 s0 = some r) (sz : Nat) : Met l yX4_set ow_dm_X4_set ({ frames := 0, cells := 0, slots := 0, locals := 0 }) (va_Pc [.ref (a 0), .int v0, .int v1] (fun U => U.heap.size = sz ∧ va_P (dC, dI) vwCl (dw_X4 a ac s0) U.heap ∧ va_K (dC, dI) vwCl (dk_X4 ac) U ∧ va_D (fun _ => True) (dw_X4 a ac s0) ∧ nv_E (va_A (dw_X4 a ac s0) sz) U)) (va_Qv (fun _ => True) (fun (_ : Unit) t => va_P (dC, dI) vwCl (dw_X4 a ac r) t.heap ∧ va_K (dC, dI) vwCl (dk_X4 ac) t ∧ va_D (va_A (dw_X4 a ac s0) sz) (dw_X4 a ac r)) (va_A (dw_X4 a ac s0) sz)) 0 0 (va_A (dw_X4 a ac s0) sz) := by
  refine Met.ofW (cc := cX4_set) (maxL := 4) (ret := none) (by decide) rfl ?_
  intro p e s m args below meth c s₁ B hml hv
  obtain ⟨rfl, hsz, hP, hK, hD0, hN⟩ := hv
  have hx := B.exec
  have hb := B.bytes
  have hr := B.returns
  have hts := atoms_spec (ws := ow_dm_X4_set) B.pre
  have hown : s.vm.findClass RX4 = some m.cls := findClass_of_methodNamed B.named
  have hlocks := B.notSynchronized
  subst hsz
  have hD := hD0.self (sz := s.heap.size)
  generalize hAe : va_A (dw_X4 a ac s0) s.heap.size = A at hD hN ⊢
  have hA : ∀ q : Nat, s.heap.size ≤ q → A q := fun q h => by rw [← hAe]; exact Or.inr h
  have hl := lv_entry ([.ref (a 0), .int v0, .int v1]) (n := 4) (Nat.le_of_ble_eq_true rfl)
  rw [lg_entry_eq]
  generalize (lg_sl ([.ref (a 0), .int v0, .int v1]) ++ List.replicate (4 - (lg_sl ([.ref (a 0), .int v0, .int v1])).length) Slot.unset).toArray = ls at hl ⊢
  have hl : lv_has ls 4 [(0, .ref (a 0)), (1, .int v0), (2, .int v1)] := hl
  exact db_X4_set_0 (dC := dC) (dI := dI) (a := a) (ac := ac) (n := n) (r := r) ⟨hlt, hx, hb, hml, hown, hts, hN, hA, hK⟩ (fun pc τ H locs ls d er hP hD hS => by subst er; exact W.vret hx hb hr (fun t ht hW => ⟨⟨(), rfl, trivial, by rw [ht]; exact hP, va_K.moved hW.alike hK, hD⟩, hS.F ht⟩) hS.2.2 d) v0 v1 s0 _ _ _ h hP hD va_S.rf (lv_sub hl [0, 1, 2] rfl)
def ow_dm_X6_wordAt : List Cond := .code yX6_wordAt cX6_wordAt 4 (some .int) :: ([.fieldLink RX6 17 "TimeMachine$Machine" "page" "[I", .fieldLink RX6 10 "TimeMachine$Machine" "word" "[I"] ++ (u_ws RX6 TX6 20 ++ []))
theorem gd_dm_X6_wordAt : ∀ w ∈ ow_dm_X6_wordAt, (w.onTables && w.keeps) = true ∨ ∃ ty, w = Cond.arrayClass ty := List.forall_mem_cons.mpr ⟨good_of_word rfl, List.forall_mem_append.mpr ⟨fun w h => good_of_word (List.all_eq_true.mp (by decide +kernel) w h), List.forall_mem_append.mpr ⟨gu_X6, fun _ h => nomatch h⟩⟩⟩
theorem hi_dm_X6_wordAt_X6 : ∀ w ∈ u_ws RX6 TX6 20, w ∈ ow_dm_X6_wordAt := fun w h => List.mem_cons_of_mem _ (List.mem_append_right _ (List.mem_append_left _ h))
def dj_X6_wordAt_0 (p : Program) (l : Launch) (e : Env) (s : State) (m : MethodId) (args : Array Value) (below : List Frame) (meth : Method) (c : Code) (Q : State → Prop) (A : Nat → Prop) (dC : Nat → ClassId) (dI : Nat → Nat → Nat) (a : Nat → Nat) (ac : Nat → ClassId) (g : Int32 → Int32 → (St × (St)) → Option (Int32 × (St × (St)))) (r : Int32 × (St × (St))) : Prop := ∀ (v0 : Int32) (v1 : Int32) (s0 : St × (St)) (H : Heap) (locs : List Loc) (ls : Array Slot), g v0 v1 s0 = some r → va_P (dC, dI) vwCl (dw_X6 a ac s0) H → va_D A (dw_X6 a ac s0) → va_S A s.heap H locs → lv_has ls 4 [(0, .ref (a 0)), (1, .int v0), (2, .int v1)] → W p l e (headSpec ow_dm_X6_wordAt ({ frames := 0, cells := 0, slots := 0, locals := 0 })).room s m args below meth c H locs 0 0 Q (F0 m 0 ls [])
set_option maxHeartbeats 40000000 in
set_option maxRecDepth 100000 in
theorem db_X6_wordAt_0 {p : Program} {l : Launch} {e : Env} {s : State} {m : MethodId} {args : Array Value} {below : List Frame} {meth : Method} {c : Code} {Q : State → Prop} {A : Nat → Prop} {dC : Nat → ClassId} {dI : Nat → Nat → Nat} {a : Nat → Nat} {ac : Nat → ClassId} {n : Nat} {r : Int32 × (St × (St))} (C : nd_C p l s m args c A (dC, dI) cX6_wordAt 4 RX6 ow_dm_X6_wordAt (dk_X6 ac)) (K : nd_Ki p l e (headSpec ow_dm_X6_wordAt ({ frames := 0, cells := 0, slots := 0, locals := 0 })).room s m args below meth c Q A (dC, dI) cX6_wordAt .int (St × (St)) (dw_X6 a ac) r) : dj_X6_wordAt_0 p l e s m args below meth c Q A dC dI a ac (df_X6_wordAt_0 n) r := by
  obtain ⟨hlt, hx, hb, hml, hown, hts, hN, hA, hK⟩ := id C
  intro v0 v1 s0 H locs ls h hP hD hS hl
  unfold df_X6_wordAt_0 at h
  refine lv_aload_n hx hb dX6_wordAt_0 rfl (lv_at hl 0 rfl) ?_
  refine va_get (D := (dC, dI)) (ci := 7) (v := .ref (a 3)) (C := RX6) (T := TX6) (N := 20) hx hb hts hi_dm_X6_wordAt_X6 hown hK hP 0 rfl rfl 2 (by decide) (hts (.fieldLink RX6 17 "TimeMachine$Machine" "page" "[I") (List.mem_of_getElem? (i := 1) rfl)) (fun _ h9 => h9) rfl dX6_wordAt_1 ?_
  refine lv_iload_n hx hb dX6_wordAt_4 rfl (lv_at hl 1 rfl) ?_
  refine lv_bipush (v := 6) hx hb dX6_wordAt_5 (by decide) ?_
  refine lv_ishl hx hb dX6_wordAt_7 ?_
  refine lv_iload_n hx hb dX6_wordAt_8 rfl (lv_at hl 2 rfl) ?_
  refine lv_bipush (v := 10) hx hb dX6_wordAt_9 (by decide) ?_
  refine lv_iushr hx hb dX6_wordAt_11 rfl ?_
  refine lv_bipush (v := 63) hx hb dX6_wordAt_12 (by decide) ?_
  refine lv_iand hx hb dX6_wordAt_14 ?_
  refine lv_ior hx hb dX6_wordAt_15 ?_
  obtain ⟨i1, h⟩ := nd_ck_e h
  refine va_iald (i := (((v0 : Int32) <<< ((6 : Int32) &&& 31)) ||| ((((v1 : Int32).toUInt32 >>> ((10 : Int32).toUInt32 &&& Int32.toUInt32 31)).toInt32) &&& 63))) hx hb hK hP 3 2 rfl rfl i1 dX6_wordAt_16 ?_
  refine lv_iconst (v := 3) hx hb dX6_wordAt_17 (by decide) ?_
  refine lv_ishr hx hb dX6_wordAt_18 ?_
  refine lv_topi (fun z2 ez2 => ?_)
  have h := nd_at h ez2
  refine lv_istore_n (lv' := [(3, .int z2), (0, .ref (a 0)), (1, .int v0), (2, .int v1)]) hx hb dX6_wordAt_19 rfl hl (by decide) rfl (fun ls hl => ?_)
  refine lv_aload_n hx hb dX6_wordAt_20 rfl (lv_at hl 1 rfl) ?_
  refine va_get (D := (dC, dI)) (ci := 7) (v := .ref (a 1)) (C := RX6) (T := TX6) (N := 20) hx hb hts hi_dm_X6_wordAt_X6 hown hK hP 0 rfl rfl 0 (by decide) (hts (.fieldLink RX6 10 "TimeMachine$Machine" "word" "[I") (List.mem_of_getElem? (i := 2) rfl)) (fun _ h9 => h9) rfl dX6_wordAt_21 ?_
  refine lv_iload_n hx hb dX6_wordAt_24 rfl (lv_at hl 0 rfl) ?_
  refine lv_bipush (v := 8) hx hb dX6_wordAt_25 (by decide) ?_
  refine lv_ishl hx hb dX6_wordAt_27 ?_
  refine lv_iload_n hx hb dX6_wordAt_28 rfl (lv_at hl 3 rfl) ?_
  refine lv_iconst (v := 2) hx hb dX6_wordAt_29 (by decide) ?_
  refine lv_iushr hx hb dX6_wordAt_30 rfl ?_
  refine lv_sipush (v := 255) hx hb dX6_wordAt_31 (by decide) ?_
  refine lv_iand hx hb dX6_wordAt_34 ?_
  refine lv_ior hx hb dX6_wordAt_35 ?_
  obtain ⟨i3, h⟩ := nd_ck_e h
  refine va_iald (i := (((z2 : Int32) <<< ((8 : Int32) &&& 31)) ||| ((((v1 : Int32).toUInt32 >>> ((2 : Int32).toUInt32 &&& Int32.toUInt32 31)).toInt32) &&& 255))) hx hb hK hP 1 0 rfl rfl i3 dX6_wordAt_36 ?_
  exact K _ _ _ _ _ _ dX6_wordAt_37 rfl (Option.some.inj h).symm hP hD hS
set_option maxHeartbeats 40000000 in
set_option maxRecDepth 100000 in
theorem dm_X6_wordAt (l : Launch) (hlt : l.stackTraces = false) (dC : Nat → ClassId) (dI : Nat → Nat → Nat) (a : Nat → Nat) (ac : Nat → ClassId) (n : Nat) (v0 : Int32) (v1 : Int32) (s0 : St × (St)) {r : Int32 × (St × (St))} (h : df_X6_wordAt n v0 v1 s0 = some r) (sz : Nat) : Met l yX6_wordAt ow_dm_X6_wordAt ({ frames := 0, cells := 0, slots := 0, locals := 0 }) (va_Pc [.ref (a 0), .int v0, .int v1] (fun U => U.heap.size = sz ∧ va_P (dC, dI) vwCl (dw_X6 a ac s0) U.heap ∧ va_K (dC, dI) vwCl (dk_X6 ac) U ∧ va_D (fun _ => True) (dw_X6 a ac s0) ∧ nv_E (va_A (dw_X6 a ac s0) sz) U)) (va_Qi (fun x _ => x = r.1) (fun (_ : Unit) t => va_P (dC, dI) vwCl (dw_X6 a ac r.2) t.heap ∧ va_K (dC, dI) vwCl (dk_X6 ac) t ∧ va_D (va_A (dw_X6 a ac s0) sz) (dw_X6 a ac r.2)) (va_A (dw_X6 a ac s0) sz)) 0 0 (va_A (dw_X6 a ac s0) sz) := by
  refine Met.ofW (cc := cX6_wordAt) (maxL := 4) (ret := (some .int)) (by decide) rfl ?_
  intro p e s m args below meth c s₁ B hml hv
  obtain ⟨rfl, hsz, hP, hK, hD0, hN⟩ := hv
  have hx := B.exec
  have hb := B.bytes
  have hr := B.returns
  have hts := atoms_spec (ws := ow_dm_X6_wordAt) B.pre
  have hown : s.vm.findClass RX6 = some m.cls := findClass_of_methodNamed B.named
  have hlocks := B.notSynchronized
  subst hsz
  have hD := hD0.self (sz := s.heap.size)
  generalize hAe : va_A (dw_X6 a ac s0) s.heap.size = A at hD hN ⊢
  have hA : ∀ q : Nat, s.heap.size ≤ q → A q := fun q h => by rw [← hAe]; exact Or.inr h
  have hl := lv_entry ([.ref (a 0), .int v0, .int v1]) (n := 4) (Nat.le_of_ble_eq_true rfl)
  rw [lg_entry_eq]
  generalize (lg_sl ([.ref (a 0), .int v0, .int v1]) ++ List.replicate (4 - (lg_sl ([.ref (a 0), .int v0, .int v1])).length) Slot.unset).toArray = ls at hl ⊢
  have hl : lv_has ls 4 [(0, .ref (a 0)), (1, .int v0), (2, .int v1)] := hl
  exact db_X6_wordAt_0 (dC := dC) (dI := dI) (a := a) (ac := ac) (n := n) (r := r) ⟨hlt, hx, hb, hml, hown, hts, hN, hA, hK⟩ (fun pc v τ H locs ls d z er hP hD hS => by subst er; exact W.zret (v := v) hx hb hr z (fun t ht hW => ⟨⟨v, (), rfl, rfl, by rw [ht]; exact hP, va_K.moved hW.alike hK, hD⟩, hS.F ht⟩) hS.2.2 d) v0 v1 s0 _ _ _ h hP hD va_S.rf (lv_sub hl [0, 1, 2] rfl)
def ow_dm_X4_load : List Cond := .code yX4_load cX4_load 4 (some .int) :: ([.fieldLink RX4 7 "TimeMachine$Hart" "machine" "LTimeMachine$Machine;", .fieldLink RX4 20 "TimeMachine$Hart" "process" "I", .methodLink RX4 30 yX6_may, .instanceMethod yX6_may, .selects RX6 yX6_may yX6_may, .initialized RX6, .methodLink RX4 94 yX6_byteAt, .instanceMethod yX6_byteAt, .selects RX6 yX6_byteAt yX6_byteAt, .methodLink RX4 52 yX4_set, .instanceMethod yX4_set, .selects RX4 yX4_set yX4_set, .initialized RX4, .methodLink RX4 34 yX6_halfAt, .instanceMethod yX6_halfAt, .selects RX6 yX6_halfAt yX6_halfAt, .methodLink RX4 97 yX6_wordAt, .instanceMethod yX6_wordAt, .selects RX6 yX6_wordAt yX6_wordAt] ++ (u_ws RX4 TX4 6 ++ (ow_dm_X6_may ++ (ow_dm_X6_byteAt ++ (ow_dm_X4_set ++ (ow_dm_X6_halfAt ++ (ow_dm_X6_wordAt ++ [])))))))
theorem gd_dm_X4_load : ∀ w ∈ ow_dm_X4_load, (w.onTables && w.keeps) = true ∨ ∃ ty, w = Cond.arrayClass ty := List.forall_mem_cons.mpr ⟨good_of_word rfl, List.forall_mem_append.mpr ⟨fun w h => good_of_word (List.all_eq_true.mp (by decide +kernel) w h), List.forall_mem_append.mpr ⟨gu_X4, List.forall_mem_append.mpr ⟨gd_dm_X6_may, List.forall_mem_append.mpr ⟨gd_dm_X6_byteAt, List.forall_mem_append.mpr ⟨gd_dm_X4_set, List.forall_mem_append.mpr ⟨gd_dm_X6_halfAt, List.forall_mem_append.mpr ⟨gd_dm_X6_wordAt, fun _ h => nomatch h⟩⟩⟩⟩⟩⟩⟩⟩
theorem hi_dm_X4_load_X4 : ∀ w ∈ u_ws RX4 TX4 6, w ∈ ow_dm_X4_load := fun w h => List.mem_cons_of_mem _ (List.mem_append_right _ (List.mem_append_left _ h))
theorem gi_dm_X4_load_0 : GoodIn ow_dm_X4_load (wsV RX4 30 RX6 yX6_may ow_dm_X6_may) := goodIn_app (goodIn_of _ (by decide +kernel)) (fun w h => ⟨List.mem_cons_of_mem _ (List.mem_append_right _ (List.mem_append_right _ (List.mem_append_left _ h))), gd_dm_X6_may w h⟩)
theorem gi_dm_X4_load_1 : GoodIn ow_dm_X4_load (wsV RX4 94 RX6 yX6_byteAt ow_dm_X6_byteAt) := goodIn_app (goodIn_of _ (by decide +kernel)) (fun w h => ⟨List.mem_cons_of_mem _ (List.mem_append_right _ (List.mem_append_right _ (List.mem_append_right _ (List.mem_append_left _ h)))), gd_dm_X6_byteAt w h⟩)
theorem gi_dm_X4_load_2 : GoodIn ow_dm_X4_load (wsV RX4 52 RX4 yX4_set ow_dm_X4_set) := goodIn_app (goodIn_of _ (by decide +kernel)) (fun w h => ⟨List.mem_cons_of_mem _ (List.mem_append_right _ (List.mem_append_right _ (List.mem_append_right _ (List.mem_append_right _ (List.mem_append_left _ h))))), gd_dm_X4_set w h⟩)
theorem gi_dm_X4_load_3 : GoodIn ow_dm_X4_load (wsV RX4 34 RX6 yX6_halfAt ow_dm_X6_halfAt) := goodIn_app (goodIn_of _ (by decide +kernel)) (fun w h => ⟨List.mem_cons_of_mem _ (List.mem_append_right _ (List.mem_append_right _ (List.mem_append_right _ (List.mem_append_right _ (List.mem_append_right _ (List.mem_append_left _ h)))))), gd_dm_X6_halfAt w h⟩)
theorem gi_dm_X4_load_4 : GoodIn ow_dm_X4_load (wsV RX4 97 RX6 yX6_wordAt ow_dm_X6_wordAt) := goodIn_app (goodIn_of _ (by decide +kernel)) (fun w h => ⟨List.mem_cons_of_mem _ (List.mem_append_right _ (List.mem_append_right _ (List.mem_append_right _ (List.mem_append_right _ (List.mem_append_right _ (List.mem_append_right _ (List.mem_append_left _ h))))))), gd_dm_X6_wordAt w h⟩)
def dj_X4_load_10 (p : Program) (l : Launch) (e : Env) (s : State) (m : MethodId) (args : Array Value) (below : List Frame) (meth : Method) (c : Code) (Q : State → Prop) (A : Nat → Prop) (dC : Nat → ClassId) (dI : Nat → Nat → Nat) (a : Nat → Nat) (ac : Nat → ClassId) (g : (St × (St × (St))) → Option (Int32 × (St × (St × (St))))) (r : Int32 × (St × (St × (St)))) : Prop := ∀ (s0 : St × (St × (St))) (H : Heap) (locs : List Loc) (ls : Array Slot), g s0 = some r → va_P (dC, dI) vwCl (dw_X4 a ac s0) H → va_D A (dw_X4 a ac s0) → va_S A s.heap H locs → lv_has ls 4 [] → W p l e (headSpec ow_dm_X4_load ({ frames := 1, cells := 0, slots := 0, locals := 23 })).room s m args below meth c H locs 0 0 Q (F0 m 10 ls [])
def dj_X4_load_179 (p : Program) (l : Launch) (e : Env) (s : State) (m : MethodId) (args : Array Value) (below : List Frame) (meth : Method) (c : Code) (Q : State → Prop) (A : Nat → Prop) (dC : Nat → ClassId) (dI : Nat → Nat → Nat) (a : Nat → Nat) (ac : Nat → ClassId) (g : (St × (St × (St))) → Option (Int32 × (St × (St × (St))))) (r : Int32 × (St × (St × (St)))) : Prop := ∀ (s0 : St × (St × (St))) (H : Heap) (locs : List Loc) (ls : Array Slot), g s0 = some r → va_P (dC, dI) vwCl (dw_X4 a ac s0) H → va_D A (dw_X4 a ac s0) → va_S A s.heap H locs → lv_has ls 4 [] → W p l e (headSpec ow_dm_X4_load ({ frames := 1, cells := 0, slots := 0, locals := 23 })).room s m args below meth c H locs 0 0 Q (F0 m 179 ls [])
def dj_X4_load_162 (p : Program) (l : Launch) (e : Env) (s : State) (m : MethodId) (args : Array Value) (below : List Frame) (meth : Method) (c : Code) (Q : State → Prop) (A : Nat → Prop) (dC : Nat → ClassId) (dI : Nat → Nat → Nat) (a : Nat → Nat) (ac : Nat → ClassId) (g : Int32 → Int32 → (St × (St × (St))) → Option (Int32 × (St × (St × (St))))) (r : Int32 × (St × (St × (St)))) : Prop := ∀ (x1 : Int32) (x3 : Int32) (s0 : St × (St × (St))) (H : Heap) (locs : List Loc) (ls : Array Slot), g x1 x3 s0 = some r → va_P (dC, dI) vwCl (dw_X4 a ac s0) H → va_D A (dw_X4 a ac s0) → va_S A s.heap H locs → lv_has ls 4 [(0, .ref (a 0)), (1, .int x1), (3, .int x3)] → W p l e (headSpec ow_dm_X4_load ({ frames := 1, cells := 0, slots := 0, locals := 23 })).room s m args below meth c H locs 0 0 Q (F0 m 162 ls [])
def dj_X4_load_0 (p : Program) (l : Launch) (e : Env) (s : State) (m : MethodId) (args : Array Value) (below : List Frame) (meth : Method) (c : Code) (Q : State → Prop) (A : Nat → Prop) (dC : Nat → ClassId) (dI : Nat → Nat → Nat) (a : Nat → Nat) (ac : Nat → ClassId) (g : Int32 → Int32 → Int32 → (St × (St × (St))) → Option (Int32 × (St × (St × (St))))) (r : Int32 × (St × (St × (St)))) : Prop := ∀ (v0 : Int32) (v1 : Int32) (v2 : Int32) (s0 : St × (St × (St))) (H : Heap) (locs : List Loc) (ls : Array Slot), g v0 v1 v2 s0 = some r → va_P (dC, dI) vwCl (dw_X4 a ac s0) H → va_D A (dw_X4 a ac s0) → va_S A s.heap H locs → lv_has ls 4 [(0, .ref (a 0)), (1, .int v0), (2, .int v1), (3, .int v2)] → W p l e (headSpec ow_dm_X4_load ({ frames := 1, cells := 0, slots := 0, locals := 23 })).room s m args below meth c H locs 0 0 Q (F0 m 0 ls [])
set_option maxHeartbeats 40000000 in
set_option maxRecDepth 100000 in
theorem db_X4_load_10 {p : Program} {l : Launch} {e : Env} {s : State} {m : MethodId} {args : Array Value} {below : List Frame} {meth : Method} {c : Code} {Q : State → Prop} {A : Nat → Prop} {dC : Nat → ClassId} {dI : Nat → Nat → Nat} {a : Nat → Nat} {ac : Nat → ClassId} {n : Nat} {r : Int32 × (St × (St × (St)))} (C : nd_C p l s m args c A (dC, dI) cX4_load 4 RX4 ow_dm_X4_load (dk_X4 ac)) (K : nd_Ki p l e (headSpec ow_dm_X4_load ({ frames := 1, cells := 0, slots := 0, locals := 23 })).room s m args below meth c Q A (dC, dI) cX4_load .int (St × (St × (St))) (dw_X4 a ac) r) : dj_X4_load_10 p l e s m args below meth c Q A dC dI a ac (df_X4_load_10 n) r := by
  obtain ⟨hlt, hx, hb, hml, hown, hts, hN, hA, hK⟩ := id C
  intro s0 H locs ls h hP hD hS hl
  unfold df_X4_load_10 at h
  refine lv_iconst (v := 4) hx hb dX4_load_10 (by decide) ?_
  exact K _ _ _ _ _ _ dX4_load_11 rfl (Option.some.inj h).symm hP hD hS
set_option maxHeartbeats 40000000 in
set_option maxRecDepth 100000 in
theorem db_X4_load_179 {p : Program} {l : Launch} {e : Env} {s : State} {m : MethodId} {args : Array Value} {below : List Frame} {meth : Method} {c : Code} {Q : State → Prop} {A : Nat → Prop} {dC : Nat → ClassId} {dI : Nat → Nat → Nat} {a : Nat → Nat} {ac : Nat → ClassId} {n : Nat} {r : Int32 × (St × (St × (St)))} (C : nd_C p l s m args c A (dC, dI) cX4_load 4 RX4 ow_dm_X4_load (dk_X4 ac)) (K : nd_Ki p l e (headSpec ow_dm_X4_load ({ frames := 1, cells := 0, slots := 0, locals := 23 })).room s m args below meth c Q A (dC, dI) cX4_load .int (St × (St × (St))) (dw_X4 a ac) r) : dj_X4_load_179 p l e s m args below meth c Q A dC dI a ac (df_X4_load_179 n) r := by
  obtain ⟨hlt, hx, hb, hml, hown, hts, hN, hA, hK⟩ := id C
  intro s0 H locs ls h hP hD hS hl
  unfold df_X4_load_179 at h
  refine lv_iconst (v := 0) hx hb dX4_load_179 (by decide) ?_
  exact K _ _ _ _ _ _ dX4_load_180 rfl (Option.some.inj h).symm hP hD hS
set_option maxHeartbeats 40000000 in
set_option maxRecDepth 100000 in
theorem db_X4_load_162 {p : Program} {l : Launch} {e : Env} {s : State} {m : MethodId} {args : Array Value} {below : List Frame} {meth : Method} {c : Code} {Q : State → Prop} {A : Nat → Prop} {dC : Nat → ClassId} {dI : Nat → Nat → Nat} {a : Nat → Nat} {ac : Nat → ClassId} {n : Nat} {r : Int32 × (St × (St × (St)))} (C : nd_C p l s m args c A (dC, dI) cX4_load 4 RX4 ow_dm_X4_load (dk_X4 ac)) (K : nd_Ki p l e (headSpec ow_dm_X4_load ({ frames := 1, cells := 0, slots := 0, locals := 23 })).room s m args below meth c Q A (dC, dI) cX4_load .int (St × (St × (St))) (dw_X4 a ac) r) : dj_X4_load_162 p l e s m args below meth c Q A dC dI a ac (df_X4_load_162 n) r := by
  obtain ⟨hlt, hx, hb, hml, hown, hts, hN, hA, hK⟩ := id C
  intro x1 x3 s0 H locs ls h hP hD hS hl
  unfold df_X4_load_162 at h
  refine lv_aload_n hx hb dX4_load_162 rfl (lv_at hl 0 rfl) ?_
  refine lv_iload_n hx hb dX4_load_163 rfl (lv_at hl 1 rfl) ?_
  refine lv_aload_n hx hb dX4_load_164 rfl (lv_at hl 0 rfl) ?_
  refine va_get (D := (dC, dI)) (ci := 5) (v := .ref (a 1)) (C := RX4) (T := TX4) (N := 6) hx hb hts hi_dm_X4_load_X4 hown hK hP 0 rfl rfl 0 (by decide) (hts (.fieldLink RX4 7 "TimeMachine$Hart" "machine" "LTimeMachine$Machine;") (List.mem_of_getElem? (i := 1) rfl)) (fun _ h9 => h9) rfl dX4_load_165 ?_
  refine lv_aload_n hx hb dX4_load_168 rfl (lv_at hl 0 rfl) ?_
  refine va_get (D := (dC, dI)) (ci := 5) (v := .int (sI s0.1 0)) (C := RX4) (T := TX4) (N := 6) hx hb hts hi_dm_X4_load_X4 hown hK hP 0 rfl rfl 2 (by decide) (hts (.fieldLink RX4 20 "TimeMachine$Hart" "process" "I") (List.mem_of_getElem? (i := 2) rfl)) (fun _ h9 => h9) rfl dX4_load_169 ?_
  refine lv_iload_n hx hb dX4_load_172 rfl (lv_at hl 2 rfl) ?_
  obtain ⟨q34, s35, hq, h⟩ := nd_b2_e h
  have hPc := dp_X4_1 hP
  have hDc := dd_X4_1 hD
  have hKc := dy_X4_1 hK
  have hFc := nd_rs hDc hS hA
  have hzA : ∀ q : Nat, H.size ≤ q → A q := fun q h => hA q (Nat.le_trans hS.1 h)
  refine nd_cVi (As := [.int (sI s0.1 0), .int x3]) (rest := [.int x1, .ref (a 0)]) (q := q34) (w' := dw_X6 (fun k => a (k + 1)) (fun k => ac (k + 1)) s35) ⟨hx, hb, hml, hown, hts⟩ (fun sz => dm_X6_halfAt l hlt dC dI (fun k => a (k + 1)) (fun k => ac (k + 1)) n ((sI s0.1 0)) (x3) s0.2 hq sz) (cwV 2 hts gi_dm_X4_load_3 rfl rfl rfl (by decide +kernel) ⟨Nat.le_of_ble_eq_true rfl, Nat.le_of_ble_eq_true rfl⟩) hPc hDc hKc hS hA hN (va_recv hKc hPc (ci := 7) (q0 := 0) rfl rfl) rfl hl.1 rfl (Nat.le_of_ble_eq_true rfl) dX4_load_173 (fun H locs hP1 hD1 hk1 hS => ?_)
  obtain ⟨hP, hD⟩ := dn_X4_1 hP hD hzA hk1 hP1 hD1
  obtain ⟨s37, es37, h⟩ := nd_let_e h
  have hP : va_P (dC, dI) vwCl (dw_X4 a ac s37) H := by rw [es37]; exact hP
  have hD : va_D A (dw_X4 a ac s37) := by rw [es37]; exact hD
  obtain ⟨s39, hq, h⟩ := nd_b1_e h
  have hPc := hP
  have hDc := hD
  have hKc := hK
  have hFc := nd_rs hD hS hA
  refine nd_cVv (As := [.int x1, .int q34]) (rest := []) (w' := dw_X4 a ac s39) ⟨hx, hb, hml, hown, hts⟩ (fun sz => dm_X4_set l hlt dC dI a ac n (x1) (q34) s37 hq sz) (cwV 2 hts gi_dm_X4_load_2 rfl rfl rfl (by decide +kernel) ⟨Nat.le_of_ble_eq_true rfl, Nat.le_of_ble_eq_true rfl⟩) hPc hDc hKc hS hA hN (va_recv hKc hPc (ci := 5) (q0 := 0) rfl rfl) rfl hl.1 rfl (Nat.le_of_ble_eq_true rfl) dX4_load_176 (fun H locs hP1 hD1 hk1 hS => ?_)
  have hP := hP1
  have hD := hD1.weaken (fun k q _ h => hFc q.1 h)
  exact (db_X4_load_179 C K)  s39 _ _ _ h hP hD hS (lv_sub hl [] rfl)
set_option maxHeartbeats 40000000 in
set_option maxRecDepth 100000 in
theorem db_X4_load_0 {p : Program} {l : Launch} {e : Env} {s : State} {m : MethodId} {args : Array Value} {below : List Frame} {meth : Method} {c : Code} {Q : State → Prop} {A : Nat → Prop} {dC : Nat → ClassId} {dI : Nat → Nat → Nat} {a : Nat → Nat} {ac : Nat → ClassId} {n : Nat} {r : Int32 × (St × (St × (St)))} (C : nd_C p l s m args c A (dC, dI) cX4_load 4 RX4 ow_dm_X4_load (dk_X4 ac)) (K : nd_Ki p l e (headSpec ow_dm_X4_load ({ frames := 1, cells := 0, slots := 0, locals := 23 })).room s m args below meth c Q A (dC, dI) cX4_load .int (St × (St × (St))) (dw_X4 a ac) r) : dj_X4_load_0 p l e s m args below meth c Q A dC dI a ac (df_X4_load_0 n) r := by
  obtain ⟨hlt, hx, hb, hml, hown, hts, hN, hA, hK⟩ := id C
  intro v0 v1 v2 s0 H locs ls h hP hD hS hl
  unfold df_X4_load_0 at h
  refine lv_iload_n hx hb dX4_load_0 rfl (lv_at hl 2 rfl) ?_
  refine lv_iconst (v := 3) hx hb dX4_load_1 (by decide) ?_
  refine lv_icmp_eq (tgt := 10) hx hb dX4_load_2 (by decide) (fun c1 => ?_) (fun c1 => ?_)
  · have h := nd_pos h c1
    exact (db_X4_load_10 C K)  s0 _ _ _ h hP hD hS (lv_sub hl [] rfl)
  · have h := nd_neg h c1
    refine lv_iload_n hx hb dX4_load_5 rfl (lv_at hl 2 rfl) ?_
    refine lv_iconst (v := 5) hx hb dX4_load_6 (by decide) ?_
    refine lv_icmp_le (tgt := 12) hx hb dX4_load_7 (by decide) (fun c2 => ?_) (fun c2 => ?_)
    · have h := nd_pos h c2
      refine lv_iload_n hx hb dX4_load_12 rfl (lv_at hl 3 rfl) ?_
      refine lv_iconst (v := 1) hx hb dX4_load_13 (by decide) ?_
      refine lv_iload_n hx hb dX4_load_14 rfl (lv_at hl 2 rfl) ?_
      refine lv_iconst (v := 3) hx hb dX4_load_15 (by decide) ?_
      refine lv_iand hx hb dX4_load_16 ?_
      refine lv_ishl hx hb dX4_load_17 ?_
      refine lv_iconst (v := 1) hx hb dX4_load_18 (by decide) ?_
      refine lv_isub hx hb dX4_load_19 ?_
      refine lv_iand hx hb dX4_load_20 ?_
      refine lv_if_eq (tgt := 27) hx hb dX4_load_21 (by decide) (fun c3 => ?_) (fun c3 => ?_)
      · have h := nd_pos h c3
        refine lv_aload_n hx hb dX4_load_27 rfl (lv_at hl 0 rfl) ?_
        refine va_get (D := (dC, dI)) (ci := 5) (v := .ref (a 1)) (C := RX4) (T := TX4) (N := 6) hx hb hts hi_dm_X4_load_X4 hown hK hP 0 rfl rfl 0 (by decide) (hts (.fieldLink RX4 7 "TimeMachine$Hart" "machine" "LTimeMachine$Machine;") (List.mem_of_getElem? (i := 1) rfl)) (fun _ h9 => h9) rfl dX4_load_28 ?_
        refine lv_aload_n hx hb dX4_load_31 rfl (lv_at hl 0 rfl) ?_
        refine va_get (D := (dC, dI)) (ci := 5) (v := .int (sI s0.1 0)) (C := RX4) (T := TX4) (N := 6) hx hb hts hi_dm_X4_load_X4 hown hK hP 0 rfl rfl 2 (by decide) (hts (.fieldLink RX4 20 "TimeMachine$Hart" "process" "I") (List.mem_of_getElem? (i := 2) rfl)) (fun _ h9 => h9) rfl dX4_load_32 ?_
        refine lv_iload_n hx hb dX4_load_35 rfl (lv_at hl 3 rfl) ?_
        refine lv_iconst (v := 1) hx hb dX4_load_36 (by decide) ?_
        obtain ⟨q4, s5, hq, h⟩ := nd_b2_e h
        have hPc := dp_X4_1 hP
        have hDc := dd_X4_1 hD
        have hKc := dy_X4_1 hK
        have hFc := nd_rs hDc hS hA
        have hzA : ∀ q : Nat, H.size ≤ q → A q := fun q h => hA q (Nat.le_trans hS.1 h)
        refine nd_cVi (As := [.int (sI s0.1 0), .int v2, .int 1]) (rest := []) (q := q4) (w' := dw_X6 (fun k => a (k + 1)) (fun k => ac (k + 1)) s5) ⟨hx, hb, hml, hown, hts⟩ (fun sz => dm_X6_may l hlt dC dI (fun k => a (k + 1)) (fun k => ac (k + 1)) n ((sI s0.1 0)) (v2) (1) s0.2 hq sz) (cwV 3 hts gi_dm_X4_load_0 rfl rfl rfl (by decide +kernel) ⟨Nat.le_of_ble_eq_true rfl, Nat.le_of_ble_eq_true rfl⟩) hPc hDc hKc hS hA hN (va_recv hKc hPc (ci := 7) (q0 := 0) rfl rfl) rfl hl.1 rfl (Nat.le_of_ble_eq_true rfl) dX4_load_37 (fun H locs hP1 hD1 hk1 hS => ?_)
        obtain ⟨hP, hD⟩ := dn_X4_1 hP hD hzA hk1 hP1 hD1
        obtain ⟨s7, es7, h⟩ := nd_let_e h
        have hP : va_P (dC, dI) vwCl (dw_X4 a ac s7) H := by rw [es7]; exact hP
        have hD : va_D A (dw_X4 a ac s7) := by rw [es7]; exact hD
        refine lv_if_ne (tgt := 46) hx hb dX4_load_40 (by decide) (fun c8 => ?_) (fun c8 => ?_)
        · have h := nd_neg h c8
          refine lv_iload_n hx hb dX4_load_46 rfl (lv_at hl 2 rfl) ?_
          by_cases c9 : v1 = 0
          · have h := nd_pos h c9
            refine lv_tableIn (off := 33) (tgt := 80) hx hb dX4_load_47 (by rw [c9]; decide) (by rw [c9]; decide) (by rw [c9]; decide) (by decide) ?_
            refine lv_aload_n hx hb dX4_load_80 rfl (lv_at hl 0 rfl) ?_
            refine lv_iload_n hx hb dX4_load_81 rfl (lv_at hl 1 rfl) ?_
            refine lv_aload_n hx hb dX4_load_82 rfl (lv_at hl 0 rfl) ?_
            refine va_get (D := (dC, dI)) (ci := 5) (v := .ref (a 1)) (C := RX4) (T := TX4) (N := 6) hx hb hts hi_dm_X4_load_X4 hown hK hP 0 rfl rfl 0 (by decide) (hts (.fieldLink RX4 7 "TimeMachine$Hart" "machine" "LTimeMachine$Machine;") (List.mem_of_getElem? (i := 1) rfl)) (fun _ h9 => h9) rfl dX4_load_83 ?_
            refine lv_aload_n hx hb dX4_load_86 rfl (lv_at hl 0 rfl) ?_
            refine va_get (D := (dC, dI)) (ci := 5) (v := .int (sI s7.1 0)) (C := RX4) (T := TX4) (N := 6) hx hb hts hi_dm_X4_load_X4 hown hK hP 0 rfl rfl 2 (by decide) (hts (.fieldLink RX4 20 "TimeMachine$Hart" "process" "I") (List.mem_of_getElem? (i := 2) rfl)) (fun _ h9 => h9) rfl dX4_load_87 ?_
            refine lv_iload_n hx hb dX4_load_90 rfl (lv_at hl 3 rfl) ?_
            obtain ⟨q10, s11, hq, h⟩ := nd_b2_e h
            have hPc := dp_X4_1 hP
            have hDc := dd_X4_1 hD
            have hKc := dy_X4_1 hK
            have hFc := nd_rs hDc hS hA
            have hzA : ∀ q : Nat, H.size ≤ q → A q := fun q h => hA q (Nat.le_trans hS.1 h)
            refine nd_cVi (As := [.int (sI s7.1 0), .int v2]) (rest := [.int v0, .ref (a 0)]) (q := q10) (w' := dw_X6 (fun k => a (k + 1)) (fun k => ac (k + 1)) s11) ⟨hx, hb, hml, hown, hts⟩ (fun sz => dm_X6_byteAt l hlt dC dI (fun k => a (k + 1)) (fun k => ac (k + 1)) n ((sI s7.1 0)) (v2) s7.2 hq sz) (cwV 2 hts gi_dm_X4_load_1 rfl rfl rfl (by decide +kernel) ⟨Nat.le_of_ble_eq_true rfl, Nat.le_of_ble_eq_true rfl⟩) hPc hDc hKc hS hA hN (va_recv hKc hPc (ci := 7) (q0 := 0) rfl rfl) rfl hl.1 rfl (Nat.le_of_ble_eq_true rfl) dX4_load_91 (fun H locs hP1 hD1 hk1 hS => ?_)
            obtain ⟨hP, hD⟩ := dn_X4_1 hP hD hzA hk1 hP1 hD1
            obtain ⟨s13, es13, h⟩ := nd_let_e h
            have hP : va_P (dC, dI) vwCl (dw_X4 a ac s13) H := by rw [es13]; exact hP
            have hD : va_D A (dw_X4 a ac s13) := by rw [es13]; exact hD
            refine lv_i2b hx hb dX4_load_94 rfl ?_
            obtain ⟨s15, hq, h⟩ := nd_b1_e h
            have hPc := hP
            have hDc := hD
            have hKc := hK
            have hFc := nd_rs hD hS hA
            refine nd_cVv (As := [.int v0, .int (q10.toInt8.toInt32)]) (rest := []) (w' := dw_X4 a ac s15) ⟨hx, hb, hml, hown, hts⟩ (fun sz => dm_X4_set l hlt dC dI a ac n (v0) ((q10.toInt8.toInt32)) s13 hq sz) (cwV 2 hts gi_dm_X4_load_2 rfl rfl rfl (by decide +kernel) ⟨Nat.le_of_ble_eq_true rfl, Nat.le_of_ble_eq_true rfl⟩) hPc hDc hKc hS hA hN (va_recv hKc hPc (ci := 5) (q0 := 0) rfl rfl) rfl hl.1 rfl (Nat.le_of_ble_eq_true rfl) dX4_load_95 (fun H locs hP1 hD1 hk1 hS => ?_)
            have hP := hP1
            have hD := hD1.weaken (fun k q _ h => hFc q.1 h)
            refine lv_goto (tgt := 179) hx hb dX4_load_98 (by decide) ?_
            exact (db_X4_load_179 C K)  s15 _ _ _ h hP hD hS (lv_sub hl [] rfl)
          have h := nd_neg h c9
          by_cases c17 : v1 = 1
          · have h := nd_pos h c17
            refine lv_tableIn (off := 54) (tgt := 101) hx hb dX4_load_47 (by rw [c17]; decide) (by rw [c17]; decide) (by rw [c17]; decide) (by decide) ?_
            refine lv_aload_n hx hb dX4_load_101 rfl (lv_at hl 0 rfl) ?_
            refine lv_iload_n hx hb dX4_load_102 rfl (lv_at hl 1 rfl) ?_
            refine lv_aload_n hx hb dX4_load_103 rfl (lv_at hl 0 rfl) ?_
            refine va_get (D := (dC, dI)) (ci := 5) (v := .ref (a 1)) (C := RX4) (T := TX4) (N := 6) hx hb hts hi_dm_X4_load_X4 hown hK hP 0 rfl rfl 0 (by decide) (hts (.fieldLink RX4 7 "TimeMachine$Hart" "machine" "LTimeMachine$Machine;") (List.mem_of_getElem? (i := 1) rfl)) (fun _ h9 => h9) rfl dX4_load_104 ?_
            refine lv_aload_n hx hb dX4_load_107 rfl (lv_at hl 0 rfl) ?_
            refine va_get (D := (dC, dI)) (ci := 5) (v := .int (sI s7.1 0)) (C := RX4) (T := TX4) (N := 6) hx hb hts hi_dm_X4_load_X4 hown hK hP 0 rfl rfl 2 (by decide) (hts (.fieldLink RX4 20 "TimeMachine$Hart" "process" "I") (List.mem_of_getElem? (i := 2) rfl)) (fun _ h9 => h9) rfl dX4_load_108 ?_
            refine lv_iload_n hx hb dX4_load_111 rfl (lv_at hl 3 rfl) ?_
            obtain ⟨q18, s19, hq, h⟩ := nd_b2_e h
            have hPc := dp_X4_1 hP
            have hDc := dd_X4_1 hD
            have hKc := dy_X4_1 hK
            have hFc := nd_rs hDc hS hA
            have hzA : ∀ q : Nat, H.size ≤ q → A q := fun q h => hA q (Nat.le_trans hS.1 h)
            refine nd_cVi (As := [.int (sI s7.1 0), .int v2]) (rest := [.int v0, .ref (a 0)]) (q := q18) (w' := dw_X6 (fun k => a (k + 1)) (fun k => ac (k + 1)) s19) ⟨hx, hb, hml, hown, hts⟩ (fun sz => dm_X6_halfAt l hlt dC dI (fun k => a (k + 1)) (fun k => ac (k + 1)) n ((sI s7.1 0)) (v2) s7.2 hq sz) (cwV 2 hts gi_dm_X4_load_3 rfl rfl rfl (by decide +kernel) ⟨Nat.le_of_ble_eq_true rfl, Nat.le_of_ble_eq_true rfl⟩) hPc hDc hKc hS hA hN (va_recv hKc hPc (ci := 7) (q0 := 0) rfl rfl) rfl hl.1 rfl (Nat.le_of_ble_eq_true rfl) dX4_load_112 (fun H locs hP1 hD1 hk1 hS => ?_)
            obtain ⟨hP, hD⟩ := dn_X4_1 hP hD hzA hk1 hP1 hD1
            obtain ⟨s21, es21, h⟩ := nd_let_e h
            have hP : va_P (dC, dI) vwCl (dw_X4 a ac s21) H := by rw [es21]; exact hP
            have hD : va_D A (dw_X4 a ac s21) := by rw [es21]; exact hD
            refine lv_i2s hx hb dX4_load_115 rfl ?_
            obtain ⟨s23, hq, h⟩ := nd_b1_e h
            have hPc := hP
            have hDc := hD
            have hKc := hK
            have hFc := nd_rs hD hS hA
            refine nd_cVv (As := [.int v0, .int (q18.toInt16.toInt32)]) (rest := []) (w' := dw_X4 a ac s23) ⟨hx, hb, hml, hown, hts⟩ (fun sz => dm_X4_set l hlt dC dI a ac n (v0) ((q18.toInt16.toInt32)) s21 hq sz) (cwV 2 hts gi_dm_X4_load_2 rfl rfl rfl (by decide +kernel) ⟨Nat.le_of_ble_eq_true rfl, Nat.le_of_ble_eq_true rfl⟩) hPc hDc hKc hS hA hN (va_recv hKc hPc (ci := 5) (q0 := 0) rfl rfl) rfl hl.1 rfl (Nat.le_of_ble_eq_true rfl) dX4_load_116 (fun H locs hP1 hD1 hk1 hS => ?_)
            have hP := hP1
            have hD := hD1.weaken (fun k q _ h => hFc q.1 h)
            refine lv_goto (tgt := 179) hx hb dX4_load_119 (by decide) ?_
            exact (db_X4_load_179 C K)  s23 _ _ _ h hP hD hS (lv_sub hl [] rfl)
          have h := nd_neg h c17
          by_cases c25 : v1 = 2
          · have h := nd_pos h c25
            refine lv_tableIn (off := 75) (tgt := 122) hx hb dX4_load_47 (by rw [c25]; decide) (by rw [c25]; decide) (by rw [c25]; decide) (by decide) ?_
            refine lv_aload_n hx hb dX4_load_122 rfl (lv_at hl 0 rfl) ?_
            refine lv_iload_n hx hb dX4_load_123 rfl (lv_at hl 1 rfl) ?_
            refine lv_aload_n hx hb dX4_load_124 rfl (lv_at hl 0 rfl) ?_
            refine va_get (D := (dC, dI)) (ci := 5) (v := .ref (a 1)) (C := RX4) (T := TX4) (N := 6) hx hb hts hi_dm_X4_load_X4 hown hK hP 0 rfl rfl 0 (by decide) (hts (.fieldLink RX4 7 "TimeMachine$Hart" "machine" "LTimeMachine$Machine;") (List.mem_of_getElem? (i := 1) rfl)) (fun _ h9 => h9) rfl dX4_load_125 ?_
            refine lv_aload_n hx hb dX4_load_128 rfl (lv_at hl 0 rfl) ?_
            refine va_get (D := (dC, dI)) (ci := 5) (v := .int (sI s7.1 0)) (C := RX4) (T := TX4) (N := 6) hx hb hts hi_dm_X4_load_X4 hown hK hP 0 rfl rfl 2 (by decide) (hts (.fieldLink RX4 20 "TimeMachine$Hart" "process" "I") (List.mem_of_getElem? (i := 2) rfl)) (fun _ h9 => h9) rfl dX4_load_129 ?_
            refine lv_iload_n hx hb dX4_load_132 rfl (lv_at hl 3 rfl) ?_
            obtain ⟨q26, s27, hq, h⟩ := nd_b2_e h
            have hPc := dp_X4_1 hP
            have hDc := dd_X4_1 hD
            have hKc := dy_X4_1 hK
            have hFc := nd_rs hDc hS hA
            have hzA : ∀ q : Nat, H.size ≤ q → A q := fun q h => hA q (Nat.le_trans hS.1 h)
            refine nd_cVi (As := [.int (sI s7.1 0), .int v2]) (rest := [.int v0, .ref (a 0)]) (q := q26) (w' := dw_X6 (fun k => a (k + 1)) (fun k => ac (k + 1)) s27) ⟨hx, hb, hml, hown, hts⟩ (fun sz => dm_X6_wordAt l hlt dC dI (fun k => a (k + 1)) (fun k => ac (k + 1)) n ((sI s7.1 0)) (v2) s7.2 hq sz) (cwV 2 hts gi_dm_X4_load_4 rfl rfl rfl (by decide +kernel) ⟨Nat.le_of_ble_eq_true rfl, Nat.le_of_ble_eq_true rfl⟩) hPc hDc hKc hS hA hN (va_recv hKc hPc (ci := 7) (q0 := 0) rfl rfl) rfl hl.1 rfl (Nat.le_of_ble_eq_true rfl) dX4_load_133 (fun H locs hP1 hD1 hk1 hS => ?_)
            obtain ⟨hP, hD⟩ := dn_X4_1 hP hD hzA hk1 hP1 hD1
            obtain ⟨s29, es29, h⟩ := nd_let_e h
            have hP : va_P (dC, dI) vwCl (dw_X4 a ac s29) H := by rw [es29]; exact hP
            have hD : va_D A (dw_X4 a ac s29) := by rw [es29]; exact hD
            obtain ⟨s31, hq, h⟩ := nd_b1_e h
            have hPc := hP
            have hDc := hD
            have hKc := hK
            have hFc := nd_rs hD hS hA
            refine nd_cVv (As := [.int v0, .int q26]) (rest := []) (w' := dw_X4 a ac s31) ⟨hx, hb, hml, hown, hts⟩ (fun sz => dm_X4_set l hlt dC dI a ac n (v0) (q26) s29 hq sz) (cwV 2 hts gi_dm_X4_load_2 rfl rfl rfl (by decide +kernel) ⟨Nat.le_of_ble_eq_true rfl, Nat.le_of_ble_eq_true rfl⟩) hPc hDc hKc hS hA hN (va_recv hKc hPc (ci := 5) (q0 := 0) rfl rfl) rfl hl.1 rfl (Nat.le_of_ble_eq_true rfl) dX4_load_136 (fun H locs hP1 hD1 hk1 hS => ?_)
            have hP := hP1
            have hD := hD1.weaken (fun k q _ h => hFc q.1 h)
            refine lv_goto (tgt := 179) hx hb dX4_load_139 (by decide) ?_
            exact (db_X4_load_179 C K)  s31 _ _ _ h hP hD hS (lv_sub hl [] rfl)
          have h := nd_neg h c25
          by_cases c33 : v1 = 3
          · have h := nd_pos h c33
            refine lv_tableIn (off := 115) (tgt := 162) hx hb dX4_load_47 (by rw [c33]; decide) (by rw [c33]; decide) (by rw [c33]; decide) (by decide) ?_
            exact (db_X4_load_162 C K) (v0) (v2) s7 _ _ _ h hP hD hS (lv_sub hl [0, 1, 3] rfl)
          have h := nd_neg h c33
          by_cases c41 : v1 = 4
          · have h := nd_pos h c41
            refine lv_tableIn (off := 95) (tgt := 142) hx hb dX4_load_47 (by rw [c41]; decide) (by rw [c41]; decide) (by rw [c41]; decide) (by decide) ?_
            refine lv_aload_n hx hb dX4_load_142 rfl (lv_at hl 0 rfl) ?_
            refine lv_iload_n hx hb dX4_load_143 rfl (lv_at hl 1 rfl) ?_
            refine lv_aload_n hx hb dX4_load_144 rfl (lv_at hl 0 rfl) ?_
            refine va_get (D := (dC, dI)) (ci := 5) (v := .ref (a 1)) (C := RX4) (T := TX4) (N := 6) hx hb hts hi_dm_X4_load_X4 hown hK hP 0 rfl rfl 0 (by decide) (hts (.fieldLink RX4 7 "TimeMachine$Hart" "machine" "LTimeMachine$Machine;") (List.mem_of_getElem? (i := 1) rfl)) (fun _ h9 => h9) rfl dX4_load_145 ?_
            refine lv_aload_n hx hb dX4_load_148 rfl (lv_at hl 0 rfl) ?_
            refine va_get (D := (dC, dI)) (ci := 5) (v := .int (sI s7.1 0)) (C := RX4) (T := TX4) (N := 6) hx hb hts hi_dm_X4_load_X4 hown hK hP 0 rfl rfl 2 (by decide) (hts (.fieldLink RX4 20 "TimeMachine$Hart" "process" "I") (List.mem_of_getElem? (i := 2) rfl)) (fun _ h9 => h9) rfl dX4_load_149 ?_
            refine lv_iload_n hx hb dX4_load_152 rfl (lv_at hl 3 rfl) ?_
            obtain ⟨q42, s43, hq, h⟩ := nd_b2_e h
            have hPc := dp_X4_1 hP
            have hDc := dd_X4_1 hD
            have hKc := dy_X4_1 hK
            have hFc := nd_rs hDc hS hA
            have hzA : ∀ q : Nat, H.size ≤ q → A q := fun q h => hA q (Nat.le_trans hS.1 h)
            refine nd_cVi (As := [.int (sI s7.1 0), .int v2]) (rest := [.int v0, .ref (a 0)]) (q := q42) (w' := dw_X6 (fun k => a (k + 1)) (fun k => ac (k + 1)) s43) ⟨hx, hb, hml, hown, hts⟩ (fun sz => dm_X6_byteAt l hlt dC dI (fun k => a (k + 1)) (fun k => ac (k + 1)) n ((sI s7.1 0)) (v2) s7.2 hq sz) (cwV 2 hts gi_dm_X4_load_1 rfl rfl rfl (by decide +kernel) ⟨Nat.le_of_ble_eq_true rfl, Nat.le_of_ble_eq_true rfl⟩) hPc hDc hKc hS hA hN (va_recv hKc hPc (ci := 7) (q0 := 0) rfl rfl) rfl hl.1 rfl (Nat.le_of_ble_eq_true rfl) dX4_load_153 (fun H locs hP1 hD1 hk1 hS => ?_)
            obtain ⟨hP, hD⟩ := dn_X4_1 hP hD hzA hk1 hP1 hD1
            obtain ⟨s45, es45, h⟩ := nd_let_e h
            have hP : va_P (dC, dI) vwCl (dw_X4 a ac s45) H := by rw [es45]; exact hP
            have hD : va_D A (dw_X4 a ac s45) := by rw [es45]; exact hD
            obtain ⟨s47, hq, h⟩ := nd_b1_e h
            have hPc := hP
            have hDc := hD
            have hKc := hK
            have hFc := nd_rs hD hS hA
            refine nd_cVv (As := [.int v0, .int q42]) (rest := []) (w' := dw_X4 a ac s47) ⟨hx, hb, hml, hown, hts⟩ (fun sz => dm_X4_set l hlt dC dI a ac n (v0) (q42) s45 hq sz) (cwV 2 hts gi_dm_X4_load_2 rfl rfl rfl (by decide +kernel) ⟨Nat.le_of_ble_eq_true rfl, Nat.le_of_ble_eq_true rfl⟩) hPc hDc hKc hS hA hN (va_recv hKc hPc (ci := 5) (q0 := 0) rfl rfl) rfl hl.1 rfl (Nat.le_of_ble_eq_true rfl) dX4_load_156 (fun H locs hP1 hD1 hk1 hS => ?_)
            have hP := hP1
            have hD := hD1.weaken (fun k q _ h => hFc q.1 h)
            refine lv_goto (tgt := 179) hx hb dX4_load_159 (by decide) ?_
            exact (db_X4_load_179 C K)  s47 _ _ _ h hP hD hS (lv_sub hl [] rfl)
          have h := nd_neg h c41
          refine lv_tableOut (tgt := 162) hx hb dX4_load_47 (by have g0 := nv_nei c9 (k := 0) (by decide); have g1 := nv_nei c17 (k := 1) (by decide); have g2 := nv_nei c25 (k := 2) (by decide); have g3 := nv_nei c33 (k := 3) (by decide); have g4 := nv_nei c41 (k := 4) (by decide); omega) (by decide) ?_
          exact (db_X4_load_162 C K) (v0) (v2) s7 _ _ _ h hP hD hS (lv_sub hl [0, 1, 3] rfl)
        · have h := nd_pos h c8
          refine lv_bipush (v := 11) hx hb dX4_load_43 (by decide) ?_
          exact K _ _ _ _ _ _ dX4_load_45 rfl (Option.some.inj h).symm hP hD hS
      · have h := nd_neg h c3
        refine lv_bipush (v := 7) hx hb dX4_load_24 (by decide) ?_
        exact K _ _ _ _ _ _ dX4_load_26 rfl (Option.some.inj h).symm hP hD hS
    · have h := nd_neg h c2
      exact (db_X4_load_10 C K)  s0 _ _ _ h hP hD hS (lv_sub hl [] rfl)
set_option maxHeartbeats 40000000 in
set_option maxRecDepth 100000 in
theorem dm_X4_load (l : Launch) (hlt : l.stackTraces = false) (dC : Nat → ClassId) (dI : Nat → Nat → Nat) (a : Nat → Nat) (ac : Nat → ClassId) (n : Nat) (v0 : Int32) (v1 : Int32) (v2 : Int32) (s0 : St × (St × (St))) {r : Int32 × (St × (St × (St)))} (h : df_X4_load n v0 v1 v2 s0 = some r) (sz : Nat) : Met l yX4_load ow_dm_X4_load ({ frames := 1, cells := 0, slots := 0, locals := 23 }) (va_Pc [.ref (a 0), .int v0, .int v1, .int v2] (fun U => U.heap.size = sz ∧ va_P (dC, dI) vwCl (dw_X4 a ac s0) U.heap ∧ va_K (dC, dI) vwCl (dk_X4 ac) U ∧ va_D (fun _ => True) (dw_X4 a ac s0) ∧ nv_E (va_A (dw_X4 a ac s0) sz) U)) (va_Qi (fun x _ => x = r.1) (fun (_ : Unit) t => va_P (dC, dI) vwCl (dw_X4 a ac r.2) t.heap ∧ va_K (dC, dI) vwCl (dk_X4 ac) t ∧ va_D (va_A (dw_X4 a ac s0) sz) (dw_X4 a ac r.2)) (va_A (dw_X4 a ac s0) sz)) 0 0 (va_A (dw_X4 a ac s0) sz) := by
  refine Met.ofW (cc := cX4_load) (maxL := 4) (ret := (some .int)) (by decide) rfl ?_
  intro p e s m args below meth c s₁ B hml hv
  obtain ⟨rfl, hsz, hP, hK, hD0, hN⟩ := hv
  have hx := B.exec
  have hb := B.bytes
  have hr := B.returns
  have hts := atoms_spec (ws := ow_dm_X4_load) B.pre
  have hown : s.vm.findClass RX4 = some m.cls := findClass_of_methodNamed B.named
  have hlocks := B.notSynchronized
  subst hsz
  have hD := hD0.self (sz := s.heap.size)
  generalize hAe : va_A (dw_X4 a ac s0) s.heap.size = A at hD hN ⊢
  have hA : ∀ q : Nat, s.heap.size ≤ q → A q := fun q h => by rw [← hAe]; exact Or.inr h
  have hl := lv_entry ([.ref (a 0), .int v0, .int v1, .int v2]) (n := 4) (Nat.le_of_ble_eq_true rfl)
  rw [lg_entry_eq]
  generalize (lg_sl ([.ref (a 0), .int v0, .int v1, .int v2]) ++ List.replicate (4 - (lg_sl ([.ref (a 0), .int v0, .int v1, .int v2])).length) Slot.unset).toArray = ls at hl ⊢
  have hl : lv_has ls 4 [(0, .ref (a 0)), (1, .int v0), (2, .int v1), (3, .int v2)] := hl
  exact db_X4_load_0 (dC := dC) (dI := dI) (a := a) (ac := ac) (n := n) (r := r) ⟨hlt, hx, hb, hml, hown, hts, hN, hA, hK⟩ (fun pc v τ H locs ls d z er hP hD hS => by subst er; exact W.zret (v := v) hx hb hr z (fun t ht hW => ⟨⟨v, (), rfl, rfl, by rw [ht]; exact hP, va_K.moved hW.alike hK, hD⟩, hS.F ht⟩) hS.2.2 d) v0 v1 v2 s0 _ _ _ h hP hD va_S.rf (lv_sub hl [0, 1, 2, 3] rfl)
def ow_dm_X4_reckoned : List Cond := .code yX4_reckoned cX4_reckoned 3 (some .int) :: ([.methodLink RX4 89 yJ6_compareUnsigned_7cf53, .static yJ6_compareUnsigned_7cf53, .initialized RJ6] ++ (ow_dm_J6_compareUnsigned_7cf53 ++ []))
theorem gd_dm_X4_reckoned : ∀ w ∈ ow_dm_X4_reckoned, (w.onTables && w.keeps) = true ∨ ∃ ty, w = Cond.arrayClass ty := List.forall_mem_cons.mpr ⟨good_of_word rfl, List.forall_mem_append.mpr ⟨fun w h => good_of_word (List.all_eq_true.mp (by decide +kernel) w h), List.forall_mem_append.mpr ⟨gd_dm_J6_compareUnsigned_7cf53, fun _ h => nomatch h⟩⟩⟩
theorem gi_dm_X4_reckoned_0 : GoodIn ow_dm_X4_reckoned (va_wsS RX4 89 yJ6_compareUnsigned_7cf53 ow_dm_J6_compareUnsigned_7cf53) := goodIn_app (goodIn_of _ (by decide +kernel)) (fun w h => ⟨List.mem_cons_of_mem _ (List.mem_append_right _ (List.mem_append_left _ h)), gd_dm_J6_compareUnsigned_7cf53 w h⟩)
def dj_X4_reckoned_65 (p : Program) (l : Launch) (e : Env) (s : State) (m : MethodId) (args : Array Value) (below : List Frame) (meth : Method) (c : Code) (Q : State → Prop) (A : Nat → Prop) (dC : Nat → ClassId) (dI : Nat → Nat → Nat) (a : Nat → Nat) (ac : Nat → ClassId) (g : Int32 → (Unit) → Option (Int32 × (Unit))) (r : Int32 × (Unit)) : Prop := ∀ (y0 : Int32) (s0 : Unit) (H : Heap) (locs : List Loc) (ls : Array Slot), g y0 s0 = some r → va_P (dC, dI) vwCl (dw_P a ac s0) H → va_D A (dw_P a ac s0) → va_S A s.heap H locs → lv_has ls 3 [] → W p l e (headSpec ow_dm_X4_reckoned ({ frames := 2, cells := 0, slots := 0, locals := 42 })).room s m args below meth c H locs 0 0 Q (F0 m 65 ls [.int y0])
def dj_X4_reckoned_79 (p : Program) (l : Launch) (e : Env) (s : State) (m : MethodId) (args : Array Value) (below : List Frame) (meth : Method) (c : Code) (Q : State → Prop) (A : Nat → Prop) (dC : Nat → ClassId) (dI : Nat → Nat → Nat) (a : Nat → Nat) (ac : Nat → ClassId) (g : Int32 → (Unit) → Option (Int32 × (Unit))) (r : Int32 × (Unit)) : Prop := ∀ (y0 : Int32) (s0 : Unit) (H : Heap) (locs : List Loc) (ls : Array Slot), g y0 s0 = some r → va_P (dC, dI) vwCl (dw_P a ac s0) H → va_D A (dw_P a ac s0) → va_S A s.heap H locs → lv_has ls 3 [] → W p l e (headSpec ow_dm_X4_reckoned ({ frames := 2, cells := 0, slots := 0, locals := 42 })).room s m args below meth c H locs 0 0 Q (F0 m 79 ls [.int y0])
def dj_X4_reckoned_0 (p : Program) (l : Launch) (e : Env) (s : State) (m : MethodId) (args : Array Value) (below : List Frame) (meth : Method) (c : Code) (Q : State → Prop) (A : Nat → Prop) (dC : Nat → ClassId) (dI : Nat → Nat → Nat) (a : Nat → Nat) (ac : Nat → ClassId) (g : Int32 → Int32 → Int32 → (Unit) → Option (Int32 × (Unit))) (r : Int32 × (Unit)) : Prop := ∀ (v0 : Int32) (v1 : Int32) (v2 : Int32) (s0 : Unit) (H : Heap) (locs : List Loc) (ls : Array Slot), g v0 v1 v2 s0 = some r → va_P (dC, dI) vwCl (dw_P a ac s0) H → va_D A (dw_P a ac s0) → va_S A s.heap H locs → lv_has ls 3 [(0, .int v0), (1, .int v1), (2, .int v2)] → W p l e (headSpec ow_dm_X4_reckoned ({ frames := 2, cells := 0, slots := 0, locals := 42 })).room s m args below meth c H locs 0 0 Q (F0 m 0 ls [])
set_option maxHeartbeats 40000000 in
set_option maxRecDepth 100000 in
theorem db_X4_reckoned_65 {p : Program} {l : Launch} {e : Env} {s : State} {m : MethodId} {args : Array Value} {below : List Frame} {meth : Method} {c : Code} {Q : State → Prop} {A : Nat → Prop} {dC : Nat → ClassId} {dI : Nat → Nat → Nat} {a : Nat → Nat} {ac : Nat → ClassId} {n : Nat} {r : Int32 × (Unit)} (C : nd_C p l s m args c A (dC, dI) cX4_reckoned 3 RX4 ow_dm_X4_reckoned (dk_P ac)) (K : nd_Ki p l e (headSpec ow_dm_X4_reckoned ({ frames := 2, cells := 0, slots := 0, locals := 42 })).room s m args below meth c Q A (dC, dI) cX4_reckoned .int (Unit) (dw_P a ac) r) : dj_X4_reckoned_65 p l e s m args below meth c Q A dC dI a ac (df_X4_reckoned_65 n) r := by
  obtain ⟨hlt, hx, hb, hml, hown, hts, hN, hA, hK⟩ := id C
  intro y0 s0 H locs ls h hP hD hS hl
  unfold df_X4_reckoned_65 at h
  exact K _ _ _ _ _ _ dX4_reckoned_65 rfl (Option.some.inj h).symm hP hD hS
set_option maxHeartbeats 40000000 in
set_option maxRecDepth 100000 in
theorem db_X4_reckoned_79 {p : Program} {l : Launch} {e : Env} {s : State} {m : MethodId} {args : Array Value} {below : List Frame} {meth : Method} {c : Code} {Q : State → Prop} {A : Nat → Prop} {dC : Nat → ClassId} {dI : Nat → Nat → Nat} {a : Nat → Nat} {ac : Nat → ClassId} {n : Nat} {r : Int32 × (Unit)} (C : nd_C p l s m args c A (dC, dI) cX4_reckoned 3 RX4 ow_dm_X4_reckoned (dk_P ac)) (K : nd_Ki p l e (headSpec ow_dm_X4_reckoned ({ frames := 2, cells := 0, slots := 0, locals := 42 })).room s m args below meth c Q A (dC, dI) cX4_reckoned .int (Unit) (dw_P a ac) r) : dj_X4_reckoned_79 p l e s m args below meth c Q A dC dI a ac (df_X4_reckoned_79 n) r := by
  obtain ⟨hlt, hx, hb, hml, hown, hts, hN, hA, hK⟩ := id C
  intro y0 s0 H locs ls h hP hD hS hl
  unfold df_X4_reckoned_79 at h
  exact K _ _ _ _ _ _ dX4_reckoned_79 rfl (Option.some.inj h).symm hP hD hS
set_option maxHeartbeats 40000000 in
set_option maxRecDepth 100000 in
theorem db_X4_reckoned_0 {p : Program} {l : Launch} {e : Env} {s : State} {m : MethodId} {args : Array Value} {below : List Frame} {meth : Method} {c : Code} {Q : State → Prop} {A : Nat → Prop} {dC : Nat → ClassId} {dI : Nat → Nat → Nat} {a : Nat → Nat} {ac : Nat → ClassId} {n : Nat} {r : Int32 × (Unit)} (C : nd_C p l s m args c A (dC, dI) cX4_reckoned 3 RX4 ow_dm_X4_reckoned (dk_P ac)) (K : nd_Ki p l e (headSpec ow_dm_X4_reckoned ({ frames := 2, cells := 0, slots := 0, locals := 42 })).room s m args below meth c Q A (dC, dI) cX4_reckoned .int (Unit) (dw_P a ac) r) : dj_X4_reckoned_0 p l e s m args below meth c Q A dC dI a ac (df_X4_reckoned_0 n) r := by
  obtain ⟨hlt, hx, hb, hml, hown, hts, hN, hA, hK⟩ := id C
  intro v0 v1 v2 s0 H locs ls h hP hD hS hl
  unfold df_X4_reckoned_0 at h
  refine lv_iload_n hx hb dX4_reckoned_0 rfl (lv_at hl 0 rfl) ?_
  by_cases c1 : v0 = 0
  · have h := nd_pos h c1
    refine lv_tableIn (off := 43) (tgt := 44) hx hb dX4_reckoned_1 (by rw [c1]; decide) (by rw [c1]; decide) (by rw [c1]; decide) (by decide) ?_
    refine lv_iload_n hx hb dX4_reckoned_44 rfl (lv_at hl 1 rfl) ?_
    refine lv_iload_n hx hb dX4_reckoned_45 rfl (lv_at hl 2 rfl) ?_
    refine lv_iadd hx hb dX4_reckoned_46 ?_
    exact K _ _ _ _ _ _ dX4_reckoned_47 rfl (Option.some.inj h).symm hP hD hS
  have h := nd_neg h c1
  by_cases c2 : v0 = 1
  · have h := nd_pos h c2
    refine lv_tableIn (off := 47) (tgt := 48) hx hb dX4_reckoned_1 (by rw [c2]; decide) (by rw [c2]; decide) (by rw [c2]; decide) (by decide) ?_
    refine lv_iload_n hx hb dX4_reckoned_48 rfl (lv_at hl 1 rfl) ?_
    refine lv_iload_n hx hb dX4_reckoned_49 rfl (lv_at hl 2 rfl) ?_
    refine lv_bipush (v := 31) hx hb dX4_reckoned_50 (by decide) ?_
    refine lv_iand hx hb dX4_reckoned_52 ?_
    refine lv_ishl hx hb dX4_reckoned_53 ?_
    exact K _ _ _ _ _ _ dX4_reckoned_54 rfl (Option.some.inj h).symm hP hD hS
  have h := nd_neg h c2
  by_cases c3 : v0 = 2
  · have h := nd_pos h c3
    refine lv_tableIn (off := 54) (tgt := 55) hx hb dX4_reckoned_1 (by rw [c3]; decide) (by rw [c3]; decide) (by rw [c3]; decide) (by decide) ?_
    refine lv_iload_n hx hb dX4_reckoned_55 rfl (lv_at hl 1 rfl) ?_
    refine lv_iload_n hx hb dX4_reckoned_56 rfl (lv_at hl 2 rfl) ?_
    refine lv_icmp_ge (tgt := 64) hx hb dX4_reckoned_57 (by decide) (fun c4 => ?_) (fun c4 => ?_)
    · have h := nd_pos h c4
      refine lv_iconst (v := 0) hx hb dX4_reckoned_64 (by decide) ?_
      exact (db_X4_reckoned_65 C K) (0) s0 _ _ _ h hP hD hS (lv_sub hl [] rfl)
    · have h := nd_neg h c4
      refine lv_iconst (v := 1) hx hb dX4_reckoned_60 (by decide) ?_
      refine lv_goto (tgt := 65) hx hb dX4_reckoned_61 (by decide) ?_
      exact (db_X4_reckoned_65 C K) (1) s0 _ _ _ h hP hD hS (lv_sub hl [] rfl)
  have h := nd_neg h c3
  by_cases c5 : v0 = 3
  · have h := nd_pos h c5
    refine lv_tableIn (off := 65) (tgt := 66) hx hb dX4_reckoned_1 (by rw [c5]; decide) (by rw [c5]; decide) (by rw [c5]; decide) (by decide) ?_
    refine lv_iload_n hx hb dX4_reckoned_66 rfl (lv_at hl 1 rfl) ?_
    refine lv_iload_n hx hb dX4_reckoned_67 rfl (lv_at hl 2 rfl) ?_
    obtain ⟨q6, s7, hq, h⟩ := nd_b2_e h
    have hPc : va_P (dC, dI) vwCl (dw_P a ac ()) H := nd_p0
    have hDc : va_D A (dw_P a ac ()) := nd_d0
    have hKc : va_K (dC, dI) vwCl (dk_P ac) s := nd_y0 hK
    have hFc : ∀ q, va_A (dw_P a ac ()) H.size q → A q := nd_r0 hS hA
    refine nd_cSi (As := [.int v1, .int v2]) (rest := []) (q := q6) (w' := dw_P a ac s7) ⟨hx, hb, hml, hown, hts⟩ (fun sz => dm_J6_compareUnsigned_7cf53 l hlt dC dI a ac n (v1) (v2) () hq sz) (va_cwS 2 hts gi_dm_X4_reckoned_0 rfl rfl rfl (by decide +kernel) ⟨Nat.le_of_ble_eq_true rfl, Nat.le_of_ble_eq_true rfl⟩) hPc hDc hKc hS hA hN rfl hl.1 rfl (Nat.le_of_ble_eq_true rfl) dX4_reckoned_68 (fun H locs hP1 hD1 hk1 hS => ?_)
    have hP := nd_n0 hP hk1
    refine lv_if_ge (tgt := 78) hx hb dX4_reckoned_71 (by decide) (fun c9 => ?_) (fun c9 => ?_)
    · have h := nd_pos h c9
      refine lv_iconst (v := 0) hx hb dX4_reckoned_78 (by decide) ?_
      exact (db_X4_reckoned_79 C K) (0) s0 _ _ _ h hP hD hS (lv_sub hl [] rfl)
    · have h := nd_neg h c9
      refine lv_iconst (v := 1) hx hb dX4_reckoned_74 (by decide) ?_
      refine lv_goto (tgt := 79) hx hb dX4_reckoned_75 (by decide) ?_
      exact (db_X4_reckoned_79 C K) (1) s0 _ _ _ h hP hD hS (lv_sub hl [] rfl)
  have h := nd_neg h c5
  by_cases c10 : v0 = 4
  · have h := nd_pos h c10
    refine lv_tableIn (off := 79) (tgt := 80) hx hb dX4_reckoned_1 (by rw [c10]; decide) (by rw [c10]; decide) (by rw [c10]; decide) (by decide) ?_
    refine lv_iload_n hx hb dX4_reckoned_80 rfl (lv_at hl 1 rfl) ?_
    refine lv_iload_n hx hb dX4_reckoned_81 rfl (lv_at hl 2 rfl) ?_
    refine lv_ixor hx hb dX4_reckoned_82 ?_
    exact K _ _ _ _ _ _ dX4_reckoned_83 rfl (Option.some.inj h).symm hP hD hS
  have h := nd_neg h c10
  by_cases c11 : v0 = 5
  · have h := nd_pos h c11
    refine lv_tableIn (off := 83) (tgt := 84) hx hb dX4_reckoned_1 (by rw [c11]; decide) (by rw [c11]; decide) (by rw [c11]; decide) (by decide) ?_
    refine lv_iload_n hx hb dX4_reckoned_84 rfl (lv_at hl 1 rfl) ?_
    refine lv_iload_n hx hb dX4_reckoned_85 rfl (lv_at hl 2 rfl) ?_
    refine lv_bipush (v := 31) hx hb dX4_reckoned_86 (by decide) ?_
    refine lv_iand hx hb dX4_reckoned_88 ?_
    refine lv_iushr hx hb dX4_reckoned_89 rfl ?_
    exact K _ _ _ _ _ _ dX4_reckoned_90 rfl (Option.some.inj h).symm hP hD hS
  have h := nd_neg h c11
  by_cases c12 : v0 = 6
  · have h := nd_pos h c12
    refine lv_tableIn (off := 90) (tgt := 91) hx hb dX4_reckoned_1 (by rw [c12]; decide) (by rw [c12]; decide) (by rw [c12]; decide) (by decide) ?_
    refine lv_iload_n hx hb dX4_reckoned_91 rfl (lv_at hl 1 rfl) ?_
    refine lv_iload_n hx hb dX4_reckoned_92 rfl (lv_at hl 2 rfl) ?_
    refine lv_ior hx hb dX4_reckoned_93 ?_
    exact K _ _ _ _ _ _ dX4_reckoned_94 rfl (Option.some.inj h).symm hP hD hS
  have h := nd_neg h c12
  refine lv_tableOut (tgt := 95) hx hb dX4_reckoned_1 (by have g0 := nv_nei c1 (k := 0) (by decide); have g1 := nv_nei c2 (k := 1) (by decide); have g2 := nv_nei c3 (k := 2) (by decide); have g3 := nv_nei c5 (k := 3) (by decide); have g4 := nv_nei c10 (k := 4) (by decide); have g5 := nv_nei c11 (k := 5) (by decide); have g6 := nv_nei c12 (k := 6) (by decide); omega) (by decide) ?_
  refine lv_iload_n hx hb dX4_reckoned_95 rfl (lv_at hl 1 rfl) ?_
  refine lv_iload_n hx hb dX4_reckoned_96 rfl (lv_at hl 2 rfl) ?_
  refine lv_iand hx hb dX4_reckoned_97 ?_
  exact K _ _ _ _ _ _ dX4_reckoned_98 rfl (Option.some.inj h).symm hP hD hS
set_option maxHeartbeats 40000000 in
set_option maxRecDepth 100000 in
theorem dm_X4_reckoned (l : Launch) (hlt : l.stackTraces = false) (dC : Nat → ClassId) (dI : Nat → Nat → Nat) (a : Nat → Nat) (ac : Nat → ClassId) (n : Nat) (v0 : Int32) (v1 : Int32) (v2 : Int32) (s0 : Unit) {r : Int32 × (Unit)} (h : df_X4_reckoned n v0 v1 v2 s0 = some r) (sz : Nat) : Met l yX4_reckoned ow_dm_X4_reckoned ({ frames := 2, cells := 0, slots := 0, locals := 42 }) (va_Pc [.int v0, .int v1, .int v2] (fun U => U.heap.size = sz ∧ va_P (dC, dI) vwCl (dw_P a ac s0) U.heap ∧ va_K (dC, dI) vwCl (dk_P ac) U ∧ va_D (fun _ => True) (dw_P a ac s0) ∧ nv_E (va_A (dw_P a ac s0) sz) U)) (va_Qi (fun x _ => x = r.1) (fun (_ : Unit) t => va_P (dC, dI) vwCl (dw_P a ac r.2) t.heap ∧ va_K (dC, dI) vwCl (dk_P ac) t ∧ va_D (va_A (dw_P a ac s0) sz) (dw_P a ac r.2)) (va_A (dw_P a ac s0) sz)) 0 0 (va_A (dw_P a ac s0) sz) := by
  refine Met.ofW (cc := cX4_reckoned) (maxL := 3) (ret := (some .int)) (by decide) rfl ?_
  intro p e s m args below meth c s₁ B hml hv
  obtain ⟨rfl, hsz, hP, hK, hD0, hN⟩ := hv
  have hx := B.exec
  have hb := B.bytes
  have hr := B.returns
  have hts := atoms_spec (ws := ow_dm_X4_reckoned) B.pre
  have hown : s.vm.findClass RX4 = some m.cls := findClass_of_methodNamed B.named
  have hlocks := B.notSynchronized
  subst hsz
  have hD := hD0.self (sz := s.heap.size)
  generalize hAe : va_A (dw_P a ac s0) s.heap.size = A at hD hN ⊢
  have hA : ∀ q : Nat, s.heap.size ≤ q → A q := fun q h => by rw [← hAe]; exact Or.inr h
  have hl := lv_entry ([.int v0, .int v1, .int v2]) (n := 3) (Nat.le_of_ble_eq_true rfl)
  rw [lg_entry_eq]
  generalize (lg_sl ([.int v0, .int v1, .int v2]) ++ List.replicate (3 - (lg_sl ([.int v0, .int v1, .int v2])).length) Slot.unset).toArray = ls at hl ⊢
  have hl : lv_has ls 3 [(0, .int v0), (1, .int v1), (2, .int v2)] := hl
  exact db_X4_reckoned_0 (dC := dC) (dI := dI) (a := a) (ac := ac) (n := n) (r := r) ⟨hlt, hx, hb, hml, hown, hts, hN, hA, hK⟩ (fun pc v τ H locs ls d z er hP hD hS => by subst er; exact W.zret (v := v) hx hb hr z (fun t ht hW => ⟨⟨v, (), rfl, rfl, by rw [ht]; exact hP, va_K.moved hW.alike hK, hD⟩, hS.F ht⟩) hS.2.2 d) v0 v1 v2 s0 _ _ _ h hP hD va_S.rf (lv_sub hl [0, 1, 2] rfl)
def ow_dm_X4_workWithNumber : List Cond := .code yX4_workWithNumber cX4_workWithNumber 6 (some .int) :: ([.methodLink RX4 113 yX4_reckoned, .static yX4_reckoned, .initialized RX4, .methodLink RX4 52 yX4_set, .instanceMethod yX4_set, .selects RX4 yX4_set yX4_set] ++ (ow_dm_X4_reckoned ++ (ow_dm_X4_set ++ [])))
theorem gd_dm_X4_workWithNumber : ∀ w ∈ ow_dm_X4_workWithNumber, (w.onTables && w.keeps) = true ∨ ∃ ty, w = Cond.arrayClass ty := List.forall_mem_cons.mpr ⟨good_of_word rfl, List.forall_mem_append.mpr ⟨fun w h => good_of_word (List.all_eq_true.mp (by decide +kernel) w h), List.forall_mem_append.mpr ⟨gd_dm_X4_reckoned, List.forall_mem_append.mpr ⟨gd_dm_X4_set, fun _ h => nomatch h⟩⟩⟩⟩
theorem gi_dm_X4_workWithNumber_0 : GoodIn ow_dm_X4_workWithNumber (wsS RX4 113 yX4_reckoned ow_dm_X4_reckoned) := goodIn_app (goodIn_of _ (by decide +kernel)) (fun w h => ⟨List.mem_cons_of_mem _ (List.mem_append_right _ (List.mem_append_left _ h)), gd_dm_X4_reckoned w h⟩)
theorem gi_dm_X4_workWithNumber_1 : GoodIn ow_dm_X4_workWithNumber (wsV RX4 52 RX4 yX4_set ow_dm_X4_set) := goodIn_app (goodIn_of _ (by decide +kernel)) (fun w h => ⟨List.mem_cons_of_mem _ (List.mem_append_right _ (List.mem_append_right _ (List.mem_append_left _ h))), gd_dm_X4_set w h⟩)
def dj_X4_workWithNumber_72 (p : Program) (l : Launch) (e : Env) (s : State) (m : MethodId) (args : Array Value) (below : List Frame) (meth : Method) (c : Code) (Q : State → Prop) (A : Nat → Prop) (dC : Nat → ClassId) (dI : Nat → Nat → Nat) (a : Nat → Nat) (ac : Nat → ClassId) (g : Int32 → Int32 → (St × (St × (St))) → Option (Int32 × (St × (St × (St))))) (r : Int32 × (St × (St × (St)))) : Prop := ∀ (y1 : Int32) (y2 : Int32) (s0 : St × (St × (St))) (H : Heap) (locs : List Loc) (ls : Array Slot), g y1 y2 s0 = some r → va_P (dC, dI) vwCl (dw_X4 a ac s0) H → va_D A (dw_X4 a ac s0) → va_S A s.heap H locs → lv_has ls 6 [] → W p l e (headSpec ow_dm_X4_workWithNumber ({ frames := 3, cells := 0, slots := 0, locals := 64 })).room s m args below meth c H locs 0 0 Q (F0 m 72 ls [.int y2, .int y1, .ref (a 0)])
def dj_X4_workWithNumber_65 (p : Program) (l : Launch) (e : Env) (s : State) (m : MethodId) (args : Array Value) (below : List Frame) (meth : Method) (c : Code) (Q : State → Prop) (A : Nat → Prop) (dC : Nat → ClassId) (dI : Nat → Nat → Nat) (a : Nat → Nat) (ac : Nat → ClassId) (g : Int32 → Int32 → Int32 → Int32 → (St × (St × (St))) → Option (Int32 × (St × (St × (St))))) (r : Int32 × (St × (St × (St)))) : Prop := ∀ (x2 : Int32) (x3 : Int32) (x4 : Int32) (y1 : Int32) (s0 : St × (St × (St))) (H : Heap) (locs : List Loc) (ls : Array Slot), g x2 x3 x4 y1 s0 = some r → va_P (dC, dI) vwCl (dw_X4 a ac s0) H → va_D A (dw_X4 a ac s0) → va_S A s.heap H locs → lv_has ls 6 [(2, .int x2), (3, .int x3), (4, .int x4)] → W p l e (headSpec ow_dm_X4_workWithNumber ({ frames := 3, cells := 0, slots := 0, locals := 64 })).room s m args below meth c H locs 0 0 Q (F0 m 65 ls [.int y1, .ref (a 0)])
def dj_X4_workWithNumber_41 (p : Program) (l : Launch) (e : Env) (s : State) (m : MethodId) (args : Array Value) (below : List Frame) (meth : Method) (c : Code) (Q : State → Prop) (A : Nat → Prop) (dC : Nat → ClassId) (dI : Nat → Nat → Nat) (a : Nat → Nat) (ac : Nat → ClassId) (g : Int32 → Int32 → Int32 → Int32 → Int32 → (St × (St × (St))) → Option (Int32 × (St × (St × (St))))) (r : Int32 × (St × (St × (St)))) : Prop := ∀ (x1 : Int32) (x2 : Int32) (x3 : Int32) (x4 : Int32) (x5 : Int32) (s0 : St × (St × (St))) (H : Heap) (locs : List Loc) (ls : Array Slot), g x1 x2 x3 x4 x5 s0 = some r → va_P (dC, dI) vwCl (dw_X4 a ac s0) H → va_D A (dw_X4 a ac s0) → va_S A s.heap H locs → lv_has ls 6 [(0, .ref (a 0)), (1, .int x1), (2, .int x2), (3, .int x3), (4, .int x4), (5, .int x5)] → W p l e (headSpec ow_dm_X4_workWithNumber ({ frames := 3, cells := 0, slots := 0, locals := 64 })).room s m args below meth c H locs 0 0 Q (F0 m 41 ls [])
def dj_X4_workWithNumber_39 (p : Program) (l : Launch) (e : Env) (s : State) (m : MethodId) (args : Array Value) (below : List Frame) (meth : Method) (c : Code) (Q : State → Prop) (A : Nat → Prop) (dC : Nat → ClassId) (dI : Nat → Nat → Nat) (a : Nat → Nat) (ac : Nat → ClassId) (g : (St × (St × (St))) → Option (Int32 × (St × (St × (St))))) (r : Int32 × (St × (St × (St)))) : Prop := ∀ (s0 : St × (St × (St))) (H : Heap) (locs : List Loc) (ls : Array Slot), g s0 = some r → va_P (dC, dI) vwCl (dw_X4 a ac s0) H → va_D A (dw_X4 a ac s0) → va_S A s.heap H locs → lv_has ls 6 [] → W p l e (headSpec ow_dm_X4_workWithNumber ({ frames := 3, cells := 0, slots := 0, locals := 64 })).room s m args below meth c H locs 0 0 Q (F0 m 39 ls [])
def dj_X4_workWithNumber_22 (p : Program) (l : Launch) (e : Env) (s : State) (m : MethodId) (args : Array Value) (below : List Frame) (meth : Method) (c : Code) (Q : State → Prop) (A : Nat → Prop) (dC : Nat → ClassId) (dI : Nat → Nat → Nat) (a : Nat → Nat) (ac : Nat → ClassId) (g : Int32 → Int32 → Int32 → Int32 → Int32 → (St × (St × (St))) → Option (Int32 × (St × (St × (St))))) (r : Int32 × (St × (St × (St)))) : Prop := ∀ (x1 : Int32) (x2 : Int32) (x3 : Int32) (x4 : Int32) (x5 : Int32) (s0 : St × (St × (St))) (H : Heap) (locs : List Loc) (ls : Array Slot), g x1 x2 x3 x4 x5 s0 = some r → va_P (dC, dI) vwCl (dw_X4 a ac s0) H → va_D A (dw_X4 a ac s0) → va_S A s.heap H locs → lv_has ls 6 [(0, .ref (a 0)), (1, .int x1), (2, .int x2), (3, .int x3), (4, .int x4), (5, .int x5)] → W p l e (headSpec ow_dm_X4_workWithNumber ({ frames := 3, cells := 0, slots := 0, locals := 64 })).room s m args below meth c H locs 0 0 Q (F0 m 22 ls [])
def dj_X4_workWithNumber_0 (p : Program) (l : Launch) (e : Env) (s : State) (m : MethodId) (args : Array Value) (below : List Frame) (meth : Method) (c : Code) (Q : State → Prop) (A : Nat → Prop) (dC : Nat → ClassId) (dI : Nat → Nat → Nat) (a : Nat → Nat) (ac : Nat → ClassId) (g : Int32 → Int32 → Int32 → (St × (St × (St))) → Option (Int32 × (St × (St × (St))))) (r : Int32 × (St × (St × (St)))) : Prop := ∀ (v0 : Int32) (v1 : Int32) (v2 : Int32) (s0 : St × (St × (St))) (H : Heap) (locs : List Loc) (ls : Array Slot), g v0 v1 v2 s0 = some r → va_P (dC, dI) vwCl (dw_X4 a ac s0) H → va_D A (dw_X4 a ac s0) → va_S A s.heap H locs → lv_has ls 6 [(0, .ref (a 0)), (1, .int v0), (2, .int v1), (3, .int v2)] → W p l e (headSpec ow_dm_X4_workWithNumber ({ frames := 3, cells := 0, slots := 0, locals := 64 })).room s m args below meth c H locs 0 0 Q (F0 m 0 ls [])
set_option maxHeartbeats 40000000 in
set_option maxRecDepth 100000 in
theorem db_X4_workWithNumber_72 {p : Program} {l : Launch} {e : Env} {s : State} {m : MethodId} {args : Array Value} {below : List Frame} {meth : Method} {c : Code} {Q : State → Prop} {A : Nat → Prop} {dC : Nat → ClassId} {dI : Nat → Nat → Nat} {a : Nat → Nat} {ac : Nat → ClassId} {n : Nat} {r : Int32 × (St × (St × (St)))} (C : nd_C p l s m args c A (dC, dI) cX4_workWithNumber 6 RX4 ow_dm_X4_workWithNumber (dk_X4 ac)) (K : nd_Ki p l e (headSpec ow_dm_X4_workWithNumber ({ frames := 3, cells := 0, slots := 0, locals := 64 })).room s m args below meth c Q A (dC, dI) cX4_workWithNumber .int (St × (St × (St))) (dw_X4 a ac) r) : dj_X4_workWithNumber_72 p l e s m args below meth c Q A dC dI a ac (df_X4_workWithNumber_72 n) r := by
  obtain ⟨hlt, hx, hb, hml, hown, hts, hN, hA, hK⟩ := id C
  intro y1 y2 s0 H locs ls h hP hD hS hl
  unfold df_X4_workWithNumber_72 at h
  obtain ⟨s10, hq, h⟩ := nd_b1_e h
  have hPc := hP
  have hDc := hD
  have hKc := hK
  have hFc := nd_rs hD hS hA
  refine nd_cVv (As := [.int y1, .int y2]) (rest := []) (w' := dw_X4 a ac s10) ⟨hx, hb, hml, hown, hts⟩ (fun sz => dm_X4_set l hlt dC dI a ac n (y1) (y2) s0 hq sz) (cwV 2 hts gi_dm_X4_workWithNumber_1 rfl rfl rfl (by decide +kernel) ⟨Nat.le_of_ble_eq_true rfl, Nat.le_of_ble_eq_true rfl⟩) hPc hDc hKc hS hA hN (va_recv hKc hPc (ci := 5) (q0 := 0) rfl rfl) rfl hl.1 rfl (Nat.le_of_ble_eq_true rfl) dX4_workWithNumber_72 (fun H locs hP1 hD1 hk1 hS => ?_)
  have hP := hP1
  have hD := hD1.weaken (fun k q _ h => hFc q.1 h)
  refine lv_iconst (v := 0) hx hb dX4_workWithNumber_75 (by decide) ?_
  exact K _ _ _ _ _ _ dX4_workWithNumber_76 rfl (Option.some.inj h).symm hP hD hS
set_option maxHeartbeats 40000000 in
set_option maxRecDepth 100000 in
theorem db_X4_workWithNumber_65 {p : Program} {l : Launch} {e : Env} {s : State} {m : MethodId} {args : Array Value} {below : List Frame} {meth : Method} {c : Code} {Q : State → Prop} {A : Nat → Prop} {dC : Nat → ClassId} {dI : Nat → Nat → Nat} {a : Nat → Nat} {ac : Nat → ClassId} {n : Nat} {r : Int32 × (St × (St × (St)))} (C : nd_C p l s m args c A (dC, dI) cX4_workWithNumber 6 RX4 ow_dm_X4_workWithNumber (dk_X4 ac)) (K : nd_Ki p l e (headSpec ow_dm_X4_workWithNumber ({ frames := 3, cells := 0, slots := 0, locals := 64 })).room s m args below meth c Q A (dC, dI) cX4_workWithNumber .int (St × (St × (St))) (dw_X4 a ac) r) : dj_X4_workWithNumber_65 p l e s m args below meth c Q A dC dI a ac (df_X4_workWithNumber_65 n) r := by
  obtain ⟨hlt, hx, hb, hml, hown, hts, hN, hA, hK⟩ := id C
  intro x2 x3 x4 y1 s0 H locs ls h hP hD hS hl
  unfold df_X4_workWithNumber_65 at h
  refine lv_iload_n hx hb dX4_workWithNumber_65 rfl (lv_at hl 0 rfl) ?_
  refine lv_iload_n hx hb dX4_workWithNumber_66 rfl (lv_at hl 1 rfl) ?_
  refine lv_iload hx hb dX4_workWithNumber_67 (lv_at hl 2 rfl) ?_
  obtain ⟨q6, s7, hq, h⟩ := nd_b2_e h
  have hPc : va_P (dC, dI) vwCl (dw_P a ac ()) H := nd_p0
  have hDc : va_D A (dw_P a ac ()) := nd_d0
  have hKc : va_K (dC, dI) vwCl (dk_P ac) s := nd_y0 hK
  have hFc : ∀ q, va_A (dw_P a ac ()) H.size q → A q := nd_r0 hS hA
  refine nd_cSi (As := [.int x2, .int x3, .int x4]) (rest := [.int y1, .ref (a 0)]) (q := q6) (w' := dw_P a ac s7) ⟨hx, hb, hml, hown, hts⟩ (fun sz => dm_X4_reckoned l hlt dC dI a ac n (x2) (x3) (x4) () hq sz) (cwS 3 hts gi_dm_X4_workWithNumber_0 rfl rfl rfl (by decide +kernel) ⟨Nat.le_of_ble_eq_true rfl, Nat.le_of_ble_eq_true rfl⟩) hPc hDc hKc hS hA hN rfl hl.1 rfl (Nat.le_of_ble_eq_true rfl) dX4_workWithNumber_69 (fun H locs hP1 hD1 hk1 hS => ?_)
  have hP := nd_n0 hP hk1
  exact (db_X4_workWithNumber_72 C K) (y1) (q6) s0 _ _ _ h hP hD hS (lv_sub hl [] rfl)
set_option maxHeartbeats 40000000 in
set_option maxRecDepth 100000 in
theorem db_X4_workWithNumber_41 {p : Program} {l : Launch} {e : Env} {s : State} {m : MethodId} {args : Array Value} {below : List Frame} {meth : Method} {c : Code} {Q : State → Prop} {A : Nat → Prop} {dC : Nat → ClassId} {dI : Nat → Nat → Nat} {a : Nat → Nat} {ac : Nat → ClassId} {n : Nat} {r : Int32 × (St × (St × (St)))} (C : nd_C p l s m args c A (dC, dI) cX4_workWithNumber 6 RX4 ow_dm_X4_workWithNumber (dk_X4 ac)) (K : nd_Ki p l e (headSpec ow_dm_X4_workWithNumber ({ frames := 3, cells := 0, slots := 0, locals := 64 })).room s m args below meth c Q A (dC, dI) cX4_workWithNumber .int (St × (St × (St))) (dw_X4 a ac) r) : dj_X4_workWithNumber_41 p l e s m args below meth c Q A dC dI a ac (df_X4_workWithNumber_41 n) r := by
  obtain ⟨hlt, hx, hb, hml, hown, hts, hN, hA, hK⟩ := id C
  intro x1 x2 x3 x4 x5 s0 H locs ls h hP hD hS hl
  unfold df_X4_workWithNumber_41 at h
  refine lv_aload_n hx hb dX4_workWithNumber_41 rfl (lv_at hl 0 rfl) ?_
  refine lv_iload_n hx hb dX4_workWithNumber_42 rfl (lv_at hl 1 rfl) ?_
  refine lv_iload_n hx hb dX4_workWithNumber_43 rfl (lv_at hl 2 rfl) ?_
  refine lv_iconst (v := 5) hx hb dX4_workWithNumber_44 (by decide) ?_
  refine lv_icmp_ne (tgt := 65) hx hb dX4_workWithNumber_45 (by decide) (fun c5 => ?_) (fun c5 => ?_)
  · have h := nd_neg h c5
    exact (db_X4_workWithNumber_65 C K) (x2) (x3) (x4) (x1) s0 _ _ _ h hP hD hS (lv_sub hl [2, 3, 4] rfl)
  · have h := nd_pos h c5
    refine lv_iload hx hb dX4_workWithNumber_48 (lv_at hl 5 rfl) ?_
    refine lv_bipush (v := 32) hx hb dX4_workWithNumber_50 (by decide) ?_
    refine lv_icmp_ne (tgt := 65) hx hb dX4_workWithNumber_52 (by decide) (fun c12 => ?_) (fun c12 => ?_)
    · have h := nd_neg h c12
      exact (db_X4_workWithNumber_65 C K) (x2) (x3) (x4) (x1) s0 _ _ _ h hP hD hS (lv_sub hl [2, 3, 4] rfl)
    · have h := nd_pos h c12
      refine lv_iload_n hx hb dX4_workWithNumber_55 rfl (lv_at hl 3 rfl) ?_
      refine lv_iload hx hb dX4_workWithNumber_56 (lv_at hl 4 rfl) ?_
      refine lv_bipush (v := 31) hx hb dX4_workWithNumber_58 (by decide) ?_
      refine lv_iand hx hb dX4_workWithNumber_60 ?_
      refine lv_ishr hx hb dX4_workWithNumber_61 ?_
      refine lv_goto (tgt := 72) hx hb dX4_workWithNumber_62 (by decide) ?_
      exact (db_X4_workWithNumber_72 C K) (x1) (((x3 : Int32) >>> (((x4 &&& 31) : Int32) &&& 31))) s0 _ _ _ h hP hD hS (lv_sub hl [] rfl)
set_option maxHeartbeats 40000000 in
set_option maxRecDepth 100000 in
theorem db_X4_workWithNumber_39 {p : Program} {l : Launch} {e : Env} {s : State} {m : MethodId} {args : Array Value} {below : List Frame} {meth : Method} {c : Code} {Q : State → Prop} {A : Nat → Prop} {dC : Nat → ClassId} {dI : Nat → Nat → Nat} {a : Nat → Nat} {ac : Nat → ClassId} {n : Nat} {r : Int32 × (St × (St × (St)))} (C : nd_C p l s m args c A (dC, dI) cX4_workWithNumber 6 RX4 ow_dm_X4_workWithNumber (dk_X4 ac)) (K : nd_Ki p l e (headSpec ow_dm_X4_workWithNumber ({ frames := 3, cells := 0, slots := 0, locals := 64 })).room s m args below meth c Q A (dC, dI) cX4_workWithNumber .int (St × (St × (St))) (dw_X4 a ac) r) : dj_X4_workWithNumber_39 p l e s m args below meth c Q A dC dI a ac (df_X4_workWithNumber_39 n) r := by
  obtain ⟨hlt, hx, hb, hml, hown, hts, hN, hA, hK⟩ := id C
  intro s0 H locs ls h hP hD hS hl
  unfold df_X4_workWithNumber_39 at h
  refine lv_iconst (v := 4) hx hb dX4_workWithNumber_39 (by decide) ?_
  exact K _ _ _ _ _ _ dX4_workWithNumber_40 rfl (Option.some.inj h).symm hP hD hS
set_option maxHeartbeats 40000000 in
set_option maxRecDepth 100000 in
theorem db_X4_workWithNumber_22 {p : Program} {l : Launch} {e : Env} {s : State} {m : MethodId} {args : Array Value} {below : List Frame} {meth : Method} {c : Code} {Q : State → Prop} {A : Nat → Prop} {dC : Nat → ClassId} {dI : Nat → Nat → Nat} {a : Nat → Nat} {ac : Nat → ClassId} {n : Nat} {r : Int32 × (St × (St × (St)))} (C : nd_C p l s m args c A (dC, dI) cX4_workWithNumber 6 RX4 ow_dm_X4_workWithNumber (dk_X4 ac)) (K : nd_Ki p l e (headSpec ow_dm_X4_workWithNumber ({ frames := 3, cells := 0, slots := 0, locals := 64 })).room s m args below meth c Q A (dC, dI) cX4_workWithNumber .int (St × (St × (St))) (dw_X4 a ac) r) : dj_X4_workWithNumber_22 p l e s m args below meth c Q A dC dI a ac (df_X4_workWithNumber_22 n) r := by
  obtain ⟨hlt, hx, hb, hml, hown, hts, hN, hA, hK⟩ := id C
  intro x1 x2 x3 x4 x5 s0 H locs ls h hP hD hS hl
  unfold df_X4_workWithNumber_22 at h
  refine lv_iload_n hx hb dX4_workWithNumber_22 rfl (lv_at hl 2 rfl) ?_
  refine lv_iconst (v := 5) hx hb dX4_workWithNumber_23 (by decide) ?_
  refine lv_icmp_ne (tgt := 41) hx hb dX4_workWithNumber_24 (by decide) (fun c4 => ?_) (fun c4 => ?_)
  · have h := nd_neg h c4
    exact (db_X4_workWithNumber_41 C K) (x1) (x2) (x3) (x4) (x5) s0 _ _ _ h hP hD hS (lv_sub hl [0, 1, 2, 3, 4, 5] rfl)
  · have h := nd_pos h c4
    refine lv_iload hx hb dX4_workWithNumber_27 (lv_at hl 5 rfl) ?_
    refine lv_if_eq (tgt := 41) hx hb dX4_workWithNumber_29 (by decide) (fun c13 => ?_) (fun c13 => ?_)
    · have h := nd_pos h c13
      exact (db_X4_workWithNumber_41 C K) (x1) (x2) (x3) (x4) (x5) s0 _ _ _ h hP hD hS (lv_sub hl [0, 1, 2, 3, 4, 5] rfl)
    · have h := nd_neg h c13
      refine lv_iload hx hb dX4_workWithNumber_32 (lv_at hl 5 rfl) ?_
      refine lv_bipush (v := 32) hx hb dX4_workWithNumber_34 (by decide) ?_
      refine lv_icmp_eq (tgt := 41) hx hb dX4_workWithNumber_36 (by decide) (fun c14 => ?_) (fun c14 => ?_)
      · have h := nd_pos h c14
        exact (db_X4_workWithNumber_41 C K) (x1) (x2) (x3) (x4) (x5) s0 _ _ _ h hP hD hS (lv_sub hl [0, 1, 2, 3, 4, 5] rfl)
      · have h := nd_neg h c14
        exact (db_X4_workWithNumber_39 C K)  s0 _ _ _ h hP hD hS (lv_sub hl [] rfl)
set_option maxHeartbeats 40000000 in
set_option maxRecDepth 100000 in
theorem db_X4_workWithNumber_0 {p : Program} {l : Launch} {e : Env} {s : State} {m : MethodId} {args : Array Value} {below : List Frame} {meth : Method} {c : Code} {Q : State → Prop} {A : Nat → Prop} {dC : Nat → ClassId} {dI : Nat → Nat → Nat} {a : Nat → Nat} {ac : Nat → ClassId} {n : Nat} {r : Int32 × (St × (St × (St)))} (C : nd_C p l s m args c A (dC, dI) cX4_workWithNumber 6 RX4 ow_dm_X4_workWithNumber (dk_X4 ac)) (K : nd_Ki p l e (headSpec ow_dm_X4_workWithNumber ({ frames := 3, cells := 0, slots := 0, locals := 64 })).room s m args below meth c Q A (dC, dI) cX4_workWithNumber .int (St × (St × (St))) (dw_X4 a ac) r) : dj_X4_workWithNumber_0 p l e s m args below meth c Q A dC dI a ac (df_X4_workWithNumber_0 n) r := by
  obtain ⟨hlt, hx, hb, hml, hown, hts, hN, hA, hK⟩ := id C
  intro v0 v1 v2 s0 H locs ls h hP hD hS hl
  unfold df_X4_workWithNumber_0 at h
  refine lv_iload_n hx hb dX4_workWithNumber_0 rfl (lv_at hl 1 rfl) ?_
  refine lv_bipush (v := 20) hx hb dX4_workWithNumber_1 (by decide) ?_
  refine lv_ishr hx hb dX4_workWithNumber_3 ?_
  refine lv_topi (fun z1 ez1 => ?_)
  have h := nd_at h ez1
  refine lv_istore (lv' := [(4, .int z1), (0, .ref (a 0)), (1, .int v0), (2, .int v1), (3, .int v2)]) hx hb dX4_workWithNumber_4 hl (by decide) rfl (fun ls hl => ?_)
  refine lv_iload_n hx hb dX4_workWithNumber_6 rfl (lv_at hl 2 rfl) ?_
  refine lv_bipush (v := 25) hx hb dX4_workWithNumber_7 (by decide) ?_
  refine lv_iushr hx hb dX4_workWithNumber_9 rfl ?_
  refine lv_topi (fun z2 ez2 => ?_)
  have h := nd_at h ez2
  refine lv_istore (lv' := [(5, .int z2), (4, .int z1), (0, .ref (a 0)), (1, .int v0), (2, .int v1), (3, .int v2)]) hx hb dX4_workWithNumber_10 hl (by decide) rfl (fun ls hl => ?_)
  refine lv_iload_n hx hb dX4_workWithNumber_12 rfl (lv_at hl 4 rfl) ?_
  refine lv_iconst (v := 1) hx hb dX4_workWithNumber_13 (by decide) ?_
  refine lv_icmp_ne (tgt := 22) hx hb dX4_workWithNumber_14 (by decide) (fun c3 => ?_) (fun c3 => ?_)
  · have h := nd_neg h c3
    exact (db_X4_workWithNumber_22 C K) (v0) (v1) (v2) (z1) (z2) s0 _ _ _ h hP hD hS (lv_sub hl [2, 3, 4, 5, 1, 0] rfl)
  · have h := nd_pos h c3
    refine lv_iload hx hb dX4_workWithNumber_17 (lv_at hl 0 rfl) ?_
    refine lv_if_ne (tgt := 39) hx hb dX4_workWithNumber_19 (by decide) (fun c15 => ?_) (fun c15 => ?_)
    · have h := nd_neg h c15
      exact (db_X4_workWithNumber_39 C K)  s0 _ _ _ h hP hD hS (lv_sub hl [] rfl)
    · have h := nd_pos h c15
      exact (db_X4_workWithNumber_22 C K) (v0) (v1) (v2) (z1) (z2) s0 _ _ _ h hP hD hS (lv_sub hl [2, 3, 4, 5, 1, 0] rfl)
set_option maxHeartbeats 40000000 in
set_option maxRecDepth 100000 in
theorem dm_X4_workWithNumber (l : Launch) (hlt : l.stackTraces = false) (dC : Nat → ClassId) (dI : Nat → Nat → Nat) (a : Nat → Nat) (ac : Nat → ClassId) (n : Nat) (v0 : Int32) (v1 : Int32) (v2 : Int32) (s0 : St × (St × (St))) {r : Int32 × (St × (St × (St)))} (h : df_X4_workWithNumber n v0 v1 v2 s0 = some r) (sz : Nat) : Met l yX4_workWithNumber ow_dm_X4_workWithNumber ({ frames := 3, cells := 0, slots := 0, locals := 64 }) (va_Pc [.ref (a 0), .int v0, .int v1, .int v2] (fun U => U.heap.size = sz ∧ va_P (dC, dI) vwCl (dw_X4 a ac s0) U.heap ∧ va_K (dC, dI) vwCl (dk_X4 ac) U ∧ va_D (fun _ => True) (dw_X4 a ac s0) ∧ nv_E (va_A (dw_X4 a ac s0) sz) U)) (va_Qi (fun x _ => x = r.1) (fun (_ : Unit) t => va_P (dC, dI) vwCl (dw_X4 a ac r.2) t.heap ∧ va_K (dC, dI) vwCl (dk_X4 ac) t ∧ va_D (va_A (dw_X4 a ac s0) sz) (dw_X4 a ac r.2)) (va_A (dw_X4 a ac s0) sz)) 0 0 (va_A (dw_X4 a ac s0) sz) := by
  refine Met.ofW (cc := cX4_workWithNumber) (maxL := 6) (ret := (some .int)) (by decide) rfl ?_
  intro p e s m args below meth c s₁ B hml hv
  obtain ⟨rfl, hsz, hP, hK, hD0, hN⟩ := hv
  have hx := B.exec
  have hb := B.bytes
  have hr := B.returns
  have hts := atoms_spec (ws := ow_dm_X4_workWithNumber) B.pre
  have hown : s.vm.findClass RX4 = some m.cls := findClass_of_methodNamed B.named
  have hlocks := B.notSynchronized
  subst hsz
  have hD := hD0.self (sz := s.heap.size)
  generalize hAe : va_A (dw_X4 a ac s0) s.heap.size = A at hD hN ⊢
  have hA : ∀ q : Nat, s.heap.size ≤ q → A q := fun q h => by rw [← hAe]; exact Or.inr h
  have hl := lv_entry ([.ref (a 0), .int v0, .int v1, .int v2]) (n := 6) (Nat.le_of_ble_eq_true rfl)
  rw [lg_entry_eq]
  generalize (lg_sl ([.ref (a 0), .int v0, .int v1, .int v2]) ++ List.replicate (6 - (lg_sl ([.ref (a 0), .int v0, .int v1, .int v2])).length) Slot.unset).toArray = ls at hl ⊢
  have hl : lv_has ls 6 [(0, .ref (a 0)), (1, .int v0), (2, .int v1), (3, .int v2)] := hl
  exact db_X4_workWithNumber_0 (dC := dC) (dI := dI) (a := a) (ac := ac) (n := n) (r := r) ⟨hlt, hx, hb, hml, hown, hts, hN, hA, hK⟩ (fun pc v τ H locs ls d z er hP hD hS => by subst er; exact W.zret (v := v) hx hb hr z (fun t ht hW => ⟨⟨v, (), rfl, rfl, by rw [ht]; exact hP, va_K.moved hW.alike hK, hD⟩, hS.F ht⟩) hS.2.2 d) v0 v1 v2 s0 _ _ _ h hP hD va_S.rf (lv_sub hl [0, 1, 2, 3] rfl)
def ow_dm_X6_own : List Cond := .code yX6_own cX6_own 6 (some .boolean) :: ([.fieldLink RX6 17 "TimeMachine$Machine" "page" "[I", .fieldLink RX6 14 "TimeMachine$Machine" "users" "[I", .fieldLink RX6 10 "TimeMachine$Machine" "word" "[I", .methodLink RX6 95 arraycopyName, .native arraycopyName, .static arraycopyName, .initialized "java/lang/System", .fieldLink RX6 52 "TimeMachine$Machine" "framesUsed" "I"] ++ (u_ws RX6 TX6 20 ++ []))
theorem gd_dm_X6_own : ∀ w ∈ ow_dm_X6_own, (w.onTables && w.keeps) = true ∨ ∃ ty, w = Cond.arrayClass ty := List.forall_mem_cons.mpr ⟨good_of_word rfl, List.forall_mem_append.mpr ⟨fun w h => good_of_word (List.all_eq_true.mp (by decide +kernel) w h), List.forall_mem_append.mpr ⟨gu_X6, fun _ h => nomatch h⟩⟩⟩
theorem hi_dm_X6_own_X6 : ∀ w ∈ u_ws RX6 TX6 20, w ∈ ow_dm_X6_own := fun w h => List.mem_cons_of_mem _ (List.mem_append_right _ (List.mem_append_left _ h))
def dj_X6_own_39 (p : Program) (l : Launch) (e : Env) (s : State) (m : MethodId) (args : Array Value) (below : List Frame) (meth : Method) (c : Code) (Q : State → Prop) (A : Nat → Prop) (dC : Nat → ClassId) (dI : Nat → Nat → Nat) (a : Nat → Nat) (ac : Nat → ClassId) (g : Int32 → Int32 → Int32 → (St × (St)) → Option (Int32 × (St × (St)))) (r : Int32 × (St × (St))) : Prop := ∀ (x3 : Int32) (x4 : Int32) (x5 : Int32) (s0 : St × (St)) (H : Heap) (locs : List Loc) (ls : Array Slot), g x3 x4 x5 s0 = some r → va_P (dC, dI) vwCl (dw_X6 a ac s0) H → va_D A (dw_X6 a ac s0) → va_S A s.heap H locs → lv_has ls 6 [(0, .ref (a 0)), (3, .int x3), (4, .int x4), (5, .int x5)] → W p l e (headSpec ow_dm_X6_own ({ frames := 1, cells := 0, slots := 0, locals := 40 })).room s m args below meth c H locs 0 0 Q (F0 m 39 ls [])
def dj_X6_own_0 (p : Program) (l : Launch) (e : Env) (s : State) (m : MethodId) (args : Array Value) (below : List Frame) (meth : Method) (c : Code) (Q : State → Prop) (A : Nat → Prop) (dC : Nat → ClassId) (dI : Nat → Nat → Nat) (a : Nat → Nat) (ac : Nat → ClassId) (g : Int32 → Int32 → (St × (St)) → Option (Int32 × (St × (St)))) (r : Int32 × (St × (St))) : Prop := ∀ (v0 : Int32) (v1 : Int32) (s0 : St × (St)) (H : Heap) (locs : List Loc) (ls : Array Slot), g v0 v1 s0 = some r → va_P (dC, dI) vwCl (dw_X6 a ac s0) H → va_D A (dw_X6 a ac s0) → va_S A s.heap H locs → lv_has ls 6 [(0, .ref (a 0)), (1, .int v0), (2, .int v1)] → W p l e (headSpec ow_dm_X6_own ({ frames := 1, cells := 0, slots := 0, locals := 40 })).room s m args below meth c H locs 0 0 Q (F0 m 0 ls [])
set_option maxHeartbeats 40000000 in
set_option maxRecDepth 100000 in
theorem dB_X6_own_39 {p : Program} {l : Launch} {e : Env} {s : State} {m : MethodId} {args : Array Value} {below : List Frame} {meth : Method} {c : Code} {Q : State → Prop} {A : Nat → Prop} {dC : Nat → ClassId} {dI : Nat → Nat → Nat} {a : Nat → Nat} {ac : Nat → ClassId} {n : Nat} {r : Int32 × (St × (St))} (C : nd_C p l s m args c A (dC, dI) cX6_own 6 RX6 ow_dm_X6_own (dk_X6 ac)) (K : nd_Ki p l e (headSpec ow_dm_X6_own ({ frames := 1, cells := 0, slots := 0, locals := 40 })).room s m args below meth c Q A (dC, dI) cX6_own .boolean (St × (St)) (dw_X6 a ac) r) {g39 : Int32 → Int32 → Int32 → (St × (St)) → Option (Int32 × (St × (St)))} (J39 : dj_X6_own_39 p l e s m args below meth c Q A dC dI a ac g39 r) : dj_X6_own_39 p l e s m args below meth c Q A dC dI a ac (dF_X6_own_39 n g39) r := by
  obtain ⟨hlt, hx, hb, hml, hown, hts, hN, hA, hK⟩ := id C
  intro x3 x4 x5 s0 H locs ls h hP hD hS hl
  unfold dF_X6_own_39 at h
  refine lv_iload hx hb dX6_own_39 (lv_at hl 3 rfl) ?_
  refine lv_sipush (v := 256) hx hb dX6_own_41 (by decide) ?_
  refine lv_icmp_ge (tgt := 140) hx hb dX6_own_44 (by decide) (fun c6 => ?_) (fun c6 => ?_)
  · have h := nd_pos h c6
    refine lv_iconst (v := 0) hx hb dX6_own_140 (by decide) ?_
    exact K _ _ _ _ _ _ dX6_own_141 (by first | rfl | decide) (Option.some.inj h).symm hP hD hS
  · have h := nd_neg h c6
    refine lv_aload_n hx hb dX6_own_47 rfl (lv_at hl 0 rfl) ?_
    refine va_get (D := (dC, dI)) (ci := 7) (v := .ref (a 2)) (C := RX6) (T := TX6) (N := 20) hx hb hts hi_dm_X6_own_X6 hown hK hP 0 rfl rfl 1 (by decide) (hts (.fieldLink RX6 14 "TimeMachine$Machine" "users" "[I") (List.mem_of_getElem? (i := 2) rfl)) (fun _ h9 => h9) rfl dX6_own_48 ?_
    refine lv_iload hx hb dX6_own_51 (lv_at hl 3 rfl) ?_
    obtain ⟨i7, h⟩ := nd_ck_e h
    refine va_iald (i := x5) hx hb hK hP 2 1 rfl rfl i7 dX6_own_53 ?_
    refine lv_if_ne (tgt := 134) hx hb dX6_own_54 (by decide) (fun c8 => ?_) (fun c8 => ?_)
    · have h := nd_neg h c8
      obtain ⟨z9, ez9, h⟩ := nd_let_e h
      refine lv_iinc (v := z9) (lv' := [(5, .int z9), (0, .ref (a 0)), (3, .int x3), (4, .int x4)]) hx hb dX6_own_134 hl (k := 3) rfl (by rw [ez9]) (by decide) rfl (fun ls hl => ?_)
      refine lv_goto (tgt := 39) hx hb dX6_own_137 (by decide) ?_
      exact (J39) (x3) (x4) (z9) s0 _ _ _ h hP hD hS (lv_sub hl [1, 2, 3, 0] rfl)
    · have h := nd_pos h c8
      refine lv_aload_n hx hb dX6_own_57 rfl (lv_at hl 0 rfl) ?_
      refine va_get (D := (dC, dI)) (ci := 7) (v := .ref (a 1)) (C := RX6) (T := TX6) (N := 20) hx hb hts hi_dm_X6_own_X6 hown hK hP 0 rfl rfl 0 (by decide) (hts (.fieldLink RX6 10 "TimeMachine$Machine" "word" "[I") (List.mem_of_getElem? (i := 3) rfl)) (fun _ h9 => h9) rfl dX6_own_58 ?_
      refine lv_iload hx hb dX6_own_61 (lv_at hl 2 rfl) ?_
      refine lv_sipush (v := 256) hx hb dX6_own_63 (by decide) ?_
      refine lv_imul hx hb dX6_own_66 ?_
      refine lv_aload_n hx hb dX6_own_67 rfl (lv_at hl 0 rfl) ?_
      refine va_get (D := (dC, dI)) (ci := 7) (v := .ref (a 1)) (C := RX6) (T := TX6) (N := 20) hx hb hts hi_dm_X6_own_X6 hown hK hP 0 rfl rfl 0 (by decide) (hts (.fieldLink RX6 10 "TimeMachine$Machine" "word" "[I") (List.mem_of_getElem? (i := 3) rfl)) (fun _ h9 => h9) rfl dX6_own_68 ?_
      refine lv_iload hx hb dX6_own_71 (lv_at hl 3 rfl) ?_
      refine lv_sipush (v := 256) hx hb dX6_own_73 (by decide) ?_
      refine lv_imul hx hb dX6_own_76 ?_
      refine lv_sipush (v := 256) hx hb dX6_own_77 (by decide) ?_
      obtain ⟨k10, h⟩ := nd_cp_e h
      refine va_copyi (sp := (x4 * 256)) (dp := (x5 * 256)) (n := 256) hx hb (by rw [hml]; exact hl.1.symm) hown (hts (.methodLink RX6 95 arraycopyName) (List.mem_of_getElem? (i := 4) rfl)) (hts (.native arraycopyName) (List.mem_of_getElem? (i := 5) rfl)) (hts (.static arraycopyName) (List.mem_of_getElem? (i := 6) rfl)) (hts (.initialized "java/lang/System") (List.mem_of_getElem? (i := 7) rfl)) hK hP hD hS 1 1 0 0 rfl rfl rfl rfl rfl k10.1 k10.2.1 k10.2.2.1 k10.2.2.2.1 k10.2.2.2.2 (fun _ _ => rfl) (Nat.le_of_ble_eq_true rfl) (by decide +kernel) dX6_own_80 (fun H locs hP hD hS => ?_)
      obtain ⟨s11, es11, h⟩ := nd_let_e h
      have hP : va_P (dC, dI) vwCl (dw_X6 a ac s11) H := by rw [es11]; exact hP
      have hD : va_D A (dw_X6 a ac s11) := by rw [es11]; exact hD
      refine lv_aload_n hx hb dX6_own_83 rfl (lv_at hl 0 rfl) ?_
      refine va_get (D := (dC, dI)) (ci := 7) (v := .ref (a 2)) (C := RX6) (T := TX6) (N := 20) hx hb hts hi_dm_X6_own_X6 hown hK hP 0 rfl rfl 1 (by decide) (hts (.fieldLink RX6 14 "TimeMachine$Machine" "users" "[I") (List.mem_of_getElem? (i := 2) rfl)) (fun _ h9 => h9) rfl dX6_own_84 ?_
      refine lv_iload hx hb dX6_own_87 (lv_at hl 2 rfl) ?_
      refine lv_dup2_11 hx hb dX6_own_89 rfl rfl ?_
      obtain ⟨i12, h⟩ := nd_ck_e h
      refine va_iald (i := x4) hx hb hK hP 2 1 rfl rfl i12 dX6_own_90 ?_
      refine lv_iconst (v := 1) hx hb dX6_own_91 (by decide) ?_
      refine lv_isub hx hb dX6_own_92 ?_
      obtain ⟨i13, h⟩ := nd_ck_e h
      refine va_iast (i := x4) (x := ((sR s11.1 1 (Int32.toNatClampNeg x4)) - 1)) hx hb hK hP hD hS 2 1 rfl rfl i13 dX6_own_93 (fun H locs hP hD hS => ?_)
      obtain ⟨s14, es14, h⟩ := nd_let_e h
      have hP : va_P (dC, dI) vwCl (dw_X6 a ac s14) H := by rw [es14]; exact hP
      have hD : va_D A (dw_X6 a ac s14) := by rw [es14]; exact hD
      refine lv_aload_n hx hb dX6_own_94 rfl (lv_at hl 0 rfl) ?_
      refine va_get (D := (dC, dI)) (ci := 7) (v := .ref (a 2)) (C := RX6) (T := TX6) (N := 20) hx hb hts hi_dm_X6_own_X6 hown hK hP 0 rfl rfl 1 (by decide) (hts (.fieldLink RX6 14 "TimeMachine$Machine" "users" "[I") (List.mem_of_getElem? (i := 2) rfl)) (fun _ h9 => h9) rfl dX6_own_95 ?_
      refine lv_iload hx hb dX6_own_98 (lv_at hl 3 rfl) ?_
      refine lv_iconst (v := 1) hx hb dX6_own_100 (by decide) ?_
      obtain ⟨i15, h⟩ := nd_ck_e h
      refine va_iast (i := x5) (x := 1) hx hb hK hP hD hS 2 1 rfl rfl i15 dX6_own_101 (fun H locs hP hD hS => ?_)
      obtain ⟨s16, es16, h⟩ := nd_let_e h
      have hP : va_P (dC, dI) vwCl (dw_X6 a ac s16) H := by rw [es16]; exact hP
      have hD : va_D A (dw_X6 a ac s16) := by rw [es16]; exact hD
      refine lv_aload_n hx hb dX6_own_102 rfl (lv_at hl 0 rfl) ?_
      refine lv_dup hx hb dX6_own_103 rfl ?_
      refine va_get (D := (dC, dI)) (ci := 7) (v := .int (sI s16.1 0)) (C := RX6) (T := TX6) (N := 20) hx hb hts hi_dm_X6_own_X6 hown hK hP 0 rfl rfl 3 (by decide) (hts (.fieldLink RX6 52 "TimeMachine$Machine" "framesUsed" "I") (List.mem_of_getElem? (i := 8) rfl)) (fun _ h9 => h9) rfl dX6_own_104 ?_
      refine lv_iconst (v := 1) hx hb dX6_own_107 (by decide) ?_
      refine lv_iadd hx hb dX6_own_108 ?_
      refine va_put (D := (dC, dI)) (ci := 7) (v := .int ((sI s16.1 0) + 1)) (ty := .int) (C := RX6) (T := TX6) (N := 20) hx hb hts hi_dm_X6_own_X6 tyX6 tyX6_ok nmX6 hown hK hP hD hS 0 rfl rfl 3 (by decide) (hts (.fieldLink RX6 52 "TimeMachine$Machine" "framesUsed" "I") (List.mem_of_getElem? (i := 8) rfl)) (fun _ h9 => h9) rfl (by decide +kernel) rfl rfl (Nat.le_of_ble_eq_true rfl) dX6_own_109 (fun H locs hP hD hS => ?_)
      obtain ⟨s17, es17, h⟩ := nd_let_e h
      have hP : va_P (dC, dI) vwCl (dw_X6 a ac s17) H := by rw [es17]; exact hP
      have hD : va_D A (dw_X6 a ac s17) := by rw [es17]; exact hD
      refine lv_aload_n hx hb dX6_own_112 rfl (lv_at hl 0 rfl) ?_
      refine va_get (D := (dC, dI)) (ci := 7) (v := .ref (a 3)) (C := RX6) (T := TX6) (N := 20) hx hb hts hi_dm_X6_own_X6 hown hK hP 0 rfl rfl 2 (by decide) (hts (.fieldLink RX6 17 "TimeMachine$Machine" "page" "[I") (List.mem_of_getElem? (i := 1) rfl)) (fun _ h9 => h9) rfl dX6_own_113 ?_
      refine lv_iload_n hx hb dX6_own_116 rfl (lv_at hl 1 rfl) ?_
      refine lv_iload hx hb dX6_own_117 (lv_at hl 3 rfl) ?_
      refine lv_iconst (v := 3) hx hb dX6_own_119 (by decide) ?_
      refine lv_ishl hx hb dX6_own_120 ?_
      refine lv_aload_n hx hb dX6_own_121 rfl (lv_at hl 0 rfl) ?_
      refine va_get (D := (dC, dI)) (ci := 7) (v := .ref (a 3)) (C := RX6) (T := TX6) (N := 20) hx hb hts hi_dm_X6_own_X6 hown hK hP 0 rfl rfl 2 (by decide) (hts (.fieldLink RX6 17 "TimeMachine$Machine" "page" "[I") (List.mem_of_getElem? (i := 1) rfl)) (fun _ h9 => h9) rfl dX6_own_122 ?_
      refine lv_iload_n hx hb dX6_own_125 rfl (lv_at hl 1 rfl) ?_
      obtain ⟨i18, h⟩ := nd_ck_e h
      refine va_iald (i := x3) hx hb hK hP 3 2 rfl rfl i18 dX6_own_126 ?_
      refine lv_bipush (v := 7) hx hb dX6_own_127 (by decide) ?_
      refine lv_iand hx hb dX6_own_129 ?_
      refine lv_ior hx hb dX6_own_130 ?_
      obtain ⟨i19, h⟩ := nd_ck_e h
      refine va_iast (i := x3) (x := (((x5 : Int32) <<< ((3 : Int32) &&& 31)) ||| ((sR s17.1 2 (Int32.toNatClampNeg x3)) &&& 7))) hx hb hK hP hD hS 3 2 rfl rfl i19 dX6_own_131 (fun H locs hP hD hS => ?_)
      obtain ⟨s20, es20, h⟩ := nd_let_e h
      have hP : va_P (dC, dI) vwCl (dw_X6 a ac s20) H := by rw [es20]; exact hP
      have hD : va_D A (dw_X6 a ac s20) := by rw [es20]; exact hD
      refine lv_iconst (v := 1) hx hb dX6_own_132 (by decide) ?_
      exact K _ _ _ _ _ _ dX6_own_133 (by first | rfl | decide) (Option.some.inj h).symm hP hD hS
set_option maxHeartbeats 40000000 in
set_option maxRecDepth 100000 in
theorem db_X6_own_39 {p : Program} {l : Launch} {e : Env} {s : State} {m : MethodId} {args : Array Value} {below : List Frame} {meth : Method} {c : Code} {Q : State → Prop} {A : Nat → Prop} {dC : Nat → ClassId} {dI : Nat → Nat → Nat} {a : Nat → Nat} {ac : Nat → ClassId} {n : Nat} {r : Int32 × (St × (St))} (C : nd_C p l s m args c A (dC, dI) cX6_own 6 RX6 ow_dm_X6_own (dk_X6 ac)) (K : nd_Ki p l e (headSpec ow_dm_X6_own ({ frames := 1, cells := 0, slots := 0, locals := 40 })).room s m args below meth c Q A (dC, dI) cX6_own .boolean (St × (St)) (dw_X6 a ac) r) (k : Nat) : dj_X6_own_39 p l e s m args below meth c Q A dC dI a ac (df_X6_own_39 n k) r := by
  induction k with
  | zero => intro x3 x4 x5 s0 H locs ls h; exact nomatch (show (none : Option (Int32 × (St × (St)))) = some r from h)
  | succ k ih => exact dB_X6_own_39 C K ih
set_option maxHeartbeats 40000000 in
set_option maxRecDepth 100000 in
theorem db_X6_own_0 {p : Program} {l : Launch} {e : Env} {s : State} {m : MethodId} {args : Array Value} {below : List Frame} {meth : Method} {c : Code} {Q : State → Prop} {A : Nat → Prop} {dC : Nat → ClassId} {dI : Nat → Nat → Nat} {a : Nat → Nat} {ac : Nat → ClassId} {n : Nat} {r : Int32 × (St × (St))} (C : nd_C p l s m args c A (dC, dI) cX6_own 6 RX6 ow_dm_X6_own (dk_X6 ac)) (K : nd_Ki p l e (headSpec ow_dm_X6_own ({ frames := 1, cells := 0, slots := 0, locals := 40 })).room s m args below meth c Q A (dC, dI) cX6_own .boolean (St × (St)) (dw_X6 a ac) r) : dj_X6_own_0 p l e s m args below meth c Q A dC dI a ac (df_X6_own_0 n) r := by
  obtain ⟨hlt, hx, hb, hml, hown, hts, hN, hA, hK⟩ := id C
  intro v0 v1 s0 H locs ls h hP hD hS hl
  unfold df_X6_own_0 at h
  refine lv_iload_n hx hb dX6_own_0 rfl (lv_at hl 1 rfl) ?_
  refine lv_bipush (v := 6) hx hb dX6_own_1 (by decide) ?_
  refine lv_ishl hx hb dX6_own_3 ?_
  refine lv_iload_n hx hb dX6_own_4 rfl (lv_at hl 2 rfl) ?_
  refine lv_bipush (v := 10) hx hb dX6_own_5 (by decide) ?_
  refine lv_iushr hx hb dX6_own_7 rfl ?_
  refine lv_bipush (v := 63) hx hb dX6_own_8 (by decide) ?_
  refine lv_iand hx hb dX6_own_10 ?_
  refine lv_ior hx hb dX6_own_11 ?_
  refine lv_topi (fun z1 ez1 => ?_)
  have h := nd_at h ez1
  refine lv_istore_n (lv' := [(3, .int z1), (0, .ref (a 0)), (1, .int v0), (2, .int v1)]) hx hb dX6_own_12 rfl hl (by decide) rfl (fun ls hl => ?_)
  refine lv_aload_n hx hb dX6_own_13 rfl (lv_at hl 1 rfl) ?_
  refine va_get (D := (dC, dI)) (ci := 7) (v := .ref (a 3)) (C := RX6) (T := TX6) (N := 20) hx hb hts hi_dm_X6_own_X6 hown hK hP 0 rfl rfl 2 (by decide) (hts (.fieldLink RX6 17 "TimeMachine$Machine" "page" "[I") (List.mem_of_getElem? (i := 1) rfl)) (fun _ h9 => h9) rfl dX6_own_14 ?_
  refine lv_iload_n hx hb dX6_own_17 rfl (lv_at hl 0 rfl) ?_
  obtain ⟨i2, h⟩ := nd_ck_e h
  refine va_iald (i := z1) hx hb hK hP 3 2 rfl rfl i2 dX6_own_18 ?_
  refine lv_iconst (v := 3) hx hb dX6_own_19 (by decide) ?_
  refine lv_ishr hx hb dX6_own_20 ?_
  refine lv_topi (fun z3 ez3 => ?_)
  have h := nd_at h ez3
  refine lv_istore (lv' := [(4, .int z3), (3, .int z1), (0, .ref (a 0)), (1, .int v0), (2, .int v1)]) hx hb dX6_own_21 hl (by decide) rfl (fun ls hl => ?_)
  refine lv_aload_n hx hb dX6_own_23 rfl (lv_at hl 2 rfl) ?_
  refine va_get (D := (dC, dI)) (ci := 7) (v := .ref (a 2)) (C := RX6) (T := TX6) (N := 20) hx hb hts hi_dm_X6_own_X6 hown hK hP 0 rfl rfl 1 (by decide) (hts (.fieldLink RX6 14 "TimeMachine$Machine" "users" "[I") (List.mem_of_getElem? (i := 2) rfl)) (fun _ h9 => h9) rfl dX6_own_24 ?_
  refine lv_iload hx hb dX6_own_27 (lv_at hl 0 rfl) ?_
  obtain ⟨i4, h⟩ := nd_ck_e h
  refine va_iald (i := z3) hx hb hK hP 2 1 rfl rfl i4 dX6_own_29 ?_
  refine lv_iconst (v := 1) hx hb dX6_own_30 (by decide) ?_
  refine lv_icmp_gt (tgt := 36) hx hb dX6_own_31 (by decide) (fun c5 => ?_) (fun c5 => ?_)
  · have h := nd_pos h c5
    refine lv_iconst (v := 0) hx hb dX6_own_36 (by decide) ?_
    refine lv_istore (lv' := [(5, .int 0), (4, .int z3), (3, .int z1), (0, .ref (a 0)), (1, .int v0), (2, .int v1)]) hx hb dX6_own_37 hl (by decide) rfl (fun ls hl => ?_)
    exact (db_X6_own_39 C K n) (z1) (z3) (0) s0 _ _ _ h hP hD hS (lv_sub hl [3, 2, 1, 0] rfl)
  · have h := nd_neg h c5
    refine lv_iconst (v := 1) hx hb dX6_own_34 (by decide) ?_
    exact K _ _ _ _ _ _ dX6_own_35 (by first | rfl | decide) (Option.some.inj h).symm hP hD hS
set_option maxHeartbeats 40000000 in
set_option maxRecDepth 100000 in
theorem dm_X6_own (l : Launch) (hlt : l.stackTraces = false) (dC : Nat → ClassId) (dI : Nat → Nat → Nat) (a : Nat → Nat) (ac : Nat → ClassId) (n : Nat) (v0 : Int32) (v1 : Int32) (s0 : St × (St)) {r : Int32 × (St × (St))} (h : df_X6_own n v0 v1 s0 = some r) (sz : Nat) : Met l yX6_own ow_dm_X6_own ({ frames := 1, cells := 0, slots := 0, locals := 40 }) (va_Pc [.ref (a 0), .int v0, .int v1] (fun U => U.heap.size = sz ∧ va_P (dC, dI) vwCl (dw_X6 a ac s0) U.heap ∧ va_K (dC, dI) vwCl (dk_X6 ac) U ∧ va_D (fun _ => True) (dw_X6 a ac s0) ∧ nv_E (va_A (dw_X6 a ac s0) sz) U)) (va_Qi (fun x _ => x = r.1) (fun (_ : Unit) t => va_P (dC, dI) vwCl (dw_X6 a ac r.2) t.heap ∧ va_K (dC, dI) vwCl (dk_X6 ac) t ∧ va_D (va_A (dw_X6 a ac s0) sz) (dw_X6 a ac r.2)) (va_A (dw_X6 a ac s0) sz)) 0 0 (va_A (dw_X6 a ac s0) sz) := by
  refine Met.ofW (cc := cX6_own) (maxL := 6) (ret := (some .boolean)) (by decide) rfl ?_
  intro p e s m args below meth c s₁ B hml hv
  obtain ⟨rfl, hsz, hP, hK, hD0, hN⟩ := hv
  have hx := B.exec
  have hb := B.bytes
  have hr := B.returns
  have hts := atoms_spec (ws := ow_dm_X6_own) B.pre
  have hown : s.vm.findClass RX6 = some m.cls := findClass_of_methodNamed B.named
  have hlocks := B.notSynchronized
  subst hsz
  have hD := hD0.self (sz := s.heap.size)
  generalize hAe : va_A (dw_X6 a ac s0) s.heap.size = A at hD hN ⊢
  have hA : ∀ q : Nat, s.heap.size ≤ q → A q := fun q h => by rw [← hAe]; exact Or.inr h
  have hl := lv_entry ([.ref (a 0), .int v0, .int v1]) (n := 6) (Nat.le_of_ble_eq_true rfl)
  rw [lg_entry_eq]
  generalize (lg_sl ([.ref (a 0), .int v0, .int v1]) ++ List.replicate (6 - (lg_sl ([.ref (a 0), .int v0, .int v1])).length) Slot.unset).toArray = ls at hl ⊢
  have hl : lv_has ls 6 [(0, .ref (a 0)), (1, .int v0), (2, .int v1)] := hl
  exact db_X6_own_0 (dC := dC) (dI := dI) (a := a) (ac := ac) (n := n) (r := r) ⟨hlt, hx, hb, hml, hown, hts, hN, hA, hK⟩ (fun pc v τ H locs ls d z er hP hD hS => by subst er; exact W.zret (v := v) hx hb hr z (fun t ht hW => ⟨⟨v, (), rfl, rfl, by rw [ht]; exact hP, va_K.moved hW.alike hK, hD⟩, hS.F ht⟩) hS.2.2 d) v0 v1 s0 _ _ _ h hP hD va_S.rf (lv_sub hl [0, 1, 2] rfl)
def ow_dm_X6_put : List Cond := .code yX6_put cX6_put 7 none :: ([.fieldLink RX6 17 "TimeMachine$Machine" "page" "[I", .fieldLink RX6 10 "TimeMachine$Machine" "word" "[I"] ++ (u_ws RX6 TX6 20 ++ []))
theorem gd_dm_X6_put : ∀ w ∈ ow_dm_X6_put, (w.onTables && w.keeps) = true ∨ ∃ ty, w = Cond.arrayClass ty := List.forall_mem_cons.mpr ⟨good_of_word rfl, List.forall_mem_append.mpr ⟨fun w h => good_of_word (List.all_eq_true.mp (by decide +kernel) w h), List.forall_mem_append.mpr ⟨gu_X6, fun _ h => nomatch h⟩⟩⟩
theorem hi_dm_X6_put_X6 : ∀ w ∈ u_ws RX6 TX6 20, w ∈ ow_dm_X6_put := fun w h => List.mem_cons_of_mem _ (List.mem_append_right _ (List.mem_append_left _ h))
def dj_X6_put_0 (p : Program) (l : Launch) (e : Env) (s : State) (m : MethodId) (args : Array Value) (below : List Frame) (meth : Method) (c : Code) (Q : State → Prop) (A : Nat → Prop) (dC : Nat → ClassId) (dI : Nat → Nat → Nat) (a : Nat → Nat) (ac : Nat → ClassId) (g : Int32 → Int32 → Int32 → Int32 → (St × (St)) → Option (St × (St))) (r : St × (St)) : Prop := ∀ (v0 : Int32) (v1 : Int32) (v2 : Int32) (v3 : Int32) (s0 : St × (St)) (H : Heap) (locs : List Loc) (ls : Array Slot), g v0 v1 v2 v3 s0 = some r → va_P (dC, dI) vwCl (dw_X6 a ac s0) H → va_D A (dw_X6 a ac s0) → va_S A s.heap H locs → lv_has ls 7 [(0, .ref (a 0)), (1, .int v0), (2, .int v1), (3, .int v2), (4, .int v3)] → W p l e (headSpec ow_dm_X6_put ({ frames := 0, cells := 0, slots := 0, locals := 0 })).room s m args below meth c H locs 0 0 Q (F0 m 0 ls [])
set_option maxHeartbeats 40000000 in
set_option maxRecDepth 100000 in
theorem db_X6_put_0 {p : Program} {l : Launch} {e : Env} {s : State} {m : MethodId} {args : Array Value} {below : List Frame} {meth : Method} {c : Code} {Q : State → Prop} {A : Nat → Prop} {dC : Nat → ClassId} {dI : Nat → Nat → Nat} {a : Nat → Nat} {ac : Nat → ClassId} {n : Nat} {r : St × (St)} (C : nd_C p l s m args c A (dC, dI) cX6_put 7 RX6 ow_dm_X6_put (dk_X6 ac)) (K : nd_Kv p l e (headSpec ow_dm_X6_put ({ frames := 0, cells := 0, slots := 0, locals := 0 })).room s m args below meth c Q A (dC, dI) cX6_put (St × (St)) (dw_X6 a ac) r) : dj_X6_put_0 p l e s m args below meth c Q A dC dI a ac (df_X6_put_0 n) r := by
  obtain ⟨hlt, hx, hb, hml, hown, hts, hN, hA, hK⟩ := id C
  intro v0 v1 v2 v3 s0 H locs ls h hP hD hS hl
  unfold df_X6_put_0 at h
  refine lv_bipush (v := 8) hx hb dX6_put_0 (by decide) ?_
  refine lv_iload_n hx hb dX6_put_2 rfl (lv_at hl 2 rfl) ?_
  refine lv_iconst (v := 3) hx hb dX6_put_3 (by decide) ?_
  refine lv_iand hx hb dX6_put_4 ?_
  refine lv_imul hx hb dX6_put_5 ?_
  refine lv_topi (fun z1 ez1 => ?_)
  have h := nd_at h ez1
  refine lv_istore (lv' := [(5, .int z1), (0, .ref (a 0)), (1, .int v0), (2, .int v1), (3, .int v2), (4, .int v3)]) hx hb dX6_put_6 hl (by decide) rfl (fun ls hl => ?_)
  refine lv_aload_n hx hb dX6_put_8 rfl (lv_at hl 1 rfl) ?_
  refine va_get (D := (dC, dI)) (ci := 7) (v := .ref (a 3)) (C := RX6) (T := TX6) (N := 20) hx hb hts hi_dm_X6_put_X6 hown hK hP 0 rfl rfl 2 (by decide) (hts (.fieldLink RX6 17 "TimeMachine$Machine" "page" "[I") (List.mem_of_getElem? (i := 1) rfl)) (fun _ h9 => h9) rfl dX6_put_9 ?_
  refine lv_iload_n hx hb dX6_put_12 rfl (lv_at hl 2 rfl) ?_
  refine lv_bipush (v := 6) hx hb dX6_put_13 (by decide) ?_
  refine lv_ishl hx hb dX6_put_15 ?_
  refine lv_iload_n hx hb dX6_put_16 rfl (lv_at hl 3 rfl) ?_
  refine lv_bipush (v := 10) hx hb dX6_put_17 (by decide) ?_
  refine lv_iushr hx hb dX6_put_19 rfl ?_
  refine lv_bipush (v := 63) hx hb dX6_put_20 (by decide) ?_
  refine lv_iand hx hb dX6_put_22 ?_
  refine lv_ior hx hb dX6_put_23 ?_
  obtain ⟨i2, h⟩ := nd_ck_e h
  refine va_iald (i := (((v0 : Int32) <<< ((6 : Int32) &&& 31)) ||| ((((v1 : Int32).toUInt32 >>> ((10 : Int32).toUInt32 &&& Int32.toUInt32 31)).toInt32) &&& 63))) hx hb hK hP 3 2 rfl rfl i2 dX6_put_24 ?_
  refine lv_iconst (v := 3) hx hb dX6_put_25 (by decide) ?_
  refine lv_ishr hx hb dX6_put_26 ?_
  refine lv_bipush (v := 8) hx hb dX6_put_27 (by decide) ?_
  refine lv_ishl hx hb dX6_put_29 ?_
  refine lv_iload_n hx hb dX6_put_30 rfl (lv_at hl 3 rfl) ?_
  refine lv_iconst (v := 2) hx hb dX6_put_31 (by decide) ?_
  refine lv_iushr hx hb dX6_put_32 rfl ?_
  refine lv_sipush (v := 255) hx hb dX6_put_33 (by decide) ?_
  refine lv_iand hx hb dX6_put_36 ?_
  refine lv_ior hx hb dX6_put_37 ?_
  refine lv_topi (fun z3 ez3 => ?_)
  have h := nd_at h ez3
  refine lv_istore (lv' := [(6, .int z3), (5, .int z1), (0, .ref (a 0)), (1, .int v0), (2, .int v1), (3, .int v2), (4, .int v3)]) hx hb dX6_put_38 hl (by decide) rfl (fun ls hl => ?_)
  refine lv_aload_n hx hb dX6_put_40 rfl (lv_at hl 2 rfl) ?_
  refine va_get (D := (dC, dI)) (ci := 7) (v := .ref (a 1)) (C := RX6) (T := TX6) (N := 20) hx hb hts hi_dm_X6_put_X6 hown hK hP 0 rfl rfl 0 (by decide) (hts (.fieldLink RX6 10 "TimeMachine$Machine" "word" "[I") (List.mem_of_getElem? (i := 2) rfl)) (fun _ h9 => h9) rfl dX6_put_41 ?_
  refine lv_iload hx hb dX6_put_44 (lv_at hl 0 rfl) ?_
  refine lv_aload_n hx hb dX6_put_46 rfl (lv_at hl 2 rfl) ?_
  refine va_get (D := (dC, dI)) (ci := 7) (v := .ref (a 1)) (C := RX6) (T := TX6) (N := 20) hx hb hts hi_dm_X6_put_X6 hown hK hP 0 rfl rfl 0 (by decide) (hts (.fieldLink RX6 10 "TimeMachine$Machine" "word" "[I") (List.mem_of_getElem? (i := 2) rfl)) (fun _ h9 => h9) rfl dX6_put_47 ?_
  refine lv_iload hx hb dX6_put_50 (lv_at hl 0 rfl) ?_
  obtain ⟨i4, h⟩ := nd_ck_e h
  refine va_iald (i := z3) hx hb hK hP 1 0 rfl rfl i4 dX6_put_52 ?_
  refine lv_iload_n hx hb dX6_put_53 rfl (lv_at hl 5 rfl) ?_
  refine lv_iload hx hb dX6_put_54 (lv_at hl 1 rfl) ?_
  refine lv_ishl hx hb dX6_put_56 ?_
  refine lv_iconst (v := (-1)) hx hb dX6_put_57 (by decide) ?_
  refine lv_ixor hx hb dX6_put_58 ?_
  refine lv_iand hx hb dX6_put_59 ?_
  refine lv_iload hx hb dX6_put_60 (lv_at hl 6 rfl) ?_
  refine lv_iload_n hx hb dX6_put_62 rfl (lv_at hl 5 rfl) ?_
  refine lv_iand hx hb dX6_put_63 ?_
  refine lv_iload hx hb dX6_put_64 (lv_at hl 1 rfl) ?_
  refine lv_ishl hx hb dX6_put_66 ?_
  refine lv_ior hx hb dX6_put_67 ?_
  obtain ⟨i5, h⟩ := nd_ck_e h
  refine va_iast (i := z3) (x := (((sR s0.1 0 (Int32.toNatClampNeg z3)) &&& (((v2 : Int32) <<< ((z1 : Int32) &&& 31)) ^^^ (-1))) ||| (((v3 &&& v2) : Int32) <<< ((z1 : Int32) &&& 31)))) hx hb hK hP hD hS 1 0 rfl rfl i5 dX6_put_68 (fun H locs hP hD hS => ?_)
  obtain ⟨s6, es6, h⟩ := nd_let_e h
  have hP : va_P (dC, dI) vwCl (dw_X6 a ac s6) H := by rw [es6]; exact hP
  have hD : va_D A (dw_X6 a ac s6) := by rw [es6]; exact hD
  exact K _ _ _ _ _ dX6_put_69 (Option.some.inj h).symm hP hD hS
set_option maxHeartbeats 40000000 in
set_option maxRecDepth 100000 in
theorem dm_X6_put (l : Launch) (hlt : l.stackTraces = false) (dC : Nat → ClassId) (dI : Nat → Nat → Nat) (a : Nat → Nat) (ac : Nat → ClassId) (n : Nat) (v0 : Int32) (v1 : Int32) (v2 : Int32) (v3 : Int32) (s0 : St × (St)) {r : St × (St)} (h : df_X6_put n v0 v1 v2 v3 s0 = some r) (sz : Nat) : Met l yX6_put ow_dm_X6_put ({ frames := 0, cells := 0, slots := 0, locals := 0 }) (va_Pc [.ref (a 0), .int v0, .int v1, .int v2, .int v3] (fun U => U.heap.size = sz ∧ va_P (dC, dI) vwCl (dw_X6 a ac s0) U.heap ∧ va_K (dC, dI) vwCl (dk_X6 ac) U ∧ va_D (fun _ => True) (dw_X6 a ac s0) ∧ nv_E (va_A (dw_X6 a ac s0) sz) U)) (va_Qv (fun _ => True) (fun (_ : Unit) t => va_P (dC, dI) vwCl (dw_X6 a ac r) t.heap ∧ va_K (dC, dI) vwCl (dk_X6 ac) t ∧ va_D (va_A (dw_X6 a ac s0) sz) (dw_X6 a ac r)) (va_A (dw_X6 a ac s0) sz)) 0 0 (va_A (dw_X6 a ac s0) sz) := by
  refine Met.ofW (cc := cX6_put) (maxL := 7) (ret := none) (by decide) rfl ?_
  intro p e s m args below meth c s₁ B hml hv
  obtain ⟨rfl, hsz, hP, hK, hD0, hN⟩ := hv
  have hx := B.exec
  have hb := B.bytes
  have hr := B.returns
  have hts := atoms_spec (ws := ow_dm_X6_put) B.pre
  have hown : s.vm.findClass RX6 = some m.cls := findClass_of_methodNamed B.named
  have hlocks := B.notSynchronized
  subst hsz
  have hD := hD0.self (sz := s.heap.size)
  generalize hAe : va_A (dw_X6 a ac s0) s.heap.size = A at hD hN ⊢
  have hA : ∀ q : Nat, s.heap.size ≤ q → A q := fun q h => by rw [← hAe]; exact Or.inr h
  have hl := lv_entry ([.ref (a 0), .int v0, .int v1, .int v2, .int v3]) (n := 7) (Nat.le_of_ble_eq_true rfl)
  rw [lg_entry_eq]
  generalize (lg_sl ([.ref (a 0), .int v0, .int v1, .int v2, .int v3]) ++ List.replicate (7 - (lg_sl ([.ref (a 0), .int v0, .int v1, .int v2, .int v3])).length) Slot.unset).toArray = ls at hl ⊢
  have hl : lv_has ls 7 [(0, .ref (a 0)), (1, .int v0), (2, .int v1), (3, .int v2), (4, .int v3)] := hl
  exact db_X6_put_0 (dC := dC) (dI := dI) (a := a) (ac := ac) (n := n) (r := r) ⟨hlt, hx, hb, hml, hown, hts, hN, hA, hK⟩ (fun pc τ H locs ls d er hP hD hS => by subst er; exact W.vret hx hb hr (fun t ht hW => ⟨⟨(), rfl, trivial, by rw [ht]; exact hP, va_K.moved hW.alike hK, hD⟩, hS.F ht⟩) hS.2.2 d) v0 v1 v2 v3 s0 _ _ _ h hP hD va_S.rf (lv_sub hl [0, 1, 2, 3, 4] rfl)
def ow_dm_X6_noteWrite : List Cond := .code yX6_noteWrite cX6_noteWrite 4 none :: ([.fieldLink RX6 82 "TimeMachine$Machine" "written" "I", .fieldLink RX6 105 "TimeMachine$Machine" "reserved" "I"] ++ (u_ws RX6 TX6 20 ++ []))
theorem gd_dm_X6_noteWrite : ∀ w ∈ ow_dm_X6_noteWrite, (w.onTables && w.keeps) = true ∨ ∃ ty, w = Cond.arrayClass ty := List.forall_mem_cons.mpr ⟨good_of_word rfl, List.forall_mem_append.mpr ⟨fun w h => good_of_word (List.all_eq_true.mp (by decide +kernel) w h), List.forall_mem_append.mpr ⟨gu_X6, fun _ h => nomatch h⟩⟩⟩
theorem hi_dm_X6_noteWrite_X6 : ∀ w ∈ u_ws RX6 TX6 20, w ∈ ow_dm_X6_noteWrite := fun w h => List.mem_cons_of_mem _ (List.mem_append_right _ (List.mem_append_left _ h))
def dj_X6_noteWrite_51 (p : Program) (l : Launch) (e : Env) (s : State) (m : MethodId) (args : Array Value) (below : List Frame) (meth : Method) (c : Code) (Q : State → Prop) (A : Nat → Prop) (dC : Nat → ClassId) (dI : Nat → Nat → Nat) (a : Nat → Nat) (ac : Nat → ClassId) (g : (St × (St)) → Option (St × (St))) (r : St × (St)) : Prop := ∀ (s0 : St × (St)) (H : Heap) (locs : List Loc) (ls : Array Slot), g s0 = some r → va_P (dC, dI) vwCl (dw_X6 a ac s0) H → va_D A (dw_X6 a ac s0) → va_S A s.heap H locs → lv_has ls 4 [] → W p l e (headSpec ow_dm_X6_noteWrite ({ frames := 0, cells := 0, slots := 0, locals := 0 })).room s m args below meth c H locs 0 0 Q (F0 m 51 ls [])
def dj_X6_noteWrite_0 (p : Program) (l : Launch) (e : Env) (s : State) (m : MethodId) (args : Array Value) (below : List Frame) (meth : Method) (c : Code) (Q : State → Prop) (A : Nat → Prop) (dC : Nat → ClassId) (dI : Nat → Nat → Nat) (a : Nat → Nat) (ac : Nat → ClassId) (g : Int32 → Int32 → Int32 → (St × (St)) → Option (St × (St))) (r : St × (St)) : Prop := ∀ (v0 : Int32) (v1 : Int32) (v2 : Int32) (s0 : St × (St)) (H : Heap) (locs : List Loc) (ls : Array Slot), g v0 v1 v2 s0 = some r → va_P (dC, dI) vwCl (dw_X6 a ac s0) H → va_D A (dw_X6 a ac s0) → va_S A s.heap H locs → lv_has ls 4 [(0, .ref (a 0)), (1, .int v0), (2, .int v1), (3, .int v2)] → W p l e (headSpec ow_dm_X6_noteWrite ({ frames := 0, cells := 0, slots := 0, locals := 0 })).room s m args below meth c H locs 0 0 Q (F0 m 0 ls [])
set_option maxHeartbeats 40000000 in
set_option maxRecDepth 100000 in
theorem db_X6_noteWrite_51 {p : Program} {l : Launch} {e : Env} {s : State} {m : MethodId} {args : Array Value} {below : List Frame} {meth : Method} {c : Code} {Q : State → Prop} {A : Nat → Prop} {dC : Nat → ClassId} {dI : Nat → Nat → Nat} {a : Nat → Nat} {ac : Nat → ClassId} {n : Nat} {r : St × (St)} (C : nd_C p l s m args c A (dC, dI) cX6_noteWrite 4 RX6 ow_dm_X6_noteWrite (dk_X6 ac)) (K : nd_Kv p l e (headSpec ow_dm_X6_noteWrite ({ frames := 0, cells := 0, slots := 0, locals := 0 })).room s m args below meth c Q A (dC, dI) cX6_noteWrite (St × (St)) (dw_X6 a ac) r) : dj_X6_noteWrite_51 p l e s m args below meth c Q A dC dI a ac (df_X6_noteWrite_51 n) r := by
  obtain ⟨hlt, hx, hb, hml, hown, hts, hN, hA, hK⟩ := id C
  intro s0 H locs ls h hP hD hS hl
  unfold df_X6_noteWrite_51 at h
  exact K _ _ _ _ _ dX6_noteWrite_51 (Option.some.inj h).symm hP hD hS
set_option maxHeartbeats 40000000 in
set_option maxRecDepth 100000 in
theorem db_X6_noteWrite_0 {p : Program} {l : Launch} {e : Env} {s : State} {m : MethodId} {args : Array Value} {below : List Frame} {meth : Method} {c : Code} {Q : State → Prop} {A : Nat → Prop} {dC : Nat → ClassId} {dI : Nat → Nat → Nat} {a : Nat → Nat} {ac : Nat → ClassId} {n : Nat} {r : St × (St)} (C : nd_C p l s m args c A (dC, dI) cX6_noteWrite 4 RX6 ow_dm_X6_noteWrite (dk_X6 ac)) (K : nd_Kv p l e (headSpec ow_dm_X6_noteWrite ({ frames := 0, cells := 0, slots := 0, locals := 0 })).room s m args below meth c Q A (dC, dI) cX6_noteWrite (St × (St)) (dw_X6 a ac) r) : dj_X6_noteWrite_0 p l e s m args below meth c Q A dC dI a ac (df_X6_noteWrite_0 n) r := by
  obtain ⟨hlt, hx, hb, hml, hown, hts, hN, hA, hK⟩ := id C
  intro v0 v1 v2 s0 H locs ls h hP hD hS hl
  unfold df_X6_noteWrite_0 at h
  refine lv_iload_n hx hb dX6_noteWrite_0 rfl (lv_at hl 3 rfl) ?_
  refine lv_if_le (tgt := 51) hx hb dX6_noteWrite_1 (by decide) (fun c1 => ?_) (fun c1 => ?_)
  · have h := nd_pos h c1
    exact (db_X6_noteWrite_51 C K)  s0 _ _ _ h hP hD hS (lv_sub hl [] rfl)
  · have h := nd_neg h c1
    refine lv_aload_n hx hb dX6_noteWrite_4 rfl (lv_at hl 0 rfl) ?_
    refine lv_iload_n hx hb dX6_noteWrite_5 rfl (lv_at hl 1 rfl) ?_
    refine lv_bipush (v := 26) hx hb dX6_noteWrite_6 (by decide) ?_
    refine lv_ishl hx hb dX6_noteWrite_8 ?_
    refine lv_iload_n hx hb dX6_noteWrite_9 rfl (lv_at hl 2 rfl) ?_
    refine lv_bipush (v := 10) hx hb dX6_noteWrite_10 (by decide) ?_
    refine lv_ishl hx hb dX6_noteWrite_12 ?_
    refine lv_ior hx hb dX6_noteWrite_13 ?_
    refine lv_iload_n hx hb dX6_noteWrite_14 rfl (lv_at hl 3 rfl) ?_
    refine lv_ior hx hb dX6_noteWrite_15 ?_
    refine va_put (D := (dC, dI)) (ci := 7) (v := .int ((((v0 : Int32) <<< ((26 : Int32) &&& 31)) ||| ((v1 : Int32) <<< ((10 : Int32) &&& 31))) ||| v2)) (ty := .int) (C := RX6) (T := TX6) (N := 20) hx hb hts hi_dm_X6_noteWrite_X6 tyX6 tyX6_ok nmX6 hown hK hP hD hS 0 rfl rfl 19 (by decide) (hts (.fieldLink RX6 82 "TimeMachine$Machine" "written" "I") (List.mem_of_getElem? (i := 1) rfl)) (fun _ h9 => h9) rfl (by decide +kernel) rfl rfl (Nat.le_of_ble_eq_true rfl) dX6_noteWrite_16 (fun H locs hP hD hS => ?_)
    obtain ⟨s2, es2, h⟩ := nd_let_e h
    have hP : va_P (dC, dI) vwCl (dw_X6 a ac s2) H := by rw [es2]; exact hP
    have hD : va_D A (dw_X6 a ac s2) := by rw [es2]; exact hD
    refine lv_aload_n hx hb dX6_noteWrite_19 rfl (lv_at hl 0 rfl) ?_
    refine va_get (D := (dC, dI)) (ci := 7) (v := .int (sI s2.1 6)) (C := RX6) (T := TX6) (N := 20) hx hb hts hi_dm_X6_noteWrite_X6 hown hK hP 0 rfl rfl 16 (by decide) (hts (.fieldLink RX6 105 "TimeMachine$Machine" "reserved" "I") (List.mem_of_getElem? (i := 2) rfl)) (fun _ h9 => h9) rfl dX6_noteWrite_20 ?_
    refine lv_if_lt (tgt := 51) hx hb dX6_noteWrite_23 (by decide) (fun c3 => ?_) (fun c3 => ?_)
    · have h := nd_pos h c3
      exact (db_X6_noteWrite_51 C K)  s2 _ _ _ h hP hD hS (lv_sub hl [] rfl)
    · have h := nd_neg h c3
      refine lv_iload_n hx hb dX6_noteWrite_26 rfl (lv_at hl 2 rfl) ?_
      refine lv_aload_n hx hb dX6_noteWrite_27 rfl (lv_at hl 0 rfl) ?_
      refine va_get (D := (dC, dI)) (ci := 7) (v := .int (sI s2.1 6)) (C := RX6) (T := TX6) (N := 20) hx hb hts hi_dm_X6_noteWrite_X6 hown hK hP 0 rfl rfl 16 (by decide) (hts (.fieldLink RX6 105 "TimeMachine$Machine" "reserved" "I") (List.mem_of_getElem? (i := 2) rfl)) (fun _ h9 => h9) rfl dX6_noteWrite_28 ?_
      refine lv_iconst (v := 4) hx hb dX6_noteWrite_31 (by decide) ?_
      refine lv_iadd hx hb dX6_noteWrite_32 ?_
      refine lv_icmp_ge (tgt := 51) hx hb dX6_noteWrite_33 (by decide) (fun c4 => ?_) (fun c4 => ?_)
      · have h := nd_pos h c4
        exact (db_X6_noteWrite_51 C K)  s2 _ _ _ h hP hD hS (lv_sub hl [] rfl)
      · have h := nd_neg h c4
        refine lv_iload_n hx hb dX6_noteWrite_36 rfl (lv_at hl 2 rfl) ?_
        refine lv_iload_n hx hb dX6_noteWrite_37 rfl (lv_at hl 3 rfl) ?_
        refine lv_iadd hx hb dX6_noteWrite_38 ?_
        refine lv_aload_n hx hb dX6_noteWrite_39 rfl (lv_at hl 0 rfl) ?_
        refine va_get (D := (dC, dI)) (ci := 7) (v := .int (sI s2.1 6)) (C := RX6) (T := TX6) (N := 20) hx hb hts hi_dm_X6_noteWrite_X6 hown hK hP 0 rfl rfl 16 (by decide) (hts (.fieldLink RX6 105 "TimeMachine$Machine" "reserved" "I") (List.mem_of_getElem? (i := 2) rfl)) (fun _ h9 => h9) rfl dX6_noteWrite_40 ?_
        refine lv_icmp_le (tgt := 51) hx hb dX6_noteWrite_43 (by decide) (fun c5 => ?_) (fun c5 => ?_)
        · have h := nd_pos h c5
          exact (db_X6_noteWrite_51 C K)  s2 _ _ _ h hP hD hS (lv_sub hl [] rfl)
        · have h := nd_neg h c5
          refine lv_aload_n hx hb dX6_noteWrite_46 rfl (lv_at hl 0 rfl) ?_
          refine lv_iconst (v := (-1)) hx hb dX6_noteWrite_47 (by decide) ?_
          refine va_put (D := (dC, dI)) (ci := 7) (v := .int (-1)) (ty := .int) (C := RX6) (T := TX6) (N := 20) hx hb hts hi_dm_X6_noteWrite_X6 tyX6 tyX6_ok nmX6 hown hK hP hD hS 0 rfl rfl 16 (by decide) (hts (.fieldLink RX6 105 "TimeMachine$Machine" "reserved" "I") (List.mem_of_getElem? (i := 2) rfl)) (fun _ h9 => h9) rfl (by decide +kernel) rfl rfl (Nat.le_of_ble_eq_true rfl) dX6_noteWrite_48 (fun H locs hP hD hS => ?_)
          obtain ⟨s6, es6, h⟩ := nd_let_e h
          have hP : va_P (dC, dI) vwCl (dw_X6 a ac s6) H := by rw [es6]; exact hP
          have hD : va_D A (dw_X6 a ac s6) := by rw [es6]; exact hD
          exact (db_X6_noteWrite_51 C K)  s6 _ _ _ h hP hD hS (lv_sub hl [] rfl)
set_option maxHeartbeats 40000000 in
set_option maxRecDepth 100000 in
theorem dm_X6_noteWrite (l : Launch) (hlt : l.stackTraces = false) (dC : Nat → ClassId) (dI : Nat → Nat → Nat) (a : Nat → Nat) (ac : Nat → ClassId) (n : Nat) (v0 : Int32) (v1 : Int32) (v2 : Int32) (s0 : St × (St)) {r : St × (St)} (h : df_X6_noteWrite n v0 v1 v2 s0 = some r) (sz : Nat) : Met l yX6_noteWrite ow_dm_X6_noteWrite ({ frames := 0, cells := 0, slots := 0, locals := 0 }) (va_Pc [.ref (a 0), .int v0, .int v1, .int v2] (fun U => U.heap.size = sz ∧ va_P (dC, dI) vwCl (dw_X6 a ac s0) U.heap ∧ va_K (dC, dI) vwCl (dk_X6 ac) U ∧ va_D (fun _ => True) (dw_X6 a ac s0) ∧ nv_E (va_A (dw_X6 a ac s0) sz) U)) (va_Qv (fun _ => True) (fun (_ : Unit) t => va_P (dC, dI) vwCl (dw_X6 a ac r) t.heap ∧ va_K (dC, dI) vwCl (dk_X6 ac) t ∧ va_D (va_A (dw_X6 a ac s0) sz) (dw_X6 a ac r)) (va_A (dw_X6 a ac s0) sz)) 0 0 (va_A (dw_X6 a ac s0) sz) := by
  refine Met.ofW (cc := cX6_noteWrite) (maxL := 4) (ret := none) (by decide) rfl ?_
  intro p e s m args below meth c s₁ B hml hv
  obtain ⟨rfl, hsz, hP, hK, hD0, hN⟩ := hv
  have hx := B.exec
  have hb := B.bytes
  have hr := B.returns
  have hts := atoms_spec (ws := ow_dm_X6_noteWrite) B.pre
  have hown : s.vm.findClass RX6 = some m.cls := findClass_of_methodNamed B.named
  have hlocks := B.notSynchronized
  subst hsz
  have hD := hD0.self (sz := s.heap.size)
  generalize hAe : va_A (dw_X6 a ac s0) s.heap.size = A at hD hN ⊢
  have hA : ∀ q : Nat, s.heap.size ≤ q → A q := fun q h => by rw [← hAe]; exact Or.inr h
  have hl := lv_entry ([.ref (a 0), .int v0, .int v1, .int v2]) (n := 4) (Nat.le_of_ble_eq_true rfl)
  rw [lg_entry_eq]
  generalize (lg_sl ([.ref (a 0), .int v0, .int v1, .int v2]) ++ List.replicate (4 - (lg_sl ([.ref (a 0), .int v0, .int v1, .int v2])).length) Slot.unset).toArray = ls at hl ⊢
  have hl : lv_has ls 4 [(0, .ref (a 0)), (1, .int v0), (2, .int v1), (3, .int v2)] := hl
  exact db_X6_noteWrite_0 (dC := dC) (dI := dI) (a := a) (ac := ac) (n := n) (r := r) ⟨hlt, hx, hb, hml, hown, hts, hN, hA, hK⟩ (fun pc τ H locs ls d er hP hD hS => by subst er; exact W.vret hx hb hr (fun t ht hW => ⟨⟨(), rfl, trivial, by rw [ht]; exact hP, va_K.moved hW.alike hK, hD⟩, hS.F ht⟩) hS.2.2 d) v0 v1 v2 s0 _ _ _ h hP hD va_S.rf (lv_sub hl [0, 1, 2, 3] rfl)
def ow_dm_X4_store : List Cond := .code yX4_store cX4_store 4 (some .int) :: ([.fieldLink RX4 7 "TimeMachine$Hart" "machine" "LTimeMachine$Machine;", .fieldLink RX4 20 "TimeMachine$Hart" "process" "I", .methodLink RX4 30 yX6_may, .instanceMethod yX6_may, .selects RX6 yX6_may yX6_may, .initialized RX6, .methodLink RX4 100 yX6_own, .instanceMethod yX6_own, .selects RX6 yX6_own yX6_own, .methodLink RX4 105 yX6_put, .instanceMethod yX6_put, .selects RX6 yX6_put yX6_put, .methodLink RX4 109 yX6_noteWrite, .instanceMethod yX6_noteWrite, .selects RX6 yX6_noteWrite yX6_noteWrite, .constant RX4 104 (65535)] ++ (u_ws RX4 TX4 6 ++ (ow_dm_X6_may ++ (ow_dm_X6_own ++ (ow_dm_X6_put ++ (ow_dm_X6_noteWrite ++ []))))))
theorem gd_dm_X4_store : ∀ w ∈ ow_dm_X4_store, (w.onTables && w.keeps) = true ∨ ∃ ty, w = Cond.arrayClass ty := List.forall_mem_cons.mpr ⟨good_of_word rfl, List.forall_mem_append.mpr ⟨fun w h => good_of_word (List.all_eq_true.mp (by decide +kernel) w h), List.forall_mem_append.mpr ⟨gu_X4, List.forall_mem_append.mpr ⟨gd_dm_X6_may, List.forall_mem_append.mpr ⟨gd_dm_X6_own, List.forall_mem_append.mpr ⟨gd_dm_X6_put, List.forall_mem_append.mpr ⟨gd_dm_X6_noteWrite, fun _ h => nomatch h⟩⟩⟩⟩⟩⟩⟩
theorem hi_dm_X4_store_X4 : ∀ w ∈ u_ws RX4 TX4 6, w ∈ ow_dm_X4_store := fun w h => List.mem_cons_of_mem _ (List.mem_append_right _ (List.mem_append_left _ h))
theorem gi_dm_X4_store_0 : GoodIn ow_dm_X4_store (wsV RX4 30 RX6 yX6_may ow_dm_X6_may) := goodIn_app (goodIn_of _ (by decide +kernel)) (fun w h => ⟨List.mem_cons_of_mem _ (List.mem_append_right _ (List.mem_append_right _ (List.mem_append_left _ h))), gd_dm_X6_may w h⟩)
theorem gi_dm_X4_store_1 : GoodIn ow_dm_X4_store (wsV RX4 100 RX6 yX6_own ow_dm_X6_own) := goodIn_app (goodIn_of _ (by decide +kernel)) (fun w h => ⟨List.mem_cons_of_mem _ (List.mem_append_right _ (List.mem_append_right _ (List.mem_append_right _ (List.mem_append_left _ h)))), gd_dm_X6_own w h⟩)
theorem gi_dm_X4_store_2 : GoodIn ow_dm_X4_store (wsV RX4 105 RX6 yX6_put ow_dm_X6_put) := goodIn_app (goodIn_of _ (by decide +kernel)) (fun w h => ⟨List.mem_cons_of_mem _ (List.mem_append_right _ (List.mem_append_right _ (List.mem_append_right _ (List.mem_append_right _ (List.mem_append_left _ h))))), gd_dm_X6_put w h⟩)
theorem gi_dm_X4_store_3 : GoodIn ow_dm_X4_store (wsV RX4 109 RX6 yX6_noteWrite ow_dm_X6_noteWrite) := goodIn_app (goodIn_of _ (by decide +kernel)) (fun w h => ⟨List.mem_cons_of_mem _ (List.mem_append_right _ (List.mem_append_right _ (List.mem_append_right _ (List.mem_append_right _ (List.mem_append_right _ (List.mem_append_left _ h)))))), gd_dm_X6_noteWrite w h⟩)
def dj_X4_store_87 (p : Program) (l : Launch) (e : Env) (s : State) (m : MethodId) (args : Array Value) (below : List Frame) (meth : Method) (c : Code) (Q : State → Prop) (A : Nat → Prop) (dC : Nat → ClassId) (dI : Nat → Nat → Nat) (a : Nat → Nat) (ac : Nat → ClassId) (g : Int32 → Int32 → Int32 → Int32 → Int32 → Int32 → (St × (St × (St))) → Option (Int32 × (St × (St × (St))))) (r : Int32 × (St × (St × (St)))) : Prop := ∀ (x1 : Int32) (x2 : Int32) (x3 : Int32) (y1 : Int32) (y2 : Int32) (y3 : Int32) (s0 : St × (St × (St))) (H : Heap) (locs : List Loc) (ls : Array Slot), g x1 x2 x3 y1 y2 y3 s0 = some r → va_P (dC, dI) vwCl (dw_X4 a ac s0) H → va_D A (dw_X4 a ac s0) → va_S A s.heap H locs → lv_has ls 4 [(0, .ref (a 0)), (1, .int x1), (2, .int x2), (3, .int x3)] → W p l e (headSpec ow_dm_X4_store ({ frames := 2, cells := 0, slots := 0, locals := 65 })).room s m args below meth c H locs 0 0 Q (F0 m 87 ls [.int y3, .int y2, .int y1, .ref (a 1)])
def dj_X4_store_0 (p : Program) (l : Launch) (e : Env) (s : State) (m : MethodId) (args : Array Value) (below : List Frame) (meth : Method) (c : Code) (Q : State → Prop) (A : Nat → Prop) (dC : Nat → ClassId) (dI : Nat → Nat → Nat) (a : Nat → Nat) (ac : Nat → ClassId) (g : Int32 → Int32 → Int32 → (St × (St × (St))) → Option (Int32 × (St × (St × (St))))) (r : Int32 × (St × (St × (St)))) : Prop := ∀ (v0 : Int32) (v1 : Int32) (v2 : Int32) (s0 : St × (St × (St))) (H : Heap) (locs : List Loc) (ls : Array Slot), g v0 v1 v2 s0 = some r → va_P (dC, dI) vwCl (dw_X4 a ac s0) H → va_D A (dw_X4 a ac s0) → va_S A s.heap H locs → lv_has ls 4 [(0, .ref (a 0)), (1, .int v0), (2, .int v1), (3, .int v2)] → W p l e (headSpec ow_dm_X4_store ({ frames := 2, cells := 0, slots := 0, locals := 65 })).room s m args below meth c H locs 0 0 Q (F0 m 0 ls [])
set_option maxHeartbeats 40000000 in
set_option maxRecDepth 100000 in
theorem db_X4_store_87 {p : Program} {l : Launch} {e : Env} {s : State} {m : MethodId} {args : Array Value} {below : List Frame} {meth : Method} {c : Code} {Q : State → Prop} {A : Nat → Prop} {dC : Nat → ClassId} {dI : Nat → Nat → Nat} {a : Nat → Nat} {ac : Nat → ClassId} {n : Nat} {r : Int32 × (St × (St × (St)))} (C : nd_C p l s m args c A (dC, dI) cX4_store 4 RX4 ow_dm_X4_store (dk_X4 ac)) (K : nd_Ki p l e (headSpec ow_dm_X4_store ({ frames := 2, cells := 0, slots := 0, locals := 65 })).room s m args below meth c Q A (dC, dI) cX4_store .int (St × (St × (St))) (dw_X4 a ac) r) : dj_X4_store_87 p l e s m args below meth c Q A dC dI a ac (df_X4_store_87 n) r := by
  obtain ⟨hlt, hx, hb, hml, hown, hts, hN, hA, hK⟩ := id C
  intro x1 x2 x3 y1 y2 y3 s0 H locs ls h hP hD hS hl
  unfold df_X4_store_87 at h
  refine lv_iload_n hx hb dX4_store_87 rfl (lv_at hl 3 rfl) ?_
  obtain ⟨s16, hq, h⟩ := nd_b1_e h
  have hPc := dp_X4_1 hP
  have hDc := dd_X4_1 hD
  have hKc := dy_X4_1 hK
  have hFc := nd_rs hDc hS hA
  have hzA : ∀ q : Nat, H.size ≤ q → A q := fun q h => hA q (Nat.le_trans hS.1 h)
  refine nd_cVv (As := [.int y1, .int y2, .int y3, .int x3]) (rest := []) (w' := dw_X6 (fun k => a (k + 1)) (fun k => ac (k + 1)) s16) ⟨hx, hb, hml, hown, hts⟩ (fun sz => dm_X6_put l hlt dC dI (fun k => a (k + 1)) (fun k => ac (k + 1)) n (y1) (y2) (y3) (x3) s0.2 hq sz) (cwV 4 hts gi_dm_X4_store_2 rfl rfl rfl (by decide +kernel) ⟨Nat.le_of_ble_eq_true rfl, Nat.le_of_ble_eq_true rfl⟩) hPc hDc hKc hS hA hN (va_recv hKc hPc (ci := 7) (q0 := 0) rfl rfl) rfl hl.1 rfl (Nat.le_of_ble_eq_true rfl) dX4_store_88 (fun H locs hP1 hD1 hk1 hS => ?_)
  obtain ⟨hP, hD⟩ := dn_X4_1 hP hD hzA hk1 hP1 hD1
  obtain ⟨s18, es18, h⟩ := nd_let_e h
  have hP : va_P (dC, dI) vwCl (dw_X4 a ac s18) H := by rw [es18]; exact hP
  have hD : va_D A (dw_X4 a ac s18) := by rw [es18]; exact hD
  refine lv_aload_n hx hb dX4_store_91 rfl (lv_at hl 0 rfl) ?_
  refine va_get (D := (dC, dI)) (ci := 5) (v := .ref (a 1)) (C := RX4) (T := TX4) (N := 6) hx hb hts hi_dm_X4_store_X4 hown hK hP 0 rfl rfl 0 (by decide) (hts (.fieldLink RX4 7 "TimeMachine$Hart" "machine" "LTimeMachine$Machine;") (List.mem_of_getElem? (i := 1) rfl)) (fun _ h9 => h9) rfl dX4_store_92 ?_
  refine lv_aload_n hx hb dX4_store_95 rfl (lv_at hl 0 rfl) ?_
  refine va_get (D := (dC, dI)) (ci := 5) (v := .int (sI s18.1 0)) (C := RX4) (T := TX4) (N := 6) hx hb hts hi_dm_X4_store_X4 hown hK hP 0 rfl rfl 2 (by decide) (hts (.fieldLink RX4 20 "TimeMachine$Hart" "process" "I") (List.mem_of_getElem? (i := 2) rfl)) (fun _ h9 => h9) rfl dX4_store_96 ?_
  refine lv_iload_n hx hb dX4_store_99 rfl (lv_at hl 2 rfl) ?_
  refine lv_iconst (v := 1) hx hb dX4_store_100 (by decide) ?_
  refine lv_iload_n hx hb dX4_store_101 rfl (lv_at hl 1 rfl) ?_
  refine lv_ishl hx hb dX4_store_102 ?_
  obtain ⟨s20, hq, h⟩ := nd_b1_e h
  have hPc := dp_X4_1 hP
  have hDc := dd_X4_1 hD
  have hKc := dy_X4_1 hK
  have hFc := nd_rs hDc hS hA
  have hzA : ∀ q : Nat, H.size ≤ q → A q := fun q h => hA q (Nat.le_trans hS.1 h)
  refine nd_cVv (As := [.int (sI s18.1 0), .int x2, .int ((1 : Int32) <<< ((x1 : Int32) &&& 31))]) (rest := []) (w' := dw_X6 (fun k => a (k + 1)) (fun k => ac (k + 1)) s20) ⟨hx, hb, hml, hown, hts⟩ (fun sz => dm_X6_noteWrite l hlt dC dI (fun k => a (k + 1)) (fun k => ac (k + 1)) n ((sI s18.1 0)) (x2) (((1 : Int32) <<< ((x1 : Int32) &&& 31))) s18.2 hq sz) (cwV 3 hts gi_dm_X4_store_3 rfl rfl rfl (by decide +kernel) ⟨Nat.le_of_ble_eq_true rfl, Nat.le_of_ble_eq_true rfl⟩) hPc hDc hKc hS hA hN (va_recv hKc hPc (ci := 7) (q0 := 0) rfl rfl) rfl hl.1 rfl (Nat.le_of_ble_eq_true rfl) dX4_store_103 (fun H locs hP1 hD1 hk1 hS => ?_)
  obtain ⟨hP, hD⟩ := dn_X4_1 hP hD hzA hk1 hP1 hD1
  obtain ⟨s22, es22, h⟩ := nd_let_e h
  have hP : va_P (dC, dI) vwCl (dw_X4 a ac s22) H := by rw [es22]; exact hP
  have hD : va_D A (dw_X4 a ac s22) := by rw [es22]; exact hD
  refine lv_iconst (v := 0) hx hb dX4_store_106 (by decide) ?_
  exact K _ _ _ _ _ _ dX4_store_107 rfl (Option.some.inj h).symm hP hD hS
set_option maxHeartbeats 40000000 in
set_option maxRecDepth 100000 in
theorem db_X4_store_0 {p : Program} {l : Launch} {e : Env} {s : State} {m : MethodId} {args : Array Value} {below : List Frame} {meth : Method} {c : Code} {Q : State → Prop} {A : Nat → Prop} {dC : Nat → ClassId} {dI : Nat → Nat → Nat} {a : Nat → Nat} {ac : Nat → ClassId} {n : Nat} {r : Int32 × (St × (St × (St)))} (C : nd_C p l s m args c A (dC, dI) cX4_store 4 RX4 ow_dm_X4_store (dk_X4 ac)) (K : nd_Ki p l e (headSpec ow_dm_X4_store ({ frames := 2, cells := 0, slots := 0, locals := 65 })).room s m args below meth c Q A (dC, dI) cX4_store .int (St × (St × (St))) (dw_X4 a ac) r) : dj_X4_store_0 p l e s m args below meth c Q A dC dI a ac (df_X4_store_0 n) r := by
  obtain ⟨hlt, hx, hb, hml, hown, hts, hN, hA, hK⟩ := id C
  intro v0 v1 v2 s0 H locs ls h hP hD hS hl
  unfold df_X4_store_0 at h
  refine lv_iload_n hx hb dX4_store_0 rfl (lv_at hl 1 rfl) ?_
  refine lv_iconst (v := 2) hx hb dX4_store_1 (by decide) ?_
  refine lv_icmp_le (tgt := 7) hx hb dX4_store_2 (by decide) (fun c1 => ?_) (fun c1 => ?_)
  · have h := nd_pos h c1
    refine lv_iload_n hx hb dX4_store_7 rfl (lv_at hl 2 rfl) ?_
    refine lv_iconst (v := 1) hx hb dX4_store_8 (by decide) ?_
    refine lv_iload_n hx hb dX4_store_9 rfl (lv_at hl 1 rfl) ?_
    refine lv_ishl hx hb dX4_store_10 ?_
    refine lv_iconst (v := 1) hx hb dX4_store_11 (by decide) ?_
    refine lv_isub hx hb dX4_store_12 ?_
    refine lv_iand hx hb dX4_store_13 ?_
    refine lv_if_eq (tgt := 20) hx hb dX4_store_14 (by decide) (fun c2 => ?_) (fun c2 => ?_)
    · have h := nd_pos h c2
      refine lv_aload_n hx hb dX4_store_20 rfl (lv_at hl 0 rfl) ?_
      refine va_get (D := (dC, dI)) (ci := 5) (v := .ref (a 1)) (C := RX4) (T := TX4) (N := 6) hx hb hts hi_dm_X4_store_X4 hown hK hP 0 rfl rfl 0 (by decide) (hts (.fieldLink RX4 7 "TimeMachine$Hart" "machine" "LTimeMachine$Machine;") (List.mem_of_getElem? (i := 1) rfl)) (fun _ h9 => h9) rfl dX4_store_21 ?_
      refine lv_aload_n hx hb dX4_store_24 rfl (lv_at hl 0 rfl) ?_
      refine va_get (D := (dC, dI)) (ci := 5) (v := .int (sI s0.1 0)) (C := RX4) (T := TX4) (N := 6) hx hb hts hi_dm_X4_store_X4 hown hK hP 0 rfl rfl 2 (by decide) (hts (.fieldLink RX4 20 "TimeMachine$Hart" "process" "I") (List.mem_of_getElem? (i := 2) rfl)) (fun _ h9 => h9) rfl dX4_store_25 ?_
      refine lv_iload_n hx hb dX4_store_28 rfl (lv_at hl 2 rfl) ?_
      refine lv_iconst (v := 2) hx hb dX4_store_29 (by decide) ?_
      obtain ⟨q3, s4, hq, h⟩ := nd_b2_e h
      have hPc := dp_X4_1 hP
      have hDc := dd_X4_1 hD
      have hKc := dy_X4_1 hK
      have hFc := nd_rs hDc hS hA
      have hzA : ∀ q : Nat, H.size ≤ q → A q := fun q h => hA q (Nat.le_trans hS.1 h)
      refine nd_cVi (As := [.int (sI s0.1 0), .int v1, .int 2]) (rest := []) (q := q3) (w' := dw_X6 (fun k => a (k + 1)) (fun k => ac (k + 1)) s4) ⟨hx, hb, hml, hown, hts⟩ (fun sz => dm_X6_may l hlt dC dI (fun k => a (k + 1)) (fun k => ac (k + 1)) n ((sI s0.1 0)) (v1) (2) s0.2 hq sz) (cwV 3 hts gi_dm_X4_store_0 rfl rfl rfl (by decide +kernel) ⟨Nat.le_of_ble_eq_true rfl, Nat.le_of_ble_eq_true rfl⟩) hPc hDc hKc hS hA hN (va_recv hKc hPc (ci := 7) (q0 := 0) rfl rfl) rfl hl.1 rfl (Nat.le_of_ble_eq_true rfl) dX4_store_30 (fun H locs hP1 hD1 hk1 hS => ?_)
      obtain ⟨hP, hD⟩ := dn_X4_1 hP hD hzA hk1 hP1 hD1
      obtain ⟨s6, es6, h⟩ := nd_let_e h
      have hP : va_P (dC, dI) vwCl (dw_X4 a ac s6) H := by rw [es6]; exact hP
      have hD : va_D A (dw_X4 a ac s6) := by rw [es6]; exact hD
      refine lv_if_ne (tgt := 39) hx hb dX4_store_33 (by decide) (fun c7 => ?_) (fun c7 => ?_)
      · have h := nd_neg h c7
        refine lv_aload_n hx hb dX4_store_39 rfl (lv_at hl 0 rfl) ?_
        refine va_get (D := (dC, dI)) (ci := 5) (v := .ref (a 1)) (C := RX4) (T := TX4) (N := 6) hx hb hts hi_dm_X4_store_X4 hown hK hP 0 rfl rfl 0 (by decide) (hts (.fieldLink RX4 7 "TimeMachine$Hart" "machine" "LTimeMachine$Machine;") (List.mem_of_getElem? (i := 1) rfl)) (fun _ h9 => h9) rfl dX4_store_40 ?_
        refine lv_aload_n hx hb dX4_store_43 rfl (lv_at hl 0 rfl) ?_
        refine va_get (D := (dC, dI)) (ci := 5) (v := .int (sI s6.1 0)) (C := RX4) (T := TX4) (N := 6) hx hb hts hi_dm_X4_store_X4 hown hK hP 0 rfl rfl 2 (by decide) (hts (.fieldLink RX4 20 "TimeMachine$Hart" "process" "I") (List.mem_of_getElem? (i := 2) rfl)) (fun _ h9 => h9) rfl dX4_store_44 ?_
        refine lv_iload_n hx hb dX4_store_47 rfl (lv_at hl 2 rfl) ?_
        obtain ⟨q8, s9, hq, h⟩ := nd_b2_e h
        have hPc := dp_X4_1 hP
        have hDc := dd_X4_1 hD
        have hKc := dy_X4_1 hK
        have hFc := nd_rs hDc hS hA
        have hzA : ∀ q : Nat, H.size ≤ q → A q := fun q h => hA q (Nat.le_trans hS.1 h)
        refine nd_cVi (As := [.int (sI s6.1 0), .int v1]) (rest := []) (q := q8) (w' := dw_X6 (fun k => a (k + 1)) (fun k => ac (k + 1)) s9) ⟨hx, hb, hml, hown, hts⟩ (fun sz => dm_X6_own l hlt dC dI (fun k => a (k + 1)) (fun k => ac (k + 1)) n ((sI s6.1 0)) (v1) s6.2 hq sz) (cwV 2 hts gi_dm_X4_store_1 rfl rfl rfl (by decide +kernel) ⟨Nat.le_of_ble_eq_true rfl, Nat.le_of_ble_eq_true rfl⟩) hPc hDc hKc hS hA hN (va_recv hKc hPc (ci := 7) (q0 := 0) rfl rfl) rfl hl.1 rfl (Nat.le_of_ble_eq_true rfl) dX4_store_48 (fun H locs hP1 hD1 hk1 hS => ?_)
        obtain ⟨hP, hD⟩ := dn_X4_1 hP hD hzA hk1 hP1 hD1
        obtain ⟨s11, es11, h⟩ := nd_let_e h
        have hP : va_P (dC, dI) vwCl (dw_X4 a ac s11) H := by rw [es11]; exact hP
        have hD : va_D A (dw_X4 a ac s11) := by rw [es11]; exact hD
        refine lv_if_ne (tgt := 57) hx hb dX4_store_51 (by decide) (fun c12 => ?_) (fun c12 => ?_)
        · have h := nd_neg h c12
          refine lv_aload_n hx hb dX4_store_57 rfl (lv_at hl 0 rfl) ?_
          refine va_get (D := (dC, dI)) (ci := 5) (v := .ref (a 1)) (C := RX4) (T := TX4) (N := 6) hx hb hts hi_dm_X4_store_X4 hown hK hP 0 rfl rfl 0 (by decide) (hts (.fieldLink RX4 7 "TimeMachine$Hart" "machine" "LTimeMachine$Machine;") (List.mem_of_getElem? (i := 1) rfl)) (fun _ h9 => h9) rfl dX4_store_58 ?_
          refine lv_aload_n hx hb dX4_store_61 rfl (lv_at hl 0 rfl) ?_
          refine va_get (D := (dC, dI)) (ci := 5) (v := .int (sI s11.1 0)) (C := RX4) (T := TX4) (N := 6) hx hb hts hi_dm_X4_store_X4 hown hK hP 0 rfl rfl 2 (by decide) (hts (.fieldLink RX4 20 "TimeMachine$Hart" "process" "I") (List.mem_of_getElem? (i := 2) rfl)) (fun _ h9 => h9) rfl dX4_store_62 ?_
          refine lv_iload_n hx hb dX4_store_65 rfl (lv_at hl 2 rfl) ?_
          refine lv_iload_n hx hb dX4_store_66 rfl (lv_at hl 1 rfl) ?_
          refine lv_if_ne (tgt := 76) hx hb dX4_store_67 (by decide) (fun c13 => ?_) (fun c13 => ?_)
          · have h := nd_neg h c13
            refine lv_iload_n hx hb dX4_store_76 rfl (lv_at hl 1 rfl) ?_
            refine lv_iconst (v := 1) hx hb dX4_store_77 (by decide) ?_
            refine lv_icmp_ne (tgt := 86) hx hb dX4_store_78 (by decide) (fun c14 => ?_) (fun c14 => ?_)
            · have h := nd_neg h c14
              refine lv_iconst (v := (-1)) hx hb dX4_store_86 (by decide) ?_
              exact (db_X4_store_87 C K) (v0) (v1) (v2) ((sI s11.1 0)) (v1) ((-1)) s11 _ _ _ h hP hD hS (lv_sub hl [0, 1, 2, 3] rfl)
            · have h := nd_pos h c14
              refine lv_ldc hx hb hown (hts (.constant RX4 104 (65535)) (List.mem_of_getElem? (i := 16) rfl)) dX4_store_81 ?_
              refine lv_goto (tgt := 87) hx hb dX4_store_83 (by decide) ?_
              exact (db_X4_store_87 C K) (v0) (v1) (v2) ((sI s11.1 0)) (v1) (65535) s11 _ _ _ h hP hD hS (lv_sub hl [0, 1, 2, 3] rfl)
          · have h := nd_pos h c13
            refine lv_sipush (v := 255) hx hb dX4_store_70 (by decide) ?_
            refine lv_goto (tgt := 87) hx hb dX4_store_73 (by decide) ?_
            exact (db_X4_store_87 C K) (v0) (v1) (v2) ((sI s11.1 0)) (v1) (255) s11 _ _ _ h hP hD hS (lv_sub hl [0, 1, 2, 3] rfl)
        · have h := nd_pos h c12
          refine lv_bipush (v := 7) hx hb dX4_store_54 (by decide) ?_
          exact K _ _ _ _ _ _ dX4_store_56 rfl (Option.some.inj h).symm hP hD hS
      · have h := nd_pos h c7
        refine lv_bipush (v := 11) hx hb dX4_store_36 (by decide) ?_
        exact K _ _ _ _ _ _ dX4_store_38 rfl (Option.some.inj h).symm hP hD hS
    · have h := nd_neg h c2
      refine lv_bipush (v := 7) hx hb dX4_store_17 (by decide) ?_
      exact K _ _ _ _ _ _ dX4_store_19 rfl (Option.some.inj h).symm hP hD hS
  · have h := nd_neg h c1
    refine lv_iconst (v := 4) hx hb dX4_store_5 (by decide) ?_
    exact K _ _ _ _ _ _ dX4_store_6 rfl (Option.some.inj h).symm hP hD hS
set_option maxHeartbeats 40000000 in
set_option maxRecDepth 100000 in
theorem dm_X4_store (l : Launch) (hlt : l.stackTraces = false) (dC : Nat → ClassId) (dI : Nat → Nat → Nat) (a : Nat → Nat) (ac : Nat → ClassId) (n : Nat) (v0 : Int32) (v1 : Int32) (v2 : Int32) (s0 : St × (St × (St))) {r : Int32 × (St × (St × (St)))} (h : df_X4_store n v0 v1 v2 s0 = some r) (sz : Nat) : Met l yX4_store ow_dm_X4_store ({ frames := 2, cells := 0, slots := 0, locals := 65 }) (va_Pc [.ref (a 0), .int v0, .int v1, .int v2] (fun U => U.heap.size = sz ∧ va_P (dC, dI) vwCl (dw_X4 a ac s0) U.heap ∧ va_K (dC, dI) vwCl (dk_X4 ac) U ∧ va_D (fun _ => True) (dw_X4 a ac s0) ∧ nv_E (va_A (dw_X4 a ac s0) sz) U)) (va_Qi (fun x _ => x = r.1) (fun (_ : Unit) t => va_P (dC, dI) vwCl (dw_X4 a ac r.2) t.heap ∧ va_K (dC, dI) vwCl (dk_X4 ac) t ∧ va_D (va_A (dw_X4 a ac s0) sz) (dw_X4 a ac r.2)) (va_A (dw_X4 a ac s0) sz)) 0 0 (va_A (dw_X4 a ac s0) sz) := by
  refine Met.ofW (cc := cX4_store) (maxL := 4) (ret := (some .int)) (by decide) rfl ?_
  intro p e s m args below meth c s₁ B hml hv
  obtain ⟨rfl, hsz, hP, hK, hD0, hN⟩ := hv
  have hx := B.exec
  have hb := B.bytes
  have hr := B.returns
  have hts := atoms_spec (ws := ow_dm_X4_store) B.pre
  have hown : s.vm.findClass RX4 = some m.cls := findClass_of_methodNamed B.named
  have hlocks := B.notSynchronized
  subst hsz
  have hD := hD0.self (sz := s.heap.size)
  generalize hAe : va_A (dw_X4 a ac s0) s.heap.size = A at hD hN ⊢
  have hA : ∀ q : Nat, s.heap.size ≤ q → A q := fun q h => by rw [← hAe]; exact Or.inr h
  have hl := lv_entry ([.ref (a 0), .int v0, .int v1, .int v2]) (n := 4) (Nat.le_of_ble_eq_true rfl)
  rw [lg_entry_eq]
  generalize (lg_sl ([.ref (a 0), .int v0, .int v1, .int v2]) ++ List.replicate (4 - (lg_sl ([.ref (a 0), .int v0, .int v1, .int v2])).length) Slot.unset).toArray = ls at hl ⊢
  have hl : lv_has ls 4 [(0, .ref (a 0)), (1, .int v0), (2, .int v1), (3, .int v2)] := hl
  exact db_X4_store_0 (dC := dC) (dI := dI) (a := a) (ac := ac) (n := n) (r := r) ⟨hlt, hx, hb, hml, hown, hts, hN, hA, hK⟩ (fun pc v τ H locs ls d z er hP hD hS => by subst er; exact W.zret (v := v) hx hb hr z (fun t ht hW => ⟨⟨v, (), rfl, rfl, by rw [ht]; exact hP, va_K.moved hW.alike hK, hD⟩, hS.F ht⟩) hS.2.2 d) v0 v1 v2 s0 _ _ _ h hP hD va_S.rf (lv_sub hl [0, 1, 2, 3] rfl)
def ow_dm_X4_isAtomic : List Cond := .code yX4_isAtomic cX4_isAtomic 1 (some .boolean) :: ([] ++ [])
theorem gd_dm_X4_isAtomic : ∀ w ∈ ow_dm_X4_isAtomic, (w.onTables && w.keeps) = true ∨ ∃ ty, w = Cond.arrayClass ty := List.forall_mem_cons.mpr ⟨good_of_word rfl, List.forall_mem_append.mpr ⟨fun w h => good_of_word (List.all_eq_true.mp (by decide +kernel) w h), fun _ h => nomatch h⟩⟩
def dj_X4_isAtomic_16 (p : Program) (l : Launch) (e : Env) (s : State) (m : MethodId) (args : Array Value) (below : List Frame) (meth : Method) (c : Code) (Q : State → Prop) (A : Nat → Prop) (dC : Nat → ClassId) (dI : Nat → Nat → Nat) (a : Nat → Nat) (ac : Nat → ClassId) (g : Int32 → (Unit) → Option (Int32 × (Unit))) (r : Int32 × (Unit)) : Prop := ∀ (y0 : Int32) (s0 : Unit) (H : Heap) (locs : List Loc) (ls : Array Slot), g y0 s0 = some r → va_P (dC, dI) vwCl (dw_P a ac s0) H → va_D A (dw_P a ac s0) → va_S A s.heap H locs → lv_has ls 1 [] → W p l e (headSpec ow_dm_X4_isAtomic ({ frames := 0, cells := 0, slots := 0, locals := 0 })).room s m args below meth c H locs 0 0 Q (F0 m 16 ls [.int y0])
def dj_X4_isAtomic_11 (p : Program) (l : Launch) (e : Env) (s : State) (m : MethodId) (args : Array Value) (below : List Frame) (meth : Method) (c : Code) (Q : State → Prop) (A : Nat → Prop) (dC : Nat → ClassId) (dI : Nat → Nat → Nat) (a : Nat → Nat) (ac : Nat → ClassId) (g : (Unit) → Option (Int32 × (Unit))) (r : Int32 × (Unit)) : Prop := ∀ (s0 : Unit) (H : Heap) (locs : List Loc) (ls : Array Slot), g s0 = some r → va_P (dC, dI) vwCl (dw_P a ac s0) H → va_D A (dw_P a ac s0) → va_S A s.heap H locs → lv_has ls 1 [] → W p l e (headSpec ow_dm_X4_isAtomic ({ frames := 0, cells := 0, slots := 0, locals := 0 })).room s m args below meth c H locs 0 0 Q (F0 m 11 ls [])
def dj_X4_isAtomic_0 (p : Program) (l : Launch) (e : Env) (s : State) (m : MethodId) (args : Array Value) (below : List Frame) (meth : Method) (c : Code) (Q : State → Prop) (A : Nat → Prop) (dC : Nat → ClassId) (dI : Nat → Nat → Nat) (a : Nat → Nat) (ac : Nat → ClassId) (g : Int32 → (Unit) → Option (Int32 × (Unit))) (r : Int32 × (Unit)) : Prop := ∀ (v0 : Int32) (s0 : Unit) (H : Heap) (locs : List Loc) (ls : Array Slot), g v0 s0 = some r → va_P (dC, dI) vwCl (dw_P a ac s0) H → va_D A (dw_P a ac s0) → va_S A s.heap H locs → lv_has ls 1 [(0, .int v0)] → W p l e (headSpec ow_dm_X4_isAtomic ({ frames := 0, cells := 0, slots := 0, locals := 0 })).room s m args below meth c H locs 0 0 Q (F0 m 0 ls [])
set_option maxHeartbeats 40000000 in
set_option maxRecDepth 100000 in
theorem db_X4_isAtomic_16 {p : Program} {l : Launch} {e : Env} {s : State} {m : MethodId} {args : Array Value} {below : List Frame} {meth : Method} {c : Code} {Q : State → Prop} {A : Nat → Prop} {dC : Nat → ClassId} {dI : Nat → Nat → Nat} {a : Nat → Nat} {ac : Nat → ClassId} {n : Nat} {r : Int32 × (Unit)} (C : nd_C p l s m args c A (dC, dI) cX4_isAtomic 1 RX4 ow_dm_X4_isAtomic (dk_P ac)) (K : nd_Ki p l e (headSpec ow_dm_X4_isAtomic ({ frames := 0, cells := 0, slots := 0, locals := 0 })).room s m args below meth c Q A (dC, dI) cX4_isAtomic .boolean (Unit) (dw_P a ac) r) : dj_X4_isAtomic_16 p l e s m args below meth c Q A dC dI a ac (df_X4_isAtomic_16 n) r := by
  obtain ⟨hlt, hx, hb, hml, hown, hts, hN, hA, hK⟩ := id C
  intro y0 s0 H locs ls h hP hD hS hl
  unfold df_X4_isAtomic_16 at h
  obtain ⟨n2, h⟩ := nd_z_e ⟨_, rfl⟩ h
  exact K _ _ _ _ _ _ dX4_isAtomic_16 n2 (Option.some.inj h).symm hP hD hS
set_option maxHeartbeats 40000000 in
set_option maxRecDepth 100000 in
theorem db_X4_isAtomic_11 {p : Program} {l : Launch} {e : Env} {s : State} {m : MethodId} {args : Array Value} {below : List Frame} {meth : Method} {c : Code} {Q : State → Prop} {A : Nat → Prop} {dC : Nat → ClassId} {dI : Nat → Nat → Nat} {a : Nat → Nat} {ac : Nat → ClassId} {n : Nat} {r : Int32 × (Unit)} (C : nd_C p l s m args c A (dC, dI) cX4_isAtomic 1 RX4 ow_dm_X4_isAtomic (dk_P ac)) (K : nd_Ki p l e (headSpec ow_dm_X4_isAtomic ({ frames := 0, cells := 0, slots := 0, locals := 0 })).room s m args below meth c Q A (dC, dI) cX4_isAtomic .boolean (Unit) (dw_P a ac) r) : dj_X4_isAtomic_11 p l e s m args below meth c Q A dC dI a ac (df_X4_isAtomic_11 n) r := by
  obtain ⟨hlt, hx, hb, hml, hown, hts, hN, hA, hK⟩ := id C
  intro s0 H locs ls h hP hD hS hl
  unfold df_X4_isAtomic_11 at h
  refine lv_iconst (v := 1) hx hb dX4_isAtomic_11 (by decide) ?_
  refine lv_goto (tgt := 16) hx hb dX4_isAtomic_12 (by decide) ?_
  exact (db_X4_isAtomic_16 C K) (1) s0 _ _ _ h hP hD hS (lv_sub hl [] rfl)
set_option maxHeartbeats 40000000 in
set_option maxRecDepth 100000 in
theorem db_X4_isAtomic_0 {p : Program} {l : Launch} {e : Env} {s : State} {m : MethodId} {args : Array Value} {below : List Frame} {meth : Method} {c : Code} {Q : State → Prop} {A : Nat → Prop} {dC : Nat → ClassId} {dI : Nat → Nat → Nat} {a : Nat → Nat} {ac : Nat → ClassId} {n : Nat} {r : Int32 × (Unit)} (C : nd_C p l s m args c A (dC, dI) cX4_isAtomic 1 RX4 ow_dm_X4_isAtomic (dk_P ac)) (K : nd_Ki p l e (headSpec ow_dm_X4_isAtomic ({ frames := 0, cells := 0, slots := 0, locals := 0 })).room s m args below meth c Q A (dC, dI) cX4_isAtomic .boolean (Unit) (dw_P a ac) r) : dj_X4_isAtomic_0 p l e s m args below meth c Q A dC dI a ac (df_X4_isAtomic_0 n) r := by
  obtain ⟨hlt, hx, hb, hml, hown, hts, hN, hA, hK⟩ := id C
  intro v0 s0 H locs ls h hP hD hS hl
  unfold df_X4_isAtomic_0 at h
  refine lv_iload_n hx hb dX4_isAtomic_0 rfl (lv_at hl 0 rfl) ?_
  refine lv_iconst (v := 4) hx hb dX4_isAtomic_1 (by decide) ?_
  refine lv_icmp_le (tgt := 11) hx hb dX4_isAtomic_2 (by decide) (fun c1 => ?_) (fun c1 => ?_)
  · have h := nd_pos h c1
    exact (db_X4_isAtomic_11 C K)  s0 _ _ _ h hP hD hS (lv_sub hl [] rfl)
  · have h := nd_neg h c1
    refine lv_iload_n hx hb dX4_isAtomic_5 rfl (lv_at hl 0 rfl) ?_
    refine lv_iconst (v := 3) hx hb dX4_isAtomic_6 (by decide) ?_
    refine lv_iand hx hb dX4_isAtomic_7 ?_
    refine lv_if_ne (tgt := 15) hx hb dX4_isAtomic_8 (by decide) (fun c3 => ?_) (fun c3 => ?_)
    · have h := nd_neg h c3
      refine lv_iconst (v := 0) hx hb dX4_isAtomic_15 (by decide) ?_
      exact (db_X4_isAtomic_16 C K) (0) s0 _ _ _ h hP hD hS (lv_sub hl [] rfl)
    · have h := nd_pos h c3
      exact (db_X4_isAtomic_11 C K)  s0 _ _ _ h hP hD hS (lv_sub hl [] rfl)
set_option maxHeartbeats 40000000 in
set_option maxRecDepth 100000 in
theorem dm_X4_isAtomic (l : Launch) (hlt : l.stackTraces = false) (dC : Nat → ClassId) (dI : Nat → Nat → Nat) (a : Nat → Nat) (ac : Nat → ClassId) (n : Nat) (v0 : Int32) (s0 : Unit) {r : Int32 × (Unit)} (h : df_X4_isAtomic n v0 s0 = some r) (sz : Nat) : Met l yX4_isAtomic ow_dm_X4_isAtomic ({ frames := 0, cells := 0, slots := 0, locals := 0 }) (va_Pc [.int v0] (fun U => U.heap.size = sz ∧ va_P (dC, dI) vwCl (dw_P a ac s0) U.heap ∧ va_K (dC, dI) vwCl (dk_P ac) U ∧ va_D (fun _ => True) (dw_P a ac s0) ∧ nv_E (va_A (dw_P a ac s0) sz) U)) (va_Qi (fun x _ => x = r.1) (fun (_ : Unit) t => va_P (dC, dI) vwCl (dw_P a ac r.2) t.heap ∧ va_K (dC, dI) vwCl (dk_P ac) t ∧ va_D (va_A (dw_P a ac s0) sz) (dw_P a ac r.2)) (va_A (dw_P a ac s0) sz)) 0 0 (va_A (dw_P a ac s0) sz) := by
  refine Met.ofW (cc := cX4_isAtomic) (maxL := 1) (ret := (some .boolean)) (by decide) rfl ?_
  intro p e s m args below meth c s₁ B hml hv
  obtain ⟨rfl, hsz, hP, hK, hD0, hN⟩ := hv
  have hx := B.exec
  have hb := B.bytes
  have hr := B.returns
  have hts := atoms_spec (ws := ow_dm_X4_isAtomic) B.pre
  have hown : s.vm.findClass RX4 = some m.cls := findClass_of_methodNamed B.named
  have hlocks := B.notSynchronized
  subst hsz
  have hD := hD0.self (sz := s.heap.size)
  generalize hAe : va_A (dw_P a ac s0) s.heap.size = A at hD hN ⊢
  have hA : ∀ q : Nat, s.heap.size ≤ q → A q := fun q h => by rw [← hAe]; exact Or.inr h
  have hl := lv_entry ([.int v0]) (n := 1) (Nat.le_of_ble_eq_true rfl)
  rw [lg_entry_eq]
  generalize (lg_sl ([.int v0]) ++ List.replicate (1 - (lg_sl ([.int v0])).length) Slot.unset).toArray = ls at hl ⊢
  have hl : lv_has ls 1 [(0, .int v0)] := hl
  exact db_X4_isAtomic_0 (dC := dC) (dI := dI) (a := a) (ac := ac) (n := n) (r := r) ⟨hlt, hx, hb, hml, hown, hts, hN, hA, hK⟩ (fun pc v τ H locs ls d z er hP hD hS => by subst er; exact W.zret (v := v) hx hb hr z (fun t ht hW => ⟨⟨v, (), rfl, rfl, by rw [ht]; exact hP, va_K.moved hW.alike hK, hD⟩, hS.F ht⟩) hS.2.2 d) v0 s0 _ _ _ h hP hD va_S.rf (lv_sub hl [0] rfl)
def ow_dm_X4_changed : List Cond := .code yX4_changed cX4_changed 3 (some .int) :: ([.methodLink RX4 89 yJ6_compareUnsigned_7cf53, .static yJ6_compareUnsigned_7cf53, .initialized RJ6, .methodLink RX4 128 Lib.Math.min.name, .static Lib.Math.min.name, .initialized "java/lang/Math", .code Lib.Math.min.name Lib.Math.min.code 2 (some .int), .methodLink RX4 133 Lib.Math.max.name, .static Lib.Math.max.name, .code Lib.Math.max.name Lib.Math.max.code 2 (some .int)] ++ (ow_dm_J6_compareUnsigned_7cf53 ++ []))
theorem gd_dm_X4_changed : ∀ w ∈ ow_dm_X4_changed, (w.onTables && w.keeps) = true ∨ ∃ ty, w = Cond.arrayClass ty := List.forall_mem_cons.mpr ⟨good_of_word rfl, List.forall_mem_append.mpr ⟨fun w h => good_of_word (List.all_eq_true.mp (by decide +kernel) w h), List.forall_mem_append.mpr ⟨gd_dm_J6_compareUnsigned_7cf53, fun _ h => nomatch h⟩⟩⟩
theorem gi_dm_X4_changed_0 : GoodIn ow_dm_X4_changed (va_wsS RX4 89 yJ6_compareUnsigned_7cf53 ow_dm_J6_compareUnsigned_7cf53) := goodIn_app (goodIn_of _ (by decide +kernel)) (fun w h => ⟨List.mem_cons_of_mem _ (List.mem_append_right _ (List.mem_append_left _ h)), gd_dm_J6_compareUnsigned_7cf53 w h⟩)
def dj_X4_changed_173 (p : Program) (l : Launch) (e : Env) (s : State) (m : MethodId) (args : Array Value) (below : List Frame) (meth : Method) (c : Code) (Q : State → Prop) (A : Nat → Prop) (dC : Nat → ClassId) (dI : Nat → Nat → Nat) (a : Nat → Nat) (ac : Nat → ClassId) (g : Int32 → (Unit) → Option (Int32 × (Unit))) (r : Int32 × (Unit)) : Prop := ∀ (y0 : Int32) (s0 : Unit) (H : Heap) (locs : List Loc) (ls : Array Slot), g y0 s0 = some r → va_P (dC, dI) vwCl (dw_P a ac s0) H → va_D A (dw_P a ac s0) → va_S A s.heap H locs → lv_has ls 3 [] → W p l e (headSpec ow_dm_X4_changed ({ frames := 2, cells := 0, slots := 0, locals := 42 })).room s m args below meth c H locs 0 0 Q (F0 m 173 ls [.int y0])
def dj_X4_changed_160 (p : Program) (l : Launch) (e : Env) (s : State) (m : MethodId) (args : Array Value) (below : List Frame) (meth : Method) (c : Code) (Q : State → Prop) (A : Nat → Prop) (dC : Nat → ClassId) (dI : Nat → Nat → Nat) (a : Nat → Nat) (ac : Nat → ClassId) (g : Int32 → Int32 → (Unit) → Option (Int32 × (Unit))) (r : Int32 × (Unit)) : Prop := ∀ (x1 : Int32) (x2 : Int32) (s0 : Unit) (H : Heap) (locs : List Loc) (ls : Array Slot), g x1 x2 s0 = some r → va_P (dC, dI) vwCl (dw_P a ac s0) H → va_D A (dw_P a ac s0) → va_S A s.heap H locs → lv_has ls 3 [(1, .int x1), (2, .int x2)] → W p l e (headSpec ow_dm_X4_changed ({ frames := 2, cells := 0, slots := 0, locals := 42 })).room s m args below meth c H locs 0 0 Q (F0 m 160 ls [])
def dj_X4_changed_159 (p : Program) (l : Launch) (e : Env) (s : State) (m : MethodId) (args : Array Value) (below : List Frame) (meth : Method) (c : Code) (Q : State → Prop) (A : Nat → Prop) (dC : Nat → ClassId) (dI : Nat → Nat → Nat) (a : Nat → Nat) (ac : Nat → ClassId) (g : Int32 → (Unit) → Option (Int32 × (Unit))) (r : Int32 × (Unit)) : Prop := ∀ (y0 : Int32) (s0 : Unit) (H : Heap) (locs : List Loc) (ls : Array Slot), g y0 s0 = some r → va_P (dC, dI) vwCl (dw_P a ac s0) H → va_D A (dw_P a ac s0) → va_S A s.heap H locs → lv_has ls 3 [] → W p l e (headSpec ow_dm_X4_changed ({ frames := 2, cells := 0, slots := 0, locals := 42 })).room s m args below meth c H locs 0 0 Q (F0 m 159 ls [.int y0])
def dj_X4_changed_0 (p : Program) (l : Launch) (e : Env) (s : State) (m : MethodId) (args : Array Value) (below : List Frame) (meth : Method) (c : Code) (Q : State → Prop) (A : Nat → Prop) (dC : Nat → ClassId) (dI : Nat → Nat → Nat) (a : Nat → Nat) (ac : Nat → ClassId) (g : Int32 → Int32 → Int32 → (Unit) → Option (Int32 × (Unit))) (r : Int32 × (Unit)) : Prop := ∀ (v0 : Int32) (v1 : Int32) (v2 : Int32) (s0 : Unit) (H : Heap) (locs : List Loc) (ls : Array Slot), g v0 v1 v2 s0 = some r → va_P (dC, dI) vwCl (dw_P a ac s0) H → va_D A (dw_P a ac s0) → va_S A s.heap H locs → lv_has ls 3 [(0, .int v0), (1, .int v1), (2, .int v2)] → W p l e (headSpec ow_dm_X4_changed ({ frames := 2, cells := 0, slots := 0, locals := 42 })).room s m args below meth c H locs 0 0 Q (F0 m 0 ls [])
set_option maxHeartbeats 40000000 in
set_option maxRecDepth 100000 in
theorem db_X4_changed_173 {p : Program} {l : Launch} {e : Env} {s : State} {m : MethodId} {args : Array Value} {below : List Frame} {meth : Method} {c : Code} {Q : State → Prop} {A : Nat → Prop} {dC : Nat → ClassId} {dI : Nat → Nat → Nat} {a : Nat → Nat} {ac : Nat → ClassId} {n : Nat} {r : Int32 × (Unit)} (C : nd_C p l s m args c A (dC, dI) cX4_changed 3 RX4 ow_dm_X4_changed (dk_P ac)) (K : nd_Ki p l e (headSpec ow_dm_X4_changed ({ frames := 2, cells := 0, slots := 0, locals := 42 })).room s m args below meth c Q A (dC, dI) cX4_changed .int (Unit) (dw_P a ac) r) : dj_X4_changed_173 p l e s m args below meth c Q A dC dI a ac (df_X4_changed_173 n) r := by
  obtain ⟨hlt, hx, hb, hml, hown, hts, hN, hA, hK⟩ := id C
  intro y0 s0 H locs ls h hP hD hS hl
  unfold df_X4_changed_173 at h
  exact K _ _ _ _ _ _ dX4_changed_173 rfl (Option.some.inj h).symm hP hD hS
set_option maxHeartbeats 40000000 in
set_option maxRecDepth 100000 in
theorem db_X4_changed_160 {p : Program} {l : Launch} {e : Env} {s : State} {m : MethodId} {args : Array Value} {below : List Frame} {meth : Method} {c : Code} {Q : State → Prop} {A : Nat → Prop} {dC : Nat → ClassId} {dI : Nat → Nat → Nat} {a : Nat → Nat} {ac : Nat → ClassId} {n : Nat} {r : Int32 × (Unit)} (C : nd_C p l s m args c A (dC, dI) cX4_changed 3 RX4 ow_dm_X4_changed (dk_P ac)) (K : nd_Ki p l e (headSpec ow_dm_X4_changed ({ frames := 2, cells := 0, slots := 0, locals := 42 })).room s m args below meth c Q A (dC, dI) cX4_changed .int (Unit) (dw_P a ac) r) : dj_X4_changed_160 p l e s m args below meth c Q A dC dI a ac (df_X4_changed_160 n) r := by
  obtain ⟨hlt, hx, hb, hml, hown, hts, hN, hA, hK⟩ := id C
  intro x1 x2 s0 H locs ls h hP hD hS hl
  unfold df_X4_changed_160 at h
  refine lv_iload_n hx hb dX4_changed_160 rfl (lv_at hl 0 rfl) ?_
  refine lv_iload_n hx hb dX4_changed_161 rfl (lv_at hl 1 rfl) ?_
  obtain ⟨q4, s5, hq, h⟩ := nd_b2_e h
  have hPc : va_P (dC, dI) vwCl (dw_P a ac ()) H := nd_p0
  have hDc : va_D A (dw_P a ac ()) := nd_d0
  have hKc : va_K (dC, dI) vwCl (dk_P ac) s := nd_y0 hK
  have hFc : ∀ q, va_A (dw_P a ac ()) H.size q → A q := nd_r0 hS hA
  refine nd_cSi (As := [.int x1, .int x2]) (rest := []) (q := q4) (w' := dw_P a ac s5) ⟨hx, hb, hml, hown, hts⟩ (fun sz => dm_J6_compareUnsigned_7cf53 l hlt dC dI a ac n (x1) (x2) () hq sz) (va_cwS 2 hts gi_dm_X4_changed_0 rfl rfl rfl (by decide +kernel) ⟨Nat.le_of_ble_eq_true rfl, Nat.le_of_ble_eq_true rfl⟩) hPc hDc hKc hS hA hN rfl hl.1 rfl (Nat.le_of_ble_eq_true rfl) dX4_changed_162 (fun H locs hP1 hD1 hk1 hS => ?_)
  have hP := nd_n0 hP hk1
  refine lv_if_le (tgt := 172) hx hb dX4_changed_165 (by decide) (fun c7 => ?_) (fun c7 => ?_)
  · have h := nd_pos h c7
    refine lv_iload_n hx hb dX4_changed_172 rfl (lv_at hl 1 rfl) ?_
    exact (db_X4_changed_173 C K) (x2) s0 _ _ _ h hP hD hS (lv_sub hl [] rfl)
  · have h := nd_neg h c7
    refine lv_iload_n hx hb dX4_changed_168 rfl (lv_at hl 0 rfl) ?_
    refine lv_goto (tgt := 173) hx hb dX4_changed_169 (by decide) ?_
    exact (db_X4_changed_173 C K) (x1) s0 _ _ _ h hP hD hS (lv_sub hl [] rfl)
set_option maxHeartbeats 40000000 in
set_option maxRecDepth 100000 in
theorem db_X4_changed_159 {p : Program} {l : Launch} {e : Env} {s : State} {m : MethodId} {args : Array Value} {below : List Frame} {meth : Method} {c : Code} {Q : State → Prop} {A : Nat → Prop} {dC : Nat → ClassId} {dI : Nat → Nat → Nat} {a : Nat → Nat} {ac : Nat → ClassId} {n : Nat} {r : Int32 × (Unit)} (C : nd_C p l s m args c A (dC, dI) cX4_changed 3 RX4 ow_dm_X4_changed (dk_P ac)) (K : nd_Ki p l e (headSpec ow_dm_X4_changed ({ frames := 2, cells := 0, slots := 0, locals := 42 })).room s m args below meth c Q A (dC, dI) cX4_changed .int (Unit) (dw_P a ac) r) : dj_X4_changed_159 p l e s m args below meth c Q A dC dI a ac (df_X4_changed_159 n) r := by
  obtain ⟨hlt, hx, hb, hml, hown, hts, hN, hA, hK⟩ := id C
  intro y0 s0 H locs ls h hP hD hS hl
  unfold df_X4_changed_159 at h
  exact K _ _ _ _ _ _ dX4_changed_159 rfl (Option.some.inj h).symm hP hD hS
