def ow_dm_X6_may : List Cond := .code yX6_may cX6_may 4 (some .boolean) :: ([.fieldLink RX6 17 "TimeMachine$Machine" "page" "[I"] ++ (u_ws RX6 TX6 20 ++ []))
theorem gd_dm_X6_may : ∀ w ∈ ow_dm_X6_may, (w.onTables && w.keeps) = true ∨ ∃ ty, w = Cond.arrayClass ty := List.forall_mem_cons.mpr ⟨good_of_word rfl, List.forall_mem_append.mpr ⟨fun w h => good_of_word (List.all_eq_true.mp (by decide +kernel) w h), List.forall_mem_append.mpr ⟨gu_X6, fun _ h => nomatch h⟩⟩⟩
theorem hi_dm_X6_may_X6 : ∀ w ∈ u_ws RX6 TX6 20, w ∈ ow_dm_X6_may := fun w h => List.mem_cons_of_mem _ (List.mem_append_right _ (List.mem_append_left _ h))
def dj_X6_may_31 (p : Program) (l : Launch) (e : Env) (s : State) (m : MethodId) (args : Array Value) (below : List Frame) (meth : Method) (c : Code) (Q : State → Prop) (A : Nat → Prop) (dC : Nat → ClassId) (dI : Nat → Nat → Nat) (a : Nat → Nat) (ac : Nat → ClassId) (g : Int32 → (St × (St)) → Option (Int32 × (St × (St)))) (r : Int32 × (St × (St))) : Prop := ∀ (y0 : Int32) (s0 : St × (St)) (H : Heap) (locs : List Loc) (ls : Array Slot), g y0 s0 = some r → va_P (dC, dI) vwCl (dw_X6 a ac s0) H → va_D A (dw_X6 a ac s0) → va_S A s.heap H locs → lv_has ls 4 [] → W p l e (headSpec ow_dm_X6_may ({ frames := 0, cells := 0, slots := 0, locals := 0 })).room s m args below meth c H locs 0 0 Q (F0 m 31 ls [.int y0])
def dj_X6_may_30 (p : Program) (l : Launch) (e : Env) (s : State) (m : MethodId) (args : Array Value) (below : List Frame) (meth : Method) (c : Code) (Q : State → Prop) (A : Nat → Prop) (dC : Nat → ClassId) (dI : Nat → Nat → Nat) (a : Nat → Nat) (ac : Nat → ClassId) (g : (St × (St)) → Option (Int32 × (St × (St)))) (r : Int32 × (St × (St))) : Prop := ∀ (s0 : St × (St)) (H : Heap) (locs : List Loc) (ls : Array Slot), g s0 = some r → va_P (dC, dI) vwCl (dw_X6 a ac s0) H → va_D A (dw_X6 a ac s0) → va_S A s.heap H locs → lv_has ls 4 [] → W p l e (headSpec ow_dm_X6_may ({ frames := 0, cells := 0, slots := 0, locals := 0 })).room s m args below meth c H locs 0 0 Q (F0 m 30 ls [])
def dj_X6_may_0 (p : Program) (l : Launch) (e : Env) (s : State) (m : MethodId) (args : Array Value) (below : List Frame) (meth : Method) (c : Code) (Q : State → Prop) (A : Nat → Prop) (dC : Nat → ClassId) (dI : Nat → Nat → Nat) (a : Nat → Nat) (ac : Nat → ClassId) (g : Int32 → Int32 → Int32 → (St × (St)) → Option (Int32 × (St × (St)))) (r : Int32 × (St × (St))) : Prop := ∀ (v0 : Int32) (v1 : Int32) (v2 : Int32) (s0 : St × (St)) (H : Heap) (locs : List Loc) (ls : Array Slot), g v0 v1 v2 s0 = some r → va_P (dC, dI) vwCl (dw_X6 a ac s0) H → va_D A (dw_X6 a ac s0) → va_S A s.heap H locs → lv_has ls 4 [(0, .ref (a 0)), (1, .int v0), (2, .int v1), (3, .int v2)] → W p l e (headSpec ow_dm_X6_may ({ frames := 0, cells := 0, slots := 0, locals := 0 })).room s m args below meth c H locs 0 0 Q (F0 m 0 ls [])
set_option maxHeartbeats 40000000 in
set_option maxRecDepth 100000 in
theorem db_X6_may_31 {p : Program} {l : Launch} {e : Env} {s : State} {m : MethodId} {args : Array Value} {below : List Frame} {meth : Method} {c : Code} {Q : State → Prop} {A : Nat → Prop} {dC : Nat → ClassId} {dI : Nat → Nat → Nat} {a : Nat → Nat} {ac : Nat → ClassId} {n : Nat} {r : Int32 × (St × (St))} (C : nd_C p l s m args c A (dC, dI) cX6_may 4 RX6 ow_dm_X6_may (dk_X6 ac)) (K : nd_Ki p l e (headSpec ow_dm_X6_may ({ frames := 0, cells := 0, slots := 0, locals := 0 })).room s m args below meth c Q A (dC, dI) cX6_may .boolean (St × (St)) (dw_X6 a ac) r) : dj_X6_may_31 p l e s m args below meth c Q A dC dI a ac (df_X6_may_31 n) r := by
  obtain ⟨hlt, hx, hb, hml, hown, hts, hN, hA, hK⟩ := id C
  intro y0 s0 H locs ls h hP hD hS hl
  unfold df_X6_may_31 at h
  obtain ⟨n2, h⟩ := nd_z_e ⟨_, rfl⟩ h
  exact K _ _ _ _ _ _ dX6_may_31 n2 (Option.some.inj h).symm hP hD hS
set_option maxHeartbeats 40000000 in
set_option maxRecDepth 100000 in
theorem db_X6_may_30 {p : Program} {l : Launch} {e : Env} {s : State} {m : MethodId} {args : Array Value} {below : List Frame} {meth : Method} {c : Code} {Q : State → Prop} {A : Nat → Prop} {dC : Nat → ClassId} {dI : Nat → Nat → Nat} {a : Nat → Nat} {ac : Nat → ClassId} {n : Nat} {r : Int32 × (St × (St))} (C : nd_C p l s m args c A (dC, dI) cX6_may 4 RX6 ow_dm_X6_may (dk_X6 ac)) (K : nd_Ki p l e (headSpec ow_dm_X6_may ({ frames := 0, cells := 0, slots := 0, locals := 0 })).room s m args below meth c Q A (dC, dI) cX6_may .boolean (St × (St)) (dw_X6 a ac) r) : dj_X6_may_30 p l e s m args below meth c Q A dC dI a ac (df_X6_may_30 n) r := by
  obtain ⟨hlt, hx, hb, hml, hown, hts, hN, hA, hK⟩ := id C
  intro s0 H locs ls h hP hD hS hl
  unfold df_X6_may_30 at h
  refine lv_iconst (v := 0) hx hb dX6_may_30 (by decide) ?_
  exact (db_X6_may_31 C K) (0) s0 _ _ _ h hP hD hS (lv_sub hl [] rfl)
set_option maxHeartbeats 40000000 in
set_option maxRecDepth 100000 in
theorem db_X6_may_0 {p : Program} {l : Launch} {e : Env} {s : State} {m : MethodId} {args : Array Value} {below : List Frame} {meth : Method} {c : Code} {Q : State → Prop} {A : Nat → Prop} {dC : Nat → ClassId} {dI : Nat → Nat → Nat} {a : Nat → Nat} {ac : Nat → ClassId} {n : Nat} {r : Int32 × (St × (St))} (C : nd_C p l s m args c A (dC, dI) cX6_may 4 RX6 ow_dm_X6_may (dk_X6 ac)) (K : nd_Ki p l e (headSpec ow_dm_X6_may ({ frames := 0, cells := 0, slots := 0, locals := 0 })).room s m args below meth c Q A (dC, dI) cX6_may .boolean (St × (St)) (dw_X6 a ac) r) : dj_X6_may_0 p l e s m args below meth c Q A dC dI a ac (df_X6_may_0 n) r := by
  obtain ⟨hlt, hx, hb, hml, hown, hts, hN, hA, hK⟩ := id C
  intro v0 v1 v2 s0 H locs ls h hP hD hS hl
  unfold df_X6_may_0 at h
  refine lv_iload_n hx hb dX6_may_0 rfl (lv_at hl 2 rfl) ?_
  refine lv_bipush (v := 16) hx hb dX6_may_1 (by decide) ?_
  refine lv_iushr hx hb dX6_may_3 rfl ?_
  refine lv_if_ne (tgt := 30) hx hb dX6_may_4 (by decide) (fun c1 => ?_) (fun c1 => ?_)
  · have h := nd_neg h c1
    exact (db_X6_may_30 C K)  s0 _ _ _ h hP hD hS (lv_sub hl [] rfl)
  · have h := nd_pos h c1
    refine lv_aload_n hx hb dX6_may_7 rfl (lv_at hl 0 rfl) ?_
    refine va_get (D := (dC, dI)) (ci := 7) (v := .ref (a 3)) (C := RX6) (T := TX6) (N := 20) hx hb hts hi_dm_X6_may_X6 hown hK hP 0 rfl rfl 2 (by decide) (hts (.fieldLink RX6 17 "TimeMachine$Machine" "page" "[I") (List.mem_of_getElem? (i := 1) rfl)) (fun _ h9 => h9) rfl dX6_may_8 ?_
    refine lv_iload_n hx hb dX6_may_11 rfl (lv_at hl 1 rfl) ?_
    refine lv_bipush (v := 6) hx hb dX6_may_12 (by decide) ?_
    refine lv_ishl hx hb dX6_may_14 ?_
    refine lv_iload_n hx hb dX6_may_15 rfl (lv_at hl 2 rfl) ?_
    refine lv_bipush (v := 10) hx hb dX6_may_16 (by decide) ?_
    refine lv_iushr hx hb dX6_may_18 rfl ?_
    refine lv_ior hx hb dX6_may_19 ?_
    obtain ⟨i3, h⟩ := nd_ck_e h
    refine va_iald (i := (((v0 : Int32) <<< ((6 : Int32) &&& 31)) ||| (((v1 : Int32).toUInt32 >>> ((10 : Int32).toUInt32 &&& Int32.toUInt32 31)).toInt32))) hx hb hK hP 3 2 rfl rfl i3 dX6_may_20 ?_
    refine lv_iload_n hx hb dX6_may_21 rfl (lv_at hl 3 rfl) ?_
    refine lv_iand hx hb dX6_may_22 ?_
    refine lv_if_eq (tgt := 30) hx hb dX6_may_23 (by decide) (fun c4 => ?_) (fun c4 => ?_)
    · have h := nd_pos h c4
      exact (db_X6_may_30 C K)  s0 _ _ _ h hP hD hS (lv_sub hl [] rfl)
    · have h := nd_neg h c4
      refine lv_iconst (v := 1) hx hb dX6_may_26 (by decide) ?_
      refine lv_goto (tgt := 31) hx hb dX6_may_27 (by decide) ?_
      exact (db_X6_may_31 C K) (1) s0 _ _ _ h hP hD hS (lv_sub hl [] rfl)
set_option maxHeartbeats 40000000 in
set_option maxRecDepth 100000 in
theorem dm_X6_may (l : Launch) (hlt : l.stackTraces = false) (dC : Nat → ClassId) (dI : Nat → Nat → Nat) (a : Nat → Nat) (ac : Nat → ClassId) (n : Nat) (v0 : Int32) (v1 : Int32) (v2 : Int32) (s0 : St × (St)) {r : Int32 × (St × (St))} (h : df_X6_may n v0 v1 v2 s0 = some r) (sz : Nat) : Met l yX6_may ow_dm_X6_may ({ frames := 0, cells := 0, slots := 0, locals := 0 }) (va_Pc [.ref (a 0), .int v0, .int v1, .int v2] (fun U => U.heap.size = sz ∧ va_P (dC, dI) vwCl (dw_X6 a ac s0) U.heap ∧ va_K (dC, dI) vwCl (dk_X6 ac) U ∧ va_D (fun _ => True) (dw_X6 a ac s0) ∧ nv_E (va_A (dw_X6 a ac s0) sz) U)) (va_Qi (fun x _ => x = r.1) (fun (_ : Unit) t => va_P (dC, dI) vwCl (dw_X6 a ac r.2) t.heap ∧ va_K (dC, dI) vwCl (dk_X6 ac) t ∧ va_D (va_A (dw_X6 a ac s0) sz) (dw_X6 a ac r.2)) (va_A (dw_X6 a ac s0) sz)) 0 0 (va_A (dw_X6 a ac s0) sz) := by
  refine Met.ofW (cc := cX6_may) (maxL := 4) (ret := (some .boolean)) (by decide) rfl ?_
  intro p e s m args below meth c s₁ B hml hv
  obtain ⟨rfl, hsz, hP, hK, hD0, hN⟩ := hv
  have hx := B.exec
  have hb := B.bytes
  have hr := B.returns
  have hts := atoms_spec (ws := ow_dm_X6_may) B.pre
  have hown : s.vm.findClass RX6 = some m.cls := findClass_of_methodNamed B.named
  have hlocks := B.notSynchronized
  subst hsz
  have hD := hD0.self (sz := s.heap.size)
  generalize hAe : va_A (dw_X6 a ac s0) s.heap.size = A at hD hN ⊢
  have hA : ∀ q : Nat, s.heap.size ≤ q → A q := fun q h => by rw [← hAe]; exact Or.inr h
  have hl := lv_entry ([.ref (a 0), .int v0, .int v1, .int v2]) (n := 4) (Nat.le_of_ble_eq_true rfl)
  rw [lg_entry_eq]
  generalize (lg_sl ([.ref (a 0), .int v0, .int v1, .int v2]) ++ List.replicate (4 - (lg_sl ([.ref (a 0), .int v0, .int v1, .int v2])).length) Slot.unset).toArray = ls at hl ⊢
  have hl : lv_has ls 4 [(0, .ref (a 0)), (1, .int v0), (2, .int v1), (3, .int v2)] := hl
  exact db_X6_may_0 (dC := dC) (dI := dI) (a := a) (ac := ac) (n := n) (r := r) ⟨hlt, hx, hb, hml, hown, hts, hN, hA, hK⟩ (fun pc v τ H locs ls d z er hP hD hS => by subst er; exact W.zret (v := v) hx hb hr z (fun t ht hW => ⟨⟨v, (), rfl, rfl, by rw [ht]; exact hP, va_K.moved hW.alike hK, hD⟩, hS.F ht⟩) hS.2.2 d) v0 v1 v2 s0 _ _ _ h hP hD va_S.rf (lv_sub hl [0, 1, 2, 3] rfl)
def ow_dm_X6_halfAt : List Cond := .code yX6_halfAt cX6_halfAt 4 (some .int) :: ([.fieldLink RX6 17 "TimeMachine$Machine" "page" "[I", .fieldLink RX6 10 "TimeMachine$Machine" "word" "[I", .constant RX6 112 (65535)] ++ (u_ws RX6 TX6 20 ++ []))
theorem gd_dm_X6_halfAt : ∀ w ∈ ow_dm_X6_halfAt, (w.onTables && w.keeps) = true ∨ ∃ ty, w = Cond.arrayClass ty := List.forall_mem_cons.mpr ⟨good_of_word rfl, List.forall_mem_append.mpr ⟨fun w h => good_of_word (List.all_eq_true.mp (by decide +kernel) w h), List.forall_mem_append.mpr ⟨gu_X6, fun _ h => nomatch h⟩⟩⟩
theorem hi_dm_X6_halfAt_X6 : ∀ w ∈ u_ws RX6 TX6 20, w ∈ ow_dm_X6_halfAt := fun w h => List.mem_cons_of_mem _ (List.mem_append_right _ (List.mem_append_left _ h))
def dj_X6_halfAt_0 (p : Program) (l : Launch) (e : Env) (s : State) (m : MethodId) (args : Array Value) (below : List Frame) (meth : Method) (c : Code) (Q : State → Prop) (A : Nat → Prop) (dC : Nat → ClassId) (dI : Nat → Nat → Nat) (a : Nat → Nat) (ac : Nat → ClassId) (g : Int32 → Int32 → (St × (St)) → Option (Int32 × (St × (St)))) (r : Int32 × (St × (St))) : Prop := ∀ (v0 : Int32) (v1 : Int32) (s0 : St × (St)) (H : Heap) (locs : List Loc) (ls : Array Slot), g v0 v1 s0 = some r → va_P (dC, dI) vwCl (dw_X6 a ac s0) H → va_D A (dw_X6 a ac s0) → va_S A s.heap H locs → lv_has ls 4 [(0, .ref (a 0)), (1, .int v0), (2, .int v1)] → W p l e (headSpec ow_dm_X6_halfAt ({ frames := 0, cells := 0, slots := 0, locals := 0 })).room s m args below meth c H locs 0 0 Q (F0 m 0 ls [])
set_option maxHeartbeats 40000000 in
set_option maxRecDepth 100000 in
theorem db_X6_halfAt_0 {p : Program} {l : Launch} {e : Env} {s : State} {m : MethodId} {args : Array Value} {below : List Frame} {meth : Method} {c : Code} {Q : State → Prop} {A : Nat → Prop} {dC : Nat → ClassId} {dI : Nat → Nat → Nat} {a : Nat → Nat} {ac : Nat → ClassId} {n : Nat} {r : Int32 × (St × (St))} (C : nd_C p l s m args c A (dC, dI) cX6_halfAt 4 RX6 ow_dm_X6_halfAt (dk_X6 ac)) (K : nd_Ki p l e (headSpec ow_dm_X6_halfAt ({ frames := 0, cells := 0, slots := 0, locals := 0 })).room s m args below meth c Q A (dC, dI) cX6_halfAt .int (St × (St)) (dw_X6 a ac) r) : dj_X6_halfAt_0 p l e s m args below meth c Q A dC dI a ac (df_X6_halfAt_0 n) r := by
  obtain ⟨hlt, hx, hb, hml, hown, hts, hN, hA, hK⟩ := id C
  intro v0 v1 s0 H locs ls h hP hD hS hl
  unfold df_X6_halfAt_0 at h
  refine lv_aload_n hx hb dX6_halfAt_0 rfl (lv_at hl 0 rfl) ?_
  refine va_get (D := (dC, dI)) (ci := 7) (v := .ref (a 3)) (C := RX6) (T := TX6) (N := 20) hx hb hts hi_dm_X6_halfAt_X6 hown hK hP 0 rfl rfl 2 (by decide) (hts (.fieldLink RX6 17 "TimeMachine$Machine" "page" "[I") (List.mem_of_getElem? (i := 1) rfl)) (fun _ h9 => h9) rfl dX6_halfAt_1 ?_
  refine lv_iload_n hx hb dX6_halfAt_4 rfl (lv_at hl 1 rfl) ?_
  refine lv_bipush (v := 6) hx hb dX6_halfAt_5 (by decide) ?_
  refine lv_ishl hx hb dX6_halfAt_7 ?_
  refine lv_iload_n hx hb dX6_halfAt_8 rfl (lv_at hl 2 rfl) ?_
  refine lv_bipush (v := 10) hx hb dX6_halfAt_9 (by decide) ?_
  refine lv_iushr hx hb dX6_halfAt_11 rfl ?_
  refine lv_bipush (v := 63) hx hb dX6_halfAt_12 (by decide) ?_
  refine lv_iand hx hb dX6_halfAt_14 ?_
  refine lv_ior hx hb dX6_halfAt_15 ?_
  obtain ⟨i1, h⟩ := nd_ck_e h
  refine va_iald (i := (((v0 : Int32) <<< ((6 : Int32) &&& 31)) ||| ((((v1 : Int32).toUInt32 >>> ((10 : Int32).toUInt32 &&& Int32.toUInt32 31)).toInt32) &&& 63))) hx hb hK hP 3 2 rfl rfl i1 dX6_halfAt_16 ?_
  refine lv_iconst (v := 3) hx hb dX6_halfAt_17 (by decide) ?_
  refine lv_ishr hx hb dX6_halfAt_18 ?_
  refine lv_topi (fun z2 ez2 => ?_)
  have h := nd_at h ez2
  refine lv_istore_n (lv' := [(3, .int z2), (0, .ref (a 0)), (1, .int v0), (2, .int v1)]) hx hb dX6_halfAt_19 rfl hl (by decide) rfl (fun ls hl => ?_)
  refine lv_aload_n hx hb dX6_halfAt_20 rfl (lv_at hl 1 rfl) ?_
  refine va_get (D := (dC, dI)) (ci := 7) (v := .ref (a 1)) (C := RX6) (T := TX6) (N := 20) hx hb hts hi_dm_X6_halfAt_X6 hown hK hP 0 rfl rfl 0 (by decide) (hts (.fieldLink RX6 10 "TimeMachine$Machine" "word" "[I") (List.mem_of_getElem? (i := 2) rfl)) (fun _ h9 => h9) rfl dX6_halfAt_21 ?_
  refine lv_iload_n hx hb dX6_halfAt_24 rfl (lv_at hl 0 rfl) ?_
  refine lv_bipush (v := 8) hx hb dX6_halfAt_25 (by decide) ?_
  refine lv_ishl hx hb dX6_halfAt_27 ?_
  refine lv_iload_n hx hb dX6_halfAt_28 rfl (lv_at hl 3 rfl) ?_
  refine lv_iconst (v := 2) hx hb dX6_halfAt_29 (by decide) ?_
  refine lv_iushr hx hb dX6_halfAt_30 rfl ?_
  refine lv_sipush (v := 255) hx hb dX6_halfAt_31 (by decide) ?_
  refine lv_iand hx hb dX6_halfAt_34 ?_
  refine lv_ior hx hb dX6_halfAt_35 ?_
  obtain ⟨i3, h⟩ := nd_ck_e h
  refine va_iald (i := (((z2 : Int32) <<< ((8 : Int32) &&& 31)) ||| ((((v1 : Int32).toUInt32 >>> ((2 : Int32).toUInt32 &&& Int32.toUInt32 31)).toInt32) &&& 255))) hx hb hK hP 1 0 rfl rfl i3 dX6_halfAt_36 ?_
  refine lv_bipush (v := 8) hx hb dX6_halfAt_37 (by decide) ?_
  refine lv_iload_n hx hb dX6_halfAt_39 rfl (lv_at hl 3 rfl) ?_
  refine lv_iconst (v := 2) hx hb dX6_halfAt_40 (by decide) ?_
  refine lv_iand hx hb dX6_halfAt_41 ?_
  refine lv_imul hx hb dX6_halfAt_42 ?_
  refine lv_iushr hx hb dX6_halfAt_43 rfl ?_
  refine lv_ldc hx hb hown (hts (.constant RX6 112 (65535)) (List.mem_of_getElem? (i := 3) rfl)) dX6_halfAt_44 ?_
  refine lv_iand hx hb dX6_halfAt_46 ?_
  exact K _ _ _ _ _ _ dX6_halfAt_47 rfl (Option.some.inj h).symm hP hD hS
set_option maxHeartbeats 40000000 in
set_option maxRecDepth 100000 in
theorem dm_X6_halfAt (l : Launch) (hlt : l.stackTraces = false) (dC : Nat → ClassId) (dI : Nat → Nat → Nat) (a : Nat → Nat) (ac : Nat → ClassId) (n : Nat) (v0 : Int32) (v1 : Int32) (s0 : St × (St)) {r : Int32 × (St × (St))} (h : df_X6_halfAt n v0 v1 s0 = some r) (sz : Nat) : Met l yX6_halfAt ow_dm_X6_halfAt ({ frames := 0, cells := 0, slots := 0, locals := 0 }) (va_Pc [.ref (a 0), .int v0, .int v1] (fun U => U.heap.size = sz ∧ va_P (dC, dI) vwCl (dw_X6 a ac s0) U.heap ∧ va_K (dC, dI) vwCl (dk_X6 ac) U ∧ va_D (fun _ => True) (dw_X6 a ac s0) ∧ nv_E (va_A (dw_X6 a ac s0) sz) U)) (va_Qi (fun x _ => x = r.1) (fun (_ : Unit) t => va_P (dC, dI) vwCl (dw_X6 a ac r.2) t.heap ∧ va_K (dC, dI) vwCl (dk_X6 ac) t ∧ va_D (va_A (dw_X6 a ac s0) sz) (dw_X6 a ac r.2)) (va_A (dw_X6 a ac s0) sz)) 0 0 (va_A (dw_X6 a ac s0) sz) := by
  refine Met.ofW (cc := cX6_halfAt) (maxL := 4) (ret := (some .int)) (by decide) rfl ?_
  intro p e s m args below meth c s₁ B hml hv
  obtain ⟨rfl, hsz, hP, hK, hD0, hN⟩ := hv
  have hx := B.exec
  have hb := B.bytes
  have hr := B.returns
  have hts := atoms_spec (ws := ow_dm_X6_halfAt) B.pre
  have hown : s.vm.findClass RX6 = some m.cls := findClass_of_methodNamed B.named
  have hlocks := B.notSynchronized
  subst hsz
  have hD := hD0.self (sz := s.heap.size)
  generalize hAe : va_A (dw_X6 a ac s0) s.heap.size = A at hD hN ⊢
  have hA : ∀ q : Nat, s.heap.size ≤ q → A q := fun q h => by rw [← hAe]; exact Or.inr h
  have hl := lv_entry ([.ref (a 0), .int v0, .int v1]) (n := 4) (Nat.le_of_ble_eq_true rfl)
  rw [lg_entry_eq]
  generalize (lg_sl ([.ref (a 0), .int v0, .int v1]) ++ List.replicate (4 - (lg_sl ([.ref (a 0), .int v0, .int v1])).length) Slot.unset).toArray = ls at hl ⊢
  have hl : lv_has ls 4 [(0, .ref (a 0)), (1, .int v0), (2, .int v1)] := hl
  exact db_X6_halfAt_0 (dC := dC) (dI := dI) (a := a) (ac := ac) (n := n) (r := r) ⟨hlt, hx, hb, hml, hown, hts, hN, hA, hK⟩ (fun pc v τ H locs ls d z er hP hD hS => by subst er; exact W.zret (v := v) hx hb hr z (fun t ht hW => ⟨⟨v, (), rfl, rfl, by rw [ht]; exact hP, va_K.moved hW.alike hK, hD⟩, hS.F ht⟩) hS.2.2 d) v0 v1 s0 _ _ _ h hP hD va_S.rf (lv_sub hl [0, 1, 2] rfl)
def ow_dm_X4_number : List Cond := .code yX4_number cX4_number 4 (some .int) :: ([] ++ [])
theorem gd_dm_X4_number : ∀ w ∈ ow_dm_X4_number, (w.onTables && w.keeps) = true ∨ ∃ ty, w = Cond.arrayClass ty := List.forall_mem_cons.mpr ⟨good_of_word rfl, List.forall_mem_append.mpr ⟨fun w h => good_of_word (List.all_eq_true.mp (by decide +kernel) w h), fun _ h => nomatch h⟩⟩
def dj_X4_number_0 (p : Program) (l : Launch) (e : Env) (s : State) (m : MethodId) (args : Array Value) (below : List Frame) (meth : Method) (c : Code) (Q : State → Prop) (A : Nat → Prop) (dC : Nat → ClassId) (dI : Nat → Nat → Nat) (a : Nat → Nat) (ac : Nat → ClassId) (g : Int32 → Int32 → Int32 → Int32 → (Unit) → Option (Int32 × (Unit))) (r : Int32 × (Unit)) : Prop := ∀ (v0 : Int32) (v1 : Int32) (v2 : Int32) (v3 : Int32) (s0 : Unit) (H : Heap) (locs : List Loc) (ls : Array Slot), g v0 v1 v2 v3 s0 = some r → va_P (dC, dI) vwCl (dw_P a ac s0) H → va_D A (dw_P a ac s0) → va_S A s.heap H locs → lv_has ls 4 [(0, .int v0), (1, .int v1), (2, .int v2), (3, .int v3)] → W p l e (headSpec ow_dm_X4_number ({ frames := 0, cells := 0, slots := 0, locals := 0 })).room s m args below meth c H locs 0 0 Q (F0 m 0 ls [])
set_option maxHeartbeats 40000000 in
set_option maxRecDepth 100000 in
theorem db_X4_number_0 {p : Program} {l : Launch} {e : Env} {s : State} {m : MethodId} {args : Array Value} {below : List Frame} {meth : Method} {c : Code} {Q : State → Prop} {A : Nat → Prop} {dC : Nat → ClassId} {dI : Nat → Nat → Nat} {a : Nat → Nat} {ac : Nat → ClassId} {n : Nat} {r : Int32 × (Unit)} (C : nd_C p l s m args c A (dC, dI) cX4_number 4 RX4 ow_dm_X4_number (dk_P ac)) (K : nd_Ki p l e (headSpec ow_dm_X4_number ({ frames := 0, cells := 0, slots := 0, locals := 0 })).room s m args below meth c Q A (dC, dI) cX4_number .int (Unit) (dw_P a ac) r) : dj_X4_number_0 p l e s m args below meth c Q A dC dI a ac (df_X4_number_0 n) r := by
  obtain ⟨hlt, hx, hb, hml, hown, hts, hN, hA, hK⟩ := id C
  intro v0 v1 v2 v3 s0 H locs ls h hP hD hS hl
  unfold df_X4_number_0 at h
  refine lv_iload_n hx hb dX4_number_0 rfl (lv_at hl 0 rfl) ?_
  refine lv_bipush (v := 20) hx hb dX4_number_1 (by decide) ?_
  refine lv_ishl hx hb dX4_number_3 ?_
  refine lv_iload_n hx hb dX4_number_4 rfl (lv_at hl 1 rfl) ?_
  refine lv_bipush (v := 15) hx hb dX4_number_5 (by decide) ?_
  refine lv_ishl hx hb dX4_number_7 ?_
  refine lv_ior hx hb dX4_number_8 ?_
  refine lv_iload_n hx hb dX4_number_9 rfl (lv_at hl 2 rfl) ?_
  refine lv_bipush (v := 12) hx hb dX4_number_10 (by decide) ?_
  refine lv_ishl hx hb dX4_number_12 ?_
  refine lv_ior hx hb dX4_number_13 ?_
  refine lv_iload_n hx hb dX4_number_14 rfl (lv_at hl 3 rfl) ?_
  refine lv_bipush (v := 7) hx hb dX4_number_15 (by decide) ?_
  refine lv_ishl hx hb dX4_number_17 ?_
  refine lv_ior hx hb dX4_number_18 ?_
  refine lv_bipush (v := 19) hx hb dX4_number_19 (by decide) ?_
  refine lv_ior hx hb dX4_number_21 ?_
  exact K _ _ _ _ _ _ dX4_number_22 rfl (Option.some.inj h).symm hP hD hS
set_option maxHeartbeats 40000000 in
set_option maxRecDepth 100000 in
theorem dm_X4_number (l : Launch) (hlt : l.stackTraces = false) (dC : Nat → ClassId) (dI : Nat → Nat → Nat) (a : Nat → Nat) (ac : Nat → ClassId) (n : Nat) (v0 : Int32) (v1 : Int32) (v2 : Int32) (v3 : Int32) (s0 : Unit) {r : Int32 × (Unit)} (h : df_X4_number n v0 v1 v2 v3 s0 = some r) (sz : Nat) : Met l yX4_number ow_dm_X4_number ({ frames := 0, cells := 0, slots := 0, locals := 0 }) (va_Pc [.int v0, .int v1, .int v2, .int v3] (fun U => U.heap.size = sz ∧ va_P (dC, dI) vwCl (dw_P a ac s0) U.heap ∧ va_K (dC, dI) vwCl (dk_P ac) U ∧ va_D (fun _ => True) (dw_P a ac s0) ∧ nv_E (va_A (dw_P a ac s0) sz) U)) (va_Qi (fun x _ => x = r.1) (fun (_ : Unit) t => va_P (dC, dI) vwCl (dw_P a ac r.2) t.heap ∧ va_K (dC, dI) vwCl (dk_P ac) t ∧ va_D (va_A (dw_P a ac s0) sz) (dw_P a ac r.2)) (va_A (dw_P a ac s0) sz)) 0 0 (va_A (dw_P a ac s0) sz) := by
  refine Met.ofW (cc := cX4_number) (maxL := 4) (ret := (some .int)) (by decide) rfl ?_
  intro p e s m args below meth c s₁ B hml hv
  obtain ⟨rfl, hsz, hP, hK, hD0, hN⟩ := hv
  have hx := B.exec
  have hb := B.bytes
  have hr := B.returns
  have hts := atoms_spec (ws := ow_dm_X4_number) B.pre
  have hown : s.vm.findClass RX4 = some m.cls := findClass_of_methodNamed B.named
  have hlocks := B.notSynchronized
  subst hsz
  have hD := hD0.self (sz := s.heap.size)
  generalize hAe : va_A (dw_P a ac s0) s.heap.size = A at hD hN ⊢
  have hA : ∀ q : Nat, s.heap.size ≤ q → A q := fun q h => by rw [← hAe]; exact Or.inr h
  have hl := lv_entry ([.int v0, .int v1, .int v2, .int v3]) (n := 4) (Nat.le_of_ble_eq_true rfl)
  rw [lg_entry_eq]
  generalize (lg_sl ([.int v0, .int v1, .int v2, .int v3]) ++ List.replicate (4 - (lg_sl ([.int v0, .int v1, .int v2, .int v3])).length) Slot.unset).toArray = ls at hl ⊢
  have hl : lv_has ls 4 [(0, .int v0), (1, .int v1), (2, .int v2), (3, .int v3)] := hl
  exact db_X4_number_0 (dC := dC) (dI := dI) (a := a) (ac := ac) (n := n) (r := r) ⟨hlt, hx, hb, hml, hown, hts, hN, hA, hK⟩ (fun pc v τ H locs ls d z er hP hD hS => by subst er; exact W.zret (v := v) hx hb hr z (fun t ht hW => ⟨⟨v, (), rfl, rfl, by rw [ht]; exact hP, va_K.moved hW.alike hK, hD⟩, hS.F ht⟩) hS.2.2 d) v0 v1 v2 v3 s0 _ _ _ h hP hD va_S.rf (lv_sub hl [0, 1, 2, 3] rfl)
def ow_dm_X4_loading : List Cond := .code yX4_loading cX4_loading 3 (some .int) :: ([] ++ [])
theorem gd_dm_X4_loading : ∀ w ∈ ow_dm_X4_loading, (w.onTables && w.keeps) = true ∨ ∃ ty, w = Cond.arrayClass ty := List.forall_mem_cons.mpr ⟨good_of_word rfl, List.forall_mem_append.mpr ⟨fun w h => good_of_word (List.all_eq_true.mp (by decide +kernel) w h), fun _ h => nomatch h⟩⟩
def dj_X4_loading_0 (p : Program) (l : Launch) (e : Env) (s : State) (m : MethodId) (args : Array Value) (below : List Frame) (meth : Method) (c : Code) (Q : State → Prop) (A : Nat → Prop) (dC : Nat → ClassId) (dI : Nat → Nat → Nat) (a : Nat → Nat) (ac : Nat → ClassId) (g : Int32 → Int32 → Int32 → (Unit) → Option (Int32 × (Unit))) (r : Int32 × (Unit)) : Prop := ∀ (v0 : Int32) (v1 : Int32) (v2 : Int32) (s0 : Unit) (H : Heap) (locs : List Loc) (ls : Array Slot), g v0 v1 v2 s0 = some r → va_P (dC, dI) vwCl (dw_P a ac s0) H → va_D A (dw_P a ac s0) → va_S A s.heap H locs → lv_has ls 3 [(0, .int v0), (1, .int v1), (2, .int v2)] → W p l e (headSpec ow_dm_X4_loading ({ frames := 0, cells := 0, slots := 0, locals := 0 })).room s m args below meth c H locs 0 0 Q (F0 m 0 ls [])
set_option maxHeartbeats 40000000 in
set_option maxRecDepth 100000 in
theorem db_X4_loading_0 {p : Program} {l : Launch} {e : Env} {s : State} {m : MethodId} {args : Array Value} {below : List Frame} {meth : Method} {c : Code} {Q : State → Prop} {A : Nat → Prop} {dC : Nat → ClassId} {dI : Nat → Nat → Nat} {a : Nat → Nat} {ac : Nat → ClassId} {n : Nat} {r : Int32 × (Unit)} (C : nd_C p l s m args c A (dC, dI) cX4_loading 3 RX4 ow_dm_X4_loading (dk_P ac)) (K : nd_Ki p l e (headSpec ow_dm_X4_loading ({ frames := 0, cells := 0, slots := 0, locals := 0 })).room s m args below meth c Q A (dC, dI) cX4_loading .int (Unit) (dw_P a ac) r) : dj_X4_loading_0 p l e s m args below meth c Q A dC dI a ac (df_X4_loading_0 n) r := by
  obtain ⟨hlt, hx, hb, hml, hown, hts, hN, hA, hK⟩ := id C
  intro v0 v1 v2 s0 H locs ls h hP hD hS hl
  unfold df_X4_loading_0 at h
  refine lv_iload_n hx hb dX4_loading_0 rfl (lv_at hl 0 rfl) ?_
  refine lv_bipush (v := 20) hx hb dX4_loading_1 (by decide) ?_
  refine lv_ishl hx hb dX4_loading_3 ?_
  refine lv_iload_n hx hb dX4_loading_4 rfl (lv_at hl 1 rfl) ?_
  refine lv_bipush (v := 15) hx hb dX4_loading_5 (by decide) ?_
  refine lv_ishl hx hb dX4_loading_7 ?_
  refine lv_ior hx hb dX4_loading_8 ?_
  refine lv_sipush (v := 8192) hx hb dX4_loading_9 (by decide) ?_
  refine lv_ior hx hb dX4_loading_12 ?_
  refine lv_iload_n hx hb dX4_loading_13 rfl (lv_at hl 2 rfl) ?_
  refine lv_bipush (v := 7) hx hb dX4_loading_14 (by decide) ?_
  refine lv_ishl hx hb dX4_loading_16 ?_
  refine lv_ior hx hb dX4_loading_17 ?_
  refine lv_iconst (v := 3) hx hb dX4_loading_18 (by decide) ?_
  refine lv_ior hx hb dX4_loading_19 ?_
  exact K _ _ _ _ _ _ dX4_loading_20 rfl (Option.some.inj h).symm hP hD hS
set_option maxHeartbeats 40000000 in
set_option maxRecDepth 100000 in
theorem dm_X4_loading (l : Launch) (hlt : l.stackTraces = false) (dC : Nat → ClassId) (dI : Nat → Nat → Nat) (a : Nat → Nat) (ac : Nat → ClassId) (n : Nat) (v0 : Int32) (v1 : Int32) (v2 : Int32) (s0 : Unit) {r : Int32 × (Unit)} (h : df_X4_loading n v0 v1 v2 s0 = some r) (sz : Nat) : Met l yX4_loading ow_dm_X4_loading ({ frames := 0, cells := 0, slots := 0, locals := 0 }) (va_Pc [.int v0, .int v1, .int v2] (fun U => U.heap.size = sz ∧ va_P (dC, dI) vwCl (dw_P a ac s0) U.heap ∧ va_K (dC, dI) vwCl (dk_P ac) U ∧ va_D (fun _ => True) (dw_P a ac s0) ∧ nv_E (va_A (dw_P a ac s0) sz) U)) (va_Qi (fun x _ => x = r.1) (fun (_ : Unit) t => va_P (dC, dI) vwCl (dw_P a ac r.2) t.heap ∧ va_K (dC, dI) vwCl (dk_P ac) t ∧ va_D (va_A (dw_P a ac s0) sz) (dw_P a ac r.2)) (va_A (dw_P a ac s0) sz)) 0 0 (va_A (dw_P a ac s0) sz) := by
  refine Met.ofW (cc := cX4_loading) (maxL := 3) (ret := (some .int)) (by decide) rfl ?_
  intro p e s m args below meth c s₁ B hml hv
  obtain ⟨rfl, hsz, hP, hK, hD0, hN⟩ := hv
  have hx := B.exec
  have hb := B.bytes
  have hr := B.returns
  have hts := atoms_spec (ws := ow_dm_X4_loading) B.pre
  have hown : s.vm.findClass RX4 = some m.cls := findClass_of_methodNamed B.named
  have hlocks := B.notSynchronized
  subst hsz
  have hD := hD0.self (sz := s.heap.size)
  generalize hAe : va_A (dw_P a ac s0) s.heap.size = A at hD hN ⊢
  have hA : ∀ q : Nat, s.heap.size ≤ q → A q := fun q h => by rw [← hAe]; exact Or.inr h
  have hl := lv_entry ([.int v0, .int v1, .int v2]) (n := 3) (Nat.le_of_ble_eq_true rfl)
  rw [lg_entry_eq]
  generalize (lg_sl ([.int v0, .int v1, .int v2]) ++ List.replicate (3 - (lg_sl ([.int v0, .int v1, .int v2])).length) Slot.unset).toArray = ls at hl ⊢
  have hl : lv_has ls 3 [(0, .int v0), (1, .int v1), (2, .int v2)] := hl
  exact db_X4_loading_0 (dC := dC) (dI := dI) (a := a) (ac := ac) (n := n) (r := r) ⟨hlt, hx, hb, hml, hown, hts, hN, hA, hK⟩ (fun pc v τ H locs ls d z er hP hD hS => by subst er; exact W.zret (v := v) hx hb hr z (fun t ht hW => ⟨⟨v, (), rfl, rfl, by rw [ht]; exact hP, va_K.moved hW.alike hK, hD⟩, hS.F ht⟩) hS.2.2 d) v0 v1 v2 s0 _ _ _ h hP hD va_S.rf (lv_sub hl [0, 1, 2] rfl)
def ow_dm_X4_storing : List Cond := .code yX4_storing cX4_storing 3 (some .int) :: ([] ++ [])
theorem gd_dm_X4_storing : ∀ w ∈ ow_dm_X4_storing, (w.onTables && w.keeps) = true ∨ ∃ ty, w = Cond.arrayClass ty := List.forall_mem_cons.mpr ⟨good_of_word rfl, List.forall_mem_append.mpr ⟨fun w h => good_of_word (List.all_eq_true.mp (by decide +kernel) w h), fun _ h => nomatch h⟩⟩
def dj_X4_storing_0 (p : Program) (l : Launch) (e : Env) (s : State) (m : MethodId) (args : Array Value) (below : List Frame) (meth : Method) (c : Code) (Q : State → Prop) (A : Nat → Prop) (dC : Nat → ClassId) (dI : Nat → Nat → Nat) (a : Nat → Nat) (ac : Nat → ClassId) (g : Int32 → Int32 → Int32 → (Unit) → Option (Int32 × (Unit))) (r : Int32 × (Unit)) : Prop := ∀ (v0 : Int32) (v1 : Int32) (v2 : Int32) (s0 : Unit) (H : Heap) (locs : List Loc) (ls : Array Slot), g v0 v1 v2 s0 = some r → va_P (dC, dI) vwCl (dw_P a ac s0) H → va_D A (dw_P a ac s0) → va_S A s.heap H locs → lv_has ls 3 [(0, .int v0), (1, .int v1), (2, .int v2)] → W p l e (headSpec ow_dm_X4_storing ({ frames := 0, cells := 0, slots := 0, locals := 0 })).room s m args below meth c H locs 0 0 Q (F0 m 0 ls [])
set_option maxHeartbeats 40000000 in
set_option maxRecDepth 100000 in
theorem db_X4_storing_0 {p : Program} {l : Launch} {e : Env} {s : State} {m : MethodId} {args : Array Value} {below : List Frame} {meth : Method} {c : Code} {Q : State → Prop} {A : Nat → Prop} {dC : Nat → ClassId} {dI : Nat → Nat → Nat} {a : Nat → Nat} {ac : Nat → ClassId} {n : Nat} {r : Int32 × (Unit)} (C : nd_C p l s m args c A (dC, dI) cX4_storing 3 RX4 ow_dm_X4_storing (dk_P ac)) (K : nd_Ki p l e (headSpec ow_dm_X4_storing ({ frames := 0, cells := 0, slots := 0, locals := 0 })).room s m args below meth c Q A (dC, dI) cX4_storing .int (Unit) (dw_P a ac) r) : dj_X4_storing_0 p l e s m args below meth c Q A dC dI a ac (df_X4_storing_0 n) r := by
  obtain ⟨hlt, hx, hb, hml, hown, hts, hN, hA, hK⟩ := id C
  intro v0 v1 v2 s0 H locs ls h hP hD hS hl
  unfold df_X4_storing_0 at h
  refine lv_iload_n hx hb dX4_storing_0 rfl (lv_at hl 0 rfl) ?_
  refine lv_iconst (v := 5) hx hb dX4_storing_1 (by decide) ?_
  refine lv_ishr hx hb dX4_storing_2 ?_
  refine lv_bipush (v := 25) hx hb dX4_storing_3 (by decide) ?_
  refine lv_ishl hx hb dX4_storing_5 ?_
  refine lv_iload_n hx hb dX4_storing_6 rfl (lv_at hl 2 rfl) ?_
  refine lv_bipush (v := 20) hx hb dX4_storing_7 (by decide) ?_
  refine lv_ishl hx hb dX4_storing_9 ?_
  refine lv_ior hx hb dX4_storing_10 ?_
  refine lv_iload_n hx hb dX4_storing_11 rfl (lv_at hl 1 rfl) ?_
  refine lv_bipush (v := 15) hx hb dX4_storing_12 (by decide) ?_
  refine lv_ishl hx hb dX4_storing_14 ?_
  refine lv_ior hx hb dX4_storing_15 ?_
  refine lv_sipush (v := 8192) hx hb dX4_storing_16 (by decide) ?_
  refine lv_ior hx hb dX4_storing_19 ?_
  refine lv_iload_n hx hb dX4_storing_20 rfl (lv_at hl 0 rfl) ?_
  refine lv_bipush (v := 31) hx hb dX4_storing_21 (by decide) ?_
  refine lv_iand hx hb dX4_storing_23 ?_
  refine lv_bipush (v := 7) hx hb dX4_storing_24 (by decide) ?_
  refine lv_ishl hx hb dX4_storing_26 ?_
  refine lv_ior hx hb dX4_storing_27 ?_
  refine lv_bipush (v := 35) hx hb dX4_storing_28 (by decide) ?_
  refine lv_ior hx hb dX4_storing_30 ?_
  exact K _ _ _ _ _ _ dX4_storing_31 rfl (Option.some.inj h).symm hP hD hS
set_option maxHeartbeats 40000000 in
set_option maxRecDepth 100000 in
theorem dm_X4_storing (l : Launch) (hlt : l.stackTraces = false) (dC : Nat → ClassId) (dI : Nat → Nat → Nat) (a : Nat → Nat) (ac : Nat → ClassId) (n : Nat) (v0 : Int32) (v1 : Int32) (v2 : Int32) (s0 : Unit) {r : Int32 × (Unit)} (h : df_X4_storing n v0 v1 v2 s0 = some r) (sz : Nat) : Met l yX4_storing ow_dm_X4_storing ({ frames := 0, cells := 0, slots := 0, locals := 0 }) (va_Pc [.int v0, .int v1, .int v2] (fun U => U.heap.size = sz ∧ va_P (dC, dI) vwCl (dw_P a ac s0) U.heap ∧ va_K (dC, dI) vwCl (dk_P ac) U ∧ va_D (fun _ => True) (dw_P a ac s0) ∧ nv_E (va_A (dw_P a ac s0) sz) U)) (va_Qi (fun x _ => x = r.1) (fun (_ : Unit) t => va_P (dC, dI) vwCl (dw_P a ac r.2) t.heap ∧ va_K (dC, dI) vwCl (dk_P ac) t ∧ va_D (va_A (dw_P a ac s0) sz) (dw_P a ac r.2)) (va_A (dw_P a ac s0) sz)) 0 0 (va_A (dw_P a ac s0) sz) := by
  refine Met.ofW (cc := cX4_storing) (maxL := 3) (ret := (some .int)) (by decide) rfl ?_
  intro p e s m args below meth c s₁ B hml hv
  obtain ⟨rfl, hsz, hP, hK, hD0, hN⟩ := hv
  have hx := B.exec
  have hb := B.bytes
  have hr := B.returns
  have hts := atoms_spec (ws := ow_dm_X4_storing) B.pre
  have hown : s.vm.findClass RX4 = some m.cls := findClass_of_methodNamed B.named
  have hlocks := B.notSynchronized
  subst hsz
  have hD := hD0.self (sz := s.heap.size)
  generalize hAe : va_A (dw_P a ac s0) s.heap.size = A at hD hN ⊢
  have hA : ∀ q : Nat, s.heap.size ≤ q → A q := fun q h => by rw [← hAe]; exact Or.inr h
  have hl := lv_entry ([.int v0, .int v1, .int v2]) (n := 3) (Nat.le_of_ble_eq_true rfl)
  rw [lg_entry_eq]
  generalize (lg_sl ([.int v0, .int v1, .int v2]) ++ List.replicate (3 - (lg_sl ([.int v0, .int v1, .int v2])).length) Slot.unset).toArray = ls at hl ⊢
  have hl : lv_has ls 3 [(0, .int v0), (1, .int v1), (2, .int v2)] := hl
  exact db_X4_storing_0 (dC := dC) (dI := dI) (a := a) (ac := ac) (n := n) (r := r) ⟨hlt, hx, hb, hml, hown, hts, hN, hA, hK⟩ (fun pc v τ H locs ls d z er hP hD hS => by subst er; exact W.zret (v := v) hx hb hr z (fun t ht hW => ⟨⟨v, (), rfl, rfl, by rw [ht]; exact hP, va_K.moved hW.alike hK, hD⟩, hS.F ht⟩) hS.2.2 d) v0 v1 v2 s0 _ _ _ h hP hD va_S.rf (lv_sub hl [0, 1, 2] rfl)
def ow_dm_X4_expandedFirst : List Cond := .code yX4_expandedFirst cX4_expandedFirst 5 (some .int) :: ([.methodLink RX4 153 yX4_number, .static yX4_number, .initialized RX4, .methodLink RX4 156 yX4_loading, .static yX4_loading, .methodLink RX4 159 yX4_storing, .static yX4_storing] ++ (ow_dm_X4_number ++ (ow_dm_X4_loading ++ (ow_dm_X4_storing ++ []))))
theorem gd_dm_X4_expandedFirst : ∀ w ∈ ow_dm_X4_expandedFirst, (w.onTables && w.keeps) = true ∨ ∃ ty, w = Cond.arrayClass ty := List.forall_mem_cons.mpr ⟨good_of_word rfl, List.forall_mem_append.mpr ⟨fun w h => good_of_word (List.all_eq_true.mp (by decide +kernel) w h), List.forall_mem_append.mpr ⟨gd_dm_X4_number, List.forall_mem_append.mpr ⟨gd_dm_X4_loading, List.forall_mem_append.mpr ⟨gd_dm_X4_storing, fun _ h => nomatch h⟩⟩⟩⟩⟩
theorem gi_dm_X4_expandedFirst_0 : GoodIn ow_dm_X4_expandedFirst (wsS RX4 153 yX4_number ow_dm_X4_number) := goodIn_app (goodIn_of _ (by decide +kernel)) (fun w h => ⟨List.mem_cons_of_mem _ (List.mem_append_right _ (List.mem_append_left _ h)), gd_dm_X4_number w h⟩)
theorem gi_dm_X4_expandedFirst_1 : GoodIn ow_dm_X4_expandedFirst (wsS RX4 156 yX4_loading ow_dm_X4_loading) := goodIn_app (goodIn_of _ (by decide +kernel)) (fun w h => ⟨List.mem_cons_of_mem _ (List.mem_append_right _ (List.mem_append_right _ (List.mem_append_left _ h))), gd_dm_X4_loading w h⟩)
theorem gi_dm_X4_expandedFirst_2 : GoodIn ow_dm_X4_expandedFirst (wsS RX4 159 yX4_storing ow_dm_X4_storing) := goodIn_app (goodIn_of _ (by decide +kernel)) (fun w h => ⟨List.mem_cons_of_mem _ (List.mem_append_right _ (List.mem_append_right _ (List.mem_append_right _ (List.mem_append_left _ h)))), gd_dm_X4_storing w h⟩)
def dj_X4_expandedFirst_127 (p : Program) (l : Launch) (e : Env) (s : State) (m : MethodId) (args : Array Value) (below : List Frame) (meth : Method) (c : Code) (Q : State → Prop) (A : Nat → Prop) (dC : Nat → ClassId) (dI : Nat → Nat → Nat) (a : Nat → Nat) (ac : Nat → ClassId) (g : Int32 → (Unit) → Option (Int32 × (Unit))) (r : Int32 × (Unit)) : Prop := ∀ (y0 : Int32) (s0 : Unit) (H : Heap) (locs : List Loc) (ls : Array Slot), g y0 s0 = some r → va_P (dC, dI) vwCl (dw_P a ac s0) H → va_D A (dw_P a ac s0) → va_S A s.heap H locs → lv_has ls 5 [] → W p l e (headSpec ow_dm_X4_expandedFirst ({ frames := 1, cells := 0, slots := 0, locals := 23 })).room s m args below meth c H locs 0 0 Q (F0 m 127 ls [.int y0])
def dj_X4_expandedFirst_0 (p : Program) (l : Launch) (e : Env) (s : State) (m : MethodId) (args : Array Value) (below : List Frame) (meth : Method) (c : Code) (Q : State → Prop) (A : Nat → Prop) (dC : Nat → ClassId) (dI : Nat → Nat → Nat) (a : Nat → Nat) (ac : Nat → ClassId) (g : Int32 → (Unit) → Option (Int32 × (Unit))) (r : Int32 × (Unit)) : Prop := ∀ (v0 : Int32) (s0 : Unit) (H : Heap) (locs : List Loc) (ls : Array Slot), g v0 s0 = some r → va_P (dC, dI) vwCl (dw_P a ac s0) H → va_D A (dw_P a ac s0) → va_S A s.heap H locs → lv_has ls 5 [(0, .int v0)] → W p l e (headSpec ow_dm_X4_expandedFirst ({ frames := 1, cells := 0, slots := 0, locals := 23 })).room s m args below meth c H locs 0 0 Q (F0 m 0 ls [])
set_option maxHeartbeats 40000000 in
set_option maxRecDepth 100000 in
theorem db_X4_expandedFirst_127 {p : Program} {l : Launch} {e : Env} {s : State} {m : MethodId} {args : Array Value} {below : List Frame} {meth : Method} {c : Code} {Q : State → Prop} {A : Nat → Prop} {dC : Nat → ClassId} {dI : Nat → Nat → Nat} {a : Nat → Nat} {ac : Nat → ClassId} {n : Nat} {r : Int32 × (Unit)} (C : nd_C p l s m args c A (dC, dI) cX4_expandedFirst 5 RX4 ow_dm_X4_expandedFirst (dk_P ac)) (K : nd_Ki p l e (headSpec ow_dm_X4_expandedFirst ({ frames := 1, cells := 0, slots := 0, locals := 23 })).room s m args below meth c Q A (dC, dI) cX4_expandedFirst .int (Unit) (dw_P a ac) r) : dj_X4_expandedFirst_127 p l e s m args below meth c Q A dC dI a ac (df_X4_expandedFirst_127 n) r := by
  obtain ⟨hlt, hx, hb, hml, hown, hts, hN, hA, hK⟩ := id C
  intro y0 s0 H locs ls h hP hD hS hl
  unfold df_X4_expandedFirst_127 at h
  exact K _ _ _ _ _ _ dX4_expandedFirst_127 rfl (Option.some.inj h).symm hP hD hS
set_option maxHeartbeats 40000000 in
set_option maxRecDepth 100000 in
theorem db_X4_expandedFirst_0 {p : Program} {l : Launch} {e : Env} {s : State} {m : MethodId} {args : Array Value} {below : List Frame} {meth : Method} {c : Code} {Q : State → Prop} {A : Nat → Prop} {dC : Nat → ClassId} {dI : Nat → Nat → Nat} {a : Nat → Nat} {ac : Nat → ClassId} {n : Nat} {r : Int32 × (Unit)} (C : nd_C p l s m args c A (dC, dI) cX4_expandedFirst 5 RX4 ow_dm_X4_expandedFirst (dk_P ac)) (K : nd_Ki p l e (headSpec ow_dm_X4_expandedFirst ({ frames := 1, cells := 0, slots := 0, locals := 23 })).room s m args below meth c Q A (dC, dI) cX4_expandedFirst .int (Unit) (dw_P a ac) r) : dj_X4_expandedFirst_0 p l e s m args below meth c Q A dC dI a ac (df_X4_expandedFirst_0 n) r := by
  obtain ⟨hlt, hx, hb, hml, hown, hts, hN, hA, hK⟩ := id C
  intro v0 s0 H locs ls h hP hD hS hl
  unfold df_X4_expandedFirst_0 at h
  refine lv_bipush (v := 8) hx hb dX4_expandedFirst_0 (by decide) ?_
  refine lv_iload_n hx hb dX4_expandedFirst_2 rfl (lv_at hl 0 rfl) ?_
  refine lv_iconst (v := 2) hx hb dX4_expandedFirst_3 (by decide) ?_
  refine lv_ishr hx hb dX4_expandedFirst_4 ?_
  refine lv_bipush (v := 7) hx hb dX4_expandedFirst_5 (by decide) ?_
  refine lv_iand hx hb dX4_expandedFirst_7 ?_
  refine lv_iadd hx hb dX4_expandedFirst_8 ?_
  refine lv_topi (fun z1 ez1 => ?_)
  have h := nd_at h ez1
  refine lv_istore_n (lv' := [(1, .int z1), (0, .int v0)]) hx hb dX4_expandedFirst_9 rfl hl (by decide) rfl (fun ls hl => ?_)
  refine lv_bipush (v := 8) hx hb dX4_expandedFirst_10 (by decide) ?_
  refine lv_iload_n hx hb dX4_expandedFirst_12 rfl (lv_at hl 1 rfl) ?_
  refine lv_bipush (v := 7) hx hb dX4_expandedFirst_13 (by decide) ?_
  refine lv_ishr hx hb dX4_expandedFirst_15 ?_
  refine lv_bipush (v := 7) hx hb dX4_expandedFirst_16 (by decide) ?_
  refine lv_iand hx hb dX4_expandedFirst_18 ?_
  refine lv_iadd hx hb dX4_expandedFirst_19 ?_
  refine lv_topi (fun z2 ez2 => ?_)
  have h := nd_at h ez2
  refine lv_istore_n (lv' := [(2, .int z2), (1, .int z1), (0, .int v0)]) hx hb dX4_expandedFirst_20 rfl hl (by decide) rfl (fun ls hl => ?_)
  refine lv_iload_n hx hb dX4_expandedFirst_21 rfl (lv_at hl 2 rfl) ?_
  refine lv_bipush (v := 7) hx hb dX4_expandedFirst_22 (by decide) ?_
  refine lv_ishr hx hb dX4_expandedFirst_24 ?_
  refine lv_bipush (v := 56) hx hb dX4_expandedFirst_25 (by decide) ?_
  refine lv_iand hx hb dX4_expandedFirst_27 ?_
  refine lv_iload_n hx hb dX4_expandedFirst_28 rfl (lv_at hl 2 rfl) ?_
  refine lv_iconst (v := 4) hx hb dX4_expandedFirst_29 (by decide) ?_
  refine lv_ishr hx hb dX4_expandedFirst_30 ?_
  refine lv_iconst (v := 4) hx hb dX4_expandedFirst_31 (by decide) ?_
  refine lv_iand hx hb dX4_expandedFirst_32 ?_
  refine lv_ior hx hb dX4_expandedFirst_33 ?_
  refine lv_iload_n hx hb dX4_expandedFirst_34 rfl (lv_at hl 2 rfl) ?_
  refine lv_iconst (v := 1) hx hb dX4_expandedFirst_35 (by decide) ?_
  refine lv_ishl hx hb dX4_expandedFirst_36 ?_
  refine lv_bipush (v := 64) hx hb dX4_expandedFirst_37 (by decide) ?_
  refine lv_iand hx hb dX4_expandedFirst_39 ?_
  refine lv_ior hx hb dX4_expandedFirst_40 ?_
  refine lv_topi (fun z3 ez3 => ?_)
  have h := nd_at h ez3
  refine lv_istore_n (lv' := [(3, .int z3), (2, .int z2), (1, .int z1), (0, .int v0)]) hx hb dX4_expandedFirst_41 rfl hl (by decide) rfl (fun ls hl => ?_)
  refine lv_iload_n hx hb dX4_expandedFirst_42 rfl (lv_at hl 3 rfl) ?_
  refine lv_bipush (v := 13) hx hb dX4_expandedFirst_43 (by decide) ?_
  refine lv_ishr hx hb dX4_expandedFirst_45 ?_
  by_cases c4 : ((v0 : Int32) >>> ((13 : Int32) &&& 31)) = 0
  · have h := nd_pos h c4
    refine lv_lookup (off := 34) (tgt := 80) hx hb dX4_expandedFirst_46 (by decide) (by rw [c4]; decide) (by decide) ?_
    refine lv_iload_n hx hb dX4_expandedFirst_80 rfl (lv_at hl 3 rfl) ?_
    refine lv_bipush (v := 7) hx hb dX4_expandedFirst_81 (by decide) ?_
    refine lv_ishr hx hb dX4_expandedFirst_83 ?_
    refine lv_bipush (v := 48) hx hb dX4_expandedFirst_84 (by decide) ?_
    refine lv_iand hx hb dX4_expandedFirst_86 ?_
    refine lv_iload_n hx hb dX4_expandedFirst_87 rfl (lv_at hl 3 rfl) ?_
    refine lv_iconst (v := 1) hx hb dX4_expandedFirst_88 (by decide) ?_
    refine lv_ishr hx hb dX4_expandedFirst_89 ?_
    refine lv_sipush (v := 960) hx hb dX4_expandedFirst_90 (by decide) ?_
    refine lv_iand hx hb dX4_expandedFirst_93 ?_
    refine lv_ior hx hb dX4_expandedFirst_94 ?_
    refine lv_iload_n hx hb dX4_expandedFirst_95 rfl (lv_at hl 3 rfl) ?_
    refine lv_iconst (v := 4) hx hb dX4_expandedFirst_96 (by decide) ?_
    refine lv_ishr hx hb dX4_expandedFirst_97 ?_
    refine lv_iconst (v := 4) hx hb dX4_expandedFirst_98 (by decide) ?_
    refine lv_iand hx hb dX4_expandedFirst_99 ?_
    refine lv_ior hx hb dX4_expandedFirst_100 ?_
    refine lv_iload_n hx hb dX4_expandedFirst_101 rfl (lv_at hl 3 rfl) ?_
    refine lv_iconst (v := 2) hx hb dX4_expandedFirst_102 (by decide) ?_
    refine lv_ishr hx hb dX4_expandedFirst_103 ?_
    refine lv_bipush (v := 8) hx hb dX4_expandedFirst_104 (by decide) ?_
    refine lv_iand hx hb dX4_expandedFirst_106 ?_
    refine lv_ior hx hb dX4_expandedFirst_107 ?_
    refine lv_topi (fun z5 ez5 => ?_)
    have h := nd_at h ez5
    refine lv_istore (lv' := [(4, .int z5), (3, .int z3), (2, .int z2), (1, .int z1), (0, .int v0)]) hx hb dX4_expandedFirst_108 hl (by decide) rfl (fun ls hl => ?_)
    refine lv_iload hx hb dX4_expandedFirst_110 (lv_at hl 0 rfl) ?_
    refine lv_if_ne (tgt := 119) hx hb dX4_expandedFirst_112 (by decide) (fun c6 => ?_) (fun c6 => ?_)
    · have h := nd_neg h c6
      refine lv_iload hx hb dX4_expandedFirst_119 (lv_at hl 0 rfl) ?_
      refine lv_iconst (v := 2) hx hb dX4_expandedFirst_121 (by decide) ?_
      refine lv_iconst (v := 0) hx hb dX4_expandedFirst_122 (by decide) ?_
      refine lv_iload_n hx hb dX4_expandedFirst_123 rfl (lv_at hl 3 rfl) ?_
      obtain ⟨q7, s8, hq, h⟩ := nd_b2_e h
      have hPc : va_P (dC, dI) vwCl (dw_P a ac ()) H := nd_p0
      have hDc : va_D A (dw_P a ac ()) := nd_d0
      have hKc : va_K (dC, dI) vwCl (dk_P ac) s := nd_y0 hK
      have hFc : ∀ q, va_A (dw_P a ac ()) H.size q → A q := nd_r0 hS hA
      refine nd_cSi (As := [.int z5, .int 2, .int 0, .int z1]) (rest := []) (q := q7) (w' := dw_P a ac s8) ⟨hx, hb, hml, hown, hts⟩ (fun sz => dm_X4_number l hlt dC dI a ac n (z5) (2) (0) (z1) () hq sz) (cwS 4 hts gi_dm_X4_expandedFirst_0 rfl rfl rfl (by decide +kernel) ⟨Nat.le_of_ble_eq_true rfl, Nat.le_of_ble_eq_true rfl⟩) hPc hDc hKc hS hA hN rfl hl.1 rfl (Nat.le_of_ble_eq_true rfl) dX4_expandedFirst_124 (fun H locs hP1 hD1 hk1 hS => ?_)
      have hP := nd_n0 hP hk1
      exact (db_X4_expandedFirst_127 C K) (q7) s0 _ _ _ h hP hD hS (lv_sub hl [] rfl)
    · have h := nd_pos h c6
      refine lv_iconst (v := 0) hx hb dX4_expandedFirst_115 (by decide) ?_
      refine lv_goto (tgt := 127) hx hb dX4_expandedFirst_116 (by decide) ?_
      exact (db_X4_expandedFirst_127 C K) (0) s0 _ _ _ h hP hD hS (lv_sub hl [] rfl)
  have h := nd_neg h c4
  by_cases c10 : ((v0 : Int32) >>> ((13 : Int32) &&& 31)) = 2
  · have h := nd_pos h c10
    refine lv_lookup (off := 82) (tgt := 128) hx hb dX4_expandedFirst_46 (by decide) (by rw [c10]; decide) (by decide) ?_
    refine lv_iload_n hx hb dX4_expandedFirst_128 rfl (lv_at hl 0 rfl) ?_
    refine lv_iload_n hx hb dX4_expandedFirst_129 rfl (lv_at hl 1 rfl) ?_
    refine lv_iload_n hx hb dX4_expandedFirst_130 rfl (lv_at hl 2 rfl) ?_
    obtain ⟨q11, s12, hq, h⟩ := nd_b2_e h
    have hPc : va_P (dC, dI) vwCl (dw_P a ac ()) H := nd_p0
    have hDc : va_D A (dw_P a ac ()) := nd_d0
    have hKc : va_K (dC, dI) vwCl (dk_P ac) s := nd_y0 hK
    have hFc : ∀ q, va_A (dw_P a ac ()) H.size q → A q := nd_r0 hS hA
    refine nd_cSi (As := [.int z3, .int z2, .int z1]) (rest := []) (q := q11) (w' := dw_P a ac s12) ⟨hx, hb, hml, hown, hts⟩ (fun sz => dm_X4_loading l hlt dC dI a ac n (z3) (z2) (z1) () hq sz) (cwS 3 hts gi_dm_X4_expandedFirst_1 rfl rfl rfl (by decide +kernel) ⟨Nat.le_of_ble_eq_true rfl, Nat.le_of_ble_eq_true rfl⟩) hPc hDc hKc hS hA hN rfl hl.1 rfl (Nat.le_of_ble_eq_true rfl) dX4_expandedFirst_131 (fun H locs hP1 hD1 hk1 hS => ?_)
    have hP := nd_n0 hP hk1
    exact K _ _ _ _ _ _ dX4_expandedFirst_134 rfl (Option.some.inj h).symm hP hD hS
  have h := nd_neg h c10
  by_cases c14 : ((v0 : Int32) >>> ((13 : Int32) &&& 31)) = 6
  · have h := nd_pos h c14
    refine lv_lookup (off := 89) (tgt := 135) hx hb dX4_expandedFirst_46 (by decide) (by rw [c14]; decide) (by decide) ?_
    refine lv_iload_n hx hb dX4_expandedFirst_135 rfl (lv_at hl 0 rfl) ?_
    refine lv_iload_n hx hb dX4_expandedFirst_136 rfl (lv_at hl 1 rfl) ?_
    refine lv_iload_n hx hb dX4_expandedFirst_137 rfl (lv_at hl 2 rfl) ?_
    obtain ⟨q15, s16, hq, h⟩ := nd_b2_e h
    have hPc : va_P (dC, dI) vwCl (dw_P a ac ()) H := nd_p0
    have hDc : va_D A (dw_P a ac ()) := nd_d0
    have hKc : va_K (dC, dI) vwCl (dk_P ac) s := nd_y0 hK
    have hFc : ∀ q, va_A (dw_P a ac ()) H.size q → A q := nd_r0 hS hA
    refine nd_cSi (As := [.int z3, .int z2, .int z1]) (rest := []) (q := q15) (w' := dw_P a ac s16) ⟨hx, hb, hml, hown, hts⟩ (fun sz => dm_X4_storing l hlt dC dI a ac n (z3) (z2) (z1) () hq sz) (cwS 3 hts gi_dm_X4_expandedFirst_2 rfl rfl rfl (by decide +kernel) ⟨Nat.le_of_ble_eq_true rfl, Nat.le_of_ble_eq_true rfl⟩) hPc hDc hKc hS hA hN rfl hl.1 rfl (Nat.le_of_ble_eq_true rfl) dX4_expandedFirst_138 (fun H locs hP1 hD1 hk1 hS => ?_)
    have hP := nd_n0 hP hk1
    exact K _ _ _ _ _ _ dX4_expandedFirst_141 rfl (Option.some.inj h).symm hP hD hS
  have h := nd_neg h c14
  refine lv_lookup (off := 96) (tgt := 142) hx hb dX4_expandedFirst_46 (by decide) (show Op.lookupswitch.offset [(0, 34), (2, 82), (6, 89)] 96 (((v0 : Int32) >>> ((13 : Int32) &&& 31)) : Int32).toInt = 96 by rw [lv_osw c4 (by decide), lv_osw c10 (by decide), lv_osw c14 (by decide)] <;> rfl) (by decide) ?_
  refine lv_iconst (v := 0) hx hb dX4_expandedFirst_142 (by decide) ?_
  exact K _ _ _ _ _ _ dX4_expandedFirst_143 rfl (Option.some.inj h).symm hP hD hS
set_option maxHeartbeats 40000000 in
set_option maxRecDepth 100000 in
theorem dm_X4_expandedFirst (l : Launch) (hlt : l.stackTraces = false) (dC : Nat → ClassId) (dI : Nat → Nat → Nat) (a : Nat → Nat) (ac : Nat → ClassId) (n : Nat) (v0 : Int32) (s0 : Unit) {r : Int32 × (Unit)} (h : df_X4_expandedFirst n v0 s0 = some r) (sz : Nat) : Met l yX4_expandedFirst ow_dm_X4_expandedFirst ({ frames := 1, cells := 0, slots := 0, locals := 23 }) (va_Pc [.int v0] (fun U => U.heap.size = sz ∧ va_P (dC, dI) vwCl (dw_P a ac s0) U.heap ∧ va_K (dC, dI) vwCl (dk_P ac) U ∧ va_D (fun _ => True) (dw_P a ac s0) ∧ nv_E (va_A (dw_P a ac s0) sz) U)) (va_Qi (fun x _ => x = r.1) (fun (_ : Unit) t => va_P (dC, dI) vwCl (dw_P a ac r.2) t.heap ∧ va_K (dC, dI) vwCl (dk_P ac) t ∧ va_D (va_A (dw_P a ac s0) sz) (dw_P a ac r.2)) (va_A (dw_P a ac s0) sz)) 0 0 (va_A (dw_P a ac s0) sz) := by
  refine Met.ofW (cc := cX4_expandedFirst) (maxL := 5) (ret := (some .int)) (by decide) rfl ?_
  intro p e s m args below meth c s₁ B hml hv
  obtain ⟨rfl, hsz, hP, hK, hD0, hN⟩ := hv
  have hx := B.exec
  have hb := B.bytes
  have hr := B.returns
  have hts := atoms_spec (ws := ow_dm_X4_expandedFirst) B.pre
  have hown : s.vm.findClass RX4 = some m.cls := findClass_of_methodNamed B.named
  have hlocks := B.notSynchronized
  subst hsz
  have hD := hD0.self (sz := s.heap.size)
  generalize hAe : va_A (dw_P a ac s0) s.heap.size = A at hD hN ⊢
  have hA : ∀ q : Nat, s.heap.size ≤ q → A q := fun q h => by rw [← hAe]; exact Or.inr h
  have hl := lv_entry ([.int v0]) (n := 5) (Nat.le_of_ble_eq_true rfl)
  rw [lg_entry_eq]
  generalize (lg_sl ([.int v0]) ++ List.replicate (5 - (lg_sl ([.int v0])).length) Slot.unset).toArray = ls at hl ⊢
  have hl : lv_has ls 5 [(0, .int v0)] := hl
  exact db_X4_expandedFirst_0 (dC := dC) (dI := dI) (a := a) (ac := ac) (n := n) (r := r) ⟨hlt, hx, hb, hml, hown, hts, hN, hA, hK⟩ (fun pc v τ H locs ls d z er hP hD hS => by subst er; exact W.zret (v := v) hx hb hr z (fun t ht hW => ⟨⟨v, (), rfl, rfl, by rw [ht]; exact hP, va_K.moved hW.alike hK, hD⟩, hS.F ht⟩) hS.2.2 d) v0 s0 _ _ _ h hP hD va_S.rf (lv_sub hl [0] rfl)
def ow_dm_X4_signedNumber : List Cond := .code yX4_signedNumber cX4_signedNumber 1 (some .int) :: ([] ++ [])
theorem gd_dm_X4_signedNumber : ∀ w ∈ ow_dm_X4_signedNumber, (w.onTables && w.keeps) = true ∨ ∃ ty, w = Cond.arrayClass ty := List.forall_mem_cons.mpr ⟨good_of_word rfl, List.forall_mem_append.mpr ⟨fun w h => good_of_word (List.all_eq_true.mp (by decide +kernel) w h), fun _ h => nomatch h⟩⟩
def dj_X4_signedNumber_0 (p : Program) (l : Launch) (e : Env) (s : State) (m : MethodId) (args : Array Value) (below : List Frame) (meth : Method) (c : Code) (Q : State → Prop) (A : Nat → Prop) (dC : Nat → ClassId) (dI : Nat → Nat → Nat) (a : Nat → Nat) (ac : Nat → ClassId) (g : Int32 → (Unit) → Option (Int32 × (Unit))) (r : Int32 × (Unit)) : Prop := ∀ (v0 : Int32) (s0 : Unit) (H : Heap) (locs : List Loc) (ls : Array Slot), g v0 s0 = some r → va_P (dC, dI) vwCl (dw_P a ac s0) H → va_D A (dw_P a ac s0) → va_S A s.heap H locs → lv_has ls 1 [(0, .int v0)] → W p l e (headSpec ow_dm_X4_signedNumber ({ frames := 0, cells := 0, slots := 0, locals := 0 })).room s m args below meth c H locs 0 0 Q (F0 m 0 ls [])
set_option maxHeartbeats 40000000 in
set_option maxRecDepth 100000 in
theorem db_X4_signedNumber_0 {p : Program} {l : Launch} {e : Env} {s : State} {m : MethodId} {args : Array Value} {below : List Frame} {meth : Method} {c : Code} {Q : State → Prop} {A : Nat → Prop} {dC : Nat → ClassId} {dI : Nat → Nat → Nat} {a : Nat → Nat} {ac : Nat → ClassId} {n : Nat} {r : Int32 × (Unit)} (C : nd_C p l s m args c A (dC, dI) cX4_signedNumber 1 RX4 ow_dm_X4_signedNumber (dk_P ac)) (K : nd_Ki p l e (headSpec ow_dm_X4_signedNumber ({ frames := 0, cells := 0, slots := 0, locals := 0 })).room s m args below meth c Q A (dC, dI) cX4_signedNumber .int (Unit) (dw_P a ac) r) : dj_X4_signedNumber_0 p l e s m args below meth c Q A dC dI a ac (df_X4_signedNumber_0 n) r := by
  obtain ⟨hlt, hx, hb, hml, hown, hts, hN, hA, hK⟩ := id C
  intro v0 s0 H locs ls h hP hD hS hl
  unfold df_X4_signedNumber_0 at h
  refine lv_iload_n hx hb dX4_signedNumber_0 rfl (lv_at hl 0 rfl) ?_
  refine lv_bipush (v := 19) hx hb dX4_signedNumber_1 (by decide) ?_
  refine lv_ishl hx hb dX4_signedNumber_3 ?_
  refine lv_bipush (v := 31) hx hb dX4_signedNumber_4 (by decide) ?_
  refine lv_ishr hx hb dX4_signedNumber_6 ?_
  refine lv_iconst (v := 5) hx hb dX4_signedNumber_7 (by decide) ?_
  refine lv_ishl hx hb dX4_signedNumber_8 ?_
  refine lv_iload_n hx hb dX4_signedNumber_9 rfl (lv_at hl 0 rfl) ?_
  refine lv_iconst (v := 2) hx hb dX4_signedNumber_10 (by decide) ?_
  refine lv_ishr hx hb dX4_signedNumber_11 ?_
  refine lv_bipush (v := 31) hx hb dX4_signedNumber_12 (by decide) ?_
  refine lv_iand hx hb dX4_signedNumber_14 ?_
  refine lv_ior hx hb dX4_signedNumber_15 ?_
  exact K _ _ _ _ _ _ dX4_signedNumber_16 rfl (Option.some.inj h).symm hP hD hS
set_option maxHeartbeats 40000000 in
set_option maxRecDepth 100000 in
theorem dm_X4_signedNumber (l : Launch) (hlt : l.stackTraces = false) (dC : Nat → ClassId) (dI : Nat → Nat → Nat) (a : Nat → Nat) (ac : Nat → ClassId) (n : Nat) (v0 : Int32) (s0 : Unit) {r : Int32 × (Unit)} (h : df_X4_signedNumber n v0 s0 = some r) (sz : Nat) : Met l yX4_signedNumber ow_dm_X4_signedNumber ({ frames := 0, cells := 0, slots := 0, locals := 0 }) (va_Pc [.int v0] (fun U => U.heap.size = sz ∧ va_P (dC, dI) vwCl (dw_P a ac s0) U.heap ∧ va_K (dC, dI) vwCl (dk_P ac) U ∧ va_D (fun _ => True) (dw_P a ac s0) ∧ nv_E (va_A (dw_P a ac s0) sz) U)) (va_Qi (fun x _ => x = r.1) (fun (_ : Unit) t => va_P (dC, dI) vwCl (dw_P a ac r.2) t.heap ∧ va_K (dC, dI) vwCl (dk_P ac) t ∧ va_D (va_A (dw_P a ac s0) sz) (dw_P a ac r.2)) (va_A (dw_P a ac s0) sz)) 0 0 (va_A (dw_P a ac s0) sz) := by
  refine Met.ofW (cc := cX4_signedNumber) (maxL := 1) (ret := (some .int)) (by decide) rfl ?_
  intro p e s m args below meth c s₁ B hml hv
  obtain ⟨rfl, hsz, hP, hK, hD0, hN⟩ := hv
  have hx := B.exec
  have hb := B.bytes
  have hr := B.returns
  have hts := atoms_spec (ws := ow_dm_X4_signedNumber) B.pre
  have hown : s.vm.findClass RX4 = some m.cls := findClass_of_methodNamed B.named
  have hlocks := B.notSynchronized
  subst hsz
  have hD := hD0.self (sz := s.heap.size)
  generalize hAe : va_A (dw_P a ac s0) s.heap.size = A at hD hN ⊢
  have hA : ∀ q : Nat, s.heap.size ≤ q → A q := fun q h => by rw [← hAe]; exact Or.inr h
  have hl := lv_entry ([.int v0]) (n := 1) (Nat.le_of_ble_eq_true rfl)
  rw [lg_entry_eq]
  generalize (lg_sl ([.int v0]) ++ List.replicate (1 - (lg_sl ([.int v0])).length) Slot.unset).toArray = ls at hl ⊢
  have hl : lv_has ls 1 [(0, .int v0)] := hl
  exact db_X4_signedNumber_0 (dC := dC) (dI := dI) (a := a) (ac := ac) (n := n) (r := r) ⟨hlt, hx, hb, hml, hown, hts, hN, hA, hK⟩ (fun pc v τ H locs ls d z er hP hD hS => by subst er; exact W.zret (v := v) hx hb hr z (fun t ht hW => ⟨⟨v, (), rfl, rfl, by rw [ht]; exact hP, va_K.moved hW.alike hK, hD⟩, hS.F ht⟩) hS.2.2 d) v0 s0 _ _ _ h hP hD va_S.rf (lv_sub hl [0] rfl)
def ow_dm_X4_jumping : List Cond := .code yX4_jumping cX4_jumping 1 (some .int) :: ([.constant RX4 152 (-2147483648), .constant RX4 88 (1044480)] ++ [])
theorem gd_dm_X4_jumping : ∀ w ∈ ow_dm_X4_jumping, (w.onTables && w.keeps) = true ∨ ∃ ty, w = Cond.arrayClass ty := List.forall_mem_cons.mpr ⟨good_of_word rfl, List.forall_mem_append.mpr ⟨fun w h => good_of_word (List.all_eq_true.mp (by decide +kernel) w h), fun _ h => nomatch h⟩⟩
def dj_X4_jumping_0 (p : Program) (l : Launch) (e : Env) (s : State) (m : MethodId) (args : Array Value) (below : List Frame) (meth : Method) (c : Code) (Q : State → Prop) (A : Nat → Prop) (dC : Nat → ClassId) (dI : Nat → Nat → Nat) (a : Nat → Nat) (ac : Nat → ClassId) (g : Int32 → (Unit) → Option (Int32 × (Unit))) (r : Int32 × (Unit)) : Prop := ∀ (v0 : Int32) (s0 : Unit) (H : Heap) (locs : List Loc) (ls : Array Slot), g v0 s0 = some r → va_P (dC, dI) vwCl (dw_P a ac s0) H → va_D A (dw_P a ac s0) → va_S A s.heap H locs → lv_has ls 1 [(0, .int v0)] → W p l e (headSpec ow_dm_X4_jumping ({ frames := 0, cells := 0, slots := 0, locals := 0 })).room s m args below meth c H locs 0 0 Q (F0 m 0 ls [])
set_option maxHeartbeats 40000000 in
set_option maxRecDepth 100000 in
theorem db_X4_jumping_0 {p : Program} {l : Launch} {e : Env} {s : State} {m : MethodId} {args : Array Value} {below : List Frame} {meth : Method} {c : Code} {Q : State → Prop} {A : Nat → Prop} {dC : Nat → ClassId} {dI : Nat → Nat → Nat} {a : Nat → Nat} {ac : Nat → ClassId} {n : Nat} {r : Int32 × (Unit)} (C : nd_C p l s m args c A (dC, dI) cX4_jumping 1 RX4 ow_dm_X4_jumping (dk_P ac)) (K : nd_Ki p l e (headSpec ow_dm_X4_jumping ({ frames := 0, cells := 0, slots := 0, locals := 0 })).room s m args below meth c Q A (dC, dI) cX4_jumping .int (Unit) (dw_P a ac) r) : dj_X4_jumping_0 p l e s m args below meth c Q A dC dI a ac (df_X4_jumping_0 n) r := by
  obtain ⟨hlt, hx, hb, hml, hown, hts, hN, hA, hK⟩ := id C
  intro v0 s0 H locs ls h hP hD hS hl
  unfold df_X4_jumping_0 at h
  refine lv_iload_n hx hb dX4_jumping_0 rfl (lv_at hl 0 rfl) ?_
  refine lv_ldc hx hb hown (hts (.constant RX4 152 (-2147483648)) (List.mem_of_getElem? (i := 1) rfl)) dX4_jumping_1 ?_
  refine lv_iand hx hb dX4_jumping_3 ?_
  refine lv_iload_n hx hb dX4_jumping_4 rfl (lv_at hl 0 rfl) ?_
  refine lv_sipush (v := 2046) hx hb dX4_jumping_5 (by decide) ?_
  refine lv_iand hx hb dX4_jumping_8 ?_
  refine lv_bipush (v := 20) hx hb dX4_jumping_9 (by decide) ?_
  refine lv_ishl hx hb dX4_jumping_11 ?_
  refine lv_ior hx hb dX4_jumping_12 ?_
  refine lv_iload_n hx hb dX4_jumping_13 rfl (lv_at hl 0 rfl) ?_
  refine lv_sipush (v := 2048) hx hb dX4_jumping_14 (by decide) ?_
  refine lv_iand hx hb dX4_jumping_17 ?_
  refine lv_bipush (v := 9) hx hb dX4_jumping_18 (by decide) ?_
  refine lv_ishl hx hb dX4_jumping_20 ?_
  refine lv_ior hx hb dX4_jumping_21 ?_
  refine lv_iload_n hx hb dX4_jumping_22 rfl (lv_at hl 0 rfl) ?_
  refine lv_ldc hx hb hown (hts (.constant RX4 88 (1044480)) (List.mem_of_getElem? (i := 2) rfl)) dX4_jumping_23 ?_
  refine lv_iand hx hb dX4_jumping_25 ?_
  refine lv_ior hx hb dX4_jumping_26 ?_
  exact K _ _ _ _ _ _ dX4_jumping_27 rfl (Option.some.inj h).symm hP hD hS
set_option maxHeartbeats 40000000 in
set_option maxRecDepth 100000 in
theorem dm_X4_jumping (l : Launch) (hlt : l.stackTraces = false) (dC : Nat → ClassId) (dI : Nat → Nat → Nat) (a : Nat → Nat) (ac : Nat → ClassId) (n : Nat) (v0 : Int32) (s0 : Unit) {r : Int32 × (Unit)} (h : df_X4_jumping n v0 s0 = some r) (sz : Nat) : Met l yX4_jumping ow_dm_X4_jumping ({ frames := 0, cells := 0, slots := 0, locals := 0 }) (va_Pc [.int v0] (fun U => U.heap.size = sz ∧ va_P (dC, dI) vwCl (dw_P a ac s0) U.heap ∧ va_K (dC, dI) vwCl (dk_P ac) U ∧ va_D (fun _ => True) (dw_P a ac s0) ∧ nv_E (va_A (dw_P a ac s0) sz) U)) (va_Qi (fun x _ => x = r.1) (fun (_ : Unit) t => va_P (dC, dI) vwCl (dw_P a ac r.2) t.heap ∧ va_K (dC, dI) vwCl (dk_P ac) t ∧ va_D (va_A (dw_P a ac s0) sz) (dw_P a ac r.2)) (va_A (dw_P a ac s0) sz)) 0 0 (va_A (dw_P a ac s0) sz) := by
  refine Met.ofW (cc := cX4_jumping) (maxL := 1) (ret := (some .int)) (by decide) rfl ?_
  intro p e s m args below meth c s₁ B hml hv
  obtain ⟨rfl, hsz, hP, hK, hD0, hN⟩ := hv
  have hx := B.exec
  have hb := B.bytes
  have hr := B.returns
  have hts := atoms_spec (ws := ow_dm_X4_jumping) B.pre
  have hown : s.vm.findClass RX4 = some m.cls := findClass_of_methodNamed B.named
  have hlocks := B.notSynchronized
  subst hsz
  have hD := hD0.self (sz := s.heap.size)
  generalize hAe : va_A (dw_P a ac s0) s.heap.size = A at hD hN ⊢
  have hA : ∀ q : Nat, s.heap.size ≤ q → A q := fun q h => by rw [← hAe]; exact Or.inr h
  have hl := lv_entry ([.int v0]) (n := 1) (Nat.le_of_ble_eq_true rfl)
  rw [lg_entry_eq]
  generalize (lg_sl ([.int v0]) ++ List.replicate (1 - (lg_sl ([.int v0])).length) Slot.unset).toArray = ls at hl ⊢
  have hl : lv_has ls 1 [(0, .int v0)] := hl
  exact db_X4_jumping_0 (dC := dC) (dI := dI) (a := a) (ac := ac) (n := n) (r := r) ⟨hlt, hx, hb, hml, hown, hts, hN, hA, hK⟩ (fun pc v τ H locs ls d z er hP hD hS => by subst er; exact W.zret (v := v) hx hb hr z (fun t ht hW => ⟨⟨v, (), rfl, rfl, by rw [ht]; exact hP, va_K.moved hW.alike hK, hD⟩, hS.F ht⟩) hS.2.2 d) v0 s0 _ _ _ h hP hD va_S.rf (lv_sub hl [0] rfl)
def ow_dm_X4_branching : List Cond := .code yX4_branching cX4_branching 1 (some .int) :: ([.constant RX4 152 (-2147483648)] ++ [])
theorem gd_dm_X4_branching : ∀ w ∈ ow_dm_X4_branching, (w.onTables && w.keeps) = true ∨ ∃ ty, w = Cond.arrayClass ty := List.forall_mem_cons.mpr ⟨good_of_word rfl, List.forall_mem_append.mpr ⟨fun w h => good_of_word (List.all_eq_true.mp (by decide +kernel) w h), fun _ h => nomatch h⟩⟩
def dj_X4_branching_0 (p : Program) (l : Launch) (e : Env) (s : State) (m : MethodId) (args : Array Value) (below : List Frame) (meth : Method) (c : Code) (Q : State → Prop) (A : Nat → Prop) (dC : Nat → ClassId) (dI : Nat → Nat → Nat) (a : Nat → Nat) (ac : Nat → ClassId) (g : Int32 → (Unit) → Option (Int32 × (Unit))) (r : Int32 × (Unit)) : Prop := ∀ (v0 : Int32) (s0 : Unit) (H : Heap) (locs : List Loc) (ls : Array Slot), g v0 s0 = some r → va_P (dC, dI) vwCl (dw_P a ac s0) H → va_D A (dw_P a ac s0) → va_S A s.heap H locs → lv_has ls 1 [(0, .int v0)] → W p l e (headSpec ow_dm_X4_branching ({ frames := 0, cells := 0, slots := 0, locals := 0 })).room s m args below meth c H locs 0 0 Q (F0 m 0 ls [])
set_option maxHeartbeats 40000000 in
set_option maxRecDepth 100000 in
theorem db_X4_branching_0 {p : Program} {l : Launch} {e : Env} {s : State} {m : MethodId} {args : Array Value} {below : List Frame} {meth : Method} {c : Code} {Q : State → Prop} {A : Nat → Prop} {dC : Nat → ClassId} {dI : Nat → Nat → Nat} {a : Nat → Nat} {ac : Nat → ClassId} {n : Nat} {r : Int32 × (Unit)} (C : nd_C p l s m args c A (dC, dI) cX4_branching 1 RX4 ow_dm_X4_branching (dk_P ac)) (K : nd_Ki p l e (headSpec ow_dm_X4_branching ({ frames := 0, cells := 0, slots := 0, locals := 0 })).room s m args below meth c Q A (dC, dI) cX4_branching .int (Unit) (dw_P a ac) r) : dj_X4_branching_0 p l e s m args below meth c Q A dC dI a ac (df_X4_branching_0 n) r := by
  obtain ⟨hlt, hx, hb, hml, hown, hts, hN, hA, hK⟩ := id C
  intro v0 s0 H locs ls h hP hD hS hl
  unfold df_X4_branching_0 at h
  refine lv_iload_n hx hb dX4_branching_0 rfl (lv_at hl 0 rfl) ?_
  refine lv_ldc hx hb hown (hts (.constant RX4 152 (-2147483648)) (List.mem_of_getElem? (i := 1) rfl)) dX4_branching_1 ?_
  refine lv_iand hx hb dX4_branching_3 ?_
  refine lv_iload_n hx hb dX4_branching_4 rfl (lv_at hl 0 rfl) ?_
  refine lv_sipush (v := 2016) hx hb dX4_branching_5 (by decide) ?_
  refine lv_iand hx hb dX4_branching_8 ?_
  refine lv_bipush (v := 20) hx hb dX4_branching_9 (by decide) ?_
  refine lv_ishl hx hb dX4_branching_11 ?_
  refine lv_ior hx hb dX4_branching_12 ?_
  refine lv_iload_n hx hb dX4_branching_13 rfl (lv_at hl 0 rfl) ?_
  refine lv_bipush (v := 30) hx hb dX4_branching_14 (by decide) ?_
  refine lv_iand hx hb dX4_branching_16 ?_
  refine lv_bipush (v := 7) hx hb dX4_branching_17 (by decide) ?_
  refine lv_ishl hx hb dX4_branching_19 ?_
  refine lv_ior hx hb dX4_branching_20 ?_
  refine lv_iload_n hx hb dX4_branching_21 rfl (lv_at hl 0 rfl) ?_
  refine lv_sipush (v := 2048) hx hb dX4_branching_22 (by decide) ?_
  refine lv_iand hx hb dX4_branching_25 ?_
  refine lv_iconst (v := 4) hx hb dX4_branching_26 (by decide) ?_
  refine lv_ishr hx hb dX4_branching_27 ?_
  refine lv_ior hx hb dX4_branching_28 ?_
  exact K _ _ _ _ _ _ dX4_branching_29 rfl (Option.some.inj h).symm hP hD hS
set_option maxHeartbeats 40000000 in
set_option maxRecDepth 100000 in
theorem dm_X4_branching (l : Launch) (hlt : l.stackTraces = false) (dC : Nat → ClassId) (dI : Nat → Nat → Nat) (a : Nat → Nat) (ac : Nat → ClassId) (n : Nat) (v0 : Int32) (s0 : Unit) {r : Int32 × (Unit)} (h : df_X4_branching n v0 s0 = some r) (sz : Nat) : Met l yX4_branching ow_dm_X4_branching ({ frames := 0, cells := 0, slots := 0, locals := 0 }) (va_Pc [.int v0] (fun U => U.heap.size = sz ∧ va_P (dC, dI) vwCl (dw_P a ac s0) U.heap ∧ va_K (dC, dI) vwCl (dk_P ac) U ∧ va_D (fun _ => True) (dw_P a ac s0) ∧ nv_E (va_A (dw_P a ac s0) sz) U)) (va_Qi (fun x _ => x = r.1) (fun (_ : Unit) t => va_P (dC, dI) vwCl (dw_P a ac r.2) t.heap ∧ va_K (dC, dI) vwCl (dk_P ac) t ∧ va_D (va_A (dw_P a ac s0) sz) (dw_P a ac r.2)) (va_A (dw_P a ac s0) sz)) 0 0 (va_A (dw_P a ac s0) sz) := by
  refine Met.ofW (cc := cX4_branching) (maxL := 1) (ret := (some .int)) (by decide) rfl ?_
  intro p e s m args below meth c s₁ B hml hv
  obtain ⟨rfl, hsz, hP, hK, hD0, hN⟩ := hv
  have hx := B.exec
  have hb := B.bytes
  have hr := B.returns
  have hts := atoms_spec (ws := ow_dm_X4_branching) B.pre
  have hown : s.vm.findClass RX4 = some m.cls := findClass_of_methodNamed B.named
  have hlocks := B.notSynchronized
  subst hsz
  have hD := hD0.self (sz := s.heap.size)
  generalize hAe : va_A (dw_P a ac s0) s.heap.size = A at hD hN ⊢
  have hA : ∀ q : Nat, s.heap.size ≤ q → A q := fun q h => by rw [← hAe]; exact Or.inr h
  have hl := lv_entry ([.int v0]) (n := 1) (Nat.le_of_ble_eq_true rfl)
  rw [lg_entry_eq]
  generalize (lg_sl ([.int v0]) ++ List.replicate (1 - (lg_sl ([.int v0])).length) Slot.unset).toArray = ls at hl ⊢
  have hl : lv_has ls 1 [(0, .int v0)] := hl
  exact db_X4_branching_0 (dC := dC) (dI := dI) (a := a) (ac := ac) (n := n) (r := r) ⟨hlt, hx, hb, hml, hown, hts, hN, hA, hK⟩ (fun pc v τ H locs ls d z er hP hD hS => by subst er; exact W.zret (v := v) hx hb hr z (fun t ht hW => ⟨⟨v, (), rfl, rfl, by rw [ht]; exact hP, va_K.moved hW.alike hK, hD⟩, hS.F ht⟩) hS.2.2 d) v0 s0 _ _ _ h hP hD va_S.rf (lv_sub hl [0] rfl)
def ow_dm_X4_expandedSecond : List Cond := .code yX4_expandedSecond cX4_expandedSecond 6 (some .int) :: ([.methodLink RX4 162 yX4_signedNumber, .static yX4_signedNumber, .initialized RX4, .methodLink RX4 153 yX4_number, .static yX4_number, .methodLink RX4 165 yX4_jumping, .static yX4_jumping, .methodLink RX4 168 yX4_branching, .static yX4_branching] ++ (ow_dm_X4_signedNumber ++ (ow_dm_X4_number ++ (ow_dm_X4_jumping ++ (ow_dm_X4_branching ++ [])))))
theorem gd_dm_X4_expandedSecond : ∀ w ∈ ow_dm_X4_expandedSecond, (w.onTables && w.keeps) = true ∨ ∃ ty, w = Cond.arrayClass ty := List.forall_mem_cons.mpr ⟨good_of_word rfl, List.forall_mem_append.mpr ⟨fun w h => good_of_word (List.all_eq_true.mp (by decide +kernel) w h), List.forall_mem_append.mpr ⟨gd_dm_X4_signedNumber, List.forall_mem_append.mpr ⟨gd_dm_X4_number, List.forall_mem_append.mpr ⟨gd_dm_X4_jumping, List.forall_mem_append.mpr ⟨gd_dm_X4_branching, fun _ h => nomatch h⟩⟩⟩⟩⟩⟩
theorem gi_dm_X4_expandedSecond_0 : GoodIn ow_dm_X4_expandedSecond (wsS RX4 162 yX4_signedNumber ow_dm_X4_signedNumber) := goodIn_app (goodIn_of _ (by decide +kernel)) (fun w h => ⟨List.mem_cons_of_mem _ (List.mem_append_right _ (List.mem_append_left _ h)), gd_dm_X4_signedNumber w h⟩)
theorem gi_dm_X4_expandedSecond_1 : GoodIn ow_dm_X4_expandedSecond (wsS RX4 153 yX4_number ow_dm_X4_number) := goodIn_app (goodIn_of _ (by decide +kernel)) (fun w h => ⟨List.mem_cons_of_mem _ (List.mem_append_right _ (List.mem_append_right _ (List.mem_append_left _ h))), gd_dm_X4_number w h⟩)
theorem gi_dm_X4_expandedSecond_2 : GoodIn ow_dm_X4_expandedSecond (wsS RX4 165 yX4_jumping ow_dm_X4_jumping) := goodIn_app (goodIn_of _ (by decide +kernel)) (fun w h => ⟨List.mem_cons_of_mem _ (List.mem_append_right _ (List.mem_append_right _ (List.mem_append_right _ (List.mem_append_left _ h)))), gd_dm_X4_jumping w h⟩)
theorem gi_dm_X4_expandedSecond_3 : GoodIn ow_dm_X4_expandedSecond (wsS RX4 168 yX4_branching ow_dm_X4_branching) := goodIn_app (goodIn_of _ (by decide +kernel)) (fun w h => ⟨List.mem_cons_of_mem _ (List.mem_append_right _ (List.mem_append_right _ (List.mem_append_right _ (List.mem_append_right _ (List.mem_append_left _ h))))), gd_dm_X4_branching w h⟩)
def dj_X4_expandedSecond_145 (p : Program) (l : Launch) (e : Env) (s : State) (m : MethodId) (args : Array Value) (below : List Frame) (meth : Method) (c : Code) (Q : State → Prop) (A : Nat → Prop) (dC : Nat → ClassId) (dI : Nat → Nat → Nat) (a : Nat → Nat) (ac : Nat → ClassId) (g : Int32 → Int32 → Int32 → (Unit) → Option (Int32 × (Unit))) (r : Int32 × (Unit)) : Prop := ∀ (x3 : Int32) (y0 : Int32) (y1 : Int32) (s0 : Unit) (H : Heap) (locs : List Loc) (ls : Array Slot), g x3 y0 y1 s0 = some r → va_P (dC, dI) vwCl (dw_P a ac s0) H → va_D A (dw_P a ac s0) → va_S A s.heap H locs → lv_has ls 6 [(3, .int x3)] → W p l e (headSpec ow_dm_X4_expandedSecond ({ frames := 1, cells := 0, slots := 0, locals := 23 })).room s m args below meth c H locs 0 0 Q (F0 m 145 ls [.int y1, .int y0])
def dj_X4_expandedSecond_64 (p : Program) (l : Launch) (e : Env) (s : State) (m : MethodId) (args : Array Value) (below : List Frame) (meth : Method) (c : Code) (Q : State → Prop) (A : Nat → Prop) (dC : Nat → ClassId) (dI : Nat → Nat → Nat) (a : Nat → Nat) (ac : Nat → ClassId) (g : Int32 → (Unit) → Option (Int32 × (Unit))) (r : Int32 × (Unit)) : Prop := ∀ (x0 : Int32) (s0 : Unit) (H : Heap) (locs : List Loc) (ls : Array Slot), g x0 s0 = some r → va_P (dC, dI) vwCl (dw_P a ac s0) H → va_D A (dw_P a ac s0) → va_S A s.heap H locs → lv_has ls 6 [(0, .int x0)] → W p l e (headSpec ow_dm_X4_expandedSecond ({ frames := 1, cells := 0, slots := 0, locals := 23 })).room s m args below meth c H locs 0 0 Q (F0 m 64 ls [])
def dj_X4_expandedSecond_244 (p : Program) (l : Launch) (e : Env) (s : State) (m : MethodId) (args : Array Value) (below : List Frame) (meth : Method) (c : Code) (Q : State → Prop) (A : Nat → Prop) (dC : Nat → ClassId) (dI : Nat → Nat → Nat) (a : Nat → Nat) (ac : Nat → ClassId) (g : Int32 → (Unit) → Option (Int32 × (Unit))) (r : Int32 × (Unit)) : Prop := ∀ (y0 : Int32) (s0 : Unit) (H : Heap) (locs : List Loc) (ls : Array Slot), g y0 s0 = some r → va_P (dC, dI) vwCl (dw_P a ac s0) H → va_D A (dw_P a ac s0) → va_S A s.heap H locs → lv_has ls 6 [] → W p l e (headSpec ow_dm_X4_expandedSecond ({ frames := 1, cells := 0, slots := 0, locals := 23 })).room s m args below meth c H locs 0 0 Q (F0 m 244 ls [.int y0])
def dj_X4_expandedSecond_185 (p : Program) (l : Launch) (e : Env) (s : State) (m : MethodId) (args : Array Value) (below : List Frame) (meth : Method) (c : Code) (Q : State → Prop) (A : Nat → Prop) (dC : Nat → ClassId) (dI : Nat → Nat → Nat) (a : Nat → Nat) (ac : Nat → ClassId) (g : Int32 → (Unit) → Option (Int32 × (Unit))) (r : Int32 × (Unit)) : Prop := ∀ (y0 : Int32) (s0 : Unit) (H : Heap) (locs : List Loc) (ls : Array Slot), g y0 s0 = some r → va_P (dC, dI) vwCl (dw_P a ac s0) H → va_D A (dw_P a ac s0) → va_S A s.heap H locs → lv_has ls 6 [] → W p l e (headSpec ow_dm_X4_expandedSecond ({ frames := 1, cells := 0, slots := 0, locals := 23 })).room s m args below meth c H locs 0 0 Q (F0 m 185 ls [.int y0])
def dj_X4_expandedSecond_245 (p : Program) (l : Launch) (e : Env) (s : State) (m : MethodId) (args : Array Value) (below : List Frame) (meth : Method) (c : Code) (Q : State → Prop) (A : Nat → Prop) (dC : Nat → ClassId) (dI : Nat → Nat → Nat) (a : Nat → Nat) (ac : Nat → ClassId) (g : Int32 → (Unit) → Option (Int32 × (Unit))) (r : Int32 × (Unit)) : Prop := ∀ (x0 : Int32) (s0 : Unit) (H : Heap) (locs : List Loc) (ls : Array Slot), g x0 s0 = some r → va_P (dC, dI) vwCl (dw_P a ac s0) H → va_D A (dw_P a ac s0) → va_S A s.heap H locs → lv_has ls 6 [(0, .int x0)] → W p l e (headSpec ow_dm_X4_expandedSecond ({ frames := 1, cells := 0, slots := 0, locals := 23 })).room s m args below meth c H locs 0 0 Q (F0 m 245 ls [])
def dj_X4_expandedSecond_0 (p : Program) (l : Launch) (e : Env) (s : State) (m : MethodId) (args : Array Value) (below : List Frame) (meth : Method) (c : Code) (Q : State → Prop) (A : Nat → Prop) (dC : Nat → ClassId) (dI : Nat → Nat → Nat) (a : Nat → Nat) (ac : Nat → ClassId) (g : Int32 → (Unit) → Option (Int32 × (Unit))) (r : Int32 × (Unit)) : Prop := ∀ (v0 : Int32) (s0 : Unit) (H : Heap) (locs : List Loc) (ls : Array Slot), g v0 s0 = some r → va_P (dC, dI) vwCl (dw_P a ac s0) H → va_D A (dw_P a ac s0) → va_S A s.heap H locs → lv_has ls 6 [(0, .int v0)] → W p l e (headSpec ow_dm_X4_expandedSecond ({ frames := 1, cells := 0, slots := 0, locals := 23 })).room s m args below meth c H locs 0 0 Q (F0 m 0 ls [])
set_option maxHeartbeats 40000000 in
set_option maxRecDepth 100000 in
theorem db_X4_expandedSecond_145 {p : Program} {l : Launch} {e : Env} {s : State} {m : MethodId} {args : Array Value} {below : List Frame} {meth : Method} {c : Code} {Q : State → Prop} {A : Nat → Prop} {dC : Nat → ClassId} {dI : Nat → Nat → Nat} {a : Nat → Nat} {ac : Nat → ClassId} {n : Nat} {r : Int32 × (Unit)} (C : nd_C p l s m args c A (dC, dI) cX4_expandedSecond 6 RX4 ow_dm_X4_expandedSecond (dk_P ac)) (K : nd_Ki p l e (headSpec ow_dm_X4_expandedSecond ({ frames := 1, cells := 0, slots := 0, locals := 23 })).room s m args below meth c Q A (dC, dI) cX4_expandedSecond .int (Unit) (dw_P a ac) r) : dj_X4_expandedSecond_145 p l e s m args below meth c Q A dC dI a ac (df_X4_expandedSecond_145 n) r := by
  obtain ⟨hlt, hx, hb, hml, hown, hts, hN, hA, hK⟩ := id C
  intro x3 y0 y1 s0 H locs ls h hP hD hS hl
  unfold df_X4_expandedSecond_145 at h
  refine lv_ior hx hb dX4_expandedSecond_145 ?_
  refine lv_iload_n hx hb dX4_expandedSecond_146 rfl (lv_at hl 0 rfl) ?_
  obtain ⟨q12, s13, hq, h⟩ := nd_b2_e h
  have hPc : va_P (dC, dI) vwCl (dw_P a ac ()) H := nd_p0
  have hDc : va_D A (dw_P a ac ()) := nd_d0
  have hKc : va_K (dC, dI) vwCl (dk_P ac) s := nd_y0 hK
  have hFc : ∀ q, va_A (dw_P a ac ()) H.size q → A q := nd_r0 hS hA
  refine nd_cSi (As := [.int x3]) (rest := [.int (y0 ||| y1)]) (q := q12) (w' := dw_P a ac s13) ⟨hx, hb, hml, hown, hts⟩ (fun sz => dm_X4_jumping l hlt dC dI a ac n (x3) () hq sz) (cwS 1 hts gi_dm_X4_expandedSecond_2 rfl rfl rfl (by decide +kernel) ⟨Nat.le_of_ble_eq_true rfl, Nat.le_of_ble_eq_true rfl⟩) hPc hDc hKc hS hA hN rfl hl.1 rfl (Nat.le_of_ble_eq_true rfl) dX4_expandedSecond_147 (fun H locs hP1 hD1 hk1 hS => ?_)
  have hP := nd_n0 hP hk1
  refine lv_ior hx hb dX4_expandedSecond_150 ?_
  exact K _ _ _ _ _ _ dX4_expandedSecond_151 rfl (Option.some.inj h).symm hP hD hS
set_option maxHeartbeats 40000000 in
set_option maxRecDepth 100000 in
theorem db_X4_expandedSecond_64 {p : Program} {l : Launch} {e : Env} {s : State} {m : MethodId} {args : Array Value} {below : List Frame} {meth : Method} {c : Code} {Q : State → Prop} {A : Nat → Prop} {dC : Nat → ClassId} {dI : Nat → Nat → Nat} {a : Nat → Nat} {ac : Nat → ClassId} {n : Nat} {r : Int32 × (Unit)} (C : nd_C p l s m args c A (dC, dI) cX4_expandedSecond 6 RX4 ow_dm_X4_expandedSecond (dk_P ac)) (K : nd_Ki p l e (headSpec ow_dm_X4_expandedSecond ({ frames := 1, cells := 0, slots := 0, locals := 23 })).room s m args below meth c Q A (dC, dI) cX4_expandedSecond .int (Unit) (dw_P a ac) r) : dj_X4_expandedSecond_64 p l e s m args below meth c Q A dC dI a ac (df_X4_expandedSecond_64 n) r := by
  obtain ⟨hlt, hx, hb, hml, hown, hts, hN, hA, hK⟩ := id C
  intro x0 s0 H locs ls h hP hD hS hl
  unfold df_X4_expandedSecond_64 at h
  refine lv_iload_n hx hb dX4_expandedSecond_64 rfl (lv_at hl 0 rfl) ?_
  refine lv_bipush (v := 19) hx hb dX4_expandedSecond_65 (by decide) ?_
  refine lv_ishl hx hb dX4_expandedSecond_67 ?_
  refine lv_bipush (v := 31) hx hb dX4_expandedSecond_68 (by decide) ?_
  refine lv_ishr hx hb dX4_expandedSecond_70 ?_
  refine lv_bipush (v := 11) hx hb dX4_expandedSecond_71 (by decide) ?_
  refine lv_ishl hx hb dX4_expandedSecond_73 ?_
  refine lv_iload_n hx hb dX4_expandedSecond_74 rfl (lv_at hl 0 rfl) ?_
  refine lv_bipush (v := 7) hx hb dX4_expandedSecond_75 (by decide) ?_
  refine lv_ishr hx hb dX4_expandedSecond_77 ?_
  refine lv_bipush (v := 16) hx hb dX4_expandedSecond_78 (by decide) ?_
  refine lv_iand hx hb dX4_expandedSecond_80 ?_
  refine lv_ior hx hb dX4_expandedSecond_81 ?_
  refine lv_iload_n hx hb dX4_expandedSecond_82 rfl (lv_at hl 0 rfl) ?_
  refine lv_iconst (v := 1) hx hb dX4_expandedSecond_83 (by decide) ?_
  refine lv_ishr hx hb dX4_expandedSecond_84 ?_
  refine lv_sipush (v := 768) hx hb dX4_expandedSecond_85 (by decide) ?_
  refine lv_iand hx hb dX4_expandedSecond_88 ?_
  refine lv_ior hx hb dX4_expandedSecond_89 ?_
  refine lv_iload_n hx hb dX4_expandedSecond_90 rfl (lv_at hl 0 rfl) ?_
  refine lv_iconst (v := 2) hx hb dX4_expandedSecond_91 (by decide) ?_
  refine lv_ishl hx hb dX4_expandedSecond_92 ?_
  refine lv_sipush (v := 1024) hx hb dX4_expandedSecond_93 (by decide) ?_
  refine lv_iand hx hb dX4_expandedSecond_96 ?_
  refine lv_ior hx hb dX4_expandedSecond_97 ?_
  refine lv_iload_n hx hb dX4_expandedSecond_98 rfl (lv_at hl 0 rfl) ?_
  refine lv_iconst (v := 1) hx hb dX4_expandedSecond_99 (by decide) ?_
  refine lv_ishr hx hb dX4_expandedSecond_100 ?_
  refine lv_bipush (v := 64) hx hb dX4_expandedSecond_101 (by decide) ?_
  refine lv_iand hx hb dX4_expandedSecond_103 ?_
  refine lv_ior hx hb dX4_expandedSecond_104 ?_
  refine lv_iload_n hx hb dX4_expandedSecond_105 rfl (lv_at hl 0 rfl) ?_
  refine lv_iconst (v := 1) hx hb dX4_expandedSecond_106 (by decide) ?_
  refine lv_ishl hx hb dX4_expandedSecond_107 ?_
  refine lv_sipush (v := 128) hx hb dX4_expandedSecond_108 (by decide) ?_
  refine lv_iand hx hb dX4_expandedSecond_111 ?_
  refine lv_ior hx hb dX4_expandedSecond_112 ?_
  refine lv_iload_n hx hb dX4_expandedSecond_113 rfl (lv_at hl 0 rfl) ?_
  refine lv_iconst (v := 2) hx hb dX4_expandedSecond_114 (by decide) ?_
  refine lv_ishr hx hb dX4_expandedSecond_115 ?_
  refine lv_bipush (v := 14) hx hb dX4_expandedSecond_116 (by decide) ?_
  refine lv_iand hx hb dX4_expandedSecond_118 ?_
  refine lv_ior hx hb dX4_expandedSecond_119 ?_
  refine lv_iload_n hx hb dX4_expandedSecond_120 rfl (lv_at hl 0 rfl) ?_
  refine lv_iconst (v := 3) hx hb dX4_expandedSecond_121 (by decide) ?_
  refine lv_ishl hx hb dX4_expandedSecond_122 ?_
  refine lv_bipush (v := 32) hx hb dX4_expandedSecond_123 (by decide) ?_
  refine lv_iand hx hb dX4_expandedSecond_125 ?_
  refine lv_ior hx hb dX4_expandedSecond_126 ?_
  refine lv_topi (fun z10 ez10 => ?_)
  have h := nd_at h ez10
  refine lv_istore_n (lv' := [(3, .int z10), (0, .int x0)]) hx hb dX4_expandedSecond_127 rfl hl (by decide) rfl (fun ls hl => ?_)
  refine lv_bipush (v := 111) hx hb dX4_expandedSecond_128 (by decide) ?_
  refine lv_iload_n hx hb dX4_expandedSecond_130 rfl (lv_at hl 1 rfl) ?_
  refine lv_bipush (v := 13) hx hb dX4_expandedSecond_131 (by decide) ?_
  refine lv_ishr hx hb dX4_expandedSecond_133 ?_
  refine lv_iconst (v := 1) hx hb dX4_expandedSecond_134 (by decide) ?_
  refine lv_icmp_ne (tgt := 144) hx hb dX4_expandedSecond_135 (by decide) (fun c11 => ?_) (fun c11 => ?_)
  · have h := nd_neg h c11
    refine lv_iconst (v := 0) hx hb dX4_expandedSecond_144 (by decide) ?_
    exact (db_X4_expandedSecond_145 C K) (z10) (111) (0) s0 _ _ _ h hP hD hS (lv_sub hl [0] rfl)
  · have h := nd_pos h c11
    refine lv_sipush (v := 128) hx hb dX4_expandedSecond_138 (by decide) ?_
    refine lv_goto (tgt := 145) hx hb dX4_expandedSecond_141 (by decide) ?_
    exact (db_X4_expandedSecond_145 C K) (z10) (111) (128) s0 _ _ _ h hP hD hS (lv_sub hl [0] rfl)
set_option maxHeartbeats 40000000 in
set_option maxRecDepth 100000 in
theorem db_X4_expandedSecond_244 {p : Program} {l : Launch} {e : Env} {s : State} {m : MethodId} {args : Array Value} {below : List Frame} {meth : Method} {c : Code} {Q : State → Prop} {A : Nat → Prop} {dC : Nat → ClassId} {dI : Nat → Nat → Nat} {a : Nat → Nat} {ac : Nat → ClassId} {n : Nat} {r : Int32 × (Unit)} (C : nd_C p l s m args c A (dC, dI) cX4_expandedSecond 6 RX4 ow_dm_X4_expandedSecond (dk_P ac)) (K : nd_Ki p l e (headSpec ow_dm_X4_expandedSecond ({ frames := 1, cells := 0, slots := 0, locals := 23 })).room s m args below meth c Q A (dC, dI) cX4_expandedSecond .int (Unit) (dw_P a ac) r) : dj_X4_expandedSecond_244 p l e s m args below meth c Q A dC dI a ac (df_X4_expandedSecond_244 n) r := by
  obtain ⟨hlt, hx, hb, hml, hown, hts, hN, hA, hK⟩ := id C
  intro y0 s0 H locs ls h hP hD hS hl
  unfold df_X4_expandedSecond_244 at h
  exact K _ _ _ _ _ _ dX4_expandedSecond_244 rfl (Option.some.inj h).symm hP hD hS
set_option maxHeartbeats 40000000 in
set_option maxRecDepth 100000 in
theorem db_X4_expandedSecond_185 {p : Program} {l : Launch} {e : Env} {s : State} {m : MethodId} {args : Array Value} {below : List Frame} {meth : Method} {c : Code} {Q : State → Prop} {A : Nat → Prop} {dC : Nat → ClassId} {dI : Nat → Nat → Nat} {a : Nat → Nat} {ac : Nat → ClassId} {n : Nat} {r : Int32 × (Unit)} (C : nd_C p l s m args c A (dC, dI) cX4_expandedSecond 6 RX4 ow_dm_X4_expandedSecond (dk_P ac)) (K : nd_Ki p l e (headSpec ow_dm_X4_expandedSecond ({ frames := 1, cells := 0, slots := 0, locals := 23 })).room s m args below meth c Q A (dC, dI) cX4_expandedSecond .int (Unit) (dw_P a ac) r) : dj_X4_expandedSecond_185 p l e s m args below meth c Q A dC dI a ac (df_X4_expandedSecond_185 n) r := by
  obtain ⟨hlt, hx, hb, hml, hown, hts, hN, hA, hK⟩ := id C
  intro y0 s0 H locs ls h hP hD hS hl
  unfold df_X4_expandedSecond_185 at h
  exact K _ _ _ _ _ _ dX4_expandedSecond_185 rfl (Option.some.inj h).symm hP hD hS
set_option maxHeartbeats 40000000 in
set_option maxRecDepth 100000 in
theorem db_X4_expandedSecond_245 {p : Program} {l : Launch} {e : Env} {s : State} {m : MethodId} {args : Array Value} {below : List Frame} {meth : Method} {c : Code} {Q : State → Prop} {A : Nat → Prop} {dC : Nat → ClassId} {dI : Nat → Nat → Nat} {a : Nat → Nat} {ac : Nat → ClassId} {n : Nat} {r : Int32 × (Unit)} (C : nd_C p l s m args c A (dC, dI) cX4_expandedSecond 6 RX4 ow_dm_X4_expandedSecond (dk_P ac)) (K : nd_Ki p l e (headSpec ow_dm_X4_expandedSecond ({ frames := 1, cells := 0, slots := 0, locals := 23 })).room s m args below meth c Q A (dC, dI) cX4_expandedSecond .int (Unit) (dw_P a ac) r) : dj_X4_expandedSecond_245 p l e s m args below meth c Q A dC dI a ac (df_X4_expandedSecond_245 n) r := by
  obtain ⟨hlt, hx, hb, hml, hown, hts, hN, hA, hK⟩ := id C
  intro x0 s0 H locs ls h hP hD hS hl
  unfold df_X4_expandedSecond_245 at h
  refine lv_iload_n hx hb dX4_expandedSecond_245 rfl (lv_at hl 0 rfl) ?_
  refine lv_bipush (v := 19) hx hb dX4_expandedSecond_246 (by decide) ?_
  refine lv_ishl hx hb dX4_expandedSecond_248 ?_
  refine lv_bipush (v := 31) hx hb dX4_expandedSecond_249 (by decide) ?_
  refine lv_ishr hx hb dX4_expandedSecond_251 ?_
  refine lv_bipush (v := 8) hx hb dX4_expandedSecond_252 (by decide) ?_
  refine lv_ishl hx hb dX4_expandedSecond_254 ?_
  refine lv_iload_n hx hb dX4_expandedSecond_255 rfl (lv_at hl 0 rfl) ?_
  refine lv_bipush (v := 7) hx hb dX4_expandedSecond_256 (by decide) ?_
  refine lv_ishr hx hb dX4_expandedSecond_258 ?_
  refine lv_bipush (v := 24) hx hb dX4_expandedSecond_259 (by decide) ?_
  refine lv_iand hx hb dX4_expandedSecond_261 ?_
  refine lv_ior hx hb dX4_expandedSecond_262 ?_
  refine lv_iload_n hx hb dX4_expandedSecond_263 rfl (lv_at hl 0 rfl) ?_
  refine lv_iconst (v := 1) hx hb dX4_expandedSecond_264 (by decide) ?_
  refine lv_ishl hx hb dX4_expandedSecond_265 ?_
  refine lv_sipush (v := 192) hx hb dX4_expandedSecond_266 (by decide) ?_
  refine lv_iand hx hb dX4_expandedSecond_269 ?_
  refine lv_ior hx hb dX4_expandedSecond_270 ?_
  refine lv_iload_n hx hb dX4_expandedSecond_271 rfl (lv_at hl 0 rfl) ?_
  refine lv_iconst (v := 2) hx hb dX4_expandedSecond_272 (by decide) ?_
  refine lv_ishr hx hb dX4_expandedSecond_273 ?_
  refine lv_bipush (v := 6) hx hb dX4_expandedSecond_274 (by decide) ?_
  refine lv_iand hx hb dX4_expandedSecond_276 ?_
  refine lv_ior hx hb dX4_expandedSecond_277 ?_
  refine lv_iload_n hx hb dX4_expandedSecond_278 rfl (lv_at hl 0 rfl) ?_
  refine lv_iconst (v := 3) hx hb dX4_expandedSecond_279 (by decide) ?_
  refine lv_ishl hx hb dX4_expandedSecond_280 ?_
  refine lv_bipush (v := 32) hx hb dX4_expandedSecond_281 (by decide) ?_
  refine lv_iand hx hb dX4_expandedSecond_283 ?_
  refine lv_ior hx hb dX4_expandedSecond_284 ?_
  refine lv_topi (fun z28 ez28 => ?_)
  have h := nd_at h ez28
  refine lv_istore (lv' := [(5, .int z28), (0, .int x0)]) hx hb dX4_expandedSecond_285 hl (by decide) rfl (fun ls hl => ?_)
  refine lv_bipush (v := 99) hx hb dX4_expandedSecond_287 (by decide) ?_
  refine lv_iload_n hx hb dX4_expandedSecond_289 rfl (lv_at hl 1 rfl) ?_
  refine lv_bipush (v := 13) hx hb dX4_expandedSecond_290 (by decide) ?_
  refine lv_ishr hx hb dX4_expandedSecond_292 ?_
  refine lv_bipush (v := 12) hx hb dX4_expandedSecond_293 (by decide) ?_
  refine lv_ishl hx hb dX4_expandedSecond_295 ?_
  refine lv_sipush (v := 4096) hx hb dX4_expandedSecond_296 (by decide) ?_
  refine lv_iand hx hb dX4_expandedSecond_299 ?_
  refine lv_ior hx hb dX4_expandedSecond_300 ?_
  refine lv_bipush (v := 8) hx hb dX4_expandedSecond_301 (by decide) ?_
  refine lv_iload_n hx hb dX4_expandedSecond_303 rfl (lv_at hl 1 rfl) ?_
  refine lv_bipush (v := 7) hx hb dX4_expandedSecond_304 (by decide) ?_
  refine lv_ishr hx hb dX4_expandedSecond_306 ?_
  refine lv_bipush (v := 7) hx hb dX4_expandedSecond_307 (by decide) ?_
  refine lv_iand hx hb dX4_expandedSecond_309 ?_
  refine lv_iadd hx hb dX4_expandedSecond_310 ?_
  refine lv_bipush (v := 15) hx hb dX4_expandedSecond_311 (by decide) ?_
  refine lv_ishl hx hb dX4_expandedSecond_313 ?_
  refine lv_ior hx hb dX4_expandedSecond_314 ?_
  refine lv_iload hx hb dX4_expandedSecond_315 (lv_at hl 0 rfl) ?_
  obtain ⟨q29, s30, hq, h⟩ := nd_b2_e h
  have hPc : va_P (dC, dI) vwCl (dw_P a ac ()) H := nd_p0
  have hDc : va_D A (dw_P a ac ()) := nd_d0
  have hKc : va_K (dC, dI) vwCl (dk_P ac) s := nd_y0 hK
  have hFc : ∀ q, va_A (dw_P a ac ()) H.size q → A q := nd_r0 hS hA
  refine nd_cSi (As := [.int z28]) (rest := [.int ((99 ||| (((((x0 : Int32) >>> ((13 : Int32) &&& 31)) : Int32) <<< ((12 : Int32) &&& 31)) &&& 4096)) ||| (((8 + (((x0 : Int32) >>> ((7 : Int32) &&& 31)) &&& 7)) : Int32) <<< ((15 : Int32) &&& 31)))]) (q := q29) (w' := dw_P a ac s30) ⟨hx, hb, hml, hown, hts⟩ (fun sz => dm_X4_branching l hlt dC dI a ac n (z28) () hq sz) (cwS 1 hts gi_dm_X4_expandedSecond_3 rfl rfl rfl (by decide +kernel) ⟨Nat.le_of_ble_eq_true rfl, Nat.le_of_ble_eq_true rfl⟩) hPc hDc hKc hS hA hN rfl hl.1 rfl (Nat.le_of_ble_eq_true rfl) dX4_expandedSecond_317 (fun H locs hP1 hD1 hk1 hS => ?_)
  have hP := nd_n0 hP hk1
  refine lv_ior hx hb dX4_expandedSecond_320 ?_
  exact K _ _ _ _ _ _ dX4_expandedSecond_321 rfl (Option.some.inj h).symm hP hD hS
set_option maxHeartbeats 40000000 in
set_option maxRecDepth 100000 in
theorem db_X4_expandedSecond_0 {p : Program} {l : Launch} {e : Env} {s : State} {m : MethodId} {args : Array Value} {below : List Frame} {meth : Method} {c : Code} {Q : State → Prop} {A : Nat → Prop} {dC : Nat → ClassId} {dI : Nat → Nat → Nat} {a : Nat → Nat} {ac : Nat → ClassId} {n : Nat} {r : Int32 × (Unit)} (C : nd_C p l s m args c A (dC, dI) cX4_expandedSecond 6 RX4 ow_dm_X4_expandedSecond (dk_P ac)) (K : nd_Ki p l e (headSpec ow_dm_X4_expandedSecond ({ frames := 1, cells := 0, slots := 0, locals := 23 })).room s m args below meth c Q A (dC, dI) cX4_expandedSecond .int (Unit) (dw_P a ac) r) : dj_X4_expandedSecond_0 p l e s m args below meth c Q A dC dI a ac (df_X4_expandedSecond_0 n) r := by
  obtain ⟨hlt, hx, hb, hml, hown, hts, hN, hA, hK⟩ := id C
  intro v0 s0 H locs ls h hP hD hS hl
  unfold df_X4_expandedSecond_0 at h
  refine lv_iload_n hx hb dX4_expandedSecond_0 rfl (lv_at hl 0 rfl) ?_
  refine lv_bipush (v := 7) hx hb dX4_expandedSecond_1 (by decide) ?_
  refine lv_ishr hx hb dX4_expandedSecond_3 ?_
  refine lv_bipush (v := 31) hx hb dX4_expandedSecond_4 (by decide) ?_
  refine lv_iand hx hb dX4_expandedSecond_6 ?_
  refine lv_topi (fun z1 ez1 => ?_)
  have h := nd_at h ez1
  refine lv_istore_n (lv' := [(1, .int z1), (0, .int v0)]) hx hb dX4_expandedSecond_7 rfl hl (by decide) rfl (fun ls hl => ?_)
  refine lv_iload_n hx hb dX4_expandedSecond_8 rfl (lv_at hl 1 rfl) ?_
  obtain ⟨q2, s3, hq, h⟩ := nd_b2_e h
  have hPc : va_P (dC, dI) vwCl (dw_P a ac ()) H := nd_p0
  have hDc : va_D A (dw_P a ac ()) := nd_d0
  have hKc : va_K (dC, dI) vwCl (dk_P ac) s := nd_y0 hK
  have hFc : ∀ q, va_A (dw_P a ac ()) H.size q → A q := nd_r0 hS hA
  refine nd_cSi (As := [.int v0]) (rest := []) (q := q2) (w' := dw_P a ac s3) ⟨hx, hb, hml, hown, hts⟩ (fun sz => dm_X4_signedNumber l hlt dC dI a ac n (v0) () hq sz) (cwS 1 hts gi_dm_X4_expandedSecond_0 rfl rfl rfl (by decide +kernel) ⟨Nat.le_of_ble_eq_true rfl, Nat.le_of_ble_eq_true rfl⟩) hPc hDc hKc hS hA hN rfl hl.1 rfl (Nat.le_of_ble_eq_true rfl) dX4_expandedSecond_9 (fun H locs hP1 hD1 hk1 hS => ?_)
  have hP := nd_n0 hP hk1
  refine lv_istore_n (lv' := [(2, .int q2), (1, .int z1), (0, .int v0)]) hx hb dX4_expandedSecond_12 rfl hl (by decide) rfl (fun ls hl => ?_)
  refine lv_iload_n hx hb dX4_expandedSecond_13 rfl (lv_at hl 2 rfl) ?_
  refine lv_bipush (v := 13) hx hb dX4_expandedSecond_14 (by decide) ?_
  refine lv_ishr hx hb dX4_expandedSecond_16 ?_
  by_cases c5 : ((v0 : Int32) >>> ((13 : Int32) &&& 31)) = 0
  · have h := nd_pos h c5
    refine lv_tableIn (off := 39) (tgt := 56) hx hb dX4_expandedSecond_17 (by rw [c5]; decide) (by rw [c5]; decide) (by rw [c5]; decide) (by decide) ?_
    refine lv_iload_n hx hb dX4_expandedSecond_56 rfl (lv_at hl 0 rfl) ?_
    refine lv_iload_n hx hb dX4_expandedSecond_57 rfl (lv_at hl 1 rfl) ?_
    refine lv_iconst (v := 0) hx hb dX4_expandedSecond_58 (by decide) ?_
    refine lv_iload_n hx hb dX4_expandedSecond_59 rfl (lv_at hl 1 rfl) ?_
    obtain ⟨q6, s7, hq, h⟩ := nd_b2_e h
    have hPc : va_P (dC, dI) vwCl (dw_P a ac ()) H := nd_p0
    have hDc : va_D A (dw_P a ac ()) := nd_d0
    have hKc : va_K (dC, dI) vwCl (dk_P ac) s := nd_y0 hK
    have hFc : ∀ q, va_A (dw_P a ac ()) H.size q → A q := nd_r0 hS hA
    refine nd_cSi (As := [.int q2, .int z1, .int 0, .int z1]) (rest := []) (q := q6) (w' := dw_P a ac s7) ⟨hx, hb, hml, hown, hts⟩ (fun sz => dm_X4_number l hlt dC dI a ac n (q2) (z1) (0) (z1) () hq sz) (cwS 4 hts gi_dm_X4_expandedSecond_1 rfl rfl rfl (by decide +kernel) ⟨Nat.le_of_ble_eq_true rfl, Nat.le_of_ble_eq_true rfl⟩) hPc hDc hKc hS hA hN rfl hl.1 rfl (Nat.le_of_ble_eq_true rfl) dX4_expandedSecond_60 (fun H locs hP1 hD1 hk1 hS => ?_)
    have hP := nd_n0 hP hk1
    exact K _ _ _ _ _ _ dX4_expandedSecond_63 rfl (Option.some.inj h).symm hP hD hS
  have h := nd_neg h c5
  by_cases c9 : ((v0 : Int32) >>> ((13 : Int32) &&& 31)) = 1
  · have h := nd_pos h c9
    refine lv_tableIn (off := 47) (tgt := 64) hx hb dX4_expandedSecond_17 (by rw [c9]; decide) (by rw [c9]; decide) (by rw [c9]; decide) (by decide) ?_
    exact (db_X4_expandedSecond_64 C K) (v0) s0 _ _ _ h hP hD hS (lv_sub hl [2] rfl)
  have h := nd_neg h c9
  by_cases c15 : ((v0 : Int32) >>> ((13 : Int32) &&& 31)) = 2
  · have h := nd_pos h c15
    refine lv_tableIn (off := 135) (tgt := 152) hx hb dX4_expandedSecond_17 (by rw [c15]; decide) (by rw [c15]; decide) (by rw [c15]; decide) (by decide) ?_
    refine lv_iload_n hx hb dX4_expandedSecond_152 rfl (lv_at hl 0 rfl) ?_
    refine lv_iconst (v := 0) hx hb dX4_expandedSecond_153 (by decide) ?_
    refine lv_iconst (v := 0) hx hb dX4_expandedSecond_154 (by decide) ?_
    refine lv_iload_n hx hb dX4_expandedSecond_155 rfl (lv_at hl 1 rfl) ?_
    obtain ⟨q16, s17, hq, h⟩ := nd_b2_e h
    have hPc : va_P (dC, dI) vwCl (dw_P a ac ()) H := nd_p0
    have hDc : va_D A (dw_P a ac ()) := nd_d0
    have hKc : va_K (dC, dI) vwCl (dk_P ac) s := nd_y0 hK
    have hFc : ∀ q, va_A (dw_P a ac ()) H.size q → A q := nd_r0 hS hA
    refine nd_cSi (As := [.int q2, .int 0, .int 0, .int z1]) (rest := []) (q := q16) (w' := dw_P a ac s17) ⟨hx, hb, hml, hown, hts⟩ (fun sz => dm_X4_number l hlt dC dI a ac n (q2) (0) (0) (z1) () hq sz) (cwS 4 hts gi_dm_X4_expandedSecond_1 rfl rfl rfl (by decide +kernel) ⟨Nat.le_of_ble_eq_true rfl, Nat.le_of_ble_eq_true rfl⟩) hPc hDc hKc hS hA hN rfl hl.1 rfl (Nat.le_of_ble_eq_true rfl) dX4_expandedSecond_156 (fun H locs hP1 hD1 hk1 hS => ?_)
    have hP := nd_n0 hP hk1
    exact K _ _ _ _ _ _ dX4_expandedSecond_159 rfl (Option.some.inj h).symm hP hD hS
  have h := nd_neg h c15
  by_cases c19 : ((v0 : Int32) >>> ((13 : Int32) &&& 31)) = 3
  · have h := nd_pos h c19
    refine lv_tableIn (off := 143) (tgt := 160) hx hb dX4_expandedSecond_17 (by rw [c19]; decide) (by rw [c19]; decide) (by rw [c19]; decide) (by decide) ?_
    refine lv_iload_n hx hb dX4_expandedSecond_160 rfl (lv_at hl 1 rfl) ?_
    refine lv_iconst (v := 2) hx hb dX4_expandedSecond_161 (by decide) ?_
    refine lv_icmp_eq (tgt := 186) hx hb dX4_expandedSecond_162 (by decide) (fun c20 => ?_) (fun c20 => ?_)
    · have h := nd_pos h c20
      refine lv_iload_n hx hb dX4_expandedSecond_186 rfl (lv_at hl 2 rfl) ?_
      refine lv_bipush (v := 19) hx hb dX4_expandedSecond_187 (by decide) ?_
      refine lv_ishl hx hb dX4_expandedSecond_189 ?_
      refine lv_bipush (v := 31) hx hb dX4_expandedSecond_190 (by decide) ?_
      refine lv_ishr hx hb dX4_expandedSecond_192 ?_
      refine lv_bipush (v := 9) hx hb dX4_expandedSecond_193 (by decide) ?_
      refine lv_ishl hx hb dX4_expandedSecond_195 ?_
      refine lv_iload_n hx hb dX4_expandedSecond_196 rfl (lv_at hl 2 rfl) ?_
      refine lv_iconst (v := 2) hx hb dX4_expandedSecond_197 (by decide) ?_
      refine lv_ishr hx hb dX4_expandedSecond_198 ?_
      refine lv_bipush (v := 16) hx hb dX4_expandedSecond_199 (by decide) ?_
      refine lv_iand hx hb dX4_expandedSecond_201 ?_
      refine lv_ior hx hb dX4_expandedSecond_202 ?_
      refine lv_iload_n hx hb dX4_expandedSecond_203 rfl (lv_at hl 2 rfl) ?_
      refine lv_iconst (v := 1) hx hb dX4_expandedSecond_204 (by decide) ?_
      refine lv_ishl hx hb dX4_expandedSecond_205 ?_
      refine lv_bipush (v := 64) hx hb dX4_expandedSecond_206 (by decide) ?_
      refine lv_iand hx hb dX4_expandedSecond_208 ?_
      refine lv_ior hx hb dX4_expandedSecond_209 ?_
      refine lv_iload_n hx hb dX4_expandedSecond_210 rfl (lv_at hl 2 rfl) ?_
      refine lv_iconst (v := 4) hx hb dX4_expandedSecond_211 (by decide) ?_
      refine lv_ishl hx hb dX4_expandedSecond_212 ?_
      refine lv_sipush (v := 384) hx hb dX4_expandedSecond_213 (by decide) ?_
      refine lv_iand hx hb dX4_expandedSecond_216 ?_
      refine lv_ior hx hb dX4_expandedSecond_217 ?_
      refine lv_iload_n hx hb dX4_expandedSecond_218 rfl (lv_at hl 2 rfl) ?_
      refine lv_iconst (v := 3) hx hb dX4_expandedSecond_219 (by decide) ?_
      refine lv_ishl hx hb dX4_expandedSecond_220 ?_
      refine lv_bipush (v := 32) hx hb dX4_expandedSecond_221 (by decide) ?_
      refine lv_iand hx hb dX4_expandedSecond_223 ?_
      refine lv_ior hx hb dX4_expandedSecond_224 ?_
      refine lv_topi (fun z21 ez21 => ?_)
      have h := nd_at h ez21
      refine lv_istore (lv' := [(4, .int z21), (2, .int q2), (1, .int z1), (0, .int v0)]) hx hb dX4_expandedSecond_225 hl (by decide) rfl (fun ls hl => ?_)
      refine lv_iload hx hb dX4_expandedSecond_227 (lv_at hl 0 rfl) ?_
      refine lv_if_ne (tgt := 236) hx hb dX4_expandedSecond_229 (by decide) (fun c22 => ?_) (fun c22 => ?_)
      · have h := nd_neg h c22
        refine lv_iload hx hb dX4_expandedSecond_236 (lv_at hl 0 rfl) ?_
        refine lv_iconst (v := 2) hx hb dX4_expandedSecond_238 (by decide) ?_
        refine lv_iconst (v := 0) hx hb dX4_expandedSecond_239 (by decide) ?_
        refine lv_iconst (v := 2) hx hb dX4_expandedSecond_240 (by decide) ?_
        obtain ⟨q23, s24, hq, h⟩ := nd_b2_e h
        have hPc : va_P (dC, dI) vwCl (dw_P a ac ()) H := nd_p0
        have hDc : va_D A (dw_P a ac ()) := nd_d0
        have hKc : va_K (dC, dI) vwCl (dk_P ac) s := nd_y0 hK
        have hFc : ∀ q, va_A (dw_P a ac ()) H.size q → A q := nd_r0 hS hA
        refine nd_cSi (As := [.int z21, .int 2, .int 0, .int 2]) (rest := []) (q := q23) (w' := dw_P a ac s24) ⟨hx, hb, hml, hown, hts⟩ (fun sz => dm_X4_number l hlt dC dI a ac n (z21) (2) (0) (2) () hq sz) (cwS 4 hts gi_dm_X4_expandedSecond_1 rfl rfl rfl (by decide +kernel) ⟨Nat.le_of_ble_eq_true rfl, Nat.le_of_ble_eq_true rfl⟩) hPc hDc hKc hS hA hN rfl hl.1 rfl (Nat.le_of_ble_eq_true rfl) dX4_expandedSecond_241 (fun H locs hP1 hD1 hk1 hS => ?_)
        have hP := nd_n0 hP hk1
        exact (db_X4_expandedSecond_244 C K) (q23) s0 _ _ _ h hP hD hS (lv_sub hl [] rfl)
      · have h := nd_pos h c22
        refine lv_iconst (v := 0) hx hb dX4_expandedSecond_232 (by decide) ?_
        refine lv_goto (tgt := 244) hx hb dX4_expandedSecond_233 (by decide) ?_
        exact (db_X4_expandedSecond_244 C K) (0) s0 _ _ _ h hP hD hS (lv_sub hl [] rfl)
    · have h := nd_neg h c20
      refine lv_iload_n hx hb dX4_expandedSecond_165 rfl (lv_at hl 0 rfl) ?_
      refine lv_if_ne (tgt := 173) hx hb dX4_expandedSecond_166 (by decide) (fun c26 => ?_) (fun c26 => ?_)
      · have h := nd_neg h c26
        refine lv_iload_n hx hb dX4_expandedSecond_173 rfl (lv_at hl 0 rfl) ?_
        refine lv_bipush (v := 12) hx hb dX4_expandedSecond_174 (by decide) ?_
        refine lv_ishl hx hb dX4_expandedSecond_176 ?_
        refine lv_iload_n hx hb dX4_expandedSecond_177 rfl (lv_at hl 1 rfl) ?_
        refine lv_bipush (v := 7) hx hb dX4_expandedSecond_178 (by decide) ?_
        refine lv_ishl hx hb dX4_expandedSecond_180 ?_
        refine lv_ior hx hb dX4_expandedSecond_181 ?_
        refine lv_bipush (v := 55) hx hb dX4_expandedSecond_182 (by decide) ?_
        refine lv_ior hx hb dX4_expandedSecond_184 ?_
        exact (db_X4_expandedSecond_185 C K) (((((q2 : Int32) <<< ((12 : Int32) &&& 31)) ||| ((z1 : Int32) <<< ((7 : Int32) &&& 31))) ||| 55)) s0 _ _ _ h hP hD hS (lv_sub hl [] rfl)
      · have h := nd_pos h c26
        refine lv_iconst (v := 0) hx hb dX4_expandedSecond_169 (by decide) ?_
        refine lv_goto (tgt := 185) hx hb dX4_expandedSecond_170 (by decide) ?_
        exact (db_X4_expandedSecond_185 C K) (0) s0 _ _ _ h hP hD hS (lv_sub hl [] rfl)
  have h := nd_neg h c19
  by_cases c27 : ((v0 : Int32) >>> ((13 : Int32) &&& 31)) = 4
  · have h := nd_pos h c27
    refine lv_tableIn (off := 228) (tgt := 245) hx hb dX4_expandedSecond_17 (by rw [c27]; decide) (by rw [c27]; decide) (by rw [c27]; decide) (by decide) ?_
    exact (db_X4_expandedSecond_245 C K) (v0) s0 _ _ _ h hP hD hS (lv_sub hl [2] rfl)
  have h := nd_neg h c27
  by_cases c32 : ((v0 : Int32) >>> ((13 : Int32) &&& 31)) = 5
  · have h := nd_pos h c32
    refine lv_tableIn (off := 47) (tgt := 64) hx hb dX4_expandedSecond_17 (by rw [c32]; decide) (by rw [c32]; decide) (by rw [c32]; decide) (by decide) ?_
    exact (db_X4_expandedSecond_64 C K) (v0) s0 _ _ _ h hP hD hS (lv_sub hl [2] rfl)
  have h := nd_neg h c32
  refine lv_tableOut (tgt := 245) hx hb dX4_expandedSecond_17 (by have g0 := nv_nei c5 (k := 0) (by decide); have g1 := nv_nei c9 (k := 1) (by decide); have g2 := nv_nei c15 (k := 2) (by decide); have g3 := nv_nei c19 (k := 3) (by decide); have g4 := nv_nei c27 (k := 4) (by decide); have g5 := nv_nei c32 (k := 5) (by decide); omega) (by decide) ?_
  exact (db_X4_expandedSecond_245 C K) (v0) s0 _ _ _ h hP hD hS (lv_sub hl [2] rfl)
set_option maxHeartbeats 40000000 in
set_option maxRecDepth 100000 in
theorem dm_X4_expandedSecond (l : Launch) (hlt : l.stackTraces = false) (dC : Nat → ClassId) (dI : Nat → Nat → Nat) (a : Nat → Nat) (ac : Nat → ClassId) (n : Nat) (v0 : Int32) (s0 : Unit) {r : Int32 × (Unit)} (h : df_X4_expandedSecond n v0 s0 = some r) (sz : Nat) : Met l yX4_expandedSecond ow_dm_X4_expandedSecond ({ frames := 1, cells := 0, slots := 0, locals := 23 }) (va_Pc [.int v0] (fun U => U.heap.size = sz ∧ va_P (dC, dI) vwCl (dw_P a ac s0) U.heap ∧ va_K (dC, dI) vwCl (dk_P ac) U ∧ va_D (fun _ => True) (dw_P a ac s0) ∧ nv_E (va_A (dw_P a ac s0) sz) U)) (va_Qi (fun x _ => x = r.1) (fun (_ : Unit) t => va_P (dC, dI) vwCl (dw_P a ac r.2) t.heap ∧ va_K (dC, dI) vwCl (dk_P ac) t ∧ va_D (va_A (dw_P a ac s0) sz) (dw_P a ac r.2)) (va_A (dw_P a ac s0) sz)) 0 0 (va_A (dw_P a ac s0) sz) := by
  refine Met.ofW (cc := cX4_expandedSecond) (maxL := 6) (ret := (some .int)) (by decide) rfl ?_
  intro p e s m args below meth c s₁ B hml hv
  obtain ⟨rfl, hsz, hP, hK, hD0, hN⟩ := hv
  have hx := B.exec
  have hb := B.bytes
  have hr := B.returns
  have hts := atoms_spec (ws := ow_dm_X4_expandedSecond) B.pre
  have hown : s.vm.findClass RX4 = some m.cls := findClass_of_methodNamed B.named
  have hlocks := B.notSynchronized
  subst hsz
  have hD := hD0.self (sz := s.heap.size)
  generalize hAe : va_A (dw_P a ac s0) s.heap.size = A at hD hN ⊢
  have hA : ∀ q : Nat, s.heap.size ≤ q → A q := fun q h => by rw [← hAe]; exact Or.inr h
  have hl := lv_entry ([.int v0]) (n := 6) (Nat.le_of_ble_eq_true rfl)
  rw [lg_entry_eq]
  generalize (lg_sl ([.int v0]) ++ List.replicate (6 - (lg_sl ([.int v0])).length) Slot.unset).toArray = ls at hl ⊢
  have hl : lv_has ls 6 [(0, .int v0)] := hl
  exact db_X4_expandedSecond_0 (dC := dC) (dI := dI) (a := a) (ac := ac) (n := n) (r := r) ⟨hlt, hx, hb, hml, hown, hts, hN, hA, hK⟩ (fun pc v τ H locs ls d z er hP hD hS => by subst er; exact W.zret (v := v) hx hb hr z (fun t ht hW => ⟨⟨v, (), rfl, rfl, by rw [ht]; exact hP, va_K.moved hW.alike hK, hD⟩, hS.F ht⟩) hS.2.2 d) v0 s0 _ _ _ h hP hD va_S.rf (lv_sub hl [0] rfl)
def ow_dm_X4_expandedSums : List Cond := .code yX4_expandedSums cX4_expandedSums 6 (some .int) :: ([.constant RX4 171 (1073741824), .methodLink RX4 153 yX4_number, .static yX4_number, .initialized RX4, .methodLink RX4 162 yX4_signedNumber, .static yX4_signedNumber] ++ (ow_dm_X4_number ++ (ow_dm_X4_signedNumber ++ [])))
theorem gd_dm_X4_expandedSums : ∀ w ∈ ow_dm_X4_expandedSums, (w.onTables && w.keeps) = true ∨ ∃ ty, w = Cond.arrayClass ty := List.forall_mem_cons.mpr ⟨good_of_word rfl, List.forall_mem_append.mpr ⟨fun w h => good_of_word (List.all_eq_true.mp (by decide +kernel) w h), List.forall_mem_append.mpr ⟨gd_dm_X4_number, List.forall_mem_append.mpr ⟨gd_dm_X4_signedNumber, fun _ h => nomatch h⟩⟩⟩⟩
theorem gi_dm_X4_expandedSums_0 : GoodIn ow_dm_X4_expandedSums (wsS RX4 153 yX4_number ow_dm_X4_number) := goodIn_app (goodIn_of _ (by decide +kernel)) (fun w h => ⟨List.mem_cons_of_mem _ (List.mem_append_right _ (List.mem_append_left _ h)), gd_dm_X4_number w h⟩)
theorem gi_dm_X4_expandedSums_1 : GoodIn ow_dm_X4_expandedSums (wsS RX4 162 yX4_signedNumber ow_dm_X4_signedNumber) := goodIn_app (goodIn_of _ (by decide +kernel)) (fun w h => ⟨List.mem_cons_of_mem _ (List.mem_append_right _ (List.mem_append_right _ (List.mem_append_left _ h))), gd_dm_X4_signedNumber w h⟩)
def dj_X4_expandedSums_34 (p : Program) (l : Launch) (e : Env) (s : State) (m : MethodId) (args : Array Value) (below : List Frame) (meth : Method) (c : Code) (Q : State → Prop) (A : Nat → Prop) (dC : Nat → ClassId) (dI : Nat → Nat → Nat) (a : Nat → Nat) (ac : Nat → ClassId) (g : Int32 → Int32 → Int32 → Int32 → (Unit) → Option (Int32 × (Unit))) (r : Int32 × (Unit)) : Prop := ∀ (x0 : Int32) (x1 : Int32) (x2 : Int32) (y0 : Int32) (s0 : Unit) (H : Heap) (locs : List Loc) (ls : Array Slot), g x0 x1 x2 y0 s0 = some r → va_P (dC, dI) vwCl (dw_P a ac s0) H → va_D A (dw_P a ac s0) → va_S A s.heap H locs → lv_has ls 6 [(0, .int x0), (1, .int x1), (2, .int x2)] → W p l e (headSpec ow_dm_X4_expandedSums ({ frames := 1, cells := 0, slots := 0, locals := 23 })).room s m args below meth c H locs 0 0 Q (F0 m 34 ls [.int y0])
def dj_X4_expandedSums_0 (p : Program) (l : Launch) (e : Env) (s : State) (m : MethodId) (args : Array Value) (below : List Frame) (meth : Method) (c : Code) (Q : State → Prop) (A : Nat → Prop) (dC : Nat → ClassId) (dI : Nat → Nat → Nat) (a : Nat → Nat) (ac : Nat → ClassId) (g : Int32 → (Unit) → Option (Int32 × (Unit))) (r : Int32 × (Unit)) : Prop := ∀ (v0 : Int32) (s0 : Unit) (H : Heap) (locs : List Loc) (ls : Array Slot), g v0 s0 = some r → va_P (dC, dI) vwCl (dw_P a ac s0) H → va_D A (dw_P a ac s0) → va_S A s.heap H locs → lv_has ls 6 [(0, .int v0)] → W p l e (headSpec ow_dm_X4_expandedSums ({ frames := 1, cells := 0, slots := 0, locals := 23 })).room s m args below meth c H locs 0 0 Q (F0 m 0 ls [])
set_option maxHeartbeats 40000000 in
set_option maxRecDepth 100000 in
theorem db_X4_expandedSums_34 {p : Program} {l : Launch} {e : Env} {s : State} {m : MethodId} {args : Array Value} {below : List Frame} {meth : Method} {c : Code} {Q : State → Prop} {A : Nat → Prop} {dC : Nat → ClassId} {dI : Nat → Nat → Nat} {a : Nat → Nat} {ac : Nat → ClassId} {n : Nat} {r : Int32 × (Unit)} (C : nd_C p l s m args c A (dC, dI) cX4_expandedSums 6 RX4 ow_dm_X4_expandedSums (dk_P ac)) (K : nd_Ki p l e (headSpec ow_dm_X4_expandedSums ({ frames := 1, cells := 0, slots := 0, locals := 23 })).room s m args below meth c Q A (dC, dI) cX4_expandedSums .int (Unit) (dw_P a ac) r) : dj_X4_expandedSums_34 p l e s m args below meth c Q A dC dI a ac (df_X4_expandedSums_34 n) r := by
  obtain ⟨hlt, hx, hb, hml, hown, hts, hN, hA, hK⟩ := id C
  intro x0 x1 x2 y0 s0 H locs ls h hP hD hS hl
  unfold df_X4_expandedSums_34 at h
  refine lv_istore_n (lv' := [(3, .int y0), (0, .int x0), (1, .int x1), (2, .int x2)]) hx hb dX4_expandedSums_34 rfl hl (by decide) rfl (fun ls hl => ?_)
  refine lv_iload_n hx hb dX4_expandedSums_35 rfl (lv_at hl 1 rfl) ?_
  refine lv_bipush (v := 10) hx hb dX4_expandedSums_36 (by decide) ?_
  refine lv_ishr hx hb dX4_expandedSums_38 ?_
  refine lv_iconst (v := 3) hx hb dX4_expandedSums_39 (by decide) ?_
  refine lv_iand hx hb dX4_expandedSums_40 ?_
  refine lv_topi (fun z4 ez4 => ?_)
  have h := nd_at h ez4
  refine lv_istore (lv' := [(4, .int z4), (3, .int y0), (0, .int x0), (1, .int x1), (2, .int x2)]) hx hb dX4_expandedSums_41 hl (by decide) rfl (fun ls hl => ?_)
  refine lv_iload hx hb dX4_expandedSums_43 (lv_at hl 0 rfl) ?_
  refine lv_iconst (v := 2) hx hb dX4_expandedSums_45 (by decide) ?_
  refine lv_icmp_ne (tgt := 61) hx hb dX4_expandedSums_46 (by decide) (fun c5 => ?_) (fun c5 => ?_)
  · have h := nd_neg h c5
    refine lv_iload_n hx hb dX4_expandedSums_61 rfl (lv_at hl 1 rfl) ?_
    refine lv_if_eq (tgt := 67) hx hb dX4_expandedSums_62 (by decide) (fun c6 => ?_) (fun c6 => ?_)
    · have h := nd_pos h c6
      refine lv_iload hx hb dX4_expandedSums_67 (lv_at hl 0 rfl) ?_
      refine lv_iconst (v := 2) hx hb dX4_expandedSums_69 (by decide) ?_
      refine lv_icmp_ge (tgt := 92) hx hb dX4_expandedSums_70 (by decide) (fun c7 => ?_) (fun c7 => ?_)
      · have h := nd_pos h c7
        refine lv_iload_n hx hb dX4_expandedSums_92 rfl (lv_at hl 4 rfl) ?_
        refine lv_bipush (v := 20) hx hb dX4_expandedSums_93 (by decide) ?_
        refine lv_ishl hx hb dX4_expandedSums_95 ?_
        refine lv_iload_n hx hb dX4_expandedSums_96 rfl (lv_at hl 3 rfl) ?_
        refine lv_bipush (v := 15) hx hb dX4_expandedSums_97 (by decide) ?_
        refine lv_ishl hx hb dX4_expandedSums_99 ?_
        refine lv_ior hx hb dX4_expandedSums_100 ?_
        refine lv_iload_n hx hb dX4_expandedSums_101 rfl (lv_at hl 3 rfl) ?_
        refine lv_bipush (v := 7) hx hb dX4_expandedSums_102 (by decide) ?_
        refine lv_ishl hx hb dX4_expandedSums_104 ?_
        refine lv_ior hx hb dX4_expandedSums_105 ?_
        refine lv_bipush (v := 51) hx hb dX4_expandedSums_106 (by decide) ?_
        refine lv_ior hx hb dX4_expandedSums_108 ?_
        refine lv_topi (fun z8 ez8 => ?_)
        have h := nd_at h ez8
        refine lv_istore (lv' := [(5, .int z8), (4, .int z4), (3, .int y0), (0, .int x0), (1, .int x1), (2, .int x2)]) hx hb dX4_expandedSums_109 hl (by decide) rfl (fun ls hl => ?_)
        refine lv_iload_n hx hb dX4_expandedSums_111 rfl (lv_at hl 3 rfl) ?_
        refine lv_iconst (v := 5) hx hb dX4_expandedSums_112 (by decide) ?_
        refine lv_ishr hx hb dX4_expandedSums_113 ?_
        refine lv_iconst (v := 3) hx hb dX4_expandedSums_114 (by decide) ?_
        refine lv_iand hx hb dX4_expandedSums_115 ?_
        by_cases c9 : (((x0 : Int32) >>> ((5 : Int32) &&& 31)) &&& 3) = 0
        · have h := nd_pos h c9
          refine lv_tableIn (off := 28) (tgt := 144) hx hb dX4_expandedSums_116 (by rw [c9]; decide) (by rw [c9]; decide) (by rw [c9]; decide) (by decide) ?_
          refine lv_iload hx hb dX4_expandedSums_144 (lv_at hl 0 rfl) ?_
          refine lv_ldc hx hb hown (hts (.constant RX4 171 (1073741824)) (List.mem_of_getElem? (i := 1) rfl)) dX4_expandedSums_146 ?_
          refine lv_ior hx hb dX4_expandedSums_148 ?_
          exact K _ _ _ _ _ _ dX4_expandedSums_149 rfl (Option.some.inj h).symm hP hD hS
        have h := nd_neg h c9
        by_cases c10 : (((x0 : Int32) >>> ((5 : Int32) &&& 31)) &&& 3) = 1
        · have h := nd_pos h c10
          refine lv_tableIn (off := 34) (tgt := 150) hx hb dX4_expandedSums_116 (by rw [c10]; decide) (by rw [c10]; decide) (by rw [c10]; decide) (by decide) ?_
          refine lv_iload hx hb dX4_expandedSums_150 (lv_at hl 0 rfl) ?_
          refine lv_sipush (v := 16384) hx hb dX4_expandedSums_152 (by decide) ?_
          refine lv_ior hx hb dX4_expandedSums_155 ?_
          exact K _ _ _ _ _ _ dX4_expandedSums_156 rfl (Option.some.inj h).symm hP hD hS
        have h := nd_neg h c10
        by_cases c11 : (((x0 : Int32) >>> ((5 : Int32) &&& 31)) &&& 3) = 2
        · have h := nd_pos h c11
          refine lv_tableIn (off := 41) (tgt := 157) hx hb dX4_expandedSums_116 (by rw [c11]; decide) (by rw [c11]; decide) (by rw [c11]; decide) (by decide) ?_
          refine lv_iload hx hb dX4_expandedSums_157 (lv_at hl 0 rfl) ?_
          refine lv_sipush (v := 24576) hx hb dX4_expandedSums_159 (by decide) ?_
          refine lv_ior hx hb dX4_expandedSums_162 ?_
          exact K _ _ _ _ _ _ dX4_expandedSums_163 rfl (Option.some.inj h).symm hP hD hS
        have h := nd_neg h c11
        refine lv_tableOut (tgt := 164) hx hb dX4_expandedSums_116 (by have g0 := nv_nei c9 (k := 0) (by decide); have g1 := nv_nei c10 (k := 1) (by decide); have g2 := nv_nei c11 (k := 2) (by decide); omega) (by decide) ?_
        refine lv_iload hx hb dX4_expandedSums_164 (lv_at hl 0 rfl) ?_
        refine lv_sipush (v := 28672) hx hb dX4_expandedSums_166 (by decide) ?_
        refine lv_ior hx hb dX4_expandedSums_169 ?_
        exact K _ _ _ _ _ _ dX4_expandedSums_170 rfl (Option.some.inj h).symm hP hD hS
      · have h := nd_neg h c7
        refine lv_iload_n hx hb dX4_expandedSums_73 rfl (lv_at hl 2 rfl) ?_
        refine lv_iconst (v := 2) hx hb dX4_expandedSums_74 (by decide) ?_
        refine lv_ishr hx hb dX4_expandedSums_75 ?_
        refine lv_bipush (v := 31) hx hb dX4_expandedSums_76 (by decide) ?_
        refine lv_iand hx hb dX4_expandedSums_78 ?_
        refine lv_iload hx hb dX4_expandedSums_79 (lv_at hl 0 rfl) ?_
        refine lv_bipush (v := 10) hx hb dX4_expandedSums_81 (by decide) ?_
        refine lv_ishl hx hb dX4_expandedSums_83 ?_
        refine lv_ior hx hb dX4_expandedSums_84 ?_
        refine lv_iload_n hx hb dX4_expandedSums_85 rfl (lv_at hl 3 rfl) ?_
        refine lv_iconst (v := 5) hx hb dX4_expandedSums_86 (by decide) ?_
        refine lv_iload_n hx hb dX4_expandedSums_87 rfl (lv_at hl 3 rfl) ?_
        obtain ⟨q12, s13, hq, h⟩ := nd_b2_e h
        have hPc : va_P (dC, dI) vwCl (dw_P a ac ()) H := nd_p0
        have hDc : va_D A (dw_P a ac ()) := nd_d0
        have hKc : va_K (dC, dI) vwCl (dk_P ac) s := nd_y0 hK
        have hFc : ∀ q, va_A (dw_P a ac ()) H.size q → A q := nd_r0 hS hA
        refine nd_cSi (As := [.int ((((x0 : Int32) >>> ((2 : Int32) &&& 31)) &&& 31) ||| ((z4 : Int32) <<< ((10 : Int32) &&& 31))), .int x1, .int 5, .int x1]) (rest := []) (q := q12) (w' := dw_P a ac s13) ⟨hx, hb, hml, hown, hts⟩ (fun sz => dm_X4_number l hlt dC dI a ac n (((((x0 : Int32) >>> ((2 : Int32) &&& 31)) &&& 31) ||| ((z4 : Int32) <<< ((10 : Int32) &&& 31)))) (x1) (5) (x1) () hq sz) (cwS 4 hts gi_dm_X4_expandedSums_0 rfl rfl rfl (by decide +kernel) ⟨Nat.le_of_ble_eq_true rfl, Nat.le_of_ble_eq_true rfl⟩) hPc hDc hKc hS hA hN rfl hl.1 rfl (Nat.le_of_ble_eq_true rfl) dX4_expandedSums_88 (fun H locs hP1 hD1 hk1 hS => ?_)
        have hP := nd_n0 hP hk1
        exact K _ _ _ _ _ _ dX4_expandedSums_91 rfl (Option.some.inj h).symm hP hD hS
    · have h := nd_neg h c6
      refine lv_iconst (v := 0) hx hb dX4_expandedSums_65 (by decide) ?_
      exact K _ _ _ _ _ _ dX4_expandedSums_66 rfl (Option.some.inj h).symm hP hD hS
  · have h := nd_pos h c5
    refine lv_iload_n hx hb dX4_expandedSums_49 rfl (lv_at hl 2 rfl) ?_
    obtain ⟨q15, s16, hq, h⟩ := nd_b2_e h
    have hPc : va_P (dC, dI) vwCl (dw_P a ac ()) H := nd_p0
    have hDc : va_D A (dw_P a ac ()) := nd_d0
    have hKc : va_K (dC, dI) vwCl (dk_P ac) s := nd_y0 hK
    have hFc : ∀ q, va_A (dw_P a ac ()) H.size q → A q := nd_r0 hS hA
    refine nd_cSi (As := [.int x0]) (rest := []) (q := q15) (w' := dw_P a ac s16) ⟨hx, hb, hml, hown, hts⟩ (fun sz => dm_X4_signedNumber l hlt dC dI a ac n (x0) () hq sz) (cwS 1 hts gi_dm_X4_expandedSums_1 rfl rfl rfl (by decide +kernel) ⟨Nat.le_of_ble_eq_true rfl, Nat.le_of_ble_eq_true rfl⟩) hPc hDc hKc hS hA hN rfl hl.1 rfl (Nat.le_of_ble_eq_true rfl) dX4_expandedSums_50 (fun H locs hP1 hD1 hk1 hS => ?_)
    have hP := nd_n0 hP hk1
    refine lv_iload_n hx hb dX4_expandedSums_53 rfl (lv_at hl 3 rfl) ?_
    refine lv_bipush (v := 7) hx hb dX4_expandedSums_54 (by decide) ?_
    refine lv_iload_n hx hb dX4_expandedSums_56 rfl (lv_at hl 3 rfl) ?_
    obtain ⟨q18, s19, hq, h⟩ := nd_b2_e h
    have hPc : va_P (dC, dI) vwCl (dw_P a ac ()) H := nd_p0
    have hDc : va_D A (dw_P a ac ()) := nd_d0
    have hKc : va_K (dC, dI) vwCl (dk_P ac) s := nd_y0 hK
    have hFc : ∀ q, va_A (dw_P a ac ()) H.size q → A q := nd_r0 hS hA
    refine nd_cSi (As := [.int q15, .int x1, .int 7, .int x1]) (rest := []) (q := q18) (w' := dw_P a ac s19) ⟨hx, hb, hml, hown, hts⟩ (fun sz => dm_X4_number l hlt dC dI a ac n (q15) (x1) (7) (x1) () hq sz) (cwS 4 hts gi_dm_X4_expandedSums_0 rfl rfl rfl (by decide +kernel) ⟨Nat.le_of_ble_eq_true rfl, Nat.le_of_ble_eq_true rfl⟩) hPc hDc hKc hS hA hN rfl hl.1 rfl (Nat.le_of_ble_eq_true rfl) dX4_expandedSums_57 (fun H locs hP1 hD1 hk1 hS => ?_)
    have hP := nd_n0 hP hk1
    exact K _ _ _ _ _ _ dX4_expandedSums_60 rfl (Option.some.inj h).symm hP hD hS
set_option maxHeartbeats 40000000 in
set_option maxRecDepth 100000 in
theorem db_X4_expandedSums_0 {p : Program} {l : Launch} {e : Env} {s : State} {m : MethodId} {args : Array Value} {below : List Frame} {meth : Method} {c : Code} {Q : State → Prop} {A : Nat → Prop} {dC : Nat → ClassId} {dI : Nat → Nat → Nat} {a : Nat → Nat} {ac : Nat → ClassId} {n : Nat} {r : Int32 × (Unit)} (C : nd_C p l s m args c A (dC, dI) cX4_expandedSums 6 RX4 ow_dm_X4_expandedSums (dk_P ac)) (K : nd_Ki p l e (headSpec ow_dm_X4_expandedSums ({ frames := 1, cells := 0, slots := 0, locals := 23 })).room s m args below meth c Q A (dC, dI) cX4_expandedSums .int (Unit) (dw_P a ac) r) : dj_X4_expandedSums_0 p l e s m args below meth c Q A dC dI a ac (df_X4_expandedSums_0 n) r := by
  obtain ⟨hlt, hx, hb, hml, hown, hts, hN, hA, hK⟩ := id C
  intro v0 s0 H locs ls h hP hD hS hl
  unfold df_X4_expandedSums_0 at h
  refine lv_bipush (v := 8) hx hb dX4_expandedSums_0 (by decide) ?_
  refine lv_iload_n hx hb dX4_expandedSums_2 rfl (lv_at hl 0 rfl) ?_
  refine lv_bipush (v := 7) hx hb dX4_expandedSums_3 (by decide) ?_
  refine lv_ishr hx hb dX4_expandedSums_5 ?_
  refine lv_bipush (v := 7) hx hb dX4_expandedSums_6 (by decide) ?_
  refine lv_iand hx hb dX4_expandedSums_8 ?_
  refine lv_iadd hx hb dX4_expandedSums_9 ?_
  refine lv_topi (fun z1 ez1 => ?_)
  have h := nd_at h ez1
  refine lv_istore_n (lv' := [(1, .int z1), (0, .int v0)]) hx hb dX4_expandedSums_10 rfl hl (by decide) rfl (fun ls hl => ?_)
  refine lv_bipush (v := 8) hx hb dX4_expandedSums_11 (by decide) ?_
  refine lv_iload_n hx hb dX4_expandedSums_13 rfl (lv_at hl 1 rfl) ?_
  refine lv_iconst (v := 2) hx hb dX4_expandedSums_14 (by decide) ?_
  refine lv_ishr hx hb dX4_expandedSums_15 ?_
  refine lv_bipush (v := 7) hx hb dX4_expandedSums_16 (by decide) ?_
  refine lv_iand hx hb dX4_expandedSums_18 ?_
  refine lv_iadd hx hb dX4_expandedSums_19 ?_
  refine lv_topi (fun z2 ez2 => ?_)
  have h := nd_at h ez2
  refine lv_istore_n (lv' := [(2, .int z2), (1, .int z1), (0, .int v0)]) hx hb dX4_expandedSums_20 rfl hl (by decide) rfl (fun ls hl => ?_)
  refine lv_iload_n hx hb dX4_expandedSums_21 rfl (lv_at hl 2 rfl) ?_
  refine lv_sipush (v := 4096) hx hb dX4_expandedSums_22 (by decide) ?_
  refine lv_iand hx hb dX4_expandedSums_25 ?_
  refine lv_if_eq (tgt := 33) hx hb dX4_expandedSums_26 (by decide) (fun c3 => ?_) (fun c3 => ?_)
  · have h := nd_pos h c3
    refine lv_iconst (v := 0) hx hb dX4_expandedSums_33 (by decide) ?_
    exact (db_X4_expandedSums_34 C K) (v0) (z1) (z2) (0) s0 _ _ _ h hP hD hS (lv_sub hl [2, 1, 0] rfl)
  · have h := nd_neg h c3
    refine lv_iconst (v := 1) hx hb dX4_expandedSums_29 (by decide) ?_
    refine lv_goto (tgt := 34) hx hb dX4_expandedSums_30 (by decide) ?_
    exact (db_X4_expandedSums_34 C K) (v0) (z1) (z2) (1) s0 _ _ _ h hP hD hS (lv_sub hl [2, 1, 0] rfl)
set_option maxHeartbeats 40000000 in
set_option maxRecDepth 100000 in
theorem dm_X4_expandedSums (l : Launch) (hlt : l.stackTraces = false) (dC : Nat → ClassId) (dI : Nat → Nat → Nat) (a : Nat → Nat) (ac : Nat → ClassId) (n : Nat) (v0 : Int32) (s0 : Unit) {r : Int32 × (Unit)} (h : df_X4_expandedSums n v0 s0 = some r) (sz : Nat) : Met l yX4_expandedSums ow_dm_X4_expandedSums ({ frames := 1, cells := 0, slots := 0, locals := 23 }) (va_Pc [.int v0] (fun U => U.heap.size = sz ∧ va_P (dC, dI) vwCl (dw_P a ac s0) U.heap ∧ va_K (dC, dI) vwCl (dk_P ac) U ∧ va_D (fun _ => True) (dw_P a ac s0) ∧ nv_E (va_A (dw_P a ac s0) sz) U)) (va_Qi (fun x _ => x = r.1) (fun (_ : Unit) t => va_P (dC, dI) vwCl (dw_P a ac r.2) t.heap ∧ va_K (dC, dI) vwCl (dk_P ac) t ∧ va_D (va_A (dw_P a ac s0) sz) (dw_P a ac r.2)) (va_A (dw_P a ac s0) sz)) 0 0 (va_A (dw_P a ac s0) sz) := by
  refine Met.ofW (cc := cX4_expandedSums) (maxL := 6) (ret := (some .int)) (by decide) rfl ?_
  intro p e s m args below meth c s₁ B hml hv
  obtain ⟨rfl, hsz, hP, hK, hD0, hN⟩ := hv
  have hx := B.exec
  have hb := B.bytes
  have hr := B.returns
  have hts := atoms_spec (ws := ow_dm_X4_expandedSums) B.pre
  have hown : s.vm.findClass RX4 = some m.cls := findClass_of_methodNamed B.named
  have hlocks := B.notSynchronized
  subst hsz
  have hD := hD0.self (sz := s.heap.size)
  generalize hAe : va_A (dw_P a ac s0) s.heap.size = A at hD hN ⊢
  have hA : ∀ q : Nat, s.heap.size ≤ q → A q := fun q h => by rw [← hAe]; exact Or.inr h
  have hl := lv_entry ([.int v0]) (n := 6) (Nat.le_of_ble_eq_true rfl)
  rw [lg_entry_eq]
  generalize (lg_sl ([.int v0]) ++ List.replicate (6 - (lg_sl ([.int v0])).length) Slot.unset).toArray = ls at hl ⊢
  have hl : lv_has ls 6 [(0, .int v0)] := hl
  exact db_X4_expandedSums_0 (dC := dC) (dI := dI) (a := a) (ac := ac) (n := n) (r := r) ⟨hlt, hx, hb, hml, hown, hts, hN, hA, hK⟩ (fun pc v τ H locs ls d z er hP hD hS => by subst er; exact W.zret (v := v) hx hb hr z (fun t ht hW => ⟨⟨v, (), rfl, rfl, by rw [ht]; exact hP, va_K.moved hW.alike hK, hD⟩, hS.F ht⟩) hS.2.2 d) v0 s0 _ _ _ h hP hD va_S.rf (lv_sub hl [0] rfl)
def ow_dm_X4_expandedThird : List Cond := .code yX4_expandedThird cX4_expandedThird 4 (some .int) :: ([.methodLink RX4 153 yX4_number, .static yX4_number, .initialized RX4, .methodLink RX4 156 yX4_loading, .static yX4_loading, .constant RX4 136 (1048691), .methodLink RX4 159 yX4_storing, .static yX4_storing] ++ (ow_dm_X4_number ++ (ow_dm_X4_loading ++ (ow_dm_X4_storing ++ []))))
theorem gd_dm_X4_expandedThird : ∀ w ∈ ow_dm_X4_expandedThird, (w.onTables && w.keeps) = true ∨ ∃ ty, w = Cond.arrayClass ty := List.forall_mem_cons.mpr ⟨good_of_word rfl, List.forall_mem_append.mpr ⟨fun w h => good_of_word (List.all_eq_true.mp (by decide +kernel) w h), List.forall_mem_append.mpr ⟨gd_dm_X4_number, List.forall_mem_append.mpr ⟨gd_dm_X4_loading, List.forall_mem_append.mpr ⟨gd_dm_X4_storing, fun _ h => nomatch h⟩⟩⟩⟩⟩
theorem gi_dm_X4_expandedThird_0 : GoodIn ow_dm_X4_expandedThird (wsS RX4 153 yX4_number ow_dm_X4_number) := goodIn_app (goodIn_of _ (by decide +kernel)) (fun w h => ⟨List.mem_cons_of_mem _ (List.mem_append_right _ (List.mem_append_left _ h)), gd_dm_X4_number w h⟩)
theorem gi_dm_X4_expandedThird_1 : GoodIn ow_dm_X4_expandedThird (wsS RX4 156 yX4_loading ow_dm_X4_loading) := goodIn_app (goodIn_of _ (by decide +kernel)) (fun w h => ⟨List.mem_cons_of_mem _ (List.mem_append_right _ (List.mem_append_right _ (List.mem_append_left _ h))), gd_dm_X4_loading w h⟩)
theorem gi_dm_X4_expandedThird_2 : GoodIn ow_dm_X4_expandedThird (wsS RX4 159 yX4_storing ow_dm_X4_storing) := goodIn_app (goodIn_of _ (by decide +kernel)) (fun w h => ⟨List.mem_cons_of_mem _ (List.mem_append_right _ (List.mem_append_right _ (List.mem_append_right _ (List.mem_append_left _ h)))), gd_dm_X4_storing w h⟩)
def dj_X4_expandedThird_91 (p : Program) (l : Launch) (e : Env) (s : State) (m : MethodId) (args : Array Value) (below : List Frame) (meth : Method) (c : Code) (Q : State → Prop) (A : Nat → Prop) (dC : Nat → ClassId) (dI : Nat → Nat → Nat) (a : Nat → Nat) (ac : Nat → ClassId) (g : Int32 → (Unit) → Option (Int32 × (Unit))) (r : Int32 × (Unit)) : Prop := ∀ (y0 : Int32) (s0 : Unit) (H : Heap) (locs : List Loc) (ls : Array Slot), g y0 s0 = some r → va_P (dC, dI) vwCl (dw_P a ac s0) H → va_D A (dw_P a ac s0) → va_S A s.heap H locs → lv_has ls 4 [] → W p l e (headSpec ow_dm_X4_expandedThird ({ frames := 1, cells := 0, slots := 0, locals := 23 })).room s m args below meth c H locs 0 0 Q (F0 m 91 ls [.int y0])
def dj_X4_expandedThird_215 (p : Program) (l : Launch) (e : Env) (s : State) (m : MethodId) (args : Array Value) (below : List Frame) (meth : Method) (c : Code) (Q : State → Prop) (A : Nat → Prop) (dC : Nat → ClassId) (dI : Nat → Nat → Nat) (a : Nat → Nat) (ac : Nat → ClassId) (g : (Unit) → Option (Int32 × (Unit))) (r : Int32 × (Unit)) : Prop := ∀ (s0 : Unit) (H : Heap) (locs : List Loc) (ls : Array Slot), g s0 = some r → va_P (dC, dI) vwCl (dw_P a ac s0) H → va_D A (dw_P a ac s0) → va_S A s.heap H locs → lv_has ls 4 [] → W p l e (headSpec ow_dm_X4_expandedThird ({ frames := 1, cells := 0, slots := 0, locals := 23 })).room s m args below meth c H locs 0 0 Q (F0 m 215 ls [])
def dj_X4_expandedThird_127 (p : Program) (l : Launch) (e : Env) (s : State) (m : MethodId) (args : Array Value) (below : List Frame) (meth : Method) (c : Code) (Q : State → Prop) (A : Nat → Prop) (dC : Nat → ClassId) (dI : Nat → Nat → Nat) (a : Nat → Nat) (ac : Nat → ClassId) (g : Int32 → (Unit) → Option (Int32 × (Unit))) (r : Int32 × (Unit)) : Prop := ∀ (y0 : Int32) (s0 : Unit) (H : Heap) (locs : List Loc) (ls : Array Slot), g y0 s0 = some r → va_P (dC, dI) vwCl (dw_P a ac s0) H → va_D A (dw_P a ac s0) → va_S A s.heap H locs → lv_has ls 4 [] → W p l e (headSpec ow_dm_X4_expandedThird ({ frames := 1, cells := 0, slots := 0, locals := 23 })).room s m args below meth c H locs 0 0 Q (F0 m 127 ls [.int y0])
def dj_X4_expandedThird_186 (p : Program) (l : Launch) (e : Env) (s : State) (m : MethodId) (args : Array Value) (below : List Frame) (meth : Method) (c : Code) (Q : State → Prop) (A : Nat → Prop) (dC : Nat → ClassId) (dI : Nat → Nat → Nat) (a : Nat → Nat) (ac : Nat → ClassId) (g : Int32 → Int32 → (Unit) → Option (Int32 × (Unit))) (r : Int32 × (Unit)) : Prop := ∀ (y0 : Int32) (y1 : Int32) (s0 : Unit) (H : Heap) (locs : List Loc) (ls : Array Slot), g y0 y1 s0 = some r → va_P (dC, dI) vwCl (dw_P a ac s0) H → va_D A (dw_P a ac s0) → va_S A s.heap H locs → lv_has ls 4 [] → W p l e (headSpec ow_dm_X4_expandedThird ({ frames := 1, cells := 0, slots := 0, locals := 23 })).room s m args below meth c H locs 0 0 Q (F0 m 186 ls [.int y1, .int y0])
def dj_X4_expandedThird_172 (p : Program) (l : Launch) (e : Env) (s : State) (m : MethodId) (args : Array Value) (below : List Frame) (meth : Method) (c : Code) (Q : State → Prop) (A : Nat → Prop) (dC : Nat → ClassId) (dI : Nat → Nat → Nat) (a : Nat → Nat) (ac : Nat → ClassId) (g : Int32 → (Unit) → Option (Int32 × (Unit))) (r : Int32 × (Unit)) : Prop := ∀ (y0 : Int32) (s0 : Unit) (H : Heap) (locs : List Loc) (ls : Array Slot), g y0 s0 = some r → va_P (dC, dI) vwCl (dw_P a ac s0) H → va_D A (dw_P a ac s0) → va_S A s.heap H locs → lv_has ls 4 [] → W p l e (headSpec ow_dm_X4_expandedThird ({ frames := 1, cells := 0, slots := 0, locals := 23 })).room s m args below meth c H locs 0 0 Q (F0 m 172 ls [.int y0])
def dj_X4_expandedThird_145 (p : Program) (l : Launch) (e : Env) (s : State) (m : MethodId) (args : Array Value) (below : List Frame) (meth : Method) (c : Code) (Q : State → Prop) (A : Nat → Prop) (dC : Nat → ClassId) (dI : Nat → Nat → Nat) (a : Nat → Nat) (ac : Nat → ClassId) (g : Int32 → Int32 → Int32 → (Unit) → Option (Int32 × (Unit))) (r : Int32 × (Unit)) : Prop := ∀ (x1 : Int32) (y0 : Int32) (y1 : Int32) (s0 : Unit) (H : Heap) (locs : List Loc) (ls : Array Slot), g x1 y0 y1 s0 = some r → va_P (dC, dI) vwCl (dw_P a ac s0) H → va_D A (dw_P a ac s0) → va_S A s.heap H locs → lv_has ls 4 [(1, .int x1)] → W p l e (headSpec ow_dm_X4_expandedThird ({ frames := 1, cells := 0, slots := 0, locals := 23 })).room s m args below meth c H locs 0 0 Q (F0 m 145 ls [.int y1, .int y0])
def dj_X4_expandedThird_28 (p : Program) (l : Launch) (e : Env) (s : State) (m : MethodId) (args : Array Value) (below : List Frame) (meth : Method) (c : Code) (Q : State → Prop) (A : Nat → Prop) (dC : Nat → ClassId) (dI : Nat → Nat → Nat) (a : Nat → Nat) (ac : Nat → ClassId) (g : Int32 → Int32 → Int32 → Int32 → (Unit) → Option (Int32 × (Unit))) (r : Int32 × (Unit)) : Prop := ∀ (x0 : Int32) (x1 : Int32) (x2 : Int32) (y0 : Int32) (s0 : Unit) (H : Heap) (locs : List Loc) (ls : Array Slot), g x0 x1 x2 y0 s0 = some r → va_P (dC, dI) vwCl (dw_P a ac s0) H → va_D A (dw_P a ac s0) → va_S A s.heap H locs → lv_has ls 4 [(0, .int x0), (1, .int x1), (2, .int x2)] → W p l e (headSpec ow_dm_X4_expandedThird ({ frames := 1, cells := 0, slots := 0, locals := 23 })).room s m args below meth c H locs 0 0 Q (F0 m 28 ls [.int y0])
def dj_X4_expandedThird_0 (p : Program) (l : Launch) (e : Env) (s : State) (m : MethodId) (args : Array Value) (below : List Frame) (meth : Method) (c : Code) (Q : State → Prop) (A : Nat → Prop) (dC : Nat → ClassId) (dI : Nat → Nat → Nat) (a : Nat → Nat) (ac : Nat → ClassId) (g : Int32 → (Unit) → Option (Int32 × (Unit))) (r : Int32 × (Unit)) : Prop := ∀ (v0 : Int32) (s0 : Unit) (H : Heap) (locs : List Loc) (ls : Array Slot), g v0 s0 = some r → va_P (dC, dI) vwCl (dw_P a ac s0) H → va_D A (dw_P a ac s0) → va_S A s.heap H locs → lv_has ls 4 [(0, .int v0)] → W p l e (headSpec ow_dm_X4_expandedThird ({ frames := 1, cells := 0, slots := 0, locals := 23 })).room s m args below meth c H locs 0 0 Q (F0 m 0 ls [])
set_option maxHeartbeats 40000000 in
set_option maxRecDepth 100000 in
theorem db_X4_expandedThird_91 {p : Program} {l : Launch} {e : Env} {s : State} {m : MethodId} {args : Array Value} {below : List Frame} {meth : Method} {c : Code} {Q : State → Prop} {A : Nat → Prop} {dC : Nat → ClassId} {dI : Nat → Nat → Nat} {a : Nat → Nat} {ac : Nat → ClassId} {n : Nat} {r : Int32 × (Unit)} (C : nd_C p l s m args c A (dC, dI) cX4_expandedThird 4 RX4 ow_dm_X4_expandedThird (dk_P ac)) (K : nd_Ki p l e (headSpec ow_dm_X4_expandedThird ({ frames := 1, cells := 0, slots := 0, locals := 23 })).room s m args below meth c Q A (dC, dI) cX4_expandedThird .int (Unit) (dw_P a ac) r) : dj_X4_expandedThird_91 p l e s m args below meth c Q A dC dI a ac (df_X4_expandedThird_91 n) r := by
  obtain ⟨hlt, hx, hb, hml, hown, hts, hN, hA, hK⟩ := id C
  intro y0 s0 H locs ls h hP hD hS hl
  unfold df_X4_expandedThird_91 at h
  exact K _ _ _ _ _ _ dX4_expandedThird_91 rfl (Option.some.inj h).symm hP hD hS
set_option maxHeartbeats 40000000 in
set_option maxRecDepth 100000 in
theorem db_X4_expandedThird_215 {p : Program} {l : Launch} {e : Env} {s : State} {m : MethodId} {args : Array Value} {below : List Frame} {meth : Method} {c : Code} {Q : State → Prop} {A : Nat → Prop} {dC : Nat → ClassId} {dI : Nat → Nat → Nat} {a : Nat → Nat} {ac : Nat → ClassId} {n : Nat} {r : Int32 × (Unit)} (C : nd_C p l s m args c A (dC, dI) cX4_expandedThird 4 RX4 ow_dm_X4_expandedThird (dk_P ac)) (K : nd_Ki p l e (headSpec ow_dm_X4_expandedThird ({ frames := 1, cells := 0, slots := 0, locals := 23 })).room s m args below meth c Q A (dC, dI) cX4_expandedThird .int (Unit) (dw_P a ac) r) : dj_X4_expandedThird_215 p l e s m args below meth c Q A dC dI a ac (df_X4_expandedThird_215 n) r := by
  obtain ⟨hlt, hx, hb, hml, hown, hts, hN, hA, hK⟩ := id C
  intro s0 H locs ls h hP hD hS hl
  unfold df_X4_expandedThird_215 at h
  refine lv_iconst (v := 0) hx hb dX4_expandedThird_215 (by decide) ?_
  exact K _ _ _ _ _ _ dX4_expandedThird_216 rfl (Option.some.inj h).symm hP hD hS
set_option maxHeartbeats 40000000 in
set_option maxRecDepth 100000 in
theorem db_X4_expandedThird_127 {p : Program} {l : Launch} {e : Env} {s : State} {m : MethodId} {args : Array Value} {below : List Frame} {meth : Method} {c : Code} {Q : State → Prop} {A : Nat → Prop} {dC : Nat → ClassId} {dI : Nat → Nat → Nat} {a : Nat → Nat} {ac : Nat → ClassId} {n : Nat} {r : Int32 × (Unit)} (C : nd_C p l s m args c A (dC, dI) cX4_expandedThird 4 RX4 ow_dm_X4_expandedThird (dk_P ac)) (K : nd_Ki p l e (headSpec ow_dm_X4_expandedThird ({ frames := 1, cells := 0, slots := 0, locals := 23 })).room s m args below meth c Q A (dC, dI) cX4_expandedThird .int (Unit) (dw_P a ac) r) : dj_X4_expandedThird_127 p l e s m args below meth c Q A dC dI a ac (df_X4_expandedThird_127 n) r := by
  obtain ⟨hlt, hx, hb, hml, hown, hts, hN, hA, hK⟩ := id C
  intro y0 s0 H locs ls h hP hD hS hl
  unfold df_X4_expandedThird_127 at h
  exact K _ _ _ _ _ _ dX4_expandedThird_127 rfl (Option.some.inj h).symm hP hD hS
set_option maxHeartbeats 40000000 in
set_option maxRecDepth 100000 in
theorem db_X4_expandedThird_186 {p : Program} {l : Launch} {e : Env} {s : State} {m : MethodId} {args : Array Value} {below : List Frame} {meth : Method} {c : Code} {Q : State → Prop} {A : Nat → Prop} {dC : Nat → ClassId} {dI : Nat → Nat → Nat} {a : Nat → Nat} {ac : Nat → ClassId} {n : Nat} {r : Int32 × (Unit)} (C : nd_C p l s m args c A (dC, dI) cX4_expandedThird 4 RX4 ow_dm_X4_expandedThird (dk_P ac)) (K : nd_Ki p l e (headSpec ow_dm_X4_expandedThird ({ frames := 1, cells := 0, slots := 0, locals := 23 })).room s m args below meth c Q A (dC, dI) cX4_expandedThird .int (Unit) (dw_P a ac) r) : dj_X4_expandedThird_186 p l e s m args below meth c Q A dC dI a ac (df_X4_expandedThird_186 n) r := by
  obtain ⟨hlt, hx, hb, hml, hown, hts, hN, hA, hK⟩ := id C
  intro y0 y1 s0 H locs ls h hP hD hS hl
  unfold df_X4_expandedThird_186 at h
  refine lv_bipush (v := 7) hx hb dX4_expandedThird_186 (by decide) ?_
  refine lv_ishl hx hb dX4_expandedThird_188 ?_
  refine lv_ior hx hb dX4_expandedThird_189 ?_
  refine lv_bipush (v := 103) hx hb dX4_expandedThird_190 (by decide) ?_
  refine lv_ior hx hb dX4_expandedThird_192 ?_
  exact K _ _ _ _ _ _ dX4_expandedThird_193 rfl (Option.some.inj h).symm hP hD hS
set_option maxHeartbeats 40000000 in
set_option maxRecDepth 100000 in
theorem db_X4_expandedThird_172 {p : Program} {l : Launch} {e : Env} {s : State} {m : MethodId} {args : Array Value} {below : List Frame} {meth : Method} {c : Code} {Q : State → Prop} {A : Nat → Prop} {dC : Nat → ClassId} {dI : Nat → Nat → Nat} {a : Nat → Nat} {ac : Nat → ClassId} {n : Nat} {r : Int32 × (Unit)} (C : nd_C p l s m args c A (dC, dI) cX4_expandedThird 4 RX4 ow_dm_X4_expandedThird (dk_P ac)) (K : nd_Ki p l e (headSpec ow_dm_X4_expandedThird ({ frames := 1, cells := 0, slots := 0, locals := 23 })).room s m args below meth c Q A (dC, dI) cX4_expandedThird .int (Unit) (dw_P a ac) r) : dj_X4_expandedThird_172 p l e s m args below meth c Q A dC dI a ac (df_X4_expandedThird_172 n) r := by
  obtain ⟨hlt, hx, hb, hml, hown, hts, hN, hA, hK⟩ := id C
  intro y0 s0 H locs ls h hP hD hS hl
  unfold df_X4_expandedThird_172 at h
  exact K _ _ _ _ _ _ dX4_expandedThird_172 rfl (Option.some.inj h).symm hP hD hS
set_option maxHeartbeats 40000000 in
set_option maxRecDepth 100000 in
theorem db_X4_expandedThird_145 {p : Program} {l : Launch} {e : Env} {s : State} {m : MethodId} {args : Array Value} {below : List Frame} {meth : Method} {c : Code} {Q : State → Prop} {A : Nat → Prop} {dC : Nat → ClassId} {dI : Nat → Nat → Nat} {a : Nat → Nat} {ac : Nat → ClassId} {n : Nat} {r : Int32 × (Unit)} (C : nd_C p l s m args c A (dC, dI) cX4_expandedThird 4 RX4 ow_dm_X4_expandedThird (dk_P ac)) (K : nd_Ki p l e (headSpec ow_dm_X4_expandedThird ({ frames := 1, cells := 0, slots := 0, locals := 23 })).room s m args below meth c Q A (dC, dI) cX4_expandedThird .int (Unit) (dw_P a ac) r) : dj_X4_expandedThird_145 p l e s m args below meth c Q A dC dI a ac (df_X4_expandedThird_145 n) r := by
  obtain ⟨hlt, hx, hb, hml, hown, hts, hN, hA, hK⟩ := id C
  intro x1 y0 y1 s0 H locs ls h hP hD hS hl
  unfold df_X4_expandedThird_145 at h
  refine lv_bipush (v := 15) hx hb dX4_expandedThird_145 (by decide) ?_
  refine lv_ishl hx hb dX4_expandedThird_147 ?_
  refine lv_ior hx hb dX4_expandedThird_148 ?_
  refine lv_iload_n hx hb dX4_expandedThird_149 rfl (lv_at hl 0 rfl) ?_
  refine lv_bipush (v := 7) hx hb dX4_expandedThird_150 (by decide) ?_
  refine lv_ishl hx hb dX4_expandedThird_152 ?_
  refine lv_ior hx hb dX4_expandedThird_153 ?_
  refine lv_bipush (v := 51) hx hb dX4_expandedThird_154 (by decide) ?_
  refine lv_ior hx hb dX4_expandedThird_156 ?_
  exact K _ _ _ _ _ _ dX4_expandedThird_157 rfl (Option.some.inj h).symm hP hD hS
set_option maxHeartbeats 40000000 in
set_option maxRecDepth 100000 in
theorem db_X4_expandedThird_28 {p : Program} {l : Launch} {e : Env} {s : State} {m : MethodId} {args : Array Value} {below : List Frame} {meth : Method} {c : Code} {Q : State → Prop} {A : Nat → Prop} {dC : Nat → ClassId} {dI : Nat → Nat → Nat} {a : Nat → Nat} {ac : Nat → ClassId} {n : Nat} {r : Int32 × (Unit)} (C : nd_C p l s m args c A (dC, dI) cX4_expandedThird 4 RX4 ow_dm_X4_expandedThird (dk_P ac)) (K : nd_Ki p l e (headSpec ow_dm_X4_expandedThird ({ frames := 1, cells := 0, slots := 0, locals := 23 })).room s m args below meth c Q A (dC, dI) cX4_expandedThird .int (Unit) (dw_P a ac) r) : dj_X4_expandedThird_28 p l e s m args below meth c Q A dC dI a ac (df_X4_expandedThird_28 n) r := by
  obtain ⟨hlt, hx, hb, hml, hown, hts, hN, hA, hK⟩ := id C
  intro x0 x1 x2 y0 s0 H locs ls h hP hD hS hl
  unfold df_X4_expandedThird_28 at h
  refine lv_istore_n (lv' := [(3, .int y0), (0, .int x0), (1, .int x1), (2, .int x2)]) hx hb dX4_expandedThird_28 rfl hl (by decide) rfl (fun ls hl => ?_)
  refine lv_iload_n hx hb dX4_expandedThird_29 rfl (lv_at hl 1 rfl) ?_
  refine lv_bipush (v := 13) hx hb dX4_expandedThird_30 (by decide) ?_
  refine lv_ishr hx hb dX4_expandedThird_32 ?_
  by_cases c4 : ((x0 : Int32) >>> ((13 : Int32) &&& 31)) = 0
  · have h := nd_pos h c4
    refine lv_tableIn (off := 43) (tgt := 76) hx hb dX4_expandedThird_33 (by rw [c4]; decide) (by rw [c4]; decide) (by rw [c4]; decide) (by decide) ?_
    refine lv_iload_n hx hb dX4_expandedThird_76 rfl (lv_at hl 0 rfl) ?_
    refine lv_if_eq (tgt := 84) hx hb dX4_expandedThird_77 (by decide) (fun c5 => ?_) (fun c5 => ?_)
    · have h := nd_pos h c5
      refine lv_iload_n hx hb dX4_expandedThird_84 rfl (lv_at hl 3 rfl) ?_
      refine lv_iload_n hx hb dX4_expandedThird_85 rfl (lv_at hl 2 rfl) ?_
      refine lv_iconst (v := 1) hx hb dX4_expandedThird_86 (by decide) ?_
      refine lv_iload_n hx hb dX4_expandedThird_87 rfl (lv_at hl 2 rfl) ?_
      obtain ⟨q6, s7, hq, h⟩ := nd_b2_e h
      have hPc : va_P (dC, dI) vwCl (dw_P a ac ()) H := nd_p0
      have hDc : va_D A (dw_P a ac ()) := nd_d0
      have hKc : va_K (dC, dI) vwCl (dk_P ac) s := nd_y0 hK
      have hFc : ∀ q, va_A (dw_P a ac ()) H.size q → A q := nd_r0 hS hA
      refine nd_cSi (As := [.int x2, .int x1, .int 1, .int x1]) (rest := []) (q := q6) (w' := dw_P a ac s7) ⟨hx, hb, hml, hown, hts⟩ (fun sz => dm_X4_number l hlt dC dI a ac n (x2) (x1) (1) (x1) () hq sz) (cwS 4 hts gi_dm_X4_expandedThird_0 rfl rfl rfl (by decide +kernel) ⟨Nat.le_of_ble_eq_true rfl, Nat.le_of_ble_eq_true rfl⟩) hPc hDc hKc hS hA hN rfl hl.1 rfl (Nat.le_of_ble_eq_true rfl) dX4_expandedThird_88 (fun H locs hP1 hD1 hk1 hS => ?_)
      have hP := nd_n0 hP hk1
      exact (db_X4_expandedThird_91 C K) (q6) s0 _ _ _ h hP hD hS (lv_sub hl [] rfl)
    · have h := nd_neg h c5
      refine lv_iconst (v := 0) hx hb dX4_expandedThird_80 (by decide) ?_
      refine lv_goto (tgt := 91) hx hb dX4_expandedThird_81 (by decide) ?_
      exact (db_X4_expandedThird_91 C K) (0) s0 _ _ _ h hP hD hS (lv_sub hl [] rfl)
  have h := nd_neg h c4
  by_cases c9 : ((x0 : Int32) >>> ((13 : Int32) &&& 31)) = 1
  · have h := nd_pos h c9
    refine lv_tableIn (off := 182) (tgt := 215) hx hb dX4_expandedThird_33 (by rw [c9]; decide) (by rw [c9]; decide) (by rw [c9]; decide) (by decide) ?_
    exact (db_X4_expandedThird_215 C K)  s0 _ _ _ h hP hD hS (lv_sub hl [] rfl)
  have h := nd_neg h c9
  by_cases c10 : ((x0 : Int32) >>> ((13 : Int32) &&& 31)) = 2
  · have h := nd_pos h c10
    refine lv_tableIn (off := 59) (tgt := 92) hx hb dX4_expandedThird_33 (by rw [c10]; decide) (by rw [c10]; decide) (by rw [c10]; decide) (by decide) ?_
    refine lv_iload_n hx hb dX4_expandedThird_92 rfl (lv_at hl 2 rfl) ?_
    refine lv_if_ne (tgt := 100) hx hb dX4_expandedThird_93 (by decide) (fun c11 => ?_) (fun c11 => ?_)
    · have h := nd_neg h c11
      refine lv_iload_n hx hb dX4_expandedThird_100 rfl (lv_at hl 1 rfl) ?_
      refine lv_bipush (v := 7) hx hb dX4_expandedThird_101 (by decide) ?_
      refine lv_ishr hx hb dX4_expandedThird_103 ?_
      refine lv_bipush (v := 32) hx hb dX4_expandedThird_104 (by decide) ?_
      refine lv_iand hx hb dX4_expandedThird_106 ?_
      refine lv_iload_n hx hb dX4_expandedThird_107 rfl (lv_at hl 1 rfl) ?_
      refine lv_iconst (v := 2) hx hb dX4_expandedThird_108 (by decide) ?_
      refine lv_ishr hx hb dX4_expandedThird_109 ?_
      refine lv_bipush (v := 28) hx hb dX4_expandedThird_110 (by decide) ?_
      refine lv_iand hx hb dX4_expandedThird_112 ?_
      refine lv_ior hx hb dX4_expandedThird_113 ?_
      refine lv_iload_n hx hb dX4_expandedThird_114 rfl (lv_at hl 1 rfl) ?_
      refine lv_iconst (v := 4) hx hb dX4_expandedThird_115 (by decide) ?_
      refine lv_ishl hx hb dX4_expandedThird_116 ?_
      refine lv_sipush (v := 192) hx hb dX4_expandedThird_117 (by decide) ?_
      refine lv_iand hx hb dX4_expandedThird_120 ?_
      refine lv_ior hx hb dX4_expandedThird_121 ?_
      refine lv_iconst (v := 2) hx hb dX4_expandedThird_122 (by decide) ?_
      refine lv_iload_n hx hb dX4_expandedThird_123 rfl (lv_at hl 2 rfl) ?_
      obtain ⟨q12, s13, hq, h⟩ := nd_b2_e h
      have hPc : va_P (dC, dI) vwCl (dw_P a ac ()) H := nd_p0
      have hDc : va_D A (dw_P a ac ()) := nd_d0
      have hKc : va_K (dC, dI) vwCl (dk_P ac) s := nd_y0 hK
      have hFc : ∀ q, va_A (dw_P a ac ()) H.size q → A q := nd_r0 hS hA
      refine nd_cSi (As := [.int (((((x0 : Int32) >>> ((7 : Int32) &&& 31)) &&& 32) ||| (((x0 : Int32) >>> ((2 : Int32) &&& 31)) &&& 28)) ||| (((x0 : Int32) <<< ((4 : Int32) &&& 31)) &&& 192)), .int 2, .int x1]) (rest := []) (q := q12) (w' := dw_P a ac s13) ⟨hx, hb, hml, hown, hts⟩ (fun sz => dm_X4_loading l hlt dC dI a ac n ((((((x0 : Int32) >>> ((7 : Int32) &&& 31)) &&& 32) ||| (((x0 : Int32) >>> ((2 : Int32) &&& 31)) &&& 28)) ||| (((x0 : Int32) <<< ((4 : Int32) &&& 31)) &&& 192))) (2) (x1) () hq sz) (cwS 3 hts gi_dm_X4_expandedThird_1 rfl rfl rfl (by decide +kernel) ⟨Nat.le_of_ble_eq_true rfl, Nat.le_of_ble_eq_true rfl⟩) hPc hDc hKc hS hA hN rfl hl.1 rfl (Nat.le_of_ble_eq_true rfl) dX4_expandedThird_124 (fun H locs hP1 hD1 hk1 hS => ?_)
      have hP := nd_n0 hP hk1
      exact (db_X4_expandedThird_127 C K) (q12) s0 _ _ _ h hP hD hS (lv_sub hl [] rfl)
    · have h := nd_pos h c11
      refine lv_iconst (v := 0) hx hb dX4_expandedThird_96 (by decide) ?_
      refine lv_goto (tgt := 127) hx hb dX4_expandedThird_97 (by decide) ?_
      exact (db_X4_expandedThird_127 C K) (0) s0 _ _ _ h hP hD hS (lv_sub hl [] rfl)
  have h := nd_neg h c10
  by_cases c15 : ((x0 : Int32) >>> ((13 : Int32) &&& 31)) = 3
  · have h := nd_pos h c15
    refine lv_tableIn (off := 182) (tgt := 215) hx hb dX4_expandedThird_33 (by rw [c15]; decide) (by rw [c15]; decide) (by rw [c15]; decide) (by decide) ?_
    exact (db_X4_expandedThird_215 C K)  s0 _ _ _ h hP hD hS (lv_sub hl [] rfl)
  have h := nd_neg h c15
  by_cases c16 : ((x0 : Int32) >>> ((13 : Int32) &&& 31)) = 4
  · have h := nd_pos h c16
    refine lv_tableIn (off := 95) (tgt := 128) hx hb dX4_expandedThird_33 (by rw [c16]; decide) (by rw [c16]; decide) (by rw [c16]; decide) (by decide) ?_
    refine lv_iload_n hx hb dX4_expandedThird_128 rfl (lv_at hl 3 rfl) ?_
    refine lv_if_eq (tgt := 158) hx hb dX4_expandedThird_129 (by decide) (fun c17 => ?_) (fun c17 => ?_)
    · have h := nd_pos h c17
      refine lv_iload_n hx hb dX4_expandedThird_158 rfl (lv_at hl 2 rfl) ?_
      refine lv_if_ne (tgt := 173) hx hb dX4_expandedThird_159 (by decide) (fun c18 => ?_) (fun c18 => ?_)
      · have h := nd_neg h c18
        refine lv_iload_n hx hb dX4_expandedThird_173 rfl (lv_at hl 2 rfl) ?_
        refine lv_bipush (v := 15) hx hb dX4_expandedThird_174 (by decide) ?_
        refine lv_ishl hx hb dX4_expandedThird_176 ?_
        refine lv_iload_n hx hb dX4_expandedThird_177 rfl (lv_at hl 0 rfl) ?_
        refine lv_if_eq (tgt := 185) hx hb dX4_expandedThird_178 (by decide) (fun c19 => ?_) (fun c19 => ?_)
        · have h := nd_pos h c19
          refine lv_iconst (v := 0) hx hb dX4_expandedThird_185 (by decide) ?_
          exact (db_X4_expandedThird_186 C K) (((x1 : Int32) <<< ((15 : Int32) &&& 31))) (0) s0 _ _ _ h hP hD hS (lv_sub hl [] rfl)
        · have h := nd_neg h c19
          refine lv_iconst (v := 1) hx hb dX4_expandedThird_181 (by decide) ?_
          refine lv_goto (tgt := 186) hx hb dX4_expandedThird_182 (by decide) ?_
          exact (db_X4_expandedThird_186 C K) (((x1 : Int32) <<< ((15 : Int32) &&& 31))) (1) s0 _ _ _ h hP hD hS (lv_sub hl [] rfl)
      · have h := nd_pos h c18
        refine lv_iload_n hx hb dX4_expandedThird_162 rfl (lv_at hl 0 rfl) ?_
        refine lv_if_eq (tgt := 171) hx hb dX4_expandedThird_163 (by decide) (fun c20 => ?_) (fun c20 => ?_)
        · have h := nd_pos h c20
          refine lv_iconst (v := 0) hx hb dX4_expandedThird_171 (by decide) ?_
          exact (db_X4_expandedThird_172 C K) (0) s0 _ _ _ h hP hD hS (lv_sub hl [] rfl)
        · have h := nd_neg h c20
          refine lv_ldc hx hb hown (hts (.constant RX4 136 (1048691)) (List.mem_of_getElem? (i := 6) rfl)) dX4_expandedThird_166 ?_
          refine lv_goto (tgt := 172) hx hb dX4_expandedThird_168 (by decide) ?_
          exact (db_X4_expandedThird_172 C K) (1048691) s0 _ _ _ h hP hD hS (lv_sub hl [] rfl)
    · have h := nd_neg h c17
      refine lv_iload_n hx hb dX4_expandedThird_132 rfl (lv_at hl 3 rfl) ?_
      refine lv_bipush (v := 20) hx hb dX4_expandedThird_133 (by decide) ?_
      refine lv_ishl hx hb dX4_expandedThird_135 ?_
      refine lv_iload_n hx hb dX4_expandedThird_136 rfl (lv_at hl 0 rfl) ?_
      refine lv_if_eq (tgt := 144) hx hb dX4_expandedThird_137 (by decide) (fun c21 => ?_) (fun c21 => ?_)
      · have h := nd_pos h c21
        refine lv_iconst (v := 0) hx hb dX4_expandedThird_144 (by decide) ?_
        exact (db_X4_expandedThird_145 C K) (x1) (((x2 : Int32) <<< ((20 : Int32) &&& 31))) (0) s0 _ _ _ h hP hD hS (lv_sub hl [2] rfl)
      · have h := nd_neg h c21
        refine lv_iload_n hx hb dX4_expandedThird_140 rfl (lv_at hl 2 rfl) ?_
        refine lv_goto (tgt := 145) hx hb dX4_expandedThird_141 (by decide) ?_
        exact (db_X4_expandedThird_145 C K) (x1) (((x2 : Int32) <<< ((20 : Int32) &&& 31))) (x1) s0 _ _ _ h hP hD hS (lv_sub hl [2] rfl)
  have h := nd_neg h c16
  by_cases c22 : ((x0 : Int32) >>> ((13 : Int32) &&& 31)) = 5
  · have h := nd_pos h c22
    refine lv_tableIn (off := 182) (tgt := 215) hx hb dX4_expandedThird_33 (by rw [c22]; decide) (by rw [c22]; decide) (by rw [c22]; decide) (by decide) ?_
    exact (db_X4_expandedThird_215 C K)  s0 _ _ _ h hP hD hS (lv_sub hl [] rfl)
  have h := nd_neg h c22
  by_cases c23 : ((x0 : Int32) >>> ((13 : Int32) &&& 31)) = 6
  · have h := nd_pos h c23
    refine lv_tableIn (off := 161) (tgt := 194) hx hb dX4_expandedThird_33 (by rw [c23]; decide) (by rw [c23]; decide) (by rw [c23]; decide) (by decide) ?_
    refine lv_iload_n hx hb dX4_expandedThird_194 rfl (lv_at hl 1 rfl) ?_
    refine lv_bipush (v := 7) hx hb dX4_expandedThird_195 (by decide) ?_
    refine lv_ishr hx hb dX4_expandedThird_197 ?_
    refine lv_bipush (v := 60) hx hb dX4_expandedThird_198 (by decide) ?_
    refine lv_iand hx hb dX4_expandedThird_200 ?_
    refine lv_iload_n hx hb dX4_expandedThird_201 rfl (lv_at hl 1 rfl) ?_
    refine lv_iconst (v := 1) hx hb dX4_expandedThird_202 (by decide) ?_
    refine lv_ishr hx hb dX4_expandedThird_203 ?_
    refine lv_sipush (v := 192) hx hb dX4_expandedThird_204 (by decide) ?_
    refine lv_iand hx hb dX4_expandedThird_207 ?_
    refine lv_ior hx hb dX4_expandedThird_208 ?_
    refine lv_iconst (v := 2) hx hb dX4_expandedThird_209 (by decide) ?_
    refine lv_iload_n hx hb dX4_expandedThird_210 rfl (lv_at hl 3 rfl) ?_
    obtain ⟨q24, s25, hq, h⟩ := nd_b2_e h
    have hPc : va_P (dC, dI) vwCl (dw_P a ac ()) H := nd_p0
    have hDc : va_D A (dw_P a ac ()) := nd_d0
    have hKc : va_K (dC, dI) vwCl (dk_P ac) s := nd_y0 hK
    have hFc : ∀ q, va_A (dw_P a ac ()) H.size q → A q := nd_r0 hS hA
    refine nd_cSi (As := [.int ((((x0 : Int32) >>> ((7 : Int32) &&& 31)) &&& 60) ||| (((x0 : Int32) >>> ((1 : Int32) &&& 31)) &&& 192)), .int 2, .int x2]) (rest := []) (q := q24) (w' := dw_P a ac s25) ⟨hx, hb, hml, hown, hts⟩ (fun sz => dm_X4_storing l hlt dC dI a ac n (((((x0 : Int32) >>> ((7 : Int32) &&& 31)) &&& 60) ||| (((x0 : Int32) >>> ((1 : Int32) &&& 31)) &&& 192))) (2) (x2) () hq sz) (cwS 3 hts gi_dm_X4_expandedThird_2 rfl rfl rfl (by decide +kernel) ⟨Nat.le_of_ble_eq_true rfl, Nat.le_of_ble_eq_true rfl⟩) hPc hDc hKc hS hA hN rfl hl.1 rfl (Nat.le_of_ble_eq_true rfl) dX4_expandedThird_211 (fun H locs hP1 hD1 hk1 hS => ?_)
    have hP := nd_n0 hP hk1
    exact K _ _ _ _ _ _ dX4_expandedThird_214 rfl (Option.some.inj h).symm hP hD hS
  have h := nd_neg h c23
  refine lv_tableOut (tgt := 215) hx hb dX4_expandedThird_33 (by have g0 := nv_nei c4 (k := 0) (by decide); have g1 := nv_nei c9 (k := 1) (by decide); have g2 := nv_nei c10 (k := 2) (by decide); have g3 := nv_nei c15 (k := 3) (by decide); have g4 := nv_nei c16 (k := 4) (by decide); have g5 := nv_nei c22 (k := 5) (by decide); have g6 := nv_nei c23 (k := 6) (by decide); omega) (by decide) ?_
  exact (db_X4_expandedThird_215 C K)  s0 _ _ _ h hP hD hS (lv_sub hl [] rfl)
set_option maxHeartbeats 40000000 in
set_option maxRecDepth 100000 in
theorem db_X4_expandedThird_0 {p : Program} {l : Launch} {e : Env} {s : State} {m : MethodId} {args : Array Value} {below : List Frame} {meth : Method} {c : Code} {Q : State → Prop} {A : Nat → Prop} {dC : Nat → ClassId} {dI : Nat → Nat → Nat} {a : Nat → Nat} {ac : Nat → ClassId} {n : Nat} {r : Int32 × (Unit)} (C : nd_C p l s m args c A (dC, dI) cX4_expandedThird 4 RX4 ow_dm_X4_expandedThird (dk_P ac)) (K : nd_Ki p l e (headSpec ow_dm_X4_expandedThird ({ frames := 1, cells := 0, slots := 0, locals := 23 })).room s m args below meth c Q A (dC, dI) cX4_expandedThird .int (Unit) (dw_P a ac) r) : dj_X4_expandedThird_0 p l e s m args below meth c Q A dC dI a ac (df_X4_expandedThird_0 n) r := by
  obtain ⟨hlt, hx, hb, hml, hown, hts, hN, hA, hK⟩ := id C
  intro v0 s0 H locs ls h hP hD hS hl
  unfold df_X4_expandedThird_0 at h
  refine lv_iload_n hx hb dX4_expandedThird_0 rfl (lv_at hl 0 rfl) ?_
  refine lv_bipush (v := 7) hx hb dX4_expandedThird_1 (by decide) ?_
  refine lv_ishr hx hb dX4_expandedThird_3 ?_
  refine lv_bipush (v := 31) hx hb dX4_expandedThird_4 (by decide) ?_
  refine lv_iand hx hb dX4_expandedThird_6 ?_
  refine lv_topi (fun z1 ez1 => ?_)
  have h := nd_at h ez1
  refine lv_istore_n (lv' := [(1, .int z1), (0, .int v0)]) hx hb dX4_expandedThird_7 rfl hl (by decide) rfl (fun ls hl => ?_)
  refine lv_iload_n hx hb dX4_expandedThird_8 rfl (lv_at hl 1 rfl) ?_
  refine lv_iconst (v := 2) hx hb dX4_expandedThird_9 (by decide) ?_
  refine lv_ishr hx hb dX4_expandedThird_10 ?_
  refine lv_bipush (v := 31) hx hb dX4_expandedThird_11 (by decide) ?_
  refine lv_iand hx hb dX4_expandedThird_13 ?_
  refine lv_topi (fun z2 ez2 => ?_)
  have h := nd_at h ez2
  refine lv_istore_n (lv' := [(2, .int z2), (1, .int z1), (0, .int v0)]) hx hb dX4_expandedThird_14 rfl hl (by decide) rfl (fun ls hl => ?_)
  refine lv_iload_n hx hb dX4_expandedThird_15 rfl (lv_at hl 2 rfl) ?_
  refine lv_sipush (v := 4096) hx hb dX4_expandedThird_16 (by decide) ?_
  refine lv_iand hx hb dX4_expandedThird_19 ?_
  refine lv_if_eq (tgt := 27) hx hb dX4_expandedThird_20 (by decide) (fun c3 => ?_) (fun c3 => ?_)
  · have h := nd_pos h c3
    refine lv_iconst (v := 0) hx hb dX4_expandedThird_27 (by decide) ?_
    exact (db_X4_expandedThird_28 C K) (v0) (z1) (z2) (0) s0 _ _ _ h hP hD hS (lv_sub hl [2, 1, 0] rfl)
  · have h := nd_neg h c3
    refine lv_iconst (v := 1) hx hb dX4_expandedThird_23 (by decide) ?_
    refine lv_goto (tgt := 28) hx hb dX4_expandedThird_24 (by decide) ?_
    exact (db_X4_expandedThird_28 C K) (v0) (z1) (z2) (1) s0 _ _ _ h hP hD hS (lv_sub hl [2, 1, 0] rfl)
set_option maxHeartbeats 40000000 in
set_option maxRecDepth 100000 in
theorem dm_X4_expandedThird (l : Launch) (hlt : l.stackTraces = false) (dC : Nat → ClassId) (dI : Nat → Nat → Nat) (a : Nat → Nat) (ac : Nat → ClassId) (n : Nat) (v0 : Int32) (s0 : Unit) {r : Int32 × (Unit)} (h : df_X4_expandedThird n v0 s0 = some r) (sz : Nat) : Met l yX4_expandedThird ow_dm_X4_expandedThird ({ frames := 1, cells := 0, slots := 0, locals := 23 }) (va_Pc [.int v0] (fun U => U.heap.size = sz ∧ va_P (dC, dI) vwCl (dw_P a ac s0) U.heap ∧ va_K (dC, dI) vwCl (dk_P ac) U ∧ va_D (fun _ => True) (dw_P a ac s0) ∧ nv_E (va_A (dw_P a ac s0) sz) U)) (va_Qi (fun x _ => x = r.1) (fun (_ : Unit) t => va_P (dC, dI) vwCl (dw_P a ac r.2) t.heap ∧ va_K (dC, dI) vwCl (dk_P ac) t ∧ va_D (va_A (dw_P a ac s0) sz) (dw_P a ac r.2)) (va_A (dw_P a ac s0) sz)) 0 0 (va_A (dw_P a ac s0) sz) := by
  refine Met.ofW (cc := cX4_expandedThird) (maxL := 4) (ret := (some .int)) (by decide) rfl ?_
  intro p e s m args below meth c s₁ B hml hv
  obtain ⟨rfl, hsz, hP, hK, hD0, hN⟩ := hv
  have hx := B.exec
  have hb := B.bytes
  have hr := B.returns
  have hts := atoms_spec (ws := ow_dm_X4_expandedThird) B.pre
  have hown : s.vm.findClass RX4 = some m.cls := findClass_of_methodNamed B.named
  have hlocks := B.notSynchronized
  subst hsz
  have hD := hD0.self (sz := s.heap.size)
  generalize hAe : va_A (dw_P a ac s0) s.heap.size = A at hD hN ⊢
  have hA : ∀ q : Nat, s.heap.size ≤ q → A q := fun q h => by rw [← hAe]; exact Or.inr h
  have hl := lv_entry ([.int v0]) (n := 4) (Nat.le_of_ble_eq_true rfl)
  rw [lg_entry_eq]
  generalize (lg_sl ([.int v0]) ++ List.replicate (4 - (lg_sl ([.int v0])).length) Slot.unset).toArray = ls at hl ⊢
  have hl : lv_has ls 4 [(0, .int v0)] := hl
  exact db_X4_expandedThird_0 (dC := dC) (dI := dI) (a := a) (ac := ac) (n := n) (r := r) ⟨hlt, hx, hb, hml, hown, hts, hN, hA, hK⟩ (fun pc v τ H locs ls d z er hP hD hS => by subst er; exact W.zret (v := v) hx hb hr z (fun t ht hW => ⟨⟨v, (), rfl, rfl, by rw [ht]; exact hP, va_K.moved hW.alike hK, hD⟩, hS.F ht⟩) hS.2.2 d) v0 s0 _ _ _ h hP hD va_S.rf (lv_sub hl [0] rfl)
def ow_dm_X4_expanded : List Cond := .code yX4_expanded cX4_expanded 1 (some .int) :: ([.methodLink RX4 140 yX4_expandedFirst, .static yX4_expandedFirst, .initialized RX4, .methodLink RX4 146 yX4_expandedSecond, .static yX4_expandedSecond, .methodLink RX4 143 yX4_expandedSums, .static yX4_expandedSums, .methodLink RX4 149 yX4_expandedThird, .static yX4_expandedThird] ++ (ow_dm_X4_expandedFirst ++ (ow_dm_X4_expandedSecond ++ (ow_dm_X4_expandedSums ++ (ow_dm_X4_expandedThird ++ [])))))
theorem gd_dm_X4_expanded : ∀ w ∈ ow_dm_X4_expanded, (w.onTables && w.keeps) = true ∨ ∃ ty, w = Cond.arrayClass ty := List.forall_mem_cons.mpr ⟨good_of_word rfl, List.forall_mem_append.mpr ⟨fun w h => good_of_word (List.all_eq_true.mp (by decide +kernel) w h), List.forall_mem_append.mpr ⟨gd_dm_X4_expandedFirst, List.forall_mem_append.mpr ⟨gd_dm_X4_expandedSecond, List.forall_mem_append.mpr ⟨gd_dm_X4_expandedSums, List.forall_mem_append.mpr ⟨gd_dm_X4_expandedThird, fun _ h => nomatch h⟩⟩⟩⟩⟩⟩
theorem gi_dm_X4_expanded_0 : GoodIn ow_dm_X4_expanded (wsS RX4 140 yX4_expandedFirst ow_dm_X4_expandedFirst) := goodIn_app (goodIn_of _ (by decide +kernel)) (fun w h => ⟨List.mem_cons_of_mem _ (List.mem_append_right _ (List.mem_append_left _ h)), gd_dm_X4_expandedFirst w h⟩)
theorem gi_dm_X4_expanded_1 : GoodIn ow_dm_X4_expanded (wsS RX4 146 yX4_expandedSecond ow_dm_X4_expandedSecond) := goodIn_app (goodIn_of _ (by decide +kernel)) (fun w h => ⟨List.mem_cons_of_mem _ (List.mem_append_right _ (List.mem_append_right _ (List.mem_append_left _ h))), gd_dm_X4_expandedSecond w h⟩)
theorem gi_dm_X4_expanded_2 : GoodIn ow_dm_X4_expanded (wsS RX4 143 yX4_expandedSums ow_dm_X4_expandedSums) := goodIn_app (goodIn_of _ (by decide +kernel)) (fun w h => ⟨List.mem_cons_of_mem _ (List.mem_append_right _ (List.mem_append_right _ (List.mem_append_right _ (List.mem_append_left _ h)))), gd_dm_X4_expandedSums w h⟩)
theorem gi_dm_X4_expanded_3 : GoodIn ow_dm_X4_expanded (wsS RX4 149 yX4_expandedThird ow_dm_X4_expandedThird) := goodIn_app (goodIn_of _ (by decide +kernel)) (fun w h => ⟨List.mem_cons_of_mem _ (List.mem_append_right _ (List.mem_append_right _ (List.mem_append_right _ (List.mem_append_right _ (List.mem_append_left _ h))))), gd_dm_X4_expandedThird w h⟩)
def dj_X4_expanded_52 (p : Program) (l : Launch) (e : Env) (s : State) (m : MethodId) (args : Array Value) (below : List Frame) (meth : Method) (c : Code) (Q : State → Prop) (A : Nat → Prop) (dC : Nat → ClassId) (dI : Nat → Nat → Nat) (a : Nat → Nat) (ac : Nat → ClassId) (g : Int32 → (Unit) → Option (Int32 × (Unit))) (r : Int32 × (Unit)) : Prop := ∀ (y0 : Int32) (s0 : Unit) (H : Heap) (locs : List Loc) (ls : Array Slot), g y0 s0 = some r → va_P (dC, dI) vwCl (dw_P a ac s0) H → va_D A (dw_P a ac s0) → va_S A s.heap H locs → lv_has ls 1 [] → W p l e (headSpec ow_dm_X4_expanded ({ frames := 2, cells := 0, slots := 0, locals := 48 })).room s m args below meth c H locs 0 0 Q (F0 m 52 ls [.int y0])
def dj_X4_expanded_0 (p : Program) (l : Launch) (e : Env) (s : State) (m : MethodId) (args : Array Value) (below : List Frame) (meth : Method) (c : Code) (Q : State → Prop) (A : Nat → Prop) (dC : Nat → ClassId) (dI : Nat → Nat → Nat) (a : Nat → Nat) (ac : Nat → ClassId) (g : Int32 → (Unit) → Option (Int32 × (Unit))) (r : Int32 × (Unit)) : Prop := ∀ (v0 : Int32) (s0 : Unit) (H : Heap) (locs : List Loc) (ls : Array Slot), g v0 s0 = some r → va_P (dC, dI) vwCl (dw_P a ac s0) H → va_D A (dw_P a ac s0) → va_S A s.heap H locs → lv_has ls 1 [(0, .int v0)] → W p l e (headSpec ow_dm_X4_expanded ({ frames := 2, cells := 0, slots := 0, locals := 48 })).room s m args below meth c H locs 0 0 Q (F0 m 0 ls [])
set_option maxHeartbeats 40000000 in
set_option maxRecDepth 100000 in
theorem db_X4_expanded_52 {p : Program} {l : Launch} {e : Env} {s : State} {m : MethodId} {args : Array Value} {below : List Frame} {meth : Method} {c : Code} {Q : State → Prop} {A : Nat → Prop} {dC : Nat → ClassId} {dI : Nat → Nat → Nat} {a : Nat → Nat} {ac : Nat → ClassId} {n : Nat} {r : Int32 × (Unit)} (C : nd_C p l s m args c A (dC, dI) cX4_expanded 1 RX4 ow_dm_X4_expanded (dk_P ac)) (K : nd_Ki p l e (headSpec ow_dm_X4_expanded ({ frames := 2, cells := 0, slots := 0, locals := 48 })).room s m args below meth c Q A (dC, dI) cX4_expanded .int (Unit) (dw_P a ac) r) : dj_X4_expanded_52 p l e s m args below meth c Q A dC dI a ac (df_X4_expanded_52 n) r := by
  obtain ⟨hlt, hx, hb, hml, hown, hts, hN, hA, hK⟩ := id C
  intro y0 s0 H locs ls h hP hD hS hl
  unfold df_X4_expanded_52 at h
  exact K _ _ _ _ _ _ dX4_expanded_52 rfl (Option.some.inj h).symm hP hD hS
set_option maxHeartbeats 40000000 in
set_option maxRecDepth 100000 in
theorem db_X4_expanded_0 {p : Program} {l : Launch} {e : Env} {s : State} {m : MethodId} {args : Array Value} {below : List Frame} {meth : Method} {c : Code} {Q : State → Prop} {A : Nat → Prop} {dC : Nat → ClassId} {dI : Nat → Nat → Nat} {a : Nat → Nat} {ac : Nat → ClassId} {n : Nat} {r : Int32 × (Unit)} (C : nd_C p l s m args c A (dC, dI) cX4_expanded 1 RX4 ow_dm_X4_expanded (dk_P ac)) (K : nd_Ki p l e (headSpec ow_dm_X4_expanded ({ frames := 2, cells := 0, slots := 0, locals := 48 })).room s m args below meth c Q A (dC, dI) cX4_expanded .int (Unit) (dw_P a ac) r) : dj_X4_expanded_0 p l e s m args below meth c Q A dC dI a ac (df_X4_expanded_0 n) r := by
  obtain ⟨hlt, hx, hb, hml, hown, hts, hN, hA, hK⟩ := id C
  intro v0 s0 H locs ls h hP hD hS hl
  unfold df_X4_expanded_0 at h
  refine lv_iload_n hx hb dX4_expanded_0 rfl (lv_at hl 0 rfl) ?_
  refine lv_iconst (v := 3) hx hb dX4_expanded_1 (by decide) ?_
  refine lv_iand hx hb dX4_expanded_2 ?_
  by_cases c1 : (v0 &&& 3) = 0
  · have h := nd_pos h c1
    refine lv_lookup (off := 25) (tgt := 28) hx hb dX4_expanded_3 (by decide) (by rw [c1]; decide) (by decide) ?_
    refine lv_iload_n hx hb dX4_expanded_28 rfl (lv_at hl 0 rfl) ?_
    obtain ⟨q2, s3, hq, h⟩ := nd_b2_e h
    have hPc : va_P (dC, dI) vwCl (dw_P a ac ()) H := nd_p0
    have hDc : va_D A (dw_P a ac ()) := nd_d0
    have hKc : va_K (dC, dI) vwCl (dk_P ac) s := nd_y0 hK
    have hFc : ∀ q, va_A (dw_P a ac ()) H.size q → A q := nd_r0 hS hA
    refine nd_cSi (As := [.int v0]) (rest := []) (q := q2) (w' := dw_P a ac s3) ⟨hx, hb, hml, hown, hts⟩ (fun sz => dm_X4_expandedFirst l hlt dC dI a ac n (v0) () hq sz) (cwS 1 hts gi_dm_X4_expanded_0 rfl rfl rfl (by decide +kernel) ⟨Nat.le_of_ble_eq_true rfl, Nat.le_of_ble_eq_true rfl⟩) hPc hDc hKc hS hA hN rfl hl.1 rfl (Nat.le_of_ble_eq_true rfl) dX4_expanded_29 (fun H locs hP1 hD1 hk1 hS => ?_)
    have hP := nd_n0 hP hk1
    exact K _ _ _ _ _ _ dX4_expanded_32 rfl (Option.some.inj h).symm hP hD hS
  have h := nd_neg h c1
  by_cases c5 : (v0 &&& 3) = 1
  · have h := nd_pos h c5
    refine lv_lookup (off := 30) (tgt := 33) hx hb dX4_expanded_3 (by decide) (by rw [c5]; decide) (by decide) ?_
    refine lv_iload_n hx hb dX4_expanded_33 rfl (lv_at hl 0 rfl) ?_
    refine lv_bipush (v := 13) hx hb dX4_expanded_34 (by decide) ?_
    refine lv_ishr hx hb dX4_expanded_36 ?_
    refine lv_iconst (v := 4) hx hb dX4_expanded_37 (by decide) ?_
    refine lv_icmp_ne (tgt := 48) hx hb dX4_expanded_38 (by decide) (fun c6 => ?_) (fun c6 => ?_)
    · have h := nd_neg h c6
      refine lv_iload_n hx hb dX4_expanded_48 rfl (lv_at hl 0 rfl) ?_
      obtain ⟨q7, s8, hq, h⟩ := nd_b2_e h
      have hPc : va_P (dC, dI) vwCl (dw_P a ac ()) H := nd_p0
      have hDc : va_D A (dw_P a ac ()) := nd_d0
      have hKc : va_K (dC, dI) vwCl (dk_P ac) s := nd_y0 hK
      have hFc : ∀ q, va_A (dw_P a ac ()) H.size q → A q := nd_r0 hS hA
      refine nd_cSi (As := [.int v0]) (rest := []) (q := q7) (w' := dw_P a ac s8) ⟨hx, hb, hml, hown, hts⟩ (fun sz => dm_X4_expandedSecond l hlt dC dI a ac n (v0) () hq sz) (cwS 1 hts gi_dm_X4_expanded_1 rfl rfl rfl (by decide +kernel) ⟨Nat.le_of_ble_eq_true rfl, Nat.le_of_ble_eq_true rfl⟩) hPc hDc hKc hS hA hN rfl hl.1 rfl (Nat.le_of_ble_eq_true rfl) dX4_expanded_49 (fun H locs hP1 hD1 hk1 hS => ?_)
      have hP := nd_n0 hP hk1
      exact (db_X4_expanded_52 C K) (q7) s0 _ _ _ h hP hD hS (lv_sub hl [] rfl)
    · have h := nd_pos h c6
      refine lv_iload_n hx hb dX4_expanded_41 rfl (lv_at hl 0 rfl) ?_
      obtain ⟨q10, s11, hq, h⟩ := nd_b2_e h
      have hPc : va_P (dC, dI) vwCl (dw_P a ac ()) H := nd_p0
      have hDc : va_D A (dw_P a ac ()) := nd_d0
      have hKc : va_K (dC, dI) vwCl (dk_P ac) s := nd_y0 hK
      have hFc : ∀ q, va_A (dw_P a ac ()) H.size q → A q := nd_r0 hS hA
      refine nd_cSi (As := [.int v0]) (rest := []) (q := q10) (w' := dw_P a ac s11) ⟨hx, hb, hml, hown, hts⟩ (fun sz => dm_X4_expandedSums l hlt dC dI a ac n (v0) () hq sz) (cwS 1 hts gi_dm_X4_expanded_2 rfl rfl rfl (by decide +kernel) ⟨Nat.le_of_ble_eq_true rfl, Nat.le_of_ble_eq_true rfl⟩) hPc hDc hKc hS hA hN rfl hl.1 rfl (Nat.le_of_ble_eq_true rfl) dX4_expanded_42 (fun H locs hP1 hD1 hk1 hS => ?_)
      have hP := nd_n0 hP hk1
      refine lv_goto (tgt := 52) hx hb dX4_expanded_45 (by decide) ?_
      exact (db_X4_expanded_52 C K) (q10) s0 _ _ _ h hP hD hS (lv_sub hl [] rfl)
  have h := nd_neg h c5
  refine lv_lookup (off := 50) (tgt := 53) hx hb dX4_expanded_3 (by decide) (show Op.lookupswitch.offset [(0, 25), (1, 30)] 50 ((v0 &&& 3) : Int32).toInt = 50 by rw [lv_osw c1 (by decide), lv_osw c5 (by decide)] <;> rfl) (by decide) ?_
  refine lv_iload_n hx hb dX4_expanded_53 rfl (lv_at hl 0 rfl) ?_
  obtain ⟨q13, s14, hq, h⟩ := nd_b2_e h
  have hPc : va_P (dC, dI) vwCl (dw_P a ac ()) H := nd_p0
  have hDc : va_D A (dw_P a ac ()) := nd_d0
  have hKc : va_K (dC, dI) vwCl (dk_P ac) s := nd_y0 hK
  have hFc : ∀ q, va_A (dw_P a ac ()) H.size q → A q := nd_r0 hS hA
  refine nd_cSi (As := [.int v0]) (rest := []) (q := q13) (w' := dw_P a ac s14) ⟨hx, hb, hml, hown, hts⟩ (fun sz => dm_X4_expandedThird l hlt dC dI a ac n (v0) () hq sz) (cwS 1 hts gi_dm_X4_expanded_3 rfl rfl rfl (by decide +kernel) ⟨Nat.le_of_ble_eq_true rfl, Nat.le_of_ble_eq_true rfl⟩) hPc hDc hKc hS hA hN rfl hl.1 rfl (Nat.le_of_ble_eq_true rfl) dX4_expanded_54 (fun H locs hP1 hD1 hk1 hS => ?_)
  have hP := nd_n0 hP hk1
  exact K _ _ _ _ _ _ dX4_expanded_57 rfl (Option.some.inj h).symm hP hD hS
set_option maxHeartbeats 40000000 in
set_option maxRecDepth 100000 in
theorem dm_X4_expanded (l : Launch) (hlt : l.stackTraces = false) (dC : Nat → ClassId) (dI : Nat → Nat → Nat) (a : Nat → Nat) (ac : Nat → ClassId) (n : Nat) (v0 : Int32) (s0 : Unit) {r : Int32 × (Unit)} (h : df_X4_expanded n v0 s0 = some r) (sz : Nat) : Met l yX4_expanded ow_dm_X4_expanded ({ frames := 2, cells := 0, slots := 0, locals := 48 }) (va_Pc [.int v0] (fun U => U.heap.size = sz ∧ va_P (dC, dI) vwCl (dw_P a ac s0) U.heap ∧ va_K (dC, dI) vwCl (dk_P ac) U ∧ va_D (fun _ => True) (dw_P a ac s0) ∧ nv_E (va_A (dw_P a ac s0) sz) U)) (va_Qi (fun x _ => x = r.1) (fun (_ : Unit) t => va_P (dC, dI) vwCl (dw_P a ac r.2) t.heap ∧ va_K (dC, dI) vwCl (dk_P ac) t ∧ va_D (va_A (dw_P a ac s0) sz) (dw_P a ac r.2)) (va_A (dw_P a ac s0) sz)) 0 0 (va_A (dw_P a ac s0) sz) := by
  refine Met.ofW (cc := cX4_expanded) (maxL := 1) (ret := (some .int)) (by decide) rfl ?_
  intro p e s m args below meth c s₁ B hml hv
  obtain ⟨rfl, hsz, hP, hK, hD0, hN⟩ := hv
  have hx := B.exec
  have hb := B.bytes
  have hr := B.returns
  have hts := atoms_spec (ws := ow_dm_X4_expanded) B.pre
  have hown : s.vm.findClass RX4 = some m.cls := findClass_of_methodNamed B.named
  have hlocks := B.notSynchronized
  subst hsz
  have hD := hD0.self (sz := s.heap.size)
  generalize hAe : va_A (dw_P a ac s0) s.heap.size = A at hD hN ⊢
  have hA : ∀ q : Nat, s.heap.size ≤ q → A q := fun q h => by rw [← hAe]; exact Or.inr h
  have hl := lv_entry ([.int v0]) (n := 1) (Nat.le_of_ble_eq_true rfl)
  rw [lg_entry_eq]
  generalize (lg_sl ([.int v0]) ++ List.replicate (1 - (lg_sl ([.int v0])).length) Slot.unset).toArray = ls at hl ⊢
  have hl : lv_has ls 1 [(0, .int v0)] := hl
  exact db_X4_expanded_0 (dC := dC) (dI := dI) (a := a) (ac := ac) (n := n) (r := r) ⟨hlt, hx, hb, hml, hown, hts, hN, hA, hK⟩ (fun pc v τ H locs ls d z er hP hD hS => by subst er; exact W.zret (v := v) hx hb hr z (fun t ht hW => ⟨⟨v, (), rfl, rfl, by rw [ht]; exact hP, va_K.moved hW.alike hK, hD⟩, hS.F ht⟩) hS.2.2 d) v0 s0 _ _ _ h hP hD va_S.rf (lv_sub hl [0] rfl)
def ow_dm_X6_byteAt : List Cond := .code yX6_byteAt cX6_byteAt 4 (some .int) :: ([.fieldLink RX6 17 "TimeMachine$Machine" "page" "[I", .fieldLink RX6 10 "TimeMachine$Machine" "word" "[I"] ++ (u_ws RX6 TX6 20 ++ []))
theorem gd_dm_X6_byteAt : ∀ w ∈ ow_dm_X6_byteAt, (w.onTables && w.keeps) = true ∨ ∃ ty, w = Cond.arrayClass ty := List.forall_mem_cons.mpr ⟨good_of_word rfl, List.forall_mem_append.mpr ⟨fun w h => good_of_word (List.all_eq_true.mp (by decide +kernel) w h), List.forall_mem_append.mpr ⟨gu_X6, fun _ h => nomatch h⟩⟩⟩
theorem hi_dm_X6_byteAt_X6 : ∀ w ∈ u_ws RX6 TX6 20, w ∈ ow_dm_X6_byteAt := fun w h => List.mem_cons_of_mem _ (List.mem_append_right _ (List.mem_append_left _ h))
def dj_X6_byteAt_0 (p : Program) (l : Launch) (e : Env) (s : State) (m : MethodId) (args : Array Value) (below : List Frame) (meth : Method) (c : Code) (Q : State → Prop) (A : Nat → Prop) (dC : Nat → ClassId) (dI : Nat → Nat → Nat) (a : Nat → Nat) (ac : Nat → ClassId) (g : Int32 → Int32 → (St × (St)) → Option (Int32 × (St × (St)))) (r : Int32 × (St × (St))) : Prop := ∀ (v0 : Int32) (v1 : Int32) (s0 : St × (St)) (H : Heap) (locs : List Loc) (ls : Array Slot), g v0 v1 s0 = some r → va_P (dC, dI) vwCl (dw_X6 a ac s0) H → va_D A (dw_X6 a ac s0) → va_S A s.heap H locs → lv_has ls 4 [(0, .ref (a 0)), (1, .int v0), (2, .int v1)] → W p l e (headSpec ow_dm_X6_byteAt ({ frames := 0, cells := 0, slots := 0, locals := 0 })).room s m args below meth c H locs 0 0 Q (F0 m 0 ls [])
set_option maxHeartbeats 40000000 in
set_option maxRecDepth 100000 in
theorem db_X6_byteAt_0 {p : Program} {l : Launch} {e : Env} {s : State} {m : MethodId} {args : Array Value} {below : List Frame} {meth : Method} {c : Code} {Q : State → Prop} {A : Nat → Prop} {dC : Nat → ClassId} {dI : Nat → Nat → Nat} {a : Nat → Nat} {ac : Nat → ClassId} {n : Nat} {r : Int32 × (St × (St))} (C : nd_C p l s m args c A (dC, dI) cX6_byteAt 4 RX6 ow_dm_X6_byteAt (dk_X6 ac)) (K : nd_Ki p l e (headSpec ow_dm_X6_byteAt ({ frames := 0, cells := 0, slots := 0, locals := 0 })).room s m args below meth c Q A (dC, dI) cX6_byteAt .int (St × (St)) (dw_X6 a ac) r) : dj_X6_byteAt_0 p l e s m args below meth c Q A dC dI a ac (df_X6_byteAt_0 n) r := by
  obtain ⟨hlt, hx, hb, hml, hown, hts, hN, hA, hK⟩ := id C
  intro v0 v1 s0 H locs ls h hP hD hS hl
  unfold df_X6_byteAt_0 at h
  refine lv_aload_n hx hb dX6_byteAt_0 rfl (lv_at hl 0 rfl) ?_
  refine va_get (D := (dC, dI)) (ci := 7) (v := .ref (a 3)) (C := RX6) (T := TX6) (N := 20) hx hb hts hi_dm_X6_byteAt_X6 hown hK hP 0 rfl rfl 2 (by decide) (hts (.fieldLink RX6 17 "TimeMachine$Machine" "page" "[I") (List.mem_of_getElem? (i := 1) rfl)) (fun _ h9 => h9) rfl dX6_byteAt_1 ?_
  refine lv_iload_n hx hb dX6_byteAt_4 rfl (lv_at hl 1 rfl) ?_
  refine lv_bipush (v := 6) hx hb dX6_byteAt_5 (by decide) ?_
  refine lv_ishl hx hb dX6_byteAt_7 ?_
  refine lv_iload_n hx hb dX6_byteAt_8 rfl (lv_at hl 2 rfl) ?_
  refine lv_bipush (v := 10) hx hb dX6_byteAt_9 (by decide) ?_
  refine lv_iushr hx hb dX6_byteAt_11 rfl ?_
  refine lv_bipush (v := 63) hx hb dX6_byteAt_12 (by decide) ?_
  refine lv_iand hx hb dX6_byteAt_14 ?_
  refine lv_ior hx hb dX6_byteAt_15 ?_
  obtain ⟨i1, h⟩ := nd_ck_e h
  refine va_iald (i := (((v0 : Int32) <<< ((6 : Int32) &&& 31)) ||| ((((v1 : Int32).toUInt32 >>> ((10 : Int32).toUInt32 &&& Int32.toUInt32 31)).toInt32) &&& 63))) hx hb hK hP 3 2 rfl rfl i1 dX6_byteAt_16 ?_
  refine lv_iconst (v := 3) hx hb dX6_byteAt_17 (by decide) ?_
  refine lv_ishr hx hb dX6_byteAt_18 ?_
  refine lv_topi (fun z2 ez2 => ?_)
  have h := nd_at h ez2
  refine lv_istore_n (lv' := [(3, .int z2), (0, .ref (a 0)), (1, .int v0), (2, .int v1)]) hx hb dX6_byteAt_19 rfl hl (by decide) rfl (fun ls hl => ?_)
  refine lv_aload_n hx hb dX6_byteAt_20 rfl (lv_at hl 1 rfl) ?_
  refine va_get (D := (dC, dI)) (ci := 7) (v := .ref (a 1)) (C := RX6) (T := TX6) (N := 20) hx hb hts hi_dm_X6_byteAt_X6 hown hK hP 0 rfl rfl 0 (by decide) (hts (.fieldLink RX6 10 "TimeMachine$Machine" "word" "[I") (List.mem_of_getElem? (i := 2) rfl)) (fun _ h9 => h9) rfl dX6_byteAt_21 ?_
  refine lv_iload_n hx hb dX6_byteAt_24 rfl (lv_at hl 0 rfl) ?_
  refine lv_bipush (v := 8) hx hb dX6_byteAt_25 (by decide) ?_
  refine lv_ishl hx hb dX6_byteAt_27 ?_
  refine lv_iload_n hx hb dX6_byteAt_28 rfl (lv_at hl 3 rfl) ?_
  refine lv_iconst (v := 2) hx hb dX6_byteAt_29 (by decide) ?_
  refine lv_iushr hx hb dX6_byteAt_30 rfl ?_
  refine lv_sipush (v := 255) hx hb dX6_byteAt_31 (by decide) ?_
  refine lv_iand hx hb dX6_byteAt_34 ?_
  refine lv_ior hx hb dX6_byteAt_35 ?_
  obtain ⟨i3, h⟩ := nd_ck_e h
  refine va_iald (i := (((z2 : Int32) <<< ((8 : Int32) &&& 31)) ||| ((((v1 : Int32).toUInt32 >>> ((2 : Int32).toUInt32 &&& Int32.toUInt32 31)).toInt32) &&& 255))) hx hb hK hP 1 0 rfl rfl i3 dX6_byteAt_36 ?_
  refine lv_bipush (v := 8) hx hb dX6_byteAt_37 (by decide) ?_
  refine lv_iload_n hx hb dX6_byteAt_39 rfl (lv_at hl 3 rfl) ?_
  refine lv_iconst (v := 3) hx hb dX6_byteAt_40 (by decide) ?_
  refine lv_iand hx hb dX6_byteAt_41 ?_
  refine lv_imul hx hb dX6_byteAt_42 ?_
  refine lv_iushr hx hb dX6_byteAt_43 rfl ?_
  refine lv_sipush (v := 255) hx hb dX6_byteAt_44 (by decide) ?_
  refine lv_iand hx hb dX6_byteAt_47 ?_
  exact K _ _ _ _ _ _ dX6_byteAt_48 rfl (Option.some.inj h).symm hP hD hS
