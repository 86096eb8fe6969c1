def ow_dm_X6_may : List Cond := Cond.code yX6_may cX6_may 4 (some .boolean) :: ([Cond.fieldLink RX6 17 "TimeMachine$Machine" "page" "[I"] ++ (u_ws RX6 TX6 20 ++ []))
theorem gd_dm_X6_may : ∀ w ∈ ow_dm_X6_may, (w.onTables && w.keeps) = true ∨ ∃ ty, w = Cond.arrayClass ty := List.forall_mem_cons.mpr ⟨good_of_word rfl, List.forall_mem_append.mpr ⟨fun w h => good_of_word (List.all_eq_true.mp (by decide +kernel) w h), List.forall_mem_append.mpr ⟨gu_X6, fun _ h => nomatch h⟩⟩⟩
theorem hi_dm_X6_may_X6 : ∀ w ∈ u_ws RX6 TX6 20, w ∈ ow_dm_X6_may := fun w h => List.mem_cons_of_mem _ (List.mem_append_right _ (List.mem_append_left _ h))
def dj_X6_may_31 (p : Program) (l : Launch) (e : Env) (s : State) (m : MethodId) (args : Array Value) (below : List Frame) (meth : Method) (c : Code) (Q : State → Prop) (A : Nat → Prop) (dC : Nat → ClassId) (dI : Nat → Nat → Nat) (a : Nat → Nat) (ac : Nat → ClassId) (g : Int32 → (St × (St)) → Option (Int32 × (St × (St)))) (r : Int32 × (St × (St))) : Prop := ∀ (y0 : Int32) (s0 : St × (St)) (H : Heap) (locs : List Loc) (ls : Array Slot), g y0 s0 = some r → va_P (dC, dI) vwCl (dw_X6 a ac s0) H → va_D A (dw_X6 a ac s0) → va_S A s.heap H locs → lv_has ls 4 [] → W p l e (headSpec ow_dm_X6_may ({ frames := 0, cells := 0, slots := 0, locals := 0 })).room s m args below meth c H locs 0 0 Q (F0 m 31 ls [.int y0])
def dj_X6_may_30 (p : Program) (l : Launch) (e : Env) (s : State) (m : MethodId) (args : Array Value) (below : List Frame) (meth : Method) (c : Code) (Q : State → Prop) (A : Nat → Prop) (dC : Nat → ClassId) (dI : Nat → Nat → Nat) (a : Nat → Nat) (ac : Nat → ClassId) (g : (St × (St)) → Option (Int32 × (St × (St)))) (r : Int32 × (St × (St))) : Prop := ∀ (s0 : St × (St)) (H : Heap) (locs : List Loc) (ls : Array Slot), g s0 = some r → va_P (dC, dI) vwCl (dw_X6 a ac s0) H → va_D A (dw_X6 a ac s0) → va_S A s.heap H locs → lv_has ls 4 [] → W p l e (headSpec ow_dm_X6_may ({ frames := 0, cells := 0, slots := 0, locals := 0 })).room s m args below meth c H locs 0 0 Q (F0 m 30 ls [])
def dj_X6_may_0 (p : Program) (l : Launch) (e : Env) (s : State) (m : MethodId) (args : Array Value) (below : List Frame) (meth : Method) (c : Code) (Q : State → Prop) (A : Nat → Prop) (dC : Nat → ClassId) (dI : Nat → Nat → Nat) (a : Nat → Nat) (ac : Nat → ClassId) (g : Int32 → Int32 → Int32 → (St × (St)) → Option (Int32 × (St × (St)))) (r : Int32 × (St × (St))) : Prop := ∀ (v0 : Int32) (v1 : Int32) (v2 : Int32) (s0 : St × (St)) (H : Heap) (locs : List Loc) (ls : Array Slot), g v0 v1 v2 s0 = some r → va_P (dC, dI) vwCl (dw_X6 a ac s0) H → va_D A (dw_X6 a ac s0) → va_S A s.heap H locs → lv_has ls 4 [(0, .ref (a 0)), (1, .int v0), (2, .int v1), (3, .int v2)] → W p l e (headSpec ow_dm_X6_may ({ frames := 0, cells := 0, slots := 0, locals := 0 })).room s m args below meth c H locs 0 0 Q (F0 m 0 ls [])
set_option maxHeartbeats 40000000 in
set_option maxRecDepth 100000 in
theorem db_X6_may_31 {p : Program} {l : Launch} {e : Env} {s : State} {m : MethodId} {args : Array Value} {below : List Frame} {meth : Method} {c : Code} {Q : State → Prop} {A : Nat → Prop} {dC : Nat → ClassId} {dI : Nat → Nat → Nat} {a : Nat → Nat} {ac : Nat → ClassId} {n : Nat} {r : Int32 × (St × (St))} (C : nd_C p l s m args c A (dC, dI) cX6_may 4 RX6 ow_dm_X6_may (dk_X6 ac)) (K : nd_Ki p l e (headSpec ow_dm_X6_may ({ frames := 0, cells := 0, slots := 0, locals := 0 })).room s m args below meth c Q A (dC, dI) cX6_may .boolean (St × (St)) (dw_X6 a ac) r) : dj_X6_may_31 p l e s m args below meth c Q A dC dI a ac (df_X6_may_31 n) r := by
  obtain ⟨hlt, hx, hb, hml, hown, hts, hN, hA, hK⟩ := id C
  intro y0 s0 H locs ls h hP hD hS hl
  unfold df_X6_may_31 at h
  obtain ⟨n2, h⟩ := nd_z_e ⟨_, rfl⟩ h
  exact K _ _ _ _ _ _ dX6_may_31 n2 (Option.some.inj h).symm hP hD hS
set_option maxHeartbeats 40000000 in
set_option maxRecDepth 100000 in
theorem db_X6_may_30 {p : Program} {l : Launch} {e : Env} {s : State} {m : MethodId} {args : Array Value} {below : List Frame} {meth : Method} {c : Code} {Q : State → Prop} {A : Nat → Prop} {dC : Nat → ClassId} {dI : Nat → Nat → Nat} {a : Nat → Nat} {ac : Nat → ClassId} {n : Nat} {r : Int32 × (St × (St))} (C : nd_C p l s m args c A (dC, dI) cX6_may 4 RX6 ow_dm_X6_may (dk_X6 ac)) (K : nd_Ki p l e (headSpec ow_dm_X6_may ({ frames := 0, cells := 0, slots := 0, locals := 0 })).room s m args below meth c Q A (dC, dI) cX6_may .boolean (St × (St)) (dw_X6 a ac) r) : dj_X6_may_30 p l e s m args below meth c Q A dC dI a ac (df_X6_may_30 n) r := by
  obtain ⟨hlt, hx, hb, hml, hown, hts, hN, hA, hK⟩ := id C
  intro s0 H locs ls h hP hD hS hl
  unfold df_X6_may_30 at h
  refine lv_iconst (v := 0) hx hb dX6_may_30 (by decide) ?_
  exact (db_X6_may_31 C K) (0) s0 _ _ _ h hP hD hS (lv_sub hl [] rfl)
set_option maxHeartbeats 40000000 in
set_option maxRecDepth 100000 in
theorem db_X6_may_0 {p : Program} {l : Launch} {e : Env} {s : State} {m : MethodId} {args : Array Value} {below : List Frame} {meth : Method} {c : Code} {Q : State → Prop} {A : Nat → Prop} {dC : Nat → ClassId} {dI : Nat → Nat → Nat} {a : Nat → Nat} {ac : Nat → ClassId} {n : Nat} {r : Int32 × (St × (St))} (C : nd_C p l s m args c A (dC, dI) cX6_may 4 RX6 ow_dm_X6_may (dk_X6 ac)) (K : nd_Ki p l e (headSpec ow_dm_X6_may ({ frames := 0, cells := 0, slots := 0, locals := 0 })).room s m args below meth c Q A (dC, dI) cX6_may .boolean (St × (St)) (dw_X6 a ac) r) : dj_X6_may_0 p l e s m args below meth c Q A dC dI a ac (df_X6_may_0 n) r := by
  obtain ⟨hlt, hx, hb, hml, hown, hts, hN, hA, hK⟩ := id C
  intro v0 v1 v2 s0 H locs ls h hP hD hS hl
  unfold df_X6_may_0 at h
  refine lv_iload_n hx hb dX6_may_0 rfl (lv_at hl 2 rfl) ?_
  refine lv_bipush (v := 16) hx hb dX6_may_1 (by decide) ?_
  refine lv_iushr hx hb dX6_may_3 rfl ?_
  refine lv_if_ne (tgt := 30) hx hb dX6_may_4 (by decide) (fun c1 => ?_) (fun c1 => ?_)
  · have h := nd_neg h c1
    exact (db_X6_may_30 C K)  s0 _ _ _ h hP hD hS (lv_sub hl [] rfl)
  · have h := nd_pos h c1
    refine lv_aload_n hx hb dX6_may_7 rfl (lv_at hl 0 rfl) ?_
    refine va_get (D := (dC, dI)) (ci := 7) (v := .ref (a 3)) (C := RX6) (T := TX6) (N := 20) hx hb hts hi_dm_X6_may_X6 hown hK hP 0 rfl rfl 2 (by decide) (hts (.fieldLink RX6 17 "TimeMachine$Machine" "page" "[I") (List.mem_of_getElem? (i := 1) rfl)) (fun _ h9 => h9) rfl dX6_may_8 ?_
    refine lv_iload_n hx hb dX6_may_11 rfl (lv_at hl 1 rfl) ?_
    refine lv_bipush (v := 6) hx hb dX6_may_12 (by decide) ?_
    refine lv_ishl hx hb dX6_may_14 ?_
    refine lv_iload_n hx hb dX6_may_15 rfl (lv_at hl 2 rfl) ?_
    refine lv_bipush (v := 10) hx hb dX6_may_16 (by decide) ?_
    refine lv_iushr hx hb dX6_may_18 rfl ?_
    refine lv_ior hx hb dX6_may_19 ?_
    obtain ⟨i3, h⟩ := nd_ck_e h
    refine va_iald (i := (((v0 : Int32) <<< ((6 : Int32) &&& 31)) ||| (((v1 : Int32).toUInt32 >>> ((10 : Int32).toUInt32 &&& Int32.toUInt32 31)).toInt32))) hx hb hK hP 3 2 rfl rfl i3 dX6_may_20 ?_
    refine lv_iload_n hx hb dX6_may_21 rfl (lv_at hl 3 rfl) ?_
    refine lv_iand hx hb dX6_may_22 ?_
    refine lv_if_eq (tgt := 30) hx hb dX6_may_23 (by decide) (fun c4 => ?_) (fun c4 => ?_)
    · have h := nd_pos h c4
      exact (db_X6_may_30 C K)  s0 _ _ _ h hP hD hS (lv_sub hl [] rfl)
    · have h := nd_neg h c4
      refine lv_iconst (v := 1) hx hb dX6_may_26 (by decide) ?_
      refine lv_goto (tgt := 31) hx hb dX6_may_27 (by decide) ?_
      exact (db_X6_may_31 C K) (1) s0 _ _ _ h hP hD hS (lv_sub hl [] rfl)
set_option maxHeartbeats 40000000 in
set_option maxRecDepth 100000 in
theorem dm_X6_may (l : Launch) (hlt : l.stackTraces = false) (dC : Nat → ClassId) (dI : Nat → Nat → Nat) (a : Nat → Nat) (ac : Nat → ClassId) (n : Nat) (v0 : Int32) (v1 : Int32) (v2 : Int32) (s0 : St × (St)) {r : Int32 × (St × (St))} (h : df_X6_may n v0 v1 v2 s0 = some r) (sz : Nat) : Met l yX6_may ow_dm_X6_may ({ frames := 0, cells := 0, slots := 0, locals := 0 }) (va_Pc [.ref (a 0), .int v0, .int v1, .int v2] (fun U => U.heap.size = sz ∧ va_P (dC, dI) vwCl (dw_X6 a ac s0) U.heap ∧ va_K (dC, dI) vwCl (dk_X6 ac) U ∧ va_D (fun _ => True) (dw_X6 a ac s0) ∧ nv_E dI (va_A (dw_X6 a ac s0) sz) U)) (va_Qi (fun x _ => x = r.1) (fun (_ : Unit) t => va_P (dC, dI) vwCl (dw_X6 a ac r.2) t.heap ∧ va_K (dC, dI) vwCl (dk_X6 ac) t ∧ va_D (va_A (dw_X6 a ac s0) sz) (dw_X6 a ac r.2)) (va_A (dw_X6 a ac s0) sz)) 0 0 (va_A (dw_X6 a ac s0) sz) := by
  refine Met.ofW (cc := cX6_may) (maxL := 4) (ret := (some .boolean)) (by decide) rfl ?_
  intro p e s m args below meth c s₁ B hml hv
  obtain ⟨rfl, hsz, hP, hK, hD0, hN⟩ := hv
  have hx := B.exec
  have hb := B.bytes
  have hr := B.returns
  have hts := atoms_spec (ws := ow_dm_X6_may) B.pre
  have hown : s.vm.findClass RX6 = some m.cls := findClass_of_methodNamed B.named
  have hlocks := B.notSynchronized
  subst hsz
  have hD := hD0.self (sz := s.heap.size)
  generalize hAe : va_A (dw_X6 a ac s0) s.heap.size = A at hD hN ⊢
  have hA : ∀ q : Nat, s.heap.size ≤ q → A q := fun q h => by rw [← hAe]; exact Or.inr h
  have hl := lv_entry ([.ref (a 0), .int v0, .int v1, .int v2]) (n := 4) (Nat.le_of_ble_eq_true rfl)
  rw [lg_entry_eq]
  generalize (lg_sl ([.ref (a 0), .int v0, .int v1, .int v2]) ++ List.replicate (4 - (lg_sl ([.ref (a 0), .int v0, .int v1, .int v2])).length) Slot.unset).toArray = ls at hl ⊢
  have hl : lv_has ls 4 [(0, .ref (a 0)), (1, .int v0), (2, .int v1), (3, .int v2)] := hl
  exact db_X6_may_0 (dC := dC) (dI := dI) (a := a) (ac := ac) (n := n) (r := r) ⟨hlt, hx, hb, hml, hown, hts, hN, hA, hK⟩ (fun pc v τ H locs ls d z er hP hD hS => by subst er; exact W.zret (v := v) hx hb hr z (fun t ht hW => ⟨⟨v, (), rfl, rfl, by rw [ht]; exact hP, va_K.moved hW.alike hK, hD⟩, hS.F ht⟩) hS.2.2 d) v0 v1 v2 s0 _ _ _ h hP hD va_S.rf (lv_sub hl [0, 1, 2, 3] rfl)
def ow_dm_X6_halfAt : List Cond := Cond.code yX6_halfAt cX6_halfAt 4 (some .int) :: ([Cond.fieldLink RX6 17 "TimeMachine$Machine" "page" "[I", Cond.fieldLink RX6 10 "TimeMachine$Machine" "word" "[I", Cond.constant RX6 112 (65535)] ++ (u_ws RX6 TX6 20 ++ []))
theorem gd_dm_X6_halfAt : ∀ w ∈ ow_dm_X6_halfAt, (w.onTables && w.keeps) = true ∨ ∃ ty, w = Cond.arrayClass ty := List.forall_mem_cons.mpr ⟨good_of_word rfl, List.forall_mem_append.mpr ⟨fun w h => good_of_word (List.all_eq_true.mp (by decide +kernel) w h), List.forall_mem_append.mpr ⟨gu_X6, fun _ h => nomatch h⟩⟩⟩
theorem hi_dm_X6_halfAt_X6 : ∀ w ∈ u_ws RX6 TX6 20, w ∈ ow_dm_X6_halfAt := fun w h => List.mem_cons_of_mem _ (List.mem_append_right _ (List.mem_append_left _ h))
def dj_X6_halfAt_0 (p : Program) (l : Launch) (e : Env) (s : State) (m : MethodId) (args : Array Value) (below : List Frame) (meth : Method) (c : Code) (Q : State → Prop) (A : Nat → Prop) (dC : Nat → ClassId) (dI : Nat → Nat → Nat) (a : Nat → Nat) (ac : Nat → ClassId) (g : Int32 → Int32 → (St × (St)) → Option (Int32 × (St × (St)))) (r : Int32 × (St × (St))) : Prop := ∀ (v0 : Int32) (v1 : Int32) (s0 : St × (St)) (H : Heap) (locs : List Loc) (ls : Array Slot), g v0 v1 s0 = some r → va_P (dC, dI) vwCl (dw_X6 a ac s0) H → va_D A (dw_X6 a ac s0) → va_S A s.heap H locs → lv_has ls 4 [(0, .ref (a 0)), (1, .int v0), (2, .int v1)] → W p l e (headSpec ow_dm_X6_halfAt ({ frames := 0, cells := 0, slots := 0, locals := 0 })).room s m args below meth c H locs 0 0 Q (F0 m 0 ls [])
set_option maxHeartbeats 40000000 in
set_option maxRecDepth 100000 in
theorem db_X6_halfAt_0 {p : Program} {l : Launch} {e : Env} {s : State} {m : MethodId} {args : Array Value} {below : List Frame} {meth : Method} {c : Code} {Q : State → Prop} {A : Nat → Prop} {dC : Nat → ClassId} {dI : Nat → Nat → Nat} {a : Nat → Nat} {ac : Nat → ClassId} {n : Nat} {r : Int32 × (St × (St))} (C : nd_C p l s m args c A (dC, dI) cX6_halfAt 4 RX6 ow_dm_X6_halfAt (dk_X6 ac)) (K : nd_Ki p l e (headSpec ow_dm_X6_halfAt ({ frames := 0, cells := 0, slots := 0, locals := 0 })).room s m args below meth c Q A (dC, dI) cX6_halfAt .int (St × (St)) (dw_X6 a ac) r) : dj_X6_halfAt_0 p l e s m args below meth c Q A dC dI a ac (df_X6_halfAt_0 n) r := by
  obtain ⟨hlt, hx, hb, hml, hown, hts, hN, hA, hK⟩ := id C
  intro v0 v1 s0 H locs ls h hP hD hS hl
  unfold df_X6_halfAt_0 at h
  refine lv_aload_n hx hb dX6_halfAt_0 rfl (lv_at hl 0 rfl) ?_
  refine va_get (D := (dC, dI)) (ci := 7) (v := .ref (a 3)) (C := RX6) (T := TX6) (N := 20) hx hb hts hi_dm_X6_halfAt_X6 hown hK hP 0 rfl rfl 2 (by decide) (hts (.fieldLink RX6 17 "TimeMachine$Machine" "page" "[I") (List.mem_of_getElem? (i := 1) rfl)) (fun _ h9 => h9) rfl dX6_halfAt_1 ?_
  refine lv_iload_n hx hb dX6_halfAt_4 rfl (lv_at hl 1 rfl) ?_
  refine lv_bipush (v := 6) hx hb dX6_halfAt_5 (by decide) ?_
  refine lv_ishl hx hb dX6_halfAt_7 ?_
  refine lv_iload_n hx hb dX6_halfAt_8 rfl (lv_at hl 2 rfl) ?_
  refine lv_bipush (v := 10) hx hb dX6_halfAt_9 (by decide) ?_
  refine lv_iushr hx hb dX6_halfAt_11 rfl ?_
  refine lv_bipush (v := 63) hx hb dX6_halfAt_12 (by decide) ?_
  refine lv_iand hx hb dX6_halfAt_14 ?_
  refine lv_ior hx hb dX6_halfAt_15 ?_
  obtain ⟨i1, h⟩ := nd_ck_e h
  refine va_iald (i := (((v0 : Int32) <<< ((6 : Int32) &&& 31)) ||| ((((v1 : Int32).toUInt32 >>> ((10 : Int32).toUInt32 &&& Int32.toUInt32 31)).toInt32) &&& 63))) hx hb hK hP 3 2 rfl rfl i1 dX6_halfAt_16 ?_
  refine lv_iconst (v := 3) hx hb dX6_halfAt_17 (by decide) ?_
  refine lv_ishr hx hb dX6_halfAt_18 ?_
  refine lv_topi (fun z2 ez2 => ?_)
  have h := nd_at h ez2
  refine lv_istore_n (lv' := [(3, .int z2), (0, .ref (a 0)), (1, .int v0), (2, .int v1)]) hx hb dX6_halfAt_19 rfl hl (by decide) rfl (fun ls hl => ?_)
  refine lv_aload_n hx hb dX6_halfAt_20 rfl (lv_at hl 1 rfl) ?_
  refine va_get (D := (dC, dI)) (ci := 7) (v := .ref (a 1)) (C := RX6) (T := TX6) (N := 20) hx hb hts hi_dm_X6_halfAt_X6 hown hK hP 0 rfl rfl 0 (by decide) (hts (.fieldLink RX6 10 "TimeMachine$Machine" "word" "[I") (List.mem_of_getElem? (i := 2) rfl)) (fun _ h9 => h9) rfl dX6_halfAt_21 ?_
  refine lv_iload_n hx hb dX6_halfAt_24 rfl (lv_at hl 0 rfl) ?_
  refine lv_bipush (v := 8) hx hb dX6_halfAt_25 (by decide) ?_
  refine lv_ishl hx hb dX6_halfAt_27 ?_
  refine lv_iload_n hx hb dX6_halfAt_28 rfl (lv_at hl 3 rfl) ?_
  refine lv_iconst (v := 2) hx hb dX6_halfAt_29 (by decide) ?_
  refine lv_iushr hx hb dX6_halfAt_30 rfl ?_
  refine lv_sipush (v := 255) hx hb dX6_halfAt_31 (by decide) ?_
  refine lv_iand hx hb dX6_halfAt_34 ?_
  refine lv_ior hx hb dX6_halfAt_35 ?_
  obtain ⟨i3, h⟩ := nd_ck_e h
  refine va_iald (i := (((z2 : Int32) <<< ((8 : Int32) &&& 31)) ||| ((((v1 : Int32).toUInt32 >>> ((2 : Int32).toUInt32 &&& Int32.toUInt32 31)).toInt32) &&& 255))) hx hb hK hP 1 0 rfl rfl i3 dX6_halfAt_36 ?_
  refine lv_bipush (v := 8) hx hb dX6_halfAt_37 (by decide) ?_
  refine lv_iload_n hx hb dX6_halfAt_39 rfl (lv_at hl 3 rfl) ?_
  refine lv_iconst (v := 2) hx hb dX6_halfAt_40 (by decide) ?_
  refine lv_iand hx hb dX6_halfAt_41 ?_
  refine lv_imul hx hb dX6_halfAt_42 ?_
  refine lv_iushr hx hb dX6_halfAt_43 rfl ?_
  refine lv_ldc hx hb hown (hts (.constant RX6 112 (65535)) (List.mem_of_getElem? (i := 3) rfl)) dX6_halfAt_44 ?_
  refine lv_iand hx hb dX6_halfAt_46 ?_
  exact K _ _ _ _ _ _ dX6_halfAt_47 rfl (Option.some.inj h).symm hP hD hS
set_option maxHeartbeats 40000000 in
set_option maxRecDepth 100000 in
theorem dm_X6_halfAt (l : Launch) (hlt : l.stackTraces = false) (dC : Nat → ClassId) (dI : Nat → Nat → Nat) (a : Nat → Nat) (ac : Nat → ClassId) (n : Nat) (v0 : Int32) (v1 : Int32) (s0 : St × (St)) {r : Int32 × (St × (St))} (h : df_X6_halfAt n v0 v1 s0 = some r) (sz : Nat) : Met l yX6_halfAt ow_dm_X6_halfAt ({ frames := 0, cells := 0, slots := 0, locals := 0 }) (va_Pc [.ref (a 0), .int v0, .int v1] (fun U => U.heap.size = sz ∧ va_P (dC, dI) vwCl (dw_X6 a ac s0) U.heap ∧ va_K (dC, dI) vwCl (dk_X6 ac) U ∧ va_D (fun _ => True) (dw_X6 a ac s0) ∧ nv_E dI (va_A (dw_X6 a ac s0) sz) U)) (va_Qi (fun x _ => x = r.1) (fun (_ : Unit) t => va_P (dC, dI) vwCl (dw_X6 a ac r.2) t.heap ∧ va_K (dC, dI) vwCl (dk_X6 ac) t ∧ va_D (va_A (dw_X6 a ac s0) sz) (dw_X6 a ac r.2)) (va_A (dw_X6 a ac s0) sz)) 0 0 (va_A (dw_X6 a ac s0) sz) := by
  refine Met.ofW (cc := cX6_halfAt) (maxL := 4) (ret := (some .int)) (by decide) rfl ?_
  intro p e s m args below meth c s₁ B hml hv
  obtain ⟨rfl, hsz, hP, hK, hD0, hN⟩ := hv
  have hx := B.exec
  have hb := B.bytes
  have hr := B.returns
  have hts := atoms_spec (ws := ow_dm_X6_halfAt) B.pre
  have hown : s.vm.findClass RX6 = some m.cls := findClass_of_methodNamed B.named
  have hlocks := B.notSynchronized
  subst hsz
  have hD := hD0.self (sz := s.heap.size)
  generalize hAe : va_A (dw_X6 a ac s0) s.heap.size = A at hD hN ⊢
  have hA : ∀ q : Nat, s.heap.size ≤ q → A q := fun q h => by rw [← hAe]; exact Or.inr h
  have hl := lv_entry ([.ref (a 0), .int v0, .int v1]) (n := 4) (Nat.le_of_ble_eq_true rfl)
  rw [lg_entry_eq]
  generalize (lg_sl ([.ref (a 0), .int v0, .int v1]) ++ List.replicate (4 - (lg_sl ([.ref (a 0), .int v0, .int v1])).length) Slot.unset).toArray = ls at hl ⊢
  have hl : lv_has ls 4 [(0, .ref (a 0)), (1, .int v0), (2, .int v1)] := hl
  exact db_X6_halfAt_0 (dC := dC) (dI := dI) (a := a) (ac := ac) (n := n) (r := r) ⟨hlt, hx, hb, hml, hown, hts, hN, hA, hK⟩ (fun pc v τ H locs ls d z er hP hD hS => by subst er; exact W.zret (v := v) hx hb hr z (fun t ht hW => ⟨⟨v, (), rfl, rfl, by rw [ht]; exact hP, va_K.moved hW.alike hK, hD⟩, hS.F ht⟩) hS.2.2 d) v0 v1 s0 _ _ _ h hP hD va_S.rf (lv_sub hl [0, 1, 2] rfl)
def ow_dm_X4_number : List Cond := Cond.code yX4_number cX4_number 4 (some .int) :: ([] ++ [])
theorem gd_dm_X4_number : ∀ w ∈ ow_dm_X4_number, (w.onTables && w.keeps) = true ∨ ∃ ty, w = Cond.arrayClass ty := List.forall_mem_cons.mpr ⟨good_of_word rfl, List.forall_mem_append.mpr ⟨fun w h => good_of_word (List.all_eq_true.mp (by decide +kernel) w h), fun _ h => nomatch h⟩⟩
def dj_X4_number_0 (p : Program) (l : Launch) (e : Env) (s : State) (m : MethodId) (args : Array Value) (below : List Frame) (meth : Method) (c : Code) (Q : State → Prop) (A : Nat → Prop) (dC : Nat → ClassId) (dI : Nat → Nat → Nat) (a : Nat → Nat) (ac : Nat → ClassId) (g : Int32 → Int32 → Int32 → Int32 → (Unit) → Option (Int32 × (Unit))) (r : Int32 × (Unit)) : Prop := ∀ (v0 : Int32) (v1 : Int32) (v2 : Int32) (v3 : Int32) (s0 : Unit) (H : Heap) (locs : List Loc) (ls : Array Slot), g v0 v1 v2 v3 s0 = some r → va_P (dC, dI) vwCl (dw_P a ac s0) H → va_D A (dw_P a ac s0) → va_S A s.heap H locs → lv_has ls 4 [(0, .int v0), (1, .int v1), (2, .int v2), (3, .int v3)] → W p l e (headSpec ow_dm_X4_number ({ frames := 0, cells := 0, slots := 0, locals := 0 })).room s m args below meth c H locs 0 0 Q (F0 m 0 ls [])
set_option maxHeartbeats 40000000 in
set_option maxRecDepth 100000 in
theorem db_X4_number_0 {p : Program} {l : Launch} {e : Env} {s : State} {m : MethodId} {args : Array Value} {below : List Frame} {meth : Method} {c : Code} {Q : State → Prop} {A : Nat → Prop} {dC : Nat → ClassId} {dI : Nat → Nat → Nat} {a : Nat → Nat} {ac : Nat → ClassId} {n : Nat} {r : Int32 × (Unit)} (C : nd_C p l s m args c A (dC, dI) cX4_number 4 RX4 ow_dm_X4_number (dk_P ac)) (K : nd_Ki p l e (headSpec ow_dm_X4_number ({ frames := 0, cells := 0, slots := 0, locals := 0 })).room s m args below meth c Q A (dC, dI) cX4_number .int (Unit) (dw_P a ac) r) : dj_X4_number_0 p l e s m args below meth c Q A dC dI a ac (df_X4_number_0 n) r := by
  obtain ⟨hlt, hx, hb, hml, hown, hts, hN, hA, hK⟩ := id C
  intro v0 v1 v2 v3 s0 H locs ls h hP hD hS hl
  unfold df_X4_number_0 at h
  refine lv_iload_n hx hb dX4_number_0 rfl (lv_at hl 0 rfl) ?_
  refine lv_bipush (v := 20) hx hb dX4_number_1 (by decide) ?_
  refine lv_ishl hx hb dX4_number_3 ?_
  refine lv_iload_n hx hb dX4_number_4 rfl (lv_at hl 1 rfl) ?_
  refine lv_bipush (v := 15) hx hb dX4_number_5 (by decide) ?_
  refine lv_ishl hx hb dX4_number_7 ?_
  refine lv_ior hx hb dX4_number_8 ?_
  refine lv_iload_n hx hb dX4_number_9 rfl (lv_at hl 2 rfl) ?_
  refine lv_bipush (v := 12) hx hb dX4_number_10 (by decide) ?_
  refine lv_ishl hx hb dX4_number_12 ?_
  refine lv_ior hx hb dX4_number_13 ?_
  refine lv_iload_n hx hb dX4_number_14 rfl (lv_at hl 3 rfl) ?_
  refine lv_bipush (v := 7) hx hb dX4_number_15 (by decide) ?_
  refine lv_ishl hx hb dX4_number_17 ?_
  refine lv_ior hx hb dX4_number_18 ?_
  refine lv_bipush (v := 19) hx hb dX4_number_19 (by decide) ?_
  refine lv_ior hx hb dX4_number_21 ?_
  exact K _ _ _ _ _ _ dX4_number_22 rfl (Option.some.inj h).symm hP hD hS
set_option maxHeartbeats 40000000 in
set_option maxRecDepth 100000 in
theorem dm_X4_number (l : Launch) (hlt : l.stackTraces = false) (dC : Nat → ClassId) (dI : Nat → Nat → Nat) (a : Nat → Nat) (ac : Nat → ClassId) (n : Nat) (v0 : Int32) (v1 : Int32) (v2 : Int32) (v3 : Int32) (s0 : Unit) {r : Int32 × (Unit)} (h : df_X4_number n v0 v1 v2 v3 s0 = some r) (sz : Nat) : Met l yX4_number ow_dm_X4_number ({ frames := 0, cells := 0, slots := 0, locals := 0 }) (va_Pc [.int v0, .int v1, .int v2, .int v3] (fun U => U.heap.size = sz ∧ va_P (dC, dI) vwCl (dw_P a ac s0) U.heap ∧ va_K (dC, dI) vwCl (dk_P ac) U ∧ va_D (fun _ => True) (dw_P a ac s0) ∧ nv_E dI (va_A (dw_P a ac s0) sz) U)) (va_Qi (fun x _ => x = r.1) (fun (_ : Unit) t => va_P (dC, dI) vwCl (dw_P a ac r.2) t.heap ∧ va_K (dC, dI) vwCl (dk_P ac) t ∧ va_D (va_A (dw_P a ac s0) sz) (dw_P a ac r.2)) (va_A (dw_P a ac s0) sz)) 0 0 (va_A (dw_P a ac s0) sz) := by
  refine Met.ofW (cc := cX4_number) (maxL := 4) (ret := (some .int)) (by decide) rfl ?_
  intro p e s m args below meth c s₁ B hml hv
  obtain ⟨rfl, hsz, hP, hK, hD0, hN⟩ := hv
  have hx := B.exec
  have hb := B.bytes
  have hr := B.returns
  have hts := atoms_spec (ws := ow_dm_X4_number) B.pre
  have hown : s.vm.findClass RX4 = some m.cls := findClass_of_methodNamed B.named
  have hlocks := B.notSynchronized
  subst hsz
  have hD := hD0.self (sz := s.heap.size)
  generalize hAe : va_A (dw_P a ac s0) s.heap.size = A at hD hN ⊢
  have hA : ∀ q : Nat, s.heap.size ≤ q → A q := fun q h => by rw [← hAe]; exact Or.inr h
  have hl := lv_entry ([.int v0, .int v1, .int v2, .int v3]) (n := 4) (Nat.le_of_ble_eq_true rfl)
  rw [lg_entry_eq]
  generalize (lg_sl ([.int v0, .int v1, .int v2, .int v3]) ++ List.replicate (4 - (lg_sl ([.int v0, .int v1, .int v2, .int v3])).length) Slot.unset).toArray = ls at hl ⊢
  have hl : lv_has ls 4 [(0, .int v0), (1, .int v1), (2, .int v2), (3, .int v3)] := hl
  exact db_X4_number_0 (dC := dC) (dI := dI) (a := a) (ac := ac) (n := n) (r := r) ⟨hlt, hx, hb, hml, hown, hts, hN, hA, hK⟩ (fun pc v τ H locs ls d z er hP hD hS => by subst er; exact W.zret (v := v) hx hb hr z (fun t ht hW => ⟨⟨v, (), rfl, rfl, by rw [ht]; exact hP, va_K.moved hW.alike hK, hD⟩, hS.F ht⟩) hS.2.2 d) v0 v1 v2 v3 s0 _ _ _ h hP hD va_S.rf (lv_sub hl [0, 1, 2, 3] rfl)
def ow_dm_X4_loading : List Cond := Cond.code yX4_loading cX4_loading 3 (some .int) :: ([] ++ [])
theorem gd_dm_X4_loading : ∀ w ∈ ow_dm_X4_loading, (w.onTables && w.keeps) = true ∨ ∃ ty, w = Cond.arrayClass ty := List.forall_mem_cons.mpr ⟨good_of_word rfl, List.forall_mem_append.mpr ⟨fun w h => good_of_word (List.all_eq_true.mp (by decide +kernel) w h), fun _ h => nomatch h⟩⟩
def dj_X4_loading_0 (p : Program) (l : Launch) (e : Env) (s : State) (m : MethodId) (args : Array Value) (below : List Frame) (meth : Method) (c : Code) (Q : State → Prop) (A : Nat → Prop) (dC : Nat → ClassId) (dI : Nat → Nat → Nat) (a : Nat → Nat) (ac : Nat → ClassId) (g : Int32 → Int32 → Int32 → (Unit) → Option (Int32 × (Unit))) (r : Int32 × (Unit)) : Prop := ∀ (v0 : Int32) (v1 : Int32) (v2 : Int32) (s0 : Unit) (H : Heap) (locs : List Loc) (ls : Array Slot), g v0 v1 v2 s0 = some r → va_P (dC, dI) vwCl (dw_P a ac s0) H → va_D A (dw_P a ac s0) → va_S A s.heap H locs → lv_has ls 3 [(0, .int v0), (1, .int v1), (2, .int v2)] → W p l e (headSpec ow_dm_X4_loading ({ frames := 0, cells := 0, slots := 0, locals := 0 })).room s m args below meth c H locs 0 0 Q (F0 m 0 ls [])
set_option maxHeartbeats 40000000 in
set_option maxRecDepth 100000 in
theorem db_X4_loading_0 {p : Program} {l : Launch} {e : Env} {s : State} {m : MethodId} {args : Array Value} {below : List Frame} {meth : Method} {c : Code} {Q : State → Prop} {A : Nat → Prop} {dC : Nat → ClassId} {dI : Nat → Nat → Nat} {a : Nat → Nat} {ac : Nat → ClassId} {n : Nat} {r : Int32 × (Unit)} (C : nd_C p l s m args c A (dC, dI) cX4_loading 3 RX4 ow_dm_X4_loading (dk_P ac)) (K : nd_Ki p l e (headSpec ow_dm_X4_loading ({ frames := 0, cells := 0, slots := 0, locals := 0 })).room s m args below meth c Q A (dC, dI) cX4_loading .int (Unit) (dw_P a ac) r) : dj_X4_loading_0 p l e s m args below meth c Q A dC dI a ac (df_X4_loading_0 n) r := by
  obtain ⟨hlt, hx, hb, hml, hown, hts, hN, hA, hK⟩ := id C
  intro v0 v1 v2 s0 H locs ls h hP hD hS hl
  unfold df_X4_loading_0 at h
  refine lv_iload_n hx hb dX4_loading_0 rfl (lv_at hl 0 rfl) ?_
  refine lv_bipush (v := 20) hx hb dX4_loading_1 (by decide) ?_
  refine lv_ishl hx hb dX4_loading_3 ?_
  refine lv_iload_n hx hb dX4_loading_4 rfl (lv_at hl 1 rfl) ?_
  refine lv_bipush (v := 15) hx hb dX4_loading_5 (by decide) ?_
  refine lv_ishl hx hb dX4_loading_7 ?_
  refine lv_ior hx hb dX4_loading_8 ?_
  refine lv_sipush (v := 8192) hx hb dX4_loading_9 (by decide) ?_
  refine lv_ior hx hb dX4_loading_12 ?_
  refine lv_iload_n hx hb dX4_loading_13 rfl (lv_at hl 2 rfl) ?_
  refine lv_bipush (v := 7) hx hb dX4_loading_14 (by decide) ?_
  refine lv_ishl hx hb dX4_loading_16 ?_
  refine lv_ior hx hb dX4_loading_17 ?_
  refine lv_iconst (v := 3) hx hb dX4_loading_18 (by decide) ?_
  refine lv_ior hx hb dX4_loading_19 ?_
  exact K _ _ _ _ _ _ dX4_loading_20 rfl (Option.some.inj h).symm hP hD hS
set_option maxHeartbeats 40000000 in
set_option maxRecDepth 100000 in
theorem dm_X4_loading (l : Launch) (hlt : l.stackTraces = false) (dC : Nat → ClassId) (dI : Nat → Nat → Nat) (a : Nat → Nat) (ac : Nat → ClassId) (n : Nat) (v0 : Int32) (v1 : Int32) (v2 : Int32) (s0 : Unit) {r : Int32 × (Unit)} (h : df_X4_loading n v0 v1 v2 s0 = some r) (sz : Nat) : Met l yX4_loading ow_dm_X4_loading ({ frames := 0, cells := 0, slots := 0, locals := 0 }) (va_Pc [.int v0, .int v1, .int v2] (fun U => U.heap.size = sz ∧ va_P (dC, dI) vwCl (dw_P a ac s0) U.heap ∧ va_K (dC, dI) vwCl (dk_P ac) U ∧ va_D (fun _ => True) (dw_P a ac s0) ∧ nv_E dI (va_A (dw_P a ac s0) sz) U)) (va_Qi (fun x _ => x = r.1) (fun (_ : Unit) t => va_P (dC, dI) vwCl (dw_P a ac r.2) t.heap ∧ va_K (dC, dI) vwCl (dk_P ac) t ∧ va_D (va_A (dw_P a ac s0) sz) (dw_P a ac r.2)) (va_A (dw_P a ac s0) sz)) 0 0 (va_A (dw_P a ac s0) sz) := by
  refine Met.ofW (cc := cX4_loading) (maxL := 3) (ret := (some .int)) (by decide) rfl ?_
  intro p e s m args below meth c s₁ B hml hv
  obtain ⟨rfl, hsz, hP, hK, hD0, hN⟩ := hv
  have hx := B.exec
  have hb := B.bytes
  have hr := B.returns
  have hts := atoms_spec (ws := ow_dm_X4_loading) B.pre
  have hown : s.vm.findClass RX4 = some m.cls := findClass_of_methodNamed B.named
  have hlocks := B.notSynchronized
  subst hsz
  have hD := hD0.self (sz := s.heap.size)
  generalize hAe : va_A (dw_P a ac s0) s.heap.size = A at hD hN ⊢
  have hA : ∀ q : Nat, s.heap.size ≤ q → A q := fun q h => by rw [← hAe]; exact Or.inr h
  have hl := lv_entry ([.int v0, .int v1, .int v2]) (n := 3) (Nat.le_of_ble_eq_true rfl)
  rw [lg_entry_eq]
  generalize (lg_sl ([.int v0, .int v1, .int v2]) ++ List.replicate (3 - (lg_sl ([.int v0, .int v1, .int v2])).length) Slot.unset).toArray = ls at hl ⊢
  have hl : lv_has ls 3 [(0, .int v0), (1, .int v1), (2, .int v2)] := hl
  exact db_X4_loading_0 (dC := dC) (dI := dI) (a := a) (ac := ac) (n := n) (r := r) ⟨hlt, hx, hb, hml, hown, hts, hN, hA, hK⟩ (fun pc v τ H locs ls d z er hP hD hS => by subst er; exact W.zret (v := v) hx hb hr z (fun t ht hW => ⟨⟨v, (), rfl, rfl, by rw [ht]; exact hP, va_K.moved hW.alike hK, hD⟩, hS.F ht⟩) hS.2.2 d) v0 v1 v2 s0 _ _ _ h hP hD va_S.rf (lv_sub hl [0, 1, 2] rfl)
def ow_dm_X4_storing : List Cond := Cond.code yX4_storing cX4_storing 3 (some .int) :: ([] ++ [])
theorem gd_dm_X4_storing : ∀ w ∈ ow_dm_X4_storing, (w.onTables && w.keeps) = true ∨ ∃ ty, w = Cond.arrayClass ty := List.forall_mem_cons.mpr ⟨good_of_word rfl, List.forall_mem_append.mpr ⟨fun w h => good_of_word (List.all_eq_true.mp (by decide +kernel) w h), fun _ h => nomatch h⟩⟩
def dj_X4_storing_0 (p : Program) (l : Launch) (e : Env) (s : State) (m : MethodId) (args : Array Value) (below : List Frame) (meth : Method) (c : Code) (Q : State → Prop) (A : Nat → Prop) (dC : Nat → ClassId) (dI : Nat → Nat → Nat) (a : Nat → Nat) (ac : Nat → ClassId) (g : Int32 → Int32 → Int32 → (Unit) → Option (Int32 × (Unit))) (r : Int32 × (Unit)) : Prop := ∀ (v0 : Int32) (v1 : Int32) (v2 : Int32) (s0 : Unit) (H : Heap) (locs : List Loc) (ls : Array Slot), g v0 v1 v2 s0 = some r → va_P (dC, dI) vwCl (dw_P a ac s0) H → va_D A (dw_P a ac s0) → va_S A s.heap H locs → lv_has ls 3 [(0, .int v0), (1, .int v1), (2, .int v2)] → W p l e (headSpec ow_dm_X4_storing ({ frames := 0, cells := 0, slots := 0, locals := 0 })).room s m args below meth c H locs 0 0 Q (F0 m 0 ls [])
set_option maxHeartbeats 40000000 in
set_option maxRecDepth 100000 in
theorem db_X4_storing_0 {p : Program} {l : Launch} {e : Env} {s : State} {m : MethodId} {args : Array Value} {below : List Frame} {meth : Method} {c : Code} {Q : State → Prop} {A : Nat → Prop} {dC : Nat → ClassId} {dI : Nat → Nat → Nat} {a : Nat → Nat} {ac : Nat → ClassId} {n : Nat} {r : Int32 × (Unit)} (C : nd_C p l s m args c A (dC, dI) cX4_storing 3 RX4 ow_dm_X4_storing (dk_P ac)) (K : nd_Ki p l e (headSpec ow_dm_X4_storing ({ frames := 0, cells := 0, slots := 0, locals := 0 })).room s m args below meth c Q A (dC, dI) cX4_storing .int (Unit) (dw_P a ac) r) : dj_X4_storing_0 p l e s m args below meth c Q A dC dI a ac (df_X4_storing_0 n) r := by
  obtain ⟨hlt, hx, hb, hml, hown, hts, hN, hA, hK⟩ := id C
  intro v0 v1 v2 s0 H locs ls h hP hD hS hl
  unfold df_X4_storing_0 at h
  refine lv_iload_n hx hb dX4_storing_0 rfl (lv_at hl 0 rfl) ?_
  refine lv_iconst (v := 5) hx hb dX4_storing_1 (by decide) ?_
  refine lv_ishr hx hb dX4_storing_2 ?_
  refine lv_bipush (v := 25) hx hb dX4_storing_3 (by decide) ?_
  refine lv_ishl hx hb dX4_storing_5 ?_
  refine lv_iload_n hx hb dX4_storing_6 rfl (lv_at hl 2 rfl) ?_
  refine lv_bipush (v := 20) hx hb dX4_storing_7 (by decide) ?_
  refine lv_ishl hx hb dX4_storing_9 ?_
  refine lv_ior hx hb dX4_storing_10 ?_
  refine lv_iload_n hx hb dX4_storing_11 rfl (lv_at hl 1 rfl) ?_
  refine lv_bipush (v := 15) hx hb dX4_storing_12 (by decide) ?_
  refine lv_ishl hx hb dX4_storing_14 ?_
  refine lv_ior hx hb dX4_storing_15 ?_
  refine lv_sipush (v := 8192) hx hb dX4_storing_16 (by decide) ?_
  refine lv_ior hx hb dX4_storing_19 ?_
  refine lv_iload_n hx hb dX4_storing_20 rfl (lv_at hl 0 rfl) ?_
  refine lv_bipush (v := 31) hx hb dX4_storing_21 (by decide) ?_
  refine lv_iand hx hb dX4_storing_23 ?_
  refine lv_bipush (v := 7) hx hb dX4_storing_24 (by decide) ?_
  refine lv_ishl hx hb dX4_storing_26 ?_
  refine lv_ior hx hb dX4_storing_27 ?_
  refine lv_bipush (v := 35) hx hb dX4_storing_28 (by decide) ?_
  refine lv_ior hx hb dX4_storing_30 ?_
  exact K _ _ _ _ _ _ dX4_storing_31 rfl (Option.some.inj h).symm hP hD hS
set_option maxHeartbeats 40000000 in
set_option maxRecDepth 100000 in
theorem dm_X4_storing (l : Launch) (hlt : l.stackTraces = false) (dC : Nat → ClassId) (dI : Nat → Nat → Nat) (a : Nat → Nat) (ac : Nat → ClassId) (n : Nat) (v0 : Int32) (v1 : Int32) (v2 : Int32) (s0 : Unit) {r : Int32 × (Unit)} (h : df_X4_storing n v0 v1 v2 s0 = some r) (sz : Nat) : Met l yX4_storing ow_dm_X4_storing ({ frames := 0, cells := 0, slots := 0, locals := 0 }) (va_Pc [.int v0, .int v1, .int v2] (fun U => U.heap.size = sz ∧ va_P (dC, dI) vwCl (dw_P a ac s0) U.heap ∧ va_K (dC, dI) vwCl (dk_P ac) U ∧ va_D (fun _ => True) (dw_P a ac s0) ∧ nv_E dI (va_A (dw_P a ac s0) sz) U)) (va_Qi (fun x _ => x = r.1) (fun (_ : Unit) t => va_P (dC, dI) vwCl (dw_P a ac r.2) t.heap ∧ va_K (dC, dI) vwCl (dk_P ac) t ∧ va_D (va_A (dw_P a ac s0) sz) (dw_P a ac r.2)) (va_A (dw_P a ac s0) sz)) 0 0 (va_A (dw_P a ac s0) sz) := by
  refine Met.ofW (cc := cX4_storing) (maxL := 3) (ret := (some .int)) (by decide) rfl ?_
  intro p e s m args below meth c s₁ B hml hv
  obtain ⟨rfl, hsz, hP, hK, hD0, hN⟩ := hv
  have hx := B.exec
  have hb := B.bytes
  have hr := B.returns
  have hts := atoms_spec (ws := ow_dm_X4_storing) B.pre
  have hown : s.vm.findClass RX4 = some m.cls := findClass_of_methodNamed B.named
  have hlocks := B.notSynchronized
  subst hsz
  have hD := hD0.self (sz := s.heap.size)
  generalize hAe : va_A (dw_P a ac s0) s.heap.size = A at hD hN ⊢
  have hA : ∀ q : Nat, s.heap.size ≤ q → A q := fun q h => by rw [← hAe]; exact Or.inr h
  have hl := lv_entry ([.int v0, .int v1, .int v2]) (n := 3) (Nat.le_of_ble_eq_true rfl)
  rw [lg_entry_eq]
  generalize (lg_sl ([.int v0, .int v1, .int v2]) ++ List.replicate (3 - (lg_sl ([.int v0, .int v1, .int v2])).length) Slot.unset).toArray = ls at hl ⊢
  have hl : lv_has ls 3 [(0, .int v0), (1, .int v1), (2, .int v2)] := hl
  exact db_X4_storing_0 (dC := dC) (dI := dI) (a := a) (ac := ac) (n := n) (r := r) ⟨hlt, hx, hb, hml, hown, hts, hN, hA, hK⟩ (fun pc v τ H locs ls d z er hP hD hS => by subst er; exact W.zret (v := v) hx hb hr z (fun t ht hW => ⟨⟨v, (), rfl, rfl, by rw [ht]; exact hP, va_K.moved hW.alike hK, hD⟩, hS.F ht⟩) hS.2.2 d) v0 v1 v2 s0 _ _ _ h hP hD va_S.rf (lv_sub hl [0, 1, 2] rfl)
def ow_dm_X4_expandedFirst : List Cond := Cond.code yX4_expandedFirst cX4_expandedFirst 5 (some .int) :: ([Cond.methodLink RX4 153 yX4_number, Cond.static yX4_number, Cond.initialized RX4, Cond.methodLink RX4 156 yX4_loading, Cond.static yX4_loading, Cond.methodLink RX4 159 yX4_storing, Cond.static yX4_storing] ++ (ow_dm_X4_number ++ (ow_dm_X4_loading ++ (ow_dm_X4_storing ++ []))))
theorem gd_dm_X4_expandedFirst : ∀ w ∈ ow_dm_X4_expandedFirst, (w.onTables && w.keeps) = true ∨ ∃ ty, w = Cond.arrayClass ty := List.forall_mem_cons.mpr ⟨good_of_word rfl, List.forall_mem_append.mpr ⟨fun w h => good_of_word (List.all_eq_true.mp (by decide +kernel) w h), List.forall_mem_append.mpr ⟨gd_dm_X4_number, List.forall_mem_append.mpr ⟨gd_dm_X4_loading, List.forall_mem_append.mpr ⟨gd_dm_X4_storing, fun _ h => nomatch h⟩⟩⟩⟩⟩
theorem gi_dm_X4_expandedFirst_0 : GoodIn ow_dm_X4_expandedFirst (wsS RX4 153 yX4_number ow_dm_X4_number) := goodIn_app (goodIn_of _ (by decide +kernel)) (fun w h => ⟨List.mem_cons_of_mem _ (List.mem_append_right _ (List.mem_append_left _ h)), gd_dm_X4_number w h⟩)
theorem gi_dm_X4_expandedFirst_1 : GoodIn ow_dm_X4_expandedFirst (wsS RX4 156 yX4_loading ow_dm_X4_loading) := goodIn_app (goodIn_of _ (by decide +kernel)) (fun w h => ⟨List.mem_cons_of_mem _ (List.mem_append_right _ (List.mem_append_right _ (List.mem_append_left _ h))), gd_dm_X4_loading w h⟩)
theorem gi_dm_X4_expandedFirst_2 : GoodIn ow_dm_X4_expandedFirst (wsS RX4 159 yX4_storing ow_dm_X4_storing) := goodIn_app (goodIn_of _ (by decide +kernel)) (fun w h => ⟨List.mem_cons_of_mem _ (List.mem_append_right _ (List.mem_append_right _ (List.mem_append_right _ (List.mem_append_left _ h)))), gd_dm_X4_storing w h⟩)
def dj_X4_expandedFirst_127 (p : Program) (l : Launch) (e : Env) (s : State) (m : MethodId) (args : Array Value) (below : List Frame) (meth : Method) (c : Code) (Q : State → Prop) (A : Nat → Prop) (dC : Nat → ClassId) (dI : Nat → Nat → Nat) (a : Nat → Nat) (ac : Nat → ClassId) (g : Int32 → (Unit) → Option (Int32 × (Unit))) (r : Int32 × (Unit)) : Prop := ∀ (y0 : Int32) (s0 : Unit) (H : Heap) (locs : List Loc) (ls : Array Slot), g y0 s0 = some r → va_P (dC, dI) vwCl (dw_P a ac s0) H → va_D A (dw_P a ac s0) → va_S A s.heap H locs → lv_has ls 5 [] → W p l e (headSpec ow_dm_X4_expandedFirst ({ frames := 1, cells := 0, slots := 0, locals := 23 })).room s m args below meth c H locs 0 0 Q (F0 m 127 ls [.int y0])
def dj_X4_expandedFirst_0 (p : Program) (l : Launch) (e : Env) (s : State) (m : MethodId) (args : Array Value) (below : List Frame) (meth : Method) (c : Code) (Q : State → Prop) (A : Nat → Prop) (dC : Nat → ClassId) (dI : Nat → Nat → Nat) (a : Nat → Nat) (ac : Nat → ClassId) (g : Int32 → (Unit) → Option (Int32 × (Unit))) (r : Int32 × (Unit)) : Prop := ∀ (v0 : Int32) (s0 : Unit) (H : Heap) (locs : List Loc) (ls : Array Slot), g v0 s0 = some r → va_P (dC, dI) vwCl (dw_P a ac s0) H → va_D A (dw_P a ac s0) → va_S A s.heap H locs → lv_has ls 5 [(0, .int v0)] → W p l e (headSpec ow_dm_X4_expandedFirst ({ frames := 1, cells := 0, slots := 0, locals := 23 })).room s m args below meth c H locs 0 0 Q (F0 m 0 ls [])
set_option maxHeartbeats 40000000 in
set_option maxRecDepth 100000 in
theorem db_X4_expandedFirst_127 {p : Program} {l : Launch} {e : Env} {s : State} {m : MethodId} {args : Array Value} {below : List Frame} {meth : Method} {c : Code} {Q : State → Prop} {A : Nat → Prop} {dC : Nat → ClassId} {dI : Nat → Nat → Nat} {a : Nat → Nat} {ac : Nat → ClassId} {n : Nat} {r : Int32 × (Unit)} (C : nd_C p l s m args c A (dC, dI) cX4_expandedFirst 5 RX4 ow_dm_X4_expandedFirst (dk_P ac)) (K : nd_Ki p l e (headSpec ow_dm_X4_expandedFirst ({ frames := 1, cells := 0, slots := 0, locals := 23 })).room s m args below meth c Q A (dC, dI) cX4_expandedFirst .int (Unit) (dw_P a ac) r) : dj_X4_expandedFirst_127 p l e s m args below meth c Q A dC dI a ac (df_X4_expandedFirst_127 n) r := by
  obtain ⟨hlt, hx, hb, hml, hown, hts, hN, hA, hK⟩ := id C
  intro y0 s0 H locs ls h hP hD hS hl
  unfold df_X4_expandedFirst_127 at h
  exact K _ _ _ _ _ _ dX4_expandedFirst_127 rfl (Option.some.inj h).symm hP hD hS
set_option maxHeartbeats 40000000 in
set_option maxRecDepth 100000 in
theorem db_X4_expandedFirst_0 {p : Program} {l : Launch} {e : Env} {s : State} {m : MethodId} {args : Array Value} {below : List Frame} {meth : Method} {c : Code} {Q : State → Prop} {A : Nat → Prop} {dC : Nat → ClassId} {dI : Nat → Nat → Nat} {a : Nat → Nat} {ac : Nat → ClassId} {n : Nat} {r : Int32 × (Unit)} (C : nd_C p l s m args c A (dC, dI) cX4_expandedFirst 5 RX4 ow_dm_X4_expandedFirst (dk_P ac)) (K : nd_Ki p l e (headSpec ow_dm_X4_expandedFirst ({ frames := 1, cells := 0, slots := 0, locals := 23 })).room s m args below meth c Q A (dC, dI) cX4_expandedFirst .int (Unit) (dw_P a ac) r) : dj_X4_expandedFirst_0 p l e s m args below meth c Q A dC dI a ac (df_X4_expandedFirst_0 n) r := by
  obtain ⟨hlt, hx, hb, hml, hown, hts, hN, hA, hK⟩ := id C
  intro v0 s0 H locs ls h hP hD hS hl
  unfold df_X4_expandedFirst_0 at h
  refine lv_bipush (v := 8) hx hb dX4_expandedFirst_0 (by decide) ?_
  refine lv_iload_n hx hb dX4_expandedFirst_2 rfl (lv_at hl 0 rfl) ?_
  refine lv_iconst (v := 2) hx hb dX4_expandedFirst_3 (by decide) ?_
  refine lv_ishr hx hb dX4_expandedFirst_4 ?_
  refine lv_bipush (v := 7) hx hb dX4_expandedFirst_5 (by decide) ?_
  refine lv_iand hx hb dX4_expandedFirst_7 ?_
  refine lv_iadd hx hb dX4_expandedFirst_8 ?_
  refine lv_topi (fun z1 ez1 => ?_)
  have h := nd_at h ez1
  refine lv_istore_n (lv' := [(1, .int z1), (0, .int v0)]) hx hb dX4_expandedFirst_9 rfl hl (by decide) rfl (fun ls hl => ?_)
  refine lv_bipush (v := 8) hx hb dX4_expandedFirst_10 (by decide) ?_
  refine lv_iload_n hx hb dX4_expandedFirst_12 rfl (lv_at hl 1 rfl) ?_
  refine lv_bipush (v := 7) hx hb dX4_expandedFirst_13 (by decide) ?_
  refine lv_ishr hx hb dX4_expandedFirst_15 ?_
  refine lv_bipush (v := 7) hx hb dX4_expandedFirst_16 (by decide) ?_
  refine lv_iand hx hb dX4_expandedFirst_18 ?_
  refine lv_iadd hx hb dX4_expandedFirst_19 ?_
  refine lv_topi (fun z2 ez2 => ?_)
  have h := nd_at h ez2
  refine lv_istore_n (lv' := [(2, .int z2), (1, .int z1), (0, .int v0)]) hx hb dX4_expandedFirst_20 rfl hl (by decide) rfl (fun ls hl => ?_)
  refine lv_iload_n hx hb dX4_expandedFirst_21 rfl (lv_at hl 2 rfl) ?_
  refine lv_bipush (v := 7) hx hb dX4_expandedFirst_22 (by decide) ?_
  refine lv_ishr hx hb dX4_expandedFirst_24 ?_
  refine lv_bipush (v := 56) hx hb dX4_expandedFirst_25 (by decide) ?_
  refine lv_iand hx hb dX4_expandedFirst_27 ?_
  refine lv_iload_n hx hb dX4_expandedFirst_28 rfl (lv_at hl 2 rfl) ?_
  refine lv_iconst (v := 4) hx hb dX4_expandedFirst_29 (by decide) ?_
  refine lv_ishr hx hb dX4_expandedFirst_30 ?_
  refine lv_iconst (v := 4) hx hb dX4_expandedFirst_31 (by decide) ?_
  refine lv_iand hx hb dX4_expandedFirst_32 ?_
  refine lv_ior hx hb dX4_expandedFirst_33 ?_
  refine lv_iload_n hx hb dX4_expandedFirst_34 rfl (lv_at hl 2 rfl) ?_
  refine lv_iconst (v := 1) hx hb dX4_expandedFirst_35 (by decide) ?_
  refine lv_ishl hx hb dX4_expandedFirst_36 ?_
  refine lv_bipush (v := 64) hx hb dX4_expandedFirst_37 (by decide) ?_
  refine lv_iand hx hb dX4_expandedFirst_39 ?_
  refine lv_ior hx hb dX4_expandedFirst_40 ?_
  refine lv_topi (fun z3 ez3 => ?_)
  have h := nd_at h ez3
  refine lv_istore_n (lv' := [(3, .int z3), (2, .int z2), (1, .int z1), (0, .int v0)]) hx hb dX4_expandedFirst_41 rfl hl (by decide) rfl (fun ls hl => ?_)
  refine lv_iload_n hx hb dX4_expandedFirst_42 rfl (lv_at hl 3 rfl) ?_
  refine lv_bipush (v := 13) hx hb dX4_expandedFirst_43 (by decide) ?_
  refine lv_ishr hx hb dX4_expandedFirst_45 ?_
  by_cases c4 : ((v0 : Int32) >>> ((13 : Int32) &&& 31)) = 0
  · have h := nd_pos h c4
    refine lv_lookup (off := 34) (tgt := 80) hx hb dX4_expandedFirst_46 (by decide) (by rw [c4]; decide) (by decide) ?_
    refine lv_iload_n hx hb dX4_expandedFirst_80 rfl (lv_at hl 3 rfl) ?_
    refine lv_bipush (v := 7) hx hb dX4_expandedFirst_81 (by decide) ?_
    refine lv_ishr hx hb dX4_expandedFirst_83 ?_
    refine lv_bipush (v := 48) hx hb dX4_expandedFirst_84 (by decide) ?_
    refine lv_iand hx hb dX4_expandedFirst_86 ?_
    refine lv_iload_n hx hb dX4_expandedFirst_87 rfl (lv_at hl 3 rfl) ?_
    refine lv_iconst (v := 1) hx hb dX4_expandedFirst_88 (by decide) ?_
    refine lv_ishr hx hb dX4_expandedFirst_89 ?_
    refine lv_sipush (v := 960) hx hb dX4_expandedFirst_90 (by decide) ?_
    refine lv_iand hx hb dX4_expandedFirst_93 ?_
    refine lv_ior hx hb dX4_expandedFirst_94 ?_
    refine lv_iload_n hx hb dX4_expandedFirst_95 rfl (lv_at hl 3 rfl) ?_
    refine lv_iconst (v := 4) hx hb dX4_expandedFirst_96 (by decide) ?_
    refine lv_ishr hx hb dX4_expandedFirst_97 ?_
    refine lv_iconst (v := 4) hx hb dX4_expandedFirst_98 (by decide) ?_
    refine lv_iand hx hb dX4_expandedFirst_99 ?_
    refine lv_ior hx hb dX4_expandedFirst_100 ?_
    refine lv_iload_n hx hb dX4_expandedFirst_101 rfl (lv_at hl 3 rfl) ?_
    refine lv_iconst (v := 2) hx hb dX4_expandedFirst_102 (by decide) ?_
    refine lv_ishr hx hb dX4_expandedFirst_103 ?_
    refine lv_bipush (v := 8) hx hb dX4_expandedFirst_104 (by decide) ?_
    refine lv_iand hx hb dX4_expandedFirst_106 ?_
    refine lv_ior hx hb dX4_expandedFirst_107 ?_
    refine lv_topi (fun z5 ez5 => ?_)
    have h := nd_at h ez5
    refine lv_istore (lv' := [(4, .int z5), (3, .int z3), (2, .int z2), (1, .int z1), (0, .int v0)]) hx hb dX4_expandedFirst_108 hl (by decide) rfl (fun ls hl => ?_)
    refine lv_iload hx hb dX4_expandedFirst_110 (lv_at hl 0 rfl) ?_
    refine lv_if_ne (tgt := 119) hx hb dX4_expandedFirst_112 (by decide) (fun c6 => ?_) (fun c6 => ?_)
    · have h := nd_neg h c6
      refine lv_iload hx hb dX4_expandedFirst_119 (lv_at hl 0 rfl) ?_
      refine lv_iconst (v := 2) hx hb dX4_expandedFirst_121 (by decide) ?_
      refine lv_iconst (v := 0) hx hb dX4_expandedFirst_122 (by decide) ?_
      refine lv_iload_n hx hb dX4_expandedFirst_123 rfl (lv_at hl 3 rfl) ?_
      obtain ⟨q7, s8, hq, h⟩ := nd_b2_e h
      have hPc : va_P (dC, dI) vwCl (dw_P a ac ()) H := nd_p0
      have hDc : va_D A (dw_P a ac ()) := nd_d0
      have hKc : va_K (dC, dI) vwCl (dk_P ac) s := nd_y0 hK
      have hFc : ∀ q, va_A (dw_P a ac ()) H.size q → A q := nd_r0 hS hA
      refine nd_cSi (As := [.int z5, .int 2, .int 0, .int z1]) (rest := []) (q := q7) (w' := dw_P a ac s8) ⟨hx, hb, hml, hown, hts⟩ (fun sz => dm_X4_number l hlt dC dI a ac n (z5) (2) (0) (z1) () hq sz) (cwS 4 hts gi_dm_X4_expandedFirst_0 rfl rfl rfl (by decide +kernel) ⟨Nat.le_of_ble_eq_true rfl, Nat.le_of_ble_eq_true rfl⟩) hPc hDc hKc hS hA hN rfl hl.1 rfl (Nat.le_of_ble_eq_true rfl) dX4_expandedFirst_124 (fun H locs hP1 hD1 hk1 hS => ?_)
      have hP := nd_n0 hP hk1
      exact (db_X4_expandedFirst_127 C K) (q7) s0 _ _ _ h hP hD hS (lv_sub hl [] rfl)
    · have h := nd_pos h c6
      refine lv_iconst (v := 0) hx hb dX4_expandedFirst_115 (by decide) ?_
      refine lv_goto (tgt := 127) hx hb dX4_expandedFirst_116 (by decide) ?_
      exact (db_X4_expandedFirst_127 C K) (0) s0 _ _ _ h hP hD hS (lv_sub hl [] rfl)
  have h := nd_neg h c4
  by_cases c10 : ((v0 : Int32) >>> ((13 : Int32) &&& 31)) = 2
  · have h := nd_pos h c10
    refine lv_lookup (off := 82) (tgt := 128) hx hb dX4_expandedFirst_46 (by decide) (by rw [c10]; decide) (by decide) ?_
    refine lv_iload_n hx hb dX4_expandedFirst_128 rfl (lv_at hl 0 rfl) ?_
    refine lv_iload_n hx hb dX4_expandedFirst_129 rfl (lv_at hl 1 rfl) ?_
    refine lv_iload_n hx hb dX4_expandedFirst_130 rfl (lv_at hl 2 rfl) ?_
    obtain ⟨q11, s12, hq, h⟩ := nd_b2_e h
    have hPc : va_P (dC, dI) vwCl (dw_P a ac ()) H := nd_p0
    have hDc : va_D A (dw_P a ac ()) := nd_d0
    have hKc : va_K (dC, dI) vwCl (dk_P ac) s := nd_y0 hK
    have hFc : ∀ q, va_A (dw_P a ac ()) H.size q → A q := nd_r0 hS hA
    refine nd_cSi (As := [.int z3, .int z2, .int z1]) (rest := []) (q := q11) (w' := dw_P a ac s12) ⟨hx, hb, hml, hown, hts⟩ (fun sz => dm_X4_loading l hlt dC dI a ac n (z3) (z2) (z1) () hq sz) (cwS 3 hts gi_dm_X4_expandedFirst_1 rfl rfl rfl (by decide +kernel) ⟨Nat.le_of_ble_eq_true rfl, Nat.le_of_ble_eq_true rfl⟩) hPc hDc hKc hS hA hN rfl hl.1 rfl (Nat.le_of_ble_eq_true rfl) dX4_expandedFirst_131 (fun H locs hP1 hD1 hk1 hS => ?_)
    have hP := nd_n0 hP hk1
    exact K _ _ _ _ _ _ dX4_expandedFirst_134 rfl (Option.some.inj h).symm hP hD hS
  have h := nd_neg h c10
  by_cases c14 : ((v0 : Int32) >>> ((13 : Int32) &&& 31)) = 6
  · have h := nd_pos h c14
    refine lv_lookup (off := 89) (tgt := 135) hx hb dX4_expandedFirst_46 (by decide) (by rw [c14]; decide) (by decide) ?_
    refine lv_iload_n hx hb dX4_expandedFirst_135 rfl (lv_at hl 0 rfl) ?_
    refine lv_iload_n hx hb dX4_expandedFirst_136 rfl (lv_at hl 1 rfl) ?_
    refine lv_iload_n hx hb dX4_expandedFirst_137 rfl (lv_at hl 2 rfl) ?_
    obtain ⟨q15, s16, hq, h⟩ := nd_b2_e h
    have hPc : va_P (dC, dI) vwCl (dw_P a ac ()) H := nd_p0
    have hDc : va_D A (dw_P a ac ()) := nd_d0
    have hKc : va_K (dC, dI) vwCl (dk_P ac) s := nd_y0 hK
    have hFc : ∀ q, va_A (dw_P a ac ()) H.size q → A q := nd_r0 hS hA
    refine nd_cSi (As := [.int z3, .int z2, .int z1]) (rest := []) (q := q15) (w' := dw_P a ac s16) ⟨hx, hb, hml, hown, hts⟩ (fun sz => dm_X4_storing l hlt dC dI a ac n (z3) (z2) (z1) () hq sz) (cwS 3 hts gi_dm_X4_expandedFirst_2 rfl rfl rfl (by decide +kernel) ⟨Nat.le_of_ble_eq_true rfl, Nat.le_of_ble_eq_true rfl⟩) hPc hDc hKc hS hA hN rfl hl.1 rfl (Nat.le_of_ble_eq_true rfl) dX4_expandedFirst_138 (fun H locs hP1 hD1 hk1 hS => ?_)
    have hP := nd_n0 hP hk1
    exact K _ _ _ _ _ _ dX4_expandedFirst_141 rfl (Option.some.inj h).symm hP hD hS
  have h := nd_neg h c14
  refine lv_lookup (off := 96) (tgt := 142) hx hb dX4_expandedFirst_46 (by decide) (show Op.lookupswitch.offset [(0, 34), (2, 82), (6, 89)] 96 (((v0 : Int32) >>> ((13 : Int32) &&& 31)) : Int32).toInt = 96 by rw [lv_osw c4 (by decide), lv_osw c10 (by decide), lv_osw c14 (by decide)] <;> rfl) (by decide) ?_
  refine lv_iconst (v := 0) hx hb dX4_expandedFirst_142 (by decide) ?_
  exact K _ _ _ _ _ _ dX4_expandedFirst_143 rfl (Option.some.inj h).symm hP hD hS
set_option maxHeartbeats 40000000 in
set_option maxRecDepth 100000 in
theorem dm_X4_expandedFirst (l : Launch) (hlt : l.stackTraces = false) (dC : Nat → ClassId) (dI : Nat → Nat → Nat) (a : Nat → Nat) (ac : Nat → ClassId) (n : Nat) (v0 : Int32) (s0 : Unit) {r : Int32 × (Unit)} (h : df_X4_expandedFirst n v0 s0 = some r) (sz : Nat) : Met l yX4_expandedFirst ow_dm_X4_expandedFirst ({ frames := 1, cells := 0, slots := 0, locals := 23 }) (va_Pc [.int v0] (fun U => U.heap.size = sz ∧ va_P (dC, dI) vwCl (dw_P a ac s0) U.heap ∧ va_K (dC, dI) vwCl (dk_P ac) U ∧ va_D (fun _ => True) (dw_P a ac s0) ∧ nv_E dI (va_A (dw_P a ac s0) sz) U)) (va_Qi (fun x _ => x = r.1) (fun (_ : Unit) t => va_P (dC, dI) vwCl (dw_P a ac r.2) t.heap ∧ va_K (dC, dI) vwCl (dk_P ac) t ∧ va_D (va_A (dw_P a ac s0) sz) (dw_P a ac r.2)) (va_A (dw_P a ac s0) sz)) 0 0 (va_A (dw_P a ac s0) sz) := by
  refine Met.ofW (cc := cX4_expandedFirst) (maxL := 5) (ret := (some .int)) (by decide) rfl ?_
  intro p e s m args below meth c s₁ B hml hv
  obtain ⟨rfl, hsz, hP, hK, hD0, hN⟩ := hv
  have hx := B.exec
  have hb := B.bytes
  have hr := B.returns
  have hts := atoms_spec (ws := ow_dm_X4_expandedFirst) B.pre
  have hown : s.vm.findClass RX4 = some m.cls := findClass_of_methodNamed B.named
  have hlocks := B.notSynchronized
  subst hsz
  have hD := hD0.self (sz := s.heap.size)
  generalize hAe : va_A (dw_P a ac s0) s.heap.size = A at hD hN ⊢
  have hA : ∀ q : Nat, s.heap.size ≤ q → A q := fun q h => by rw [← hAe]; exact Or.inr h
  have hl := lv_entry ([.int v0]) (n := 5) (Nat.le_of_ble_eq_true rfl)
  rw [lg_entry_eq]
  generalize (lg_sl ([.int v0]) ++ List.replicate (5 - (lg_sl ([.int v0])).length) Slot.unset).toArray = ls at hl ⊢
  have hl : lv_has ls 5 [(0, .int v0)] := hl
  exact db_X4_expandedFirst_0 (dC := dC) (dI := dI) (a := a) (ac := ac) (n := n) (r := r) ⟨hlt, hx, hb, hml, hown, hts, hN, hA, hK⟩ (fun pc v τ H locs ls d z er hP hD hS => by subst er; exact W.zret (v := v) hx hb hr z (fun t ht hW => ⟨⟨v, (), rfl, rfl, by rw [ht]; exact hP, va_K.moved hW.alike hK, hD⟩, hS.F ht⟩) hS.2.2 d) v0 s0 _ _ _ h hP hD va_S.rf (lv_sub hl [0] rfl)
def ow_dm_X4_signedNumber : List Cond := Cond.code yX4_signedNumber cX4_signedNumber 1 (some .int) :: ([] ++ [])
theorem gd_dm_X4_signedNumber : ∀ w ∈ ow_dm_X4_signedNumber, (w.onTables && w.keeps) = true ∨ ∃ ty, w = Cond.arrayClass ty := List.forall_mem_cons.mpr ⟨good_of_word rfl, List.forall_mem_append.mpr ⟨fun w h => good_of_word (List.all_eq_true.mp (by decide +kernel) w h), fun _ h => nomatch h⟩⟩
def dj_X4_signedNumber_0 (p : Program) (l : Launch) (e : Env) (s : State) (m : MethodId) (args : Array Value) (below : List Frame) (meth : Method) (c : Code) (Q : State → Prop) (A : Nat → Prop) (dC : Nat → ClassId) (dI : Nat → Nat → Nat) (a : Nat → Nat) (ac : Nat → ClassId) (g : Int32 → (Unit) → Option (Int32 × (Unit))) (r : Int32 × (Unit)) : Prop := ∀ (v0 : Int32) (s0 : Unit) (H : Heap) (locs : List Loc) (ls : Array Slot), g v0 s0 = some r → va_P (dC, dI) vwCl (dw_P a ac s0) H → va_D A (dw_P a ac s0) → va_S A s.heap H locs → lv_has ls 1 [(0, .int v0)] → W p l e (headSpec ow_dm_X4_signedNumber ({ frames := 0, cells := 0, slots := 0, locals := 0 })).room s m args below meth c H locs 0 0 Q (F0 m 0 ls [])
set_option maxHeartbeats 40000000 in
set_option maxRecDepth 100000 in
theorem db_X4_signedNumber_0 {p : Program} {l : Launch} {e : Env} {s : State} {m : MethodId} {args : Array Value} {below : List Frame} {meth : Method} {c : Code} {Q : State → Prop} {A : Nat → Prop} {dC : Nat → ClassId} {dI : Nat → Nat → Nat} {a : Nat → Nat} {ac : Nat → ClassId} {n : Nat} {r : Int32 × (Unit)} (C : nd_C p l s m args c A (dC, dI) cX4_signedNumber 1 RX4 ow_dm_X4_signedNumber (dk_P ac)) (K : nd_Ki p l e (headSpec ow_dm_X4_signedNumber ({ frames := 0, cells := 0, slots := 0, locals := 0 })).room s m args below meth c Q A (dC, dI) cX4_signedNumber .int (Unit) (dw_P a ac) r) : dj_X4_signedNumber_0 p l e s m args below meth c Q A dC dI a ac (df_X4_signedNumber_0 n) r := by
  obtain ⟨hlt, hx, hb, hml, hown, hts, hN, hA, hK⟩ := id C
  intro v0 s0 H locs ls h hP hD hS hl
  unfold df_X4_signedNumber_0 at h
  refine lv_iload_n hx hb dX4_signedNumber_0 rfl (lv_at hl 0 rfl) ?_
  refine lv_bipush (v := 19) hx hb dX4_signedNumber_1 (by decide) ?_
  refine lv_ishl hx hb dX4_signedNumber_3 ?_
  refine lv_bipush (v := 31) hx hb dX4_signedNumber_4 (by decide) ?_
  refine lv_ishr hx hb dX4_signedNumber_6 ?_
  refine lv_iconst (v := 5) hx hb dX4_signedNumber_7 (by decide) ?_
  refine lv_ishl hx hb dX4_signedNumber_8 ?_
  refine lv_iload_n hx hb dX4_signedNumber_9 rfl (lv_at hl 0 rfl) ?_
  refine lv_iconst (v := 2) hx hb dX4_signedNumber_10 (by decide) ?_
  refine lv_ishr hx hb dX4_signedNumber_11 ?_
  refine lv_bipush (v := 31) hx hb dX4_signedNumber_12 (by decide) ?_
  refine lv_iand hx hb dX4_signedNumber_14 ?_
  refine lv_ior hx hb dX4_signedNumber_15 ?_
  exact K _ _ _ _ _ _ dX4_signedNumber_16 rfl (Option.some.inj h).symm hP hD hS
set_option maxHeartbeats 40000000 in
set_option maxRecDepth 100000 in
theorem dm_X4_signedNumber (l : Launch) (hlt : l.stackTraces = false) (dC : Nat → ClassId) (dI : Nat → Nat → Nat) (a : Nat → Nat) (ac : Nat → ClassId) (n : Nat) (v0 : Int32) (s0 : Unit) {r : Int32 × (Unit)} (h : df_X4_signedNumber n v0 s0 = some r) (sz : Nat) : Met l yX4_signedNumber ow_dm_X4_signedNumber ({ frames := 0, cells := 0, slots := 0, locals := 0 }) (va_Pc [.int v0] (fun U => U.heap.size = sz ∧ va_P (dC, dI) vwCl (dw_P a ac s0) U.heap ∧ va_K (dC, dI) vwCl (dk_P ac) U ∧ va_D (fun _ => True) (dw_P a ac s0) ∧ nv_E dI (va_A (dw_P a ac s0) sz) U)) (va_Qi (fun x _ => x = r.1) (fun (_ : Unit) t => va_P (dC, dI) vwCl (dw_P a ac r.2) t.heap ∧ va_K (dC, dI) vwCl (dk_P ac) t ∧ va_D (va_A (dw_P a ac s0) sz) (dw_P a ac r.2)) (va_A (dw_P a ac s0) sz)) 0 0 (va_A (dw_P a ac s0) sz) := by
  refine Met.ofW (cc := cX4_signedNumber) (maxL := 1) (ret := (some .int)) (by decide) rfl ?_
  intro p e s m args below meth c s₁ B hml hv
  obtain ⟨rfl, hsz, hP, hK, hD0, hN⟩ := hv
  have hx := B.exec
  have hb := B.bytes
  have hr := B.returns
  have hts := atoms_spec (ws := ow_dm_X4_signedNumber) B.pre
  have hown : s.vm.findClass RX4 = some m.cls := findClass_of_methodNamed B.named
  have hlocks := B.notSynchronized
  subst hsz
  have hD := hD0.self (sz := s.heap.size)
  generalize hAe : va_A (dw_P a ac s0) s.heap.size = A at hD hN ⊢
  have hA : ∀ q : Nat, s.heap.size ≤ q → A q := fun q h => by rw [← hAe]; exact Or.inr h
  have hl := lv_entry ([.int v0]) (n := 1) (Nat.le_of_ble_eq_true rfl)
  rw [lg_entry_eq]
  generalize (lg_sl ([.int v0]) ++ List.replicate (1 - (lg_sl ([.int v0])).length) Slot.unset).toArray = ls at hl ⊢
  have hl : lv_has ls 1 [(0, .int v0)] := hl
  exact db_X4_signedNumber_0 (dC := dC) (dI := dI) (a := a) (ac := ac) (n := n) (r := r) ⟨hlt, hx, hb, hml, hown, hts, hN, hA, hK⟩ (fun pc v τ H locs ls d z er hP hD hS => by subst er; exact W.zret (v := v) hx hb hr z (fun t ht hW => ⟨⟨v, (), rfl, rfl, by rw [ht]; exact hP, va_K.moved hW.alike hK, hD⟩, hS.F ht⟩) hS.2.2 d) v0 s0 _ _ _ h hP hD va_S.rf (lv_sub hl [0] rfl)
def ow_dm_X4_jumping : List Cond := Cond.code yX4_jumping cX4_jumping 1 (some .int) :: ([Cond.constant RX4 152 (-2147483648), Cond.constant RX4 88 (1044480)] ++ [])
theorem gd_dm_X4_jumping : ∀ w ∈ ow_dm_X4_jumping, (w.onTables && w.keeps) = true ∨ ∃ ty, w = Cond.arrayClass ty := List.forall_mem_cons.mpr ⟨good_of_word rfl, List.forall_mem_append.mpr ⟨fun w h => good_of_word (List.all_eq_true.mp (by decide +kernel) w h), fun _ h => nomatch h⟩⟩
def dj_X4_jumping_0 (p : Program) (l : Launch) (e : Env) (s : State) (m : MethodId) (args : Array Value) (below : List Frame) (meth : Method) (c : Code) (Q : State → Prop) (A : Nat → Prop) (dC : Nat → ClassId) (dI : Nat → Nat → Nat) (a : Nat → Nat) (ac : Nat → ClassId) (g : Int32 → (Unit) → Option (Int32 × (Unit))) (r : Int32 × (Unit)) : Prop := ∀ (v0 : Int32) (s0 : Unit) (H : Heap) (locs : List Loc) (ls : Array Slot), g v0 s0 = some r → va_P (dC, dI) vwCl (dw_P a ac s0) H → va_D A (dw_P a ac s0) → va_S A s.heap H locs → lv_has ls 1 [(0, .int v0)] → W p l e (headSpec ow_dm_X4_jumping ({ frames := 0, cells := 0, slots := 0, locals := 0 })).room s m args below meth c H locs 0 0 Q (F0 m 0 ls [])
set_option maxHeartbeats 40000000 in
set_option maxRecDepth 100000 in
theorem db_X4_jumping_0 {p : Program} {l : Launch} {e : Env} {s : State} {m : MethodId} {args : Array Value} {below : List Frame} {meth : Method} {c : Code} {Q : State → Prop} {A : Nat → Prop} {dC : Nat → ClassId} {dI : Nat → Nat → Nat} {a : Nat → Nat} {ac : Nat → ClassId} {n : Nat} {r : Int32 × (Unit)} (C : nd_C p l s m args c A (dC, dI) cX4_jumping 1 RX4 ow_dm_X4_jumping (dk_P ac)) (K : nd_Ki p l e (headSpec ow_dm_X4_jumping ({ frames := 0, cells := 0, slots := 0, locals := 0 })).room s m args below meth c Q A (dC, dI) cX4_jumping .int (Unit) (dw_P a ac) r) : dj_X4_jumping_0 p l e s m args below meth c Q A dC dI a ac (df_X4_jumping_0 n) r := by
  obtain ⟨hlt, hx, hb, hml, hown, hts, hN, hA, hK⟩ := id C
  intro v0 s0 H locs ls h hP hD hS hl
  unfold df_X4_jumping_0 at h
  refine lv_iload_n hx hb dX4_jumping_0 rfl (lv_at hl 0 rfl) ?_
  refine lv_ldc hx hb hown (hts (.constant RX4 152 (-2147483648)) (List.mem_of_getElem? (i := 1) rfl)) dX4_jumping_1 ?_
  refine lv_iand hx hb dX4_jumping_3 ?_
  refine lv_iload_n hx hb dX4_jumping_4 rfl (lv_at hl 0 rfl) ?_
  refine lv_sipush (v := 2046) hx hb dX4_jumping_5 (by decide) ?_
  refine lv_iand hx hb dX4_jumping_8 ?_
  refine lv_bipush (v := 20) hx hb dX4_jumping_9 (by decide) ?_
  refine lv_ishl hx hb dX4_jumping_11 ?_
  refine lv_ior hx hb dX4_jumping_12 ?_
  refine lv_iload_n hx hb dX4_jumping_13 rfl (lv_at hl 0 rfl) ?_
  refine lv_sipush (v := 2048) hx hb dX4_jumping_14 (by decide) ?_
  refine lv_iand hx hb dX4_jumping_17 ?_
  refine lv_bipush (v := 9) hx hb dX4_jumping_18 (by decide) ?_
  refine lv_ishl hx hb dX4_jumping_20 ?_
  refine lv_ior hx hb dX4_jumping_21 ?_
  refine lv_iload_n hx hb dX4_jumping_22 rfl (lv_at hl 0 rfl) ?_
  refine lv_ldc hx hb hown (hts (.constant RX4 88 (1044480)) (List.mem_of_getElem? (i := 2) rfl)) dX4_jumping_23 ?_
  refine lv_iand hx hb dX4_jumping_25 ?_
  refine lv_ior hx hb dX4_jumping_26 ?_
  exact K _ _ _ _ _ _ dX4_jumping_27 rfl (Option.some.inj h).symm hP hD hS
set_option maxHeartbeats 40000000 in
set_option maxRecDepth 100000 in
theorem dm_X4_jumping (l : Launch) (hlt : l.stackTraces = false) (dC : Nat → ClassId) (dI : Nat → Nat → Nat) (a : Nat → Nat) (ac : Nat → ClassId) (n : Nat) (v0 : Int32) (s0 : Unit) {r : Int32 × (Unit)} (h : df_X4_jumping n v0 s0 = some r) (sz : Nat) : Met l yX4_jumping ow_dm_X4_jumping ({ frames := 0, cells := 0, slots := 0, locals := 0 }) (va_Pc [.int v0] (fun U => U.heap.size = sz ∧ va_P (dC, dI) vwCl (dw_P a ac s0) U.heap ∧ va_K (dC, dI) vwCl (dk_P ac) U ∧ va_D (fun _ => True) (dw_P a ac s0) ∧ nv_E dI (va_A (dw_P a ac s0) sz) U)) (va_Qi (fun x _ => x = r.1) (fun (_ : Unit) t => va_P (dC, dI) vwCl (dw_P a ac r.2) t.heap ∧ va_K (dC, dI) vwCl (dk_P ac) t ∧ va_D (va_A (dw_P a ac s0) sz) (dw_P a ac r.2)) (va_A (dw_P a ac s0) sz)) 0 0 (va_A (dw_P a ac s0) sz) := by
  refine Met.ofW (cc := cX4_jumping) (maxL := 1) (ret := (some .int)) (by decide) rfl ?_
  intro p e s m args below meth c s₁ B hml hv
  obtain ⟨rfl, hsz, hP, hK, hD0, hN⟩ := hv
  have hx := B.exec
  have hb := B.bytes
  have hr := B.returns
  have hts := atoms_spec (ws := ow_dm_X4_jumping) B.pre
  have hown : s.vm.findClass RX4 = some m.cls := findClass_of_methodNamed B.named
  have hlocks := B.notSynchronized
  subst hsz
  have hD := hD0.self (sz := s.heap.size)
  generalize hAe : va_A (dw_P a ac s0) s.heap.size = A at hD hN ⊢
  have hA : ∀ q : Nat, s.heap.size ≤ q → A q := fun q h => by rw [← hAe]; exact Or.inr h
  have hl := lv_entry ([.int v0]) (n := 1) (Nat.le_of_ble_eq_true rfl)
  rw [lg_entry_eq]
  generalize (lg_sl ([.int v0]) ++ List.replicate (1 - (lg_sl ([.int v0])).length) Slot.unset).toArray = ls at hl ⊢
  have hl : lv_has ls 1 [(0, .int v0)] := hl
  exact db_X4_jumping_0 (dC := dC) (dI := dI) (a := a) (ac := ac) (n := n) (r := r) ⟨hlt, hx, hb, hml, hown, hts, hN, hA, hK⟩ (fun pc v τ H locs ls d z er hP hD hS => by subst er; exact W.zret (v := v) hx hb hr z (fun t ht hW => ⟨⟨v, (), rfl, rfl, by rw [ht]; exact hP, va_K.moved hW.alike hK, hD⟩, hS.F ht⟩) hS.2.2 d) v0 s0 _ _ _ h hP hD va_S.rf (lv_sub hl [0] rfl)
def ow_dm_X4_branching : List Cond := Cond.code yX4_branching cX4_branching 1 (some .int) :: ([Cond.constant RX4 152 (-2147483648)] ++ [])
theorem gd_dm_X4_branching : ∀ w ∈ ow_dm_X4_branching, (w.onTables && w.keeps) = true ∨ ∃ ty, w = Cond.arrayClass ty := List.forall_mem_cons.mpr ⟨good_of_word rfl, List.forall_mem_append.mpr ⟨fun w h => good_of_word (List.all_eq_true.mp (by decide +kernel) w h), fun _ h => nomatch h⟩⟩
def dj_X4_branching_0 (p : Program) (l : Launch) (e : Env) (s : State) (m : MethodId) (args : Array Value) (below : List Frame) (meth : Method) (c : Code) (Q : State → Prop) (A : Nat → Prop) (dC : Nat → ClassId) (dI : Nat → Nat → Nat) (a : Nat → Nat) (ac : Nat → ClassId) (g : Int32 → (Unit) → Option (Int32 × (Unit))) (r : Int32 × (Unit)) : Prop := ∀ (v0 : Int32) (s0 : Unit) (H : Heap) (locs : List Loc) (ls : Array Slot), g v0 s0 = some r → va_P (dC, dI) vwCl (dw_P a ac s0) H → va_D A (dw_P a ac s0) → va_S A s.heap H locs → lv_has ls 1 [(0, .int v0)] → W p l e (headSpec ow_dm_X4_branching ({ frames := 0, cells := 0, slots := 0, locals := 0 })).room s m args below meth c H locs 0 0 Q (F0 m 0 ls [])
set_option maxHeartbeats 40000000 in
set_option maxRecDepth 100000 in
theorem db_X4_branching_0 {p : Program} {l : Launch} {e : Env} {s : State} {m : MethodId} {args : Array Value} {below : List Frame} {meth : Method} {c : Code} {Q : State → Prop} {A : Nat → Prop} {dC : Nat → ClassId} {dI : Nat → Nat → Nat} {a : Nat → Nat} {ac : Nat → ClassId} {n : Nat} {r : Int32 × (Unit)} (C : nd_C p l s m args c A (dC, dI) cX4_branching 1 RX4 ow_dm_X4_branching (dk_P ac)) (K : nd_Ki p l e (headSpec ow_dm_X4_branching ({ frames := 0, cells := 0, slots := 0, locals := 0 })).room s m args below meth c Q A (dC, dI) cX4_branching .int (Unit) (dw_P a ac) r) : dj_X4_branching_0 p l e s m args below meth c Q A dC dI a ac (df_X4_branching_0 n) r := by
  obtain ⟨hlt, hx, hb, hml, hown, hts, hN, hA, hK⟩ := id C
  intro v0 s0 H locs ls h hP hD hS hl
  unfold df_X4_branching_0 at h
  refine lv_iload_n hx hb dX4_branching_0 rfl (lv_at hl 0 rfl) ?_
  refine lv_ldc hx hb hown (hts (.constant RX4 152 (-2147483648)) (List.mem_of_getElem? (i := 1) rfl)) dX4_branching_1 ?_
  refine lv_iand hx hb dX4_branching_3 ?_
  refine lv_iload_n hx hb dX4_branching_4 rfl (lv_at hl 0 rfl) ?_
  refine lv_sipush (v := 2016) hx hb dX4_branching_5 (by decide) ?_
  refine lv_iand hx hb dX4_branching_8 ?_
  refine lv_bipush (v := 20) hx hb dX4_branching_9 (by decide) ?_
  refine lv_ishl hx hb dX4_branching_11 ?_
  refine lv_ior hx hb dX4_branching_12 ?_
  refine lv_iload_n hx hb dX4_branching_13 rfl (lv_at hl 0 rfl) ?_
  refine lv_bipush (v := 30) hx hb dX4_branching_14 (by decide) ?_
  refine lv_iand hx hb dX4_branching_16 ?_
  refine lv_bipush (v := 7) hx hb dX4_branching_17 (by decide) ?_
  refine lv_ishl hx hb dX4_branching_19 ?_
  refine lv_ior hx hb dX4_branching_20 ?_
  refine lv_iload_n hx hb dX4_branching_21 rfl (lv_at hl 0 rfl) ?_
  refine lv_sipush (v := 2048) hx hb dX4_branching_22 (by decide) ?_
  refine lv_iand hx hb dX4_branching_25 ?_
  refine lv_iconst (v := 4) hx hb dX4_branching_26 (by decide) ?_
  refine lv_ishr hx hb dX4_branching_27 ?_
  refine lv_ior hx hb dX4_branching_28 ?_
  exact K _ _ _ _ _ _ dX4_branching_29 rfl (Option.some.inj h).symm hP hD hS
set_option maxHeartbeats 40000000 in
set_option maxRecDepth 100000 in
theorem dm_X4_branching (l : Launch) (hlt : l.stackTraces = false) (dC : Nat → ClassId) (dI : Nat → Nat → Nat) (a : Nat → Nat) (ac : Nat → ClassId) (n : Nat) (v0 : Int32) (s0 : Unit) {r : Int32 × (Unit)} (h : df_X4_branching n v0 s0 = some r) (sz : Nat) : Met l yX4_branching ow_dm_X4_branching ({ frames := 0, cells := 0, slots := 0, locals := 0 }) (va_Pc [.int v0] (fun U => U.heap.size = sz ∧ va_P (dC, dI) vwCl (dw_P a ac s0) U.heap ∧ va_K (dC, dI) vwCl (dk_P ac) U ∧ va_D (fun _ => True) (dw_P a ac s0) ∧ nv_E dI (va_A (dw_P a ac s0) sz) U)) (va_Qi (fun x _ => x = r.1) (fun (_ : Unit) t => va_P (dC, dI) vwCl (dw_P a ac r.2) t.heap ∧ va_K (dC, dI) vwCl (dk_P ac) t ∧ va_D (va_A (dw_P a ac s0) sz) (dw_P a ac r.2)) (va_A (dw_P a ac s0) sz)) 0 0 (va_A (dw_P a ac s0) sz) := by
  refine Met.ofW (cc := cX4_branching) (maxL := 1) (ret := (some .int)) (by decide) rfl ?_
  intro p e s m args below meth c s₁ B hml hv
  obtain ⟨rfl, hsz, hP, hK, hD0, hN⟩ := hv
  have hx := B.exec
  have hb := B.bytes
  have hr := B.returns
  have hts := atoms_spec (ws := ow_dm_X4_branching) B.pre
  have hown : s.vm.findClass RX4 = some m.cls := findClass_of_methodNamed B.named
  have hlocks := B.notSynchronized
  subst hsz
  have hD := hD0.self (sz := s.heap.size)
  generalize hAe : va_A (dw_P a ac s0) s.heap.size = A at hD hN ⊢
  have hA : ∀ q : Nat, s.heap.size ≤ q → A q := fun q h => by rw [← hAe]; exact Or.inr h
  have hl := lv_entry ([.int v0]) (n := 1) (Nat.le_of_ble_eq_true rfl)
  rw [lg_entry_eq]
  generalize (lg_sl ([.int v0]) ++ List.replicate (1 - (lg_sl ([.int v0])).length) Slot.unset).toArray = ls at hl ⊢
  have hl : lv_has ls 1 [(0, .int v0)] := hl
  exact db_X4_branching_0 (dC := dC) (dI := dI) (a := a) (ac := ac) (n := n) (r := r) ⟨hlt, hx, hb, hml, hown, hts, hN, hA, hK⟩ (fun pc v τ H locs ls d z er hP hD hS => by subst er; exact W.zret (v := v) hx hb hr z (fun t ht hW => ⟨⟨v, (), rfl, rfl, by rw [ht]; exact hP, va_K.moved hW.alike hK, hD⟩, hS.F ht⟩) hS.2.2 d) v0 s0 _ _ _ h hP hD va_S.rf (lv_sub hl [0] rfl)
def ow_dm_X4_expandedSecond : List Cond := Cond.code yX4_expandedSecond cX4_expandedSecond 6 (some .int) :: ([Cond.methodLink RX4 162 yX4_signedNumber, Cond.static yX4_signedNumber, Cond.initialized RX4, Cond.methodLink RX4 153 yX4_number, Cond.static yX4_number, Cond.methodLink RX4 165 yX4_jumping, Cond.static yX4_jumping, Cond.methodLink RX4 168 yX4_branching, Cond.static yX4_branching] ++ (ow_dm_X4_signedNumber ++ (ow_dm_X4_number ++ (ow_dm_X4_jumping ++ (ow_dm_X4_branching ++ [])))))
theorem gd_dm_X4_expandedSecond : ∀ w ∈ ow_dm_X4_expandedSecond, (w.onTables && w.keeps) = true ∨ ∃ ty, w = Cond.arrayClass ty := List.forall_mem_cons.mpr ⟨good_of_word rfl, List.forall_mem_append.mpr ⟨fun w h => good_of_word (List.all_eq_true.mp (by decide +kernel) w h), List.forall_mem_append.mpr ⟨gd_dm_X4_signedNumber, List.forall_mem_append.mpr ⟨gd_dm_X4_number, List.forall_mem_append.mpr ⟨gd_dm_X4_jumping, List.forall_mem_append.mpr ⟨gd_dm_X4_branching, fun _ h => nomatch h⟩⟩⟩⟩⟩⟩
theorem gi_dm_X4_expandedSecond_0 : GoodIn ow_dm_X4_expandedSecond (wsS RX4 162 yX4_signedNumber ow_dm_X4_signedNumber) := goodIn_app (goodIn_of _ (by decide +kernel)) (fun w h => ⟨List.mem_cons_of_mem _ (List.mem_append_right _ (List.mem_append_left _ h)), gd_dm_X4_signedNumber w h⟩)
theorem gi_dm_X4_expandedSecond_1 : GoodIn ow_dm_X4_expandedSecond (wsS RX4 153 yX4_number ow_dm_X4_number) := goodIn_app (goodIn_of _ (by decide +kernel)) (fun w h => ⟨List.mem_cons_of_mem _ (List.mem_append_right _ (List.mem_append_right _ (List.mem_append_left _ h))), gd_dm_X4_number w h⟩)
theorem gi_dm_X4_expandedSecond_2 : GoodIn ow_dm_X4_expandedSecond (wsS RX4 165 yX4_jumping ow_dm_X4_jumping) := goodIn_app (goodIn_of _ (by decide +kernel)) (fun w h => ⟨List.mem_cons_of_mem _ (List.mem_append_right _ (List.mem_append_right _ (List.mem_append_right _ (List.mem_append_left _ h)))), gd_dm_X4_jumping w h⟩)
theorem gi_dm_X4_expandedSecond_3 : GoodIn ow_dm_X4_expandedSecond (wsS RX4 168 yX4_branching ow_dm_X4_branching) := goodIn_app (goodIn_of _ (by decide +kernel)) (fun w h => ⟨List.mem_cons_of_mem _ (List.mem_append_right _ (List.mem_append_right _ (List.mem_append_right _ (List.mem_append_right _ (List.mem_append_left _ h))))), gd_dm_X4_branching w h⟩)
def dj_X4_expandedSecond_145 (p : Program) (l : Launch) (e : Env) (s : State) (m : MethodId) (args : Array Value) (below : List Frame) (meth : Method) (c : Code) (Q : State → Prop) (A : Nat → Prop) (dC : Nat → ClassId) (dI : Nat → Nat → Nat) (a : Nat → Nat) (ac : Nat → ClassId) (g : Int32 → Int32 → Int32 → (Unit) → Option (Int32 × (Unit))) (r : Int32 × (Unit)) : Prop := ∀ (x3 : Int32) (y0 : Int32) (y1 : Int32) (s0 : Unit) (H : Heap) (locs : List Loc) (ls : Array Slot), g x3 y0 y1 s0 = some r → va_P (dC, dI) vwCl (dw_P a ac s0) H → va_D A (dw_P a ac s0) → va_S A s.heap H locs → lv_has ls 6 [(3, .int x3)] → W p l e (headSpec ow_dm_X4_expandedSecond ({ frames := 1, cells := 0, slots := 0, locals := 23 })).room s m args below meth c H locs 0 0 Q (F0 m 145 ls [.int y1, .int y0])
def dj_X4_expandedSecond_64 (p : Program) (l : Launch) (e : Env) (s : State) (m : MethodId) (args : Array Value) (below : List Frame) (meth : Method) (c : Code) (Q : State → Prop) (A : Nat → Prop) (dC : Nat → ClassId) (dI : Nat → Nat → Nat) (a : Nat → Nat) (ac : Nat → ClassId) (g : Int32 → (Unit) → Option (Int32 × (Unit))) (r : Int32 × (Unit)) : Prop := ∀ (x0 : Int32) (s0 : Unit) (H : Heap) (locs : List Loc) (ls : Array Slot), g x0 s0 = some r → va_P (dC, dI) vwCl (dw_P a ac s0) H → va_D A (dw_P a ac s0) → va_S A s.heap H locs → lv_has ls 6 [(0, .int x0)] → W p l e (headSpec ow_dm_X4_expandedSecond ({ frames := 1, cells := 0, slots := 0, locals := 23 })).room s m args below meth c H locs 0 0 Q (F0 m 64 ls [])
def dj_X4_expandedSecond_244 (p : Program) (l : Launch) (e : Env) (s : State) (m : MethodId) (args : Array Value) (below : List Frame) (meth : Method) (c : Code) (Q : State → Prop) (A : Nat → Prop) (dC : Nat → ClassId) (dI : Nat → Nat → Nat) (a : Nat → Nat) (ac : Nat → ClassId) (g : Int32 → (Unit) → Option (Int32 × (Unit))) (r : Int32 × (Unit)) : Prop := ∀ (y0 : Int32) (s0 : Unit) (H : Heap) (locs : List Loc) (ls : Array Slot), g y0 s0 = some r → va_P (dC, dI) vwCl (dw_P a ac s0) H → va_D A (dw_P a ac s0) → va_S A s.heap H locs → lv_has ls 6 [] → W p l e (headSpec ow_dm_X4_expandedSecond ({ frames := 1, cells := 0, slots := 0, locals := 23 })).room s m args below meth c H locs 0 0 Q (F0 m 244 ls [.int y0])
def dj_X4_expandedSecond_185 (p : Program) (l : Launch) (e : Env) (s : State) (m : MethodId) (args : Array Value) (below : List Frame) (meth : Method) (c : Code) (Q : State → Prop) (A : Nat → Prop) (dC : Nat → ClassId) (dI : Nat → Nat → Nat) (a : Nat → Nat) (ac : Nat → ClassId) (g : Int32 → (Unit) → Option (Int32 × (Unit))) (r : Int32 × (Unit)) : Prop := ∀ (y0 : Int32) (s0 : Unit) (H : Heap) (locs : List Loc) (ls : Array Slot), g y0 s0 = some r → va_P (dC, dI) vwCl (dw_P a ac s0) H → va_D A (dw_P a ac s0) → va_S A s.heap H locs → lv_has ls 6 [] → W p l e (headSpec ow_dm_X4_expandedSecond ({ frames := 1, cells := 0, slots := 0, locals := 23 })).room s m args below meth c H locs 0 0 Q (F0 m 185 ls [.int y0])
def dj_X4_expandedSecond_245 (p : Program) (l : Launch) (e : Env) (s : State) (m : MethodId) (args : Array Value) (below : List Frame) (meth : Method) (c : Code) (Q : State → Prop) (A : Nat → Prop) (dC : Nat → ClassId) (dI : Nat → Nat → Nat) (a : Nat → Nat) (ac : Nat → ClassId) (g : Int32 → (Unit) → Option (Int32 × (Unit))) (r : Int32 × (Unit)) : Prop := ∀ (x0 : Int32) (s0 : Unit) (H : Heap) (locs : List Loc) (ls : Array Slot), g x0 s0 = some r → va_P (dC, dI) vwCl (dw_P a ac s0) H → va_D A (dw_P a ac s0) → va_S A s.heap H locs → lv_has ls 6 [(0, .int x0)] → W p l e (headSpec ow_dm_X4_expandedSecond ({ frames := 1, cells := 0, slots := 0, locals := 23 })).room s m args below meth c H locs 0 0 Q (F0 m 245 ls [])
def dj_X4_expandedSecond_0 (p : Program) (l : Launch) (e : Env) (s : State) (m : MethodId) (args : Array Value) (below : List Frame) (meth : Method) (c : Code) (Q : State → Prop) (A : Nat → Prop) (dC : Nat → ClassId) (dI : Nat → Nat → Nat) (a : Nat → Nat) (ac : Nat → ClassId) (g : Int32 → (Unit) → Option (Int32 × (Unit))) (r : Int32 × (Unit)) : Prop := ∀ (v0 : Int32) (s0 : Unit) (H : Heap) (locs : List Loc) (ls : Array Slot), g v0 s0 = some r → va_P (dC, dI) vwCl (dw_P a ac s0) H → va_D A (dw_P a ac s0) → va_S A s.heap H locs → lv_has ls 6 [(0, .int v0)] → W p l e (headSpec ow_dm_X4_expandedSecond ({ frames := 1, cells := 0, slots := 0, locals := 23 })).room s m args below meth c H locs 0 0 Q (F0 m 0 ls [])
set_option maxHeartbeats 40000000 in
set_option maxRecDepth 100000 in
theorem db_X4_expandedSecond_145 {p : Program} {l : Launch} {e : Env} {s : State} {m : MethodId} {args : Array Value} {below : List Frame} {meth : Method} {c : Code} {Q : State → Prop} {A : Nat → Prop} {dC : Nat → ClassId} {dI : Nat → Nat → Nat} {a : Nat → Nat} {ac : Nat → ClassId} {n : Nat} {r : Int32 × (Unit)} (C : nd_C p l s m args c A (dC, dI) cX4_expandedSecond 6 RX4 ow_dm_X4_expandedSecond (dk_P ac)) (K : nd_Ki p l e (headSpec ow_dm_X4_expandedSecond ({ frames := 1, cells := 0, slots := 0, locals := 23 })).room s m args below meth c Q A (dC, dI) cX4_expandedSecond .int (Unit) (dw_P a ac) r) : dj_X4_expandedSecond_145 p l e s m args below meth c Q A dC dI a ac (df_X4_expandedSecond_145 n) r := by
  obtain ⟨hlt, hx, hb, hml, hown, hts, hN, hA, hK⟩ := id C
  intro x3 y0 y1 s0 H locs ls h hP hD hS hl
  unfold df_X4_expandedSecond_145 at h
  refine lv_ior hx hb dX4_expandedSecond_145 ?_
  refine lv_iload_n hx hb dX4_expandedSecond_146 rfl (lv_at hl 0 rfl) ?_
  obtain ⟨q12, s13, hq, h⟩ := nd_b2_e h
  have hPc : va_P (dC, dI) vwCl (dw_P a ac ()) H := nd_p0
  have hDc : va_D A (dw_P a ac ()) := nd_d0
  have hKc : va_K (dC, dI) vwCl (dk_P ac) s := nd_y0 hK
  have hFc : ∀ q, va_A (dw_P a ac ()) H.size q → A q := nd_r0 hS hA
  refine nd_cSi (As := [.int x3]) (rest := [.int (y0 ||| y1)]) (q := q12) (w' := dw_P a ac s13) ⟨hx, hb, hml, hown, hts⟩ (fun sz => dm_X4_jumping l hlt dC dI a ac n (x3) () hq sz) (cwS 1 hts gi_dm_X4_expandedSecond_2 rfl rfl rfl (by decide +kernel) ⟨Nat.le_of_ble_eq_true rfl, Nat.le_of_ble_eq_true rfl⟩) hPc hDc hKc hS hA hN rfl hl.1 rfl (Nat.le_of_ble_eq_true rfl) dX4_expandedSecond_147 (fun H locs hP1 hD1 hk1 hS => ?_)
  have hP := nd_n0 hP hk1
  refine lv_ior hx hb dX4_expandedSecond_150 ?_
  exact K _ _ _ _ _ _ dX4_expandedSecond_151 rfl (Option.some.inj h).symm hP hD hS
set_option maxHeartbeats 40000000 in
set_option maxRecDepth 100000 in
theorem db_X4_expandedSecond_64 {p : Program} {l : Launch} {e : Env} {s : State} {m : MethodId} {args : Array Value} {below : List Frame} {meth : Method} {c : Code} {Q : State → Prop} {A : Nat → Prop} {dC : Nat → ClassId} {dI : Nat → Nat → Nat} {a : Nat → Nat} {ac : Nat → ClassId} {n : Nat} {r : Int32 × (Unit)} (C : nd_C p l s m args c A (dC, dI) cX4_expandedSecond 6 RX4 ow_dm_X4_expandedSecond (dk_P ac)) (K : nd_Ki p l e (headSpec ow_dm_X4_expandedSecond ({ frames := 1, cells := 0, slots := 0, locals := 23 })).room s m args below meth c Q A (dC, dI) cX4_expandedSecond .int (Unit) (dw_P a ac) r) : dj_X4_expandedSecond_64 p l e s m args below meth c Q A dC dI a ac (df_X4_expandedSecond_64 n) r := by
  obtain ⟨hlt, hx, hb, hml, hown, hts, hN, hA, hK⟩ := id C
  intro x0 s0 H locs ls h hP hD hS hl
  unfold df_X4_expandedSecond_64 at h
  refine lv_iload_n hx hb dX4_expandedSecond_64 rfl (lv_at hl 0 rfl) ?_
  refine lv_bipush (v := 19) hx hb dX4_expandedSecond_65 (by decide) ?_
  refine lv_ishl hx hb dX4_expandedSecond_67 ?_
  refine lv_bipush (v := 31) hx hb dX4_expandedSecond_68 (by decide) ?_
  refine lv_ishr hx hb dX4_expandedSecond_70 ?_
  refine lv_bipush (v := 11) hx hb dX4_expandedSecond_71 (by decide) ?_
  refine lv_ishl hx hb dX4_expandedSecond_73 ?_
  refine lv_iload_n hx hb dX4_expandedSecond_74 rfl (lv_at hl 0 rfl) ?_
  refine lv_bipush (v := 7) hx hb dX4_expandedSecond_75 (by decide) ?_
  refine lv_ishr hx hb dX4_expandedSecond_77 ?_
  refine lv_bipush (v := 16) hx hb dX4_expandedSecond_78 (by decide) ?_
  refine lv_iand hx hb dX4_expandedSecond_80 ?_
  refine lv_ior hx hb dX4_expandedSecond_81 ?_
  refine lv_iload_n hx hb dX4_expandedSecond_82 rfl (lv_at hl 0 rfl) ?_
  refine lv_iconst (v := 1) hx hb dX4_expandedSecond_83 (by decide) ?_
  refine lv_ishr hx hb dX4_expandedSecond_84 ?_
  refine lv_sipush (v := 768) hx hb dX4_expandedSecond_85 (by decide) ?_
  refine lv_iand hx hb dX4_expandedSecond_88 ?_
  refine lv_ior hx hb dX4_expandedSecond_89 ?_
  refine lv_iload_n hx hb dX4_expandedSecond_90 rfl (lv_at hl 0 rfl) ?_
  refine lv_iconst (v := 2) hx hb dX4_expandedSecond_91 (by decide) ?_
  refine lv_ishl hx hb dX4_expandedSecond_92 ?_
  refine lv_sipush (v := 1024) hx hb dX4_expandedSecond_93 (by decide) ?_
  refine lv_iand hx hb dX4_expandedSecond_96 ?_
  refine lv_ior hx hb dX4_expandedSecond_97 ?_
  refine lv_iload_n hx hb dX4_expandedSecond_98 rfl (lv_at hl 0 rfl) ?_
  refine lv_iconst (v := 1) hx hb dX4_expandedSecond_99 (by decide) ?_
  refine lv_ishr hx hb dX4_expandedSecond_100 ?_
  refine lv_bipush (v := 64) hx hb dX4_expandedSecond_101 (by decide) ?_
  refine lv_iand hx hb dX4_expandedSecond_103 ?_
  refine lv_ior hx hb dX4_expandedSecond_104 ?_
  refine lv_iload_n hx hb dX4_expandedSecond_105 rfl (lv_at hl 0 rfl) ?_
  refine lv_iconst (v := 1) hx hb dX4_expandedSecond_106 (by decide) ?_
  refine lv_ishl hx hb dX4_expandedSecond_107 ?_
  refine lv_sipush (v := 128) hx hb dX4_expandedSecond_108 (by decide) ?_
  refine lv_iand hx hb dX4_expandedSecond_111 ?_
  refine lv_ior hx hb dX4_expandedSecond_112 ?_
  refine lv_iload_n hx hb dX4_expandedSecond_113 rfl (lv_at hl 0 rfl) ?_
  refine lv_iconst (v := 2) hx hb dX4_expandedSecond_114 (by decide) ?_
  refine lv_ishr hx hb dX4_expandedSecond_115 ?_
  refine lv_bipush (v := 14) hx hb dX4_expandedSecond_116 (by decide) ?_
  refine lv_iand hx hb dX4_expandedSecond_118 ?_
  refine lv_ior hx hb dX4_expandedSecond_119 ?_
  refine lv_iload_n hx hb dX4_expandedSecond_120 rfl (lv_at hl 0 rfl) ?_
  refine lv_iconst (v := 3) hx hb dX4_expandedSecond_121 (by decide) ?_
  refine lv_ishl hx hb dX4_expandedSecond_122 ?_
  refine lv_bipush (v := 32) hx hb dX4_expandedSecond_123 (by decide) ?_
  refine lv_iand hx hb dX4_expandedSecond_125 ?_
  refine lv_ior hx hb dX4_expandedSecond_126 ?_
  refine lv_topi (fun z10 ez10 => ?_)
  have h := nd_at h ez10
  refine lv_istore_n (lv' := [(3, .int z10), (0, .int x0)]) hx hb dX4_expandedSecond_127 rfl hl (by decide) rfl (fun ls hl => ?_)
  refine lv_bipush (v := 111) hx hb dX4_expandedSecond_128 (by decide) ?_
  refine lv_iload_n hx hb dX4_expandedSecond_130 rfl (lv_at hl 1 rfl) ?_
  refine lv_bipush (v := 13) hx hb dX4_expandedSecond_131 (by decide) ?_
  refine lv_ishr hx hb dX4_expandedSecond_133 ?_
  refine lv_iconst (v := 1) hx hb dX4_expandedSecond_134 (by decide) ?_
  refine lv_icmp_ne (tgt := 144) hx hb dX4_expandedSecond_135 (by decide) (fun c11 => ?_) (fun c11 => ?_)
  · have h := nd_neg h c11
    refine lv_iconst (v := 0) hx hb dX4_expandedSecond_144 (by decide) ?_
    exact (db_X4_expandedSecond_145 C K) (z10) (111) (0) s0 _ _ _ h hP hD hS (lv_sub hl [0] rfl)
  · have h := nd_pos h c11
    refine lv_sipush (v := 128) hx hb dX4_expandedSecond_138 (by decide) ?_
    refine lv_goto (tgt := 145) hx hb dX4_expandedSecond_141 (by decide) ?_
    exact (db_X4_expandedSecond_145 C K) (z10) (111) (128) s0 _ _ _ h hP hD hS (lv_sub hl [0] rfl)
set_option maxHeartbeats 40000000 in
set_option maxRecDepth 100000 in
theorem db_X4_expandedSecond_244 {p : Program} {l : Launch} {e : Env} {s : State} {m : MethodId} {args : Array Value} {below : List Frame} {meth : Method} {c : Code} {Q : State → Prop} {A : Nat → Prop} {dC : Nat → ClassId} {dI : Nat → Nat → Nat} {a : Nat → Nat} {ac : Nat → ClassId} {n : Nat} {r : Int32 × (Unit)} (C : nd_C p l s m args c A (dC, dI) cX4_expandedSecond 6 RX4 ow_dm_X4_expandedSecond (dk_P ac)) (K : nd_Ki p l e (headSpec ow_dm_X4_expandedSecond ({ frames := 1, cells := 0, slots := 0, locals := 23 })).room s m args below meth c Q A (dC, dI) cX4_expandedSecond .int (Unit) (dw_P a ac) r) : dj_X4_expandedSecond_244 p l e s m args below meth c Q A dC dI a ac (df_X4_expandedSecond_244 n) r := by
  obtain ⟨hlt, hx, hb, hml, hown, hts, hN, hA, hK⟩ := id C
  intro y0 s0 H locs ls h hP hD hS hl
  unfold df_X4_expandedSecond_244 at h
  exact K _ _ _ _ _ _ dX4_expandedSecond_244 rfl (Option.some.inj h).symm hP hD hS
set_option maxHeartbeats 40000000 in
set_option maxRecDepth 100000 in
theorem db_X4_expandedSecond_185 {p : Program} {l : Launch} {e : Env} {s : State} {m : MethodId} {args : Array Value} {below : List Frame} {meth : Method} {c : Code} {Q : State → Prop} {A : Nat → Prop} {dC : Nat → ClassId} {dI : Nat → Nat → Nat} {a : Nat → Nat} {ac : Nat → ClassId} {n : Nat} {r : Int32 × (Unit)} (C : nd_C p l s m args c A (dC, dI) cX4_expandedSecond 6 RX4 ow_dm_X4_expandedSecond (dk_P ac)) (K : nd_Ki p l e (headSpec ow_dm_X4_expandedSecond ({ frames := 1, cells := 0, slots := 0, locals := 23 })).room s m args below meth c Q A (dC, dI) cX4_expandedSecond .int (Unit) (dw_P a ac) r) : dj_X4_expandedSecond_185 p l e s m args below meth c Q A dC dI a ac (df_X4_expandedSecond_185 n) r := by
  obtain ⟨hlt, hx, hb, hml, hown, hts, hN, hA, hK⟩ := id C
  intro y0 s0 H locs ls h hP hD hS hl
  unfold df_X4_expandedSecond_185 at h
  exact K _ _ _ _ _ _ dX4_expandedSecond_185 rfl (Option.some.inj h).symm hP hD hS
set_option maxHeartbeats 40000000 in
set_option maxRecDepth 100000 in
theorem db_X4_expandedSecond_245 {p : Program} {l : Launch} {e : Env} {s : State} {m : MethodId} {args : Array Value} {below : List Frame} {meth : Method} {c : Code} {Q : State → Prop} {A : Nat → Prop} {dC : Nat → ClassId} {dI : Nat → Nat → Nat} {a : Nat → Nat} {ac : Nat → ClassId} {n : Nat} {r : Int32 × (Unit)} (C : nd_C p l s m args c A (dC, dI) cX4_expandedSecond 6 RX4 ow_dm_X4_expandedSecond (dk_P ac)) (K : nd_Ki p l e (headSpec ow_dm_X4_expandedSecond ({ frames := 1, cells := 0, slots := 0, locals := 23 })).room s m args below meth c Q A (dC, dI) cX4_expandedSecond .int (Unit) (dw_P a ac) r) : dj_X4_expandedSecond_245 p l e s m args below meth c Q A dC dI a ac (df_X4_expandedSecond_245 n) r := by
  obtain ⟨hlt, hx, hb, hml, hown, hts, hN, hA, hK⟩ := id C
  intro x0 s0 H locs ls h hP hD hS hl
  unfold df_X4_expandedSecond_245 at h
  refine lv_iload_n hx hb dX4_expandedSecond_245 rfl (lv_at hl 0 rfl) ?_
  refine lv_bipush (v := 19) hx hb dX4_expandedSecond_246 (by decide) ?_
  refine lv_ishl hx hb dX4_expandedSecond_248 ?_
  refine lv_bipush (v := 31) hx hb dX4_expandedSecond_249 (by decide) ?_
  refine lv_ishr hx hb dX4_expandedSecond_251 ?_
  refine lv_bipush (v := 8) hx hb dX4_expandedSecond_252 (by decide) ?_
  refine lv_ishl hx hb dX4_expandedSecond_254 ?_
  refine lv_iload_n hx hb dX4_expandedSecond_255 rfl (lv_at hl 0 rfl) ?_
  refine lv_bipush (v := 7) hx hb dX4_expandedSecond_256 (by decide) ?_
  refine lv_ishr hx hb dX4_expandedSecond_258 ?_
  refine lv_bipush (v := 24) hx hb dX4_expandedSecond_259 (by decide) ?_
  refine lv_iand hx hb dX4_expandedSecond_261 ?_
  refine lv_ior hx hb dX4_expandedSecond_262 ?_
  refine lv_iload_n hx hb dX4_expandedSecond_263 rfl (lv_at hl 0 rfl) ?_
  refine lv_iconst (v := 1) hx hb dX4_expandedSecond_264 (by decide) ?_
  refine lv_ishl hx hb dX4_expandedSecond_265 ?_
  refine lv_sipush (v := 192) hx hb dX4_expandedSecond_266 (by decide) ?_
  refine lv_iand hx hb dX4_expandedSecond_269 ?_
  refine lv_ior hx hb dX4_expandedSecond_270 ?_
  refine lv_iload_n hx hb dX4_expandedSecond_271 rfl (lv_at hl 0 rfl) ?_
  refine lv_iconst (v := 2) hx hb dX4_expandedSecond_272 (by decide) ?_
  refine lv_ishr hx hb dX4_expandedSecond_273 ?_
  refine lv_bipush (v := 6) hx hb dX4_expandedSecond_274 (by decide) ?_
  refine lv_iand hx hb dX4_expandedSecond_276 ?_
  refine lv_ior hx hb dX4_expandedSecond_277 ?_
  refine lv_iload_n hx hb dX4_expandedSecond_278 rfl (lv_at hl 0 rfl) ?_
  refine lv_iconst (v := 3) hx hb dX4_expandedSecond_279 (by decide) ?_
  refine lv_ishl hx hb dX4_expandedSecond_280 ?_
  refine lv_bipush (v := 32) hx hb dX4_expandedSecond_281 (by decide) ?_
  refine lv_iand hx hb dX4_expandedSecond_283 ?_
  refine lv_ior hx hb dX4_expandedSecond_284 ?_
  refine lv_topi (fun z28 ez28 => ?_)
  have h := nd_at h ez28
  refine lv_istore (lv' := [(5, .int z28), (0, .int x0)]) hx hb dX4_expandedSecond_285 hl (by decide) rfl (fun ls hl => ?_)
  refine lv_bipush (v := 99) hx hb dX4_expandedSecond_287 (by decide) ?_
  refine lv_iload_n hx hb dX4_expandedSecond_289 rfl (lv_at hl 1 rfl) ?_
  refine lv_bipush (v := 13) hx hb dX4_expandedSecond_290 (by decide) ?_
  refine lv_ishr hx hb dX4_expandedSecond_292 ?_
  refine lv_bipush (v := 12) hx hb dX4_expandedSecond_293 (by decide) ?_
  refine lv_ishl hx hb dX4_expandedSecond_295 ?_
  refine lv_sipush (v := 4096) hx hb dX4_expandedSecond_296 (by decide) ?_
  refine lv_iand hx hb dX4_expandedSecond_299 ?_
  refine lv_ior hx hb dX4_expandedSecond_300 ?_
  refine lv_bipush (v := 8) hx hb dX4_expandedSecond_301 (by decide) ?_
  refine lv_iload_n hx hb dX4_expandedSecond_303 rfl (lv_at hl 1 rfl) ?_
  refine lv_bipush (v := 7) hx hb dX4_expandedSecond_304 (by decide) ?_
  refine lv_ishr hx hb dX4_expandedSecond_306 ?_
  refine lv_bipush (v := 7) hx hb dX4_expandedSecond_307 (by decide) ?_
  refine lv_iand hx hb dX4_expandedSecond_309 ?_
  refine lv_iadd hx hb dX4_expandedSecond_310 ?_
  refine lv_bipush (v := 15) hx hb dX4_expandedSecond_311 (by decide) ?_
  refine lv_ishl hx hb dX4_expandedSecond_313 ?_
  refine lv_ior hx hb dX4_expandedSecond_314 ?_
  refine lv_iload hx hb dX4_expandedSecond_315 (lv_at hl 0 rfl) ?_
  obtain ⟨q29, s30, hq, h⟩ := nd_b2_e h
  have hPc : va_P (dC, dI) vwCl (dw_P a ac ()) H := nd_p0
  have hDc : va_D A (dw_P a ac ()) := nd_d0
  have hKc : va_K (dC, dI) vwCl (dk_P ac) s := nd_y0 hK
  have hFc : ∀ q, va_A (dw_P a ac ()) H.size q → A q := nd_r0 hS hA
  refine nd_cSi (As := [.int z28]) (rest := [.int ((99 ||| (((((x0 : Int32) >>> ((13 : Int32) &&& 31)) : Int32) <<< ((12 : Int32) &&& 31)) &&& 4096)) ||| (((8 + (((x0 : Int32) >>> ((7 : Int32) &&& 31)) &&& 7)) : Int32) <<< ((15 : Int32) &&& 31)))]) (q := q29) (w' := dw_P a ac s30) ⟨hx, hb, hml, hown, hts⟩ (fun sz => dm_X4_branching l hlt dC dI a ac n (z28) () hq sz) (cwS 1 hts gi_dm_X4_expandedSecond_3 rfl rfl rfl (by decide +kernel) ⟨Nat.le_of_ble_eq_true rfl, Nat.le_of_ble_eq_true rfl⟩) hPc hDc hKc hS hA hN rfl hl.1 rfl (Nat.le_of_ble_eq_true rfl) dX4_expandedSecond_317 (fun H locs hP1 hD1 hk1 hS => ?_)
  have hP := nd_n0 hP hk1
  refine lv_ior hx hb dX4_expandedSecond_320 ?_
  exact K _ _ _ _ _ _ dX4_expandedSecond_321 rfl (Option.some.inj h).symm hP hD hS
set_option maxHeartbeats 40000000 in
set_option maxRecDepth 100000 in
theorem db_X4_expandedSecond_0 {p : Program} {l : Launch} {e : Env} {s : State} {m : MethodId} {args : Array Value} {below : List Frame} {meth : Method} {c : Code} {Q : State → Prop} {A : Nat → Prop} {dC : Nat → ClassId} {dI : Nat → Nat → Nat} {a : Nat → Nat} {ac : Nat → ClassId} {n : Nat} {r : Int32 × (Unit)} (C : nd_C p l s m args c A (dC, dI) cX4_expandedSecond 6 RX4 ow_dm_X4_expandedSecond (dk_P ac)) (K : nd_Ki p l e (headSpec ow_dm_X4_expandedSecond ({ frames := 1, cells := 0, slots := 0, locals := 23 })).room s m args below meth c Q A (dC, dI) cX4_expandedSecond .int (Unit) (dw_P a ac) r) : dj_X4_expandedSecond_0 p l e s m args below meth c Q A dC dI a ac (df_X4_expandedSecond_0 n) r := by
  obtain ⟨hlt, hx, hb, hml, hown, hts, hN, hA, hK⟩ := id C
  intro v0 s0 H locs ls h hP hD hS hl
  unfold df_X4_expandedSecond_0 at h
  refine lv_iload_n hx hb dX4_expandedSecond_0 rfl (lv_at hl 0 rfl) ?_
  refine lv_bipush (v := 7) hx hb dX4_expandedSecond_1 (by decide) ?_
  refine lv_ishr hx hb dX4_expandedSecond_3 ?_
  refine lv_bipush (v := 31) hx hb dX4_expandedSecond_4 (by decide) ?_
  refine lv_iand hx hb dX4_expandedSecond_6 ?_
  refine lv_topi (fun z1 ez1 => ?_)
  have h := nd_at h ez1
  refine lv_istore_n (lv' := [(1, .int z1), (0, .int v0)]) hx hb dX4_expandedSecond_7 rfl hl (by decide) rfl (fun ls hl => ?_)
  refine lv_iload_n hx hb dX4_expandedSecond_8 rfl (lv_at hl 1 rfl) ?_
  obtain ⟨q2, s3, hq, h⟩ := nd_b2_e h
  have hPc : va_P (dC, dI) vwCl (dw_P a ac ()) H := nd_p0
  have hDc : va_D A (dw_P a ac ()) := nd_d0
  have hKc : va_K (dC, dI) vwCl (dk_P ac) s := nd_y0 hK
  have hFc : ∀ q, va_A (dw_P a ac ()) H.size q → A q := nd_r0 hS hA
  refine nd_cSi (As := [.int v0]) (rest := []) (q := q2) (w' := dw_P a ac s3) ⟨hx, hb, hml, hown, hts⟩ (fun sz => dm_X4_signedNumber l hlt dC dI a ac n (v0) () hq sz) (cwS 1 hts gi_dm_X4_expandedSecond_0 rfl rfl rfl (by decide +kernel) ⟨Nat.le_of_ble_eq_true rfl, Nat.le_of_ble_eq_true rfl⟩) hPc hDc hKc hS hA hN rfl hl.1 rfl (Nat.le_of_ble_eq_true rfl) dX4_expandedSecond_9 (fun H locs hP1 hD1 hk1 hS => ?_)
  have hP := nd_n0 hP hk1
  refine lv_istore_n (lv' := [(2, .int q2), (1, .int z1), (0, .int v0)]) hx hb dX4_expandedSecond_12 rfl hl (by decide) rfl (fun ls hl => ?_)
  refine lv_iload_n hx hb dX4_expandedSecond_13 rfl (lv_at hl 2 rfl) ?_
  refine lv_bipush (v := 13) hx hb dX4_expandedSecond_14 (by decide) ?_
  refine lv_ishr hx hb dX4_expandedSecond_16 ?_
  by_cases c5 : ((v0 : Int32) >>> ((13 : Int32) &&& 31)) = 0
  · have h := nd_pos h c5
    refine lv_tableIn (off := 39) (tgt := 56) hx hb dX4_expandedSecond_17 (by rw [c5]; decide) (by rw [c5]; decide) (by rw [c5]; decide) (by decide) ?_
    refine lv_iload_n hx hb dX4_expandedSecond_56 rfl (lv_at hl 0 rfl) ?_
    refine lv_iload_n hx hb dX4_expandedSecond_57 rfl (lv_at hl 1 rfl) ?_
    refine lv_iconst (v := 0) hx hb dX4_expandedSecond_58 (by decide) ?_
    refine lv_iload_n hx hb dX4_expandedSecond_59 rfl (lv_at hl 1 rfl) ?_
    obtain ⟨q6, s7, hq, h⟩ := nd_b2_e h
    have hPc : va_P (dC, dI) vwCl (dw_P a ac ()) H := nd_p0
    have hDc : va_D A (dw_P a ac ()) := nd_d0
    have hKc : va_K (dC, dI) vwCl (dk_P ac) s := nd_y0 hK
    have hFc : ∀ q, va_A (dw_P a ac ()) H.size q → A q := nd_r0 hS hA
    refine nd_cSi (As := [.int q2, .int z1, .int 0, .int z1]) (rest := []) (q := q6) (w' := dw_P a ac s7) ⟨hx, hb, hml, hown, hts⟩ (fun sz => dm_X4_number l hlt dC dI a ac n (q2) (z1) (0) (z1) () hq sz) (cwS 4 hts gi_dm_X4_expandedSecond_1 rfl rfl rfl (by decide +kernel) ⟨Nat.le_of_ble_eq_true rfl, Nat.le_of_ble_eq_true rfl⟩) hPc hDc hKc hS hA hN rfl hl.1 rfl (Nat.le_of_ble_eq_true rfl) dX4_expandedSecond_60 (fun H locs hP1 hD1 hk1 hS => ?_)
    have hP := nd_n0 hP hk1
    exact K _ _ _ _ _ _ dX4_expandedSecond_63 rfl (Option.some.inj h).symm hP hD hS
  have h := nd_neg h c5
  by_cases c9 : ((v0 : Int32) >>> ((13 : Int32) &&& 31)) = 1
  · have h := nd_pos h c9
    refine lv_tableIn (off := 47) (tgt := 64) hx hb dX4_expandedSecond_17 (by rw [c9]; decide) (by rw [c9]; decide) (by rw [c9]; decide) (by decide) ?_
    exact (db_X4_expandedSecond_64 C K) (v0) s0 _ _ _ h hP hD hS (lv_sub hl [2] rfl)
  have h := nd_neg h c9
  by_cases c15 : ((v0 : Int32) >>> ((13 : Int32) &&& 31)) = 2
  · have h := nd_pos h c15
    refine lv_tableIn (off := 135) (tgt := 152) hx hb dX4_expandedSecond_17 (by rw [c15]; decide) (by rw [c15]; decide) (by rw [c15]; decide) (by decide) ?_
    refine lv_iload_n hx hb dX4_expandedSecond_152 rfl (lv_at hl 0 rfl) ?_
    refine lv_iconst (v := 0) hx hb dX4_expandedSecond_153 (by decide) ?_
    refine lv_iconst (v := 0) hx hb dX4_expandedSecond_154 (by decide) ?_
    refine lv_iload_n hx hb dX4_expandedSecond_155 rfl (lv_at hl 1 rfl) ?_
    obtain ⟨q16, s17, hq, h⟩ := nd_b2_e h
    have hPc : va_P (dC, dI) vwCl (dw_P a ac ()) H := nd_p0
    have hDc : va_D A (dw_P a ac ()) := nd_d0
    have hKc : va_K (dC, dI) vwCl (dk_P ac) s := nd_y0 hK
    have hFc : ∀ q, va_A (dw_P a ac ()) H.size q → A q := nd_r0 hS hA
    refine nd_cSi (As := [.int q2, .int 0, .int 0, .int z1]) (rest := []) (q := q16) (w' := dw_P a ac s17) ⟨hx, hb, hml, hown, hts⟩ (fun sz => dm_X4_number l hlt dC dI a ac n (q2) (0) (0) (z1) () hq sz) (cwS 4 hts gi_dm_X4_expandedSecond_1 rfl rfl rfl (by decide +kernel) ⟨Nat.le_of_ble_eq_true rfl, Nat.le_of_ble_eq_true rfl⟩) hPc hDc hKc hS hA hN rfl hl.1 rfl (Nat.le_of_ble_eq_true rfl) dX4_expandedSecond_156 (fun H locs hP1 hD1 hk1 hS => ?_)
    have hP := nd_n0 hP hk1
    exact K _ _ _ _ _ _ dX4_expandedSecond_159 rfl (Option.some.inj h).symm hP hD hS
  have h := nd_neg h c15
  by_cases c19 : ((v0 : Int32) >>> ((13 : Int32) &&& 31)) = 3
  · have h := nd_pos h c19
    refine lv_tableIn (off := 143) (tgt := 160) hx hb dX4_expandedSecond_17 (by rw [c19]; decide) (by rw [c19]; decide) (by rw [c19]; decide) (by decide) ?_
    refine lv_iload_n hx hb dX4_expandedSecond_160 rfl (lv_at hl 1 rfl) ?_
    refine lv_iconst (v := 2) hx hb dX4_expandedSecond_161 (by decide) ?_
    refine lv_icmp_eq (tgt := 186) hx hb dX4_expandedSecond_162 (by decide) (fun c20 => ?_) (fun c20 => ?_)
    · have h := nd_pos h c20
      refine lv_iload_n hx hb dX4_expandedSecond_186 rfl (lv_at hl 2 rfl) ?_
      refine lv_bipush (v := 19) hx hb dX4_expandedSecond_187 (by decide) ?_
      refine lv_ishl hx hb dX4_expandedSecond_189 ?_
      refine lv_bipush (v := 31) hx hb dX4_expandedSecond_190 (by decide) ?_
      refine lv_ishr hx hb dX4_expandedSecond_192 ?_
      refine lv_bipush (v := 9) hx hb dX4_expandedSecond_193 (by decide) ?_
      refine lv_ishl hx hb dX4_expandedSecond_195 ?_
      refine lv_iload_n hx hb dX4_expandedSecond_196 rfl (lv_at hl 2 rfl) ?_
      refine lv_iconst (v := 2) hx hb dX4_expandedSecond_197 (by decide) ?_
      refine lv_ishr hx hb dX4_expandedSecond_198 ?_
      refine lv_bipush (v := 16) hx hb dX4_expandedSecond_199 (by decide) ?_
      refine lv_iand hx hb dX4_expandedSecond_201 ?_
      refine lv_ior hx hb dX4_expandedSecond_202 ?_
      refine lv_iload_n hx hb dX4_expandedSecond_203 rfl (lv_at hl 2 rfl) ?_
      refine lv_iconst (v := 1) hx hb dX4_expandedSecond_204 (by decide) ?_
      refine lv_ishl hx hb dX4_expandedSecond_205 ?_
      refine lv_bipush (v := 64) hx hb dX4_expandedSecond_206 (by decide) ?_
      refine lv_iand hx hb dX4_expandedSecond_208 ?_
      refine lv_ior hx hb dX4_expandedSecond_209 ?_
      refine lv_iload_n hx hb dX4_expandedSecond_210 rfl (lv_at hl 2 rfl) ?_
      refine lv_iconst (v := 4) hx hb dX4_expandedSecond_211 (by decide) ?_
      refine lv_ishl hx hb dX4_expandedSecond_212 ?_
      refine lv_sipush (v := 384) hx hb dX4_expandedSecond_213 (by decide) ?_
      refine lv_iand hx hb dX4_expandedSecond_216 ?_
      refine lv_ior hx hb dX4_expandedSecond_217 ?_
      refine lv_iload_n hx hb dX4_expandedSecond_218 rfl (lv_at hl 2 rfl) ?_
      refine lv_iconst (v := 3) hx hb dX4_expandedSecond_219 (by decide) ?_
      refine lv_ishl hx hb dX4_expandedSecond_220 ?_
      refine lv_bipush (v := 32) hx hb dX4_expandedSecond_221 (by decide) ?_
      refine lv_iand hx hb dX4_expandedSecond_223 ?_
      refine lv_ior hx hb dX4_expandedSecond_224 ?_
      refine lv_topi (fun z21 ez21 => ?_)
      have h := nd_at h ez21
      refine lv_istore (lv' := [(4, .int z21), (2, .int q2), (1, .int z1), (0, .int v0)]) hx hb dX4_expandedSecond_225 hl (by decide) rfl (fun ls hl => ?_)
      refine lv_iload hx hb dX4_expandedSecond_227 (lv_at hl 0 rfl) ?_
      refine lv_if_ne (tgt := 236) hx hb dX4_expandedSecond_229 (by decide) (fun c22 => ?_) (fun c22 => ?_)
      · have h := nd_neg h c22
        refine lv_iload hx hb dX4_expandedSecond_236 (lv_at hl 0 rfl) ?_
        refine lv_iconst (v := 2) hx hb dX4_expandedSecond_238 (by decide) ?_
        refine lv_iconst (v := 0) hx hb dX4_expandedSecond_239 (by decide) ?_
        refine lv_iconst (v := 2) hx hb dX4_expandedSecond_240 (by decide) ?_
        obtain ⟨q23, s24, hq, h⟩ := nd_b2_e h
        have hPc : va_P (dC, dI) vwCl (dw_P a ac ()) H := nd_p0
        have hDc : va_D A (dw_P a ac ()) := nd_d0
        have hKc : va_K (dC, dI) vwCl (dk_P ac) s := nd_y0 hK
        have hFc : ∀ q, va_A (dw_P a ac ()) H.size q → A q := nd_r0 hS hA
        refine nd_cSi (As := [.int z21, .int 2, .int 0, .int 2]) (rest := []) (q := q23) (w' := dw_P a ac s24) ⟨hx, hb, hml, hown, hts⟩ (fun sz => dm_X4_number l hlt dC dI a ac n (z21) (2) (0) (2) () hq sz) (cwS 4 hts gi_dm_X4_expandedSecond_1 rfl rfl rfl (by decide +kernel) ⟨Nat.le_of_ble_eq_true rfl, Nat.le_of_ble_eq_true rfl⟩) hPc hDc hKc hS hA hN rfl hl.1 rfl (Nat.le_of_ble_eq_true rfl) dX4_expandedSecond_241 (fun H locs hP1 hD1 hk1 hS => ?_)
        have hP := nd_n0 hP hk1
        exact (db_X4_expandedSecond_244 C K) (q23) s0 _ _ _ h hP hD hS (lv_sub hl [] rfl)
      · have h := nd_pos h c22
        refine lv_iconst (v := 0) hx hb dX4_expandedSecond_232 (by decide) ?_
        refine lv_goto (tgt := 244) hx hb dX4_expandedSecond_233 (by decide) ?_
        exact (db_X4_expandedSecond_244 C K) (0) s0 _ _ _ h hP hD hS (lv_sub hl [] rfl)
    · have h := nd_neg h c20
      refine lv_iload_n hx hb dX4_expandedSecond_165 rfl (lv_at hl 0 rfl) ?_
      refine lv_if_ne (tgt := 173) hx hb dX4_expandedSecond_166 (by decide) (fun c26 => ?_) (fun c26 => ?_)
      · have h := nd_neg h c26
        refine lv_iload_n hx hb dX4_expandedSecond_173 rfl (lv_at hl 0 rfl) ?_
        refine lv_bipush (v := 12) hx hb dX4_expandedSecond_174 (by decide) ?_
        refine lv_ishl hx hb dX4_expandedSecond_176 ?_
        refine lv_iload_n hx hb dX4_expandedSecond_177 rfl (lv_at hl 1 rfl) ?_
        refine lv_bipush (v := 7) hx hb dX4_expandedSecond_178 (by decide) ?_
        refine lv_ishl hx hb dX4_expandedSecond_180 ?_
        refine lv_ior hx hb dX4_expandedSecond_181 ?_
        refine lv_bipush (v := 55) hx hb dX4_expandedSecond_182 (by decide) ?_
        refine lv_ior hx hb dX4_expandedSecond_184 ?_
        exact (db_X4_expandedSecond_185 C K) (((((q2 : Int32) <<< ((12 : Int32) &&& 31)) ||| ((z1 : Int32) <<< ((7 : Int32) &&& 31))) ||| 55)) s0 _ _ _ h hP hD hS (lv_sub hl [] rfl)
      · have h := nd_pos h c26
        refine lv_iconst (v := 0) hx hb dX4_expandedSecond_169 (by decide) ?_
        refine lv_goto (tgt := 185) hx hb dX4_expandedSecond_170 (by decide) ?_
        exact (db_X4_expandedSecond_185 C K) (0) s0 _ _ _ h hP hD hS (lv_sub hl [] rfl)
  have h := nd_neg h c19
  by_cases c27 : ((v0 : Int32) >>> ((13 : Int32) &&& 31)) = 4
  · have h := nd_pos h c27
    refine lv_tableIn (off := 228) (tgt := 245) hx hb dX4_expandedSecond_17 (by rw [c27]; decide) (by rw [c27]; decide) (by rw [c27]; decide) (by decide) ?_
    exact (db_X4_expandedSecond_245 C K) (v0) s0 _ _ _ h hP hD hS (lv_sub hl [2] rfl)
  have h := nd_neg h c27
  by_cases c32 : ((v0 : Int32) >>> ((13 : Int32) &&& 31)) = 5
  · have h := nd_pos h c32
    refine lv_tableIn (off := 47) (tgt := 64) hx hb dX4_expandedSecond_17 (by rw [c32]; decide) (by rw [c32]; decide) (by rw [c32]; decide) (by decide) ?_
    exact (db_X4_expandedSecond_64 C K) (v0) s0 _ _ _ h hP hD hS (lv_sub hl [2] rfl)
  have h := nd_neg h c32
  refine lv_tableOut (tgt := 245) hx hb dX4_expandedSecond_17 (by have g0 := nv_nei c5 (k := 0) (by decide); have g1 := nv_nei c9 (k := 1) (by decide); have g2 := nv_nei c15 (k := 2) (by decide); have g3 := nv_nei c19 (k := 3) (by decide); have g4 := nv_nei c27 (k := 4) (by decide); have g5 := nv_nei c32 (k := 5) (by decide); omega) (by decide) ?_
  exact (db_X4_expandedSecond_245 C K) (v0) s0 _ _ _ h hP hD hS (lv_sub hl [2] rfl)
set_option maxHeartbeats 40000000 in
set_option maxRecDepth 100000 in
theorem dm_X4_expandedSecond (l : Launch) (hlt : l.stackTraces = false) (dC : Nat → ClassId) (dI : Nat → Nat → Nat) (a : Nat → Nat) (ac : Nat → ClassId) (n : Nat) (v0 : Int32) (s0 : Unit) {r : Int32 × (Unit)} (h : df_X4_expandedSecond n v0 s0 = some r) (sz : Nat) : Met l yX4_expandedSecond ow_dm_X4_expandedSecond ({ frames := 1, cells := 0, slots := 0, locals := 23 }) (va_Pc [.int v0] (fun U => U.heap.size = sz ∧ va_P (dC, dI) vwCl (dw_P a ac s0) U.heap ∧ va_K (dC, dI) vwCl (dk_P ac) U ∧ va_D (fun _ => True) (dw_P a ac s0) ∧ nv_E dI (va_A (dw_P a ac s0) sz) U)) (va_Qi (fun x _ => x = r.1) (fun (_ : Unit) t => va_P (dC, dI) vwCl (dw_P a ac r.2) t.heap ∧ va_K (dC, dI) vwCl (dk_P ac) t ∧ va_D (va_A (dw_P a ac s0) sz) (dw_P a ac r.2)) (va_A (dw_P a ac s0) sz)) 0 0 (va_A (dw_P a ac s0) sz) := by
  refine Met.ofW (cc := cX4_expandedSecond) (maxL := 6) (ret := (some .int)) (by decide) rfl ?_
  intro p e s m args below meth c s₁ B hml hv
  obtain ⟨rfl, hsz, hP, hK, hD0, hN⟩ := hv
  have hx := B.exec
  have hb := B.bytes
  have hr := B.returns
  have hts := atoms_spec (ws := ow_dm_X4_expandedSecond) B.pre
  have hown : s.vm.findClass RX4 = some m.cls := findClass_of_methodNamed B.named
  have hlocks := B.notSynchronized
  subst hsz
  have hD := hD0.self (sz := s.heap.size)
  generalize hAe : va_A (dw_P a ac s0) s.heap.size = A at hD hN ⊢
  have hA : ∀ q : Nat, s.heap.size ≤ q → A q := fun q h => by rw [← hAe]; exact Or.inr h
  have hl := lv_entry ([.int v0]) (n := 6) (Nat.le_of_ble_eq_true rfl)
  rw [lg_entry_eq]
  generalize (lg_sl ([.int v0]) ++ List.replicate (6 - (lg_sl ([.int v0])).length) Slot.unset).toArray = ls at hl ⊢
  have hl : lv_has ls 6 [(0, .int v0)] := hl
  exact db_X4_expandedSecond_0 (dC := dC) (dI := dI) (a := a) (ac := ac) (n := n) (r := r) ⟨hlt, hx, hb, hml, hown, hts, hN, hA, hK⟩ (fun pc v τ H locs ls d z er hP hD hS => by subst er; exact W.zret (v := v) hx hb hr z (fun t ht hW => ⟨⟨v, (), rfl, rfl, by rw [ht]; exact hP, va_K.moved hW.alike hK, hD⟩, hS.F ht⟩) hS.2.2 d) v0 s0 _ _ _ h hP hD va_S.rf (lv_sub hl [0] rfl)
def ow_dm_X4_expandedSums : List Cond := Cond.code yX4_expandedSums cX4_expandedSums 6 (some .int) :: ([Cond.constant RX4 171 (1073741824), Cond.methodLink RX4 153 yX4_number, Cond.static yX4_number, Cond.initialized RX4, Cond.methodLink RX4 162 yX4_signedNumber, Cond.static yX4_signedNumber] ++ (ow_dm_X4_number ++ (ow_dm_X4_signedNumber ++ [])))
theorem gd_dm_X4_expandedSums : ∀ w ∈ ow_dm_X4_expandedSums, (w.onTables && w.keeps) = true ∨ ∃ ty, w = Cond.arrayClass ty := List.forall_mem_cons.mpr ⟨good_of_word rfl, List.forall_mem_append.mpr ⟨fun w h => good_of_word (List.all_eq_true.mp (by decide +kernel) w h), List.forall_mem_append.mpr ⟨gd_dm_X4_number, List.forall_mem_append.mpr ⟨gd_dm_X4_signedNumber, fun _ h => nomatch h⟩⟩⟩⟩
theorem gi_dm_X4_expandedSums_0 : GoodIn ow_dm_X4_expandedSums (wsS RX4 153 yX4_number ow_dm_X4_number) := goodIn_app (goodIn_of _ (by decide +kernel)) (fun w h => ⟨List.mem_cons_of_mem _ (List.mem_append_right _ (List.mem_append_left _ h)), gd_dm_X4_number w h⟩)
theorem gi_dm_X4_expandedSums_1 : GoodIn ow_dm_X4_expandedSums (wsS RX4 162 yX4_signedNumber ow_dm_X4_signedNumber) := goodIn_app (goodIn_of _ (by decide +kernel)) (fun w h => ⟨List.mem_cons_of_mem _ (List.mem_append_right _ (List.mem_append_right _ (List.mem_append_left _ h))), gd_dm_X4_signedNumber w h⟩)
def dj_X4_expandedSums_34 (p : Program) (l : Launch) (e : Env) (s : State) (m : MethodId) (args : Array Value) (below : List Frame) (meth : Method) (c : Code) (Q : State → Prop) (A : Nat → Prop) (dC : Nat → ClassId) (dI : Nat → Nat → Nat) (a : Nat → Nat) (ac : Nat → ClassId) (g : Int32 → Int32 → Int32 → Int32 → (Unit) → Option (Int32 × (Unit))) (r : Int32 × (Unit)) : Prop := ∀ (x0 : Int32) (x1 : Int32) (x2 : Int32) (y0 : Int32) (s0 : Unit) (H : Heap) (locs : List Loc) (ls : Array Slot), g x0 x1 x2 y0 s0 = some r → va_P (dC, dI) vwCl (dw_P a ac s0) H → va_D A (dw_P a ac s0) → va_S A s.heap H locs → lv_has ls 6 [(0, .int x0), (1, .int x1), (2, .int x2)] → W p l e (headSpec ow_dm_X4_expandedSums ({ frames := 1, cells := 0, slots := 0, locals := 23 })).room s m args below meth c H locs 0 0 Q (F0 m 34 ls [.int y0])
def dj_X4_expandedSums_0 (p : Program) (l : Launch) (e : Env) (s : State) (m : MethodId) (args : Array Value) (below : List Frame) (meth : Method) (c : Code) (Q : State → Prop) (A : Nat → Prop) (dC : Nat → ClassId) (dI : Nat → Nat → Nat) (a : Nat → Nat) (ac : Nat → ClassId) (g : Int32 → (Unit) → Option (Int32 × (Unit))) (r : Int32 × (Unit)) : Prop := ∀ (v0 : Int32) (s0 : Unit) (H : Heap) (locs : List Loc) (ls : Array Slot), g v0 s0 = some r → va_P (dC, dI) vwCl (dw_P a ac s0) H → va_D A (dw_P a ac s0) → va_S A s.heap H locs → lv_has ls 6 [(0, .int v0)] → W p l e (headSpec ow_dm_X4_expandedSums ({ frames := 1, cells := 0, slots := 0, locals := 23 })).room s m args below meth c H locs 0 0 Q (F0 m 0 ls [])
set_option maxHeartbeats 40000000 in
set_option maxRecDepth 100000 in
theorem db_X4_expandedSums_34 {p : Program} {l : Launch} {e : Env} {s : State} {m : MethodId} {args : Array Value} {below : List Frame} {meth : Method} {c : Code} {Q : State → Prop} {A : Nat → Prop} {dC : Nat → ClassId} {dI : Nat → Nat → Nat} {a : Nat → Nat} {ac : Nat → ClassId} {n : Nat} {r : Int32 × (Unit)} (C : nd_C p l s m args c A (dC, dI) cX4_expandedSums 6 RX4 ow_dm_X4_expandedSums (dk_P ac)) (K : nd_Ki p l e (headSpec ow_dm_X4_expandedSums ({ frames := 1, cells := 0, slots := 0, locals := 23 })).room s m args below meth c Q A (dC, dI) cX4_expandedSums .int (Unit) (dw_P a ac) r) : dj_X4_expandedSums_34 p l e s m args below meth c Q A dC dI a ac (df_X4_expandedSums_34 n) r := by
  obtain ⟨hlt, hx, hb, hml, hown, hts, hN, hA, hK⟩ := id C
  intro x0 x1 x2 y0 s0 H locs ls h hP hD hS hl
  unfold df_X4_expandedSums_34 at h
  refine lv_istore_n (lv' := [(3, .int y0), (0, .int x0), (1, .int x1), (2, .int x2)]) hx hb dX4_expandedSums_34 rfl hl (by decide) rfl (fun ls hl => ?_)
  refine lv_iload_n hx hb dX4_expandedSums_35 rfl (lv_at hl 1 rfl) ?_
  refine lv_bipush (v := 10) hx hb dX4_expandedSums_36 (by decide) ?_
  refine lv_ishr hx hb dX4_expandedSums_38 ?_
  refine lv_iconst (v := 3) hx hb dX4_expandedSums_39 (by decide) ?_
  refine lv_iand hx hb dX4_expandedSums_40 ?_
  refine lv_topi (fun z4 ez4 => ?_)
  have h := nd_at h ez4
  refine lv_istore (lv' := [(4, .int z4), (3, .int y0), (0, .int x0), (1, .int x1), (2, .int x2)]) hx hb dX4_expandedSums_41 hl (by decide) rfl (fun ls hl => ?_)
  refine lv_iload hx hb dX4_expandedSums_43 (lv_at hl 0 rfl) ?_
  refine lv_iconst (v := 2) hx hb dX4_expandedSums_45 (by decide) ?_
  refine lv_icmp_ne (tgt := 61) hx hb dX4_expandedSums_46 (by decide) (fun c5 => ?_) (fun c5 => ?_)
  · have h := nd_neg h c5
    refine lv_iload_n hx hb dX4_expandedSums_61 rfl (lv_at hl 1 rfl) ?_
    refine lv_if_eq (tgt := 67) hx hb dX4_expandedSums_62 (by decide) (fun c6 => ?_) (fun c6 => ?_)
    · have h := nd_pos h c6
      refine lv_iload hx hb dX4_expandedSums_67 (lv_at hl 0 rfl) ?_
      refine lv_iconst (v := 2) hx hb dX4_expandedSums_69 (by decide) ?_
      refine lv_icmp_ge (tgt := 92) hx hb dX4_expandedSums_70 (by decide) (fun c7 => ?_) (fun c7 => ?_)
      · have h := nd_pos h c7
        refine lv_iload_n hx hb dX4_expandedSums_92 rfl (lv_at hl 4 rfl) ?_
        refine lv_bipush (v := 20) hx hb dX4_expandedSums_93 (by decide) ?_
        refine lv_ishl hx hb dX4_expandedSums_95 ?_
        refine lv_iload_n hx hb dX4_expandedSums_96 rfl (lv_at hl 3 rfl) ?_
        refine lv_bipush (v := 15) hx hb dX4_expandedSums_97 (by decide) ?_
        refine lv_ishl hx hb dX4_expandedSums_99 ?_
        refine lv_ior hx hb dX4_expandedSums_100 ?_
        refine lv_iload_n hx hb dX4_expandedSums_101 rfl (lv_at hl 3 rfl) ?_
        refine lv_bipush (v := 7) hx hb dX4_expandedSums_102 (by decide) ?_
        refine lv_ishl hx hb dX4_expandedSums_104 ?_
        refine lv_ior hx hb dX4_expandedSums_105 ?_
        refine lv_bipush (v := 51) hx hb dX4_expandedSums_106 (by decide) ?_
        refine lv_ior hx hb dX4_expandedSums_108 ?_
        refine lv_topi (fun z8 ez8 => ?_)
        have h := nd_at h ez8
        refine lv_istore (lv' := [(5, .int z8), (4, .int z4), (3, .int y0), (0, .int x0), (1, .int x1), (2, .int x2)]) hx hb dX4_expandedSums_109 hl (by decide) rfl (fun ls hl => ?_)
        refine lv_iload_n hx hb dX4_expandedSums_111 rfl (lv_at hl 3 rfl) ?_
        refine lv_iconst (v := 5) hx hb dX4_expandedSums_112 (by decide) ?_
        refine lv_ishr hx hb dX4_expandedSums_113 ?_
        refine lv_iconst (v := 3) hx hb dX4_expandedSums_114 (by decide) ?_
        refine lv_iand hx hb dX4_expandedSums_115 ?_
        by_cases c9 : (((x0 : Int32) >>> ((5 : Int32) &&& 31)) &&& 3) = 0
        · have h := nd_pos h c9
          refine lv_tableIn (off := 28) (tgt := 144) hx hb dX4_expandedSums_116 (by rw [c9]; decide) (by rw [c9]; decide) (by rw [c9]; decide) (by decide) ?_
          refine lv_iload hx hb dX4_expandedSums_144 (lv_at hl 0 rfl) ?_
          refine lv_ldc hx hb hown (hts (.constant RX4 171 (1073741824)) (List.mem_of_getElem? (i := 1) rfl)) dX4_expandedSums_146 ?_
          refine lv_ior hx hb dX4_expandedSums_148 ?_
          exact K _ _ _ _ _ _ dX4_expandedSums_149 rfl (Option.some.inj h).symm hP hD hS
        have h := nd_neg h c9
        by_cases c10 : (((x0 : Int32) >>> ((5 : Int32) &&& 31)) &&& 3) = 1
        · have h := nd_pos h c10
          refine lv_tableIn (off := 34) (tgt := 150) hx hb dX4_expandedSums_116 (by rw [c10]; decide) (by rw [c10]; decide) (by rw [c10]; decide) (by decide) ?_
          refine lv_iload hx hb dX4_expandedSums_150 (lv_at hl 0 rfl) ?_
          refine lv_sipush (v := 16384) hx hb dX4_expandedSums_152 (by decide) ?_
          refine lv_ior hx hb dX4_expandedSums_155 ?_
          exact K _ _ _ _ _ _ dX4_expandedSums_156 rfl (Option.some.inj h).symm hP hD hS
        have h := nd_neg h c10
        by_cases c11 : (((x0 : Int32) >>> ((5 : Int32) &&& 31)) &&& 3) = 2
        · have h := nd_pos h c11
          refine lv_tableIn (off := 41) (tgt := 157) hx hb dX4_expandedSums_116 (by rw [c11]; decide) (by rw [c11]; decide) (by rw [c11]; decide) (by decide) ?_
          refine lv_iload hx hb dX4_expandedSums_157 (lv_at hl 0 rfl) ?_
          refine lv_sipush (v := 24576) hx hb dX4_expandedSums_159 (by decide) ?_
          refine lv_ior hx hb dX4_expandedSums_162 ?_
          exact K _ _ _ _ _ _ dX4_expandedSums_163 rfl (Option.some.inj h).symm hP hD hS
        have h := nd_neg h c11
        refine lv_tableOut (tgt := 164) hx hb dX4_expandedSums_116 (by have g0 := nv_nei c9 (k := 0) (by decide); have g1 := nv_nei c10 (k := 1) (by decide); have g2 := nv_nei c11 (k := 2) (by decide); omega) (by decide) ?_
        refine lv_iload hx hb dX4_expandedSums_164 (lv_at hl 0 rfl) ?_
        refine lv_sipush (v := 28672) hx hb dX4_expandedSums_166 (by decide) ?_
        refine lv_ior hx hb dX4_expandedSums_169 ?_
        exact K _ _ _ _ _ _ dX4_expandedSums_170 rfl (Option.some.inj h).symm hP hD hS
      · have h := nd_neg h c7
        refine lv_iload_n hx hb dX4_expandedSums_73 rfl (lv_at hl 2 rfl) ?_
        refine lv_iconst (v := 2) hx hb dX4_expandedSums_74 (by decide) ?_
        refine lv_ishr hx hb dX4_expandedSums_75 ?_
        refine lv_bipush (v := 31) hx hb dX4_expandedSums_76 (by decide) ?_
        refine lv_iand hx hb dX4_expandedSums_78 ?_
        refine lv_iload hx hb dX4_expandedSums_79 (lv_at hl 0 rfl) ?_
        refine lv_bipush (v := 10) hx hb dX4_expandedSums_81 (by decide) ?_
        refine lv_ishl hx hb dX4_expandedSums_83 ?_
        refine lv_ior hx hb dX4_expandedSums_84 ?_
        refine lv_iload_n hx hb dX4_expandedSums_85 rfl (lv_at hl 3 rfl) ?_
        refine lv_iconst (v := 5) hx hb dX4_expandedSums_86 (by decide) ?_
        refine lv_iload_n hx hb dX4_expandedSums_87 rfl (lv_at hl 3 rfl) ?_
        obtain ⟨q12, s13, hq, h⟩ := nd_b2_e h
        have hPc : va_P (dC, dI) vwCl (dw_P a ac ()) H := nd_p0
        have hDc : va_D A (dw_P a ac ()) := nd_d0
        have hKc : va_K (dC, dI) vwCl (dk_P ac) s := nd_y0 hK
        have hFc : ∀ q, va_A (dw_P a ac ()) H.size q → A q := nd_r0 hS hA
        refine nd_cSi (As := [.int ((((x0 : Int32) >>> ((2 : Int32) &&& 31)) &&& 31) ||| ((z4 : Int32) <<< ((10 : Int32) &&& 31))), .int x1, .int 5, .int x1]) (rest := []) (q := q12) (w' := dw_P a ac s13) ⟨hx, hb, hml, hown, hts⟩ (fun sz => dm_X4_number l hlt dC dI a ac n (((((x0 : Int32) >>> ((2 : Int32) &&& 31)) &&& 31) ||| ((z4 : Int32) <<< ((10 : Int32) &&& 31)))) (x1) (5) (x1) () hq sz) (cwS 4 hts gi_dm_X4_expandedSums_0 rfl rfl rfl (by decide +kernel) ⟨Nat.le_of_ble_eq_true rfl, Nat.le_of_ble_eq_true rfl⟩) hPc hDc hKc hS hA hN rfl hl.1 rfl (Nat.le_of_ble_eq_true rfl) dX4_expandedSums_88 (fun H locs hP1 hD1 hk1 hS => ?_)
        have hP := nd_n0 hP hk1
        exact K _ _ _ _ _ _ dX4_expandedSums_91 rfl (Option.some.inj h).symm hP hD hS
    · have h := nd_neg h c6
      refine lv_iconst (v := 0) hx hb dX4_expandedSums_65 (by decide) ?_
      exact K _ _ _ _ _ _ dX4_expandedSums_66 rfl (Option.some.inj h).symm hP hD hS
  · have h := nd_pos h c5
    refine lv_iload_n hx hb dX4_expandedSums_49 rfl (lv_at hl 2 rfl) ?_
    obtain ⟨q15, s16, hq, h⟩ := nd_b2_e h
    have hPc : va_P (dC, dI) vwCl (dw_P a ac ()) H := nd_p0
    have hDc : va_D A (dw_P a ac ()) := nd_d0
    have hKc : va_K (dC, dI) vwCl (dk_P ac) s := nd_y0 hK
    have hFc : ∀ q, va_A (dw_P a ac ()) H.size q → A q := nd_r0 hS hA
    refine nd_cSi (As := [.int x0]) (rest := []) (q := q15) (w' := dw_P a ac s16) ⟨hx, hb, hml, hown, hts⟩ (fun sz => dm_X4_signedNumber l hlt dC dI a ac n (x0) () hq sz) (cwS 1 hts gi_dm_X4_expandedSums_1 rfl rfl rfl (by decide +kernel) ⟨Nat.le_of_ble_eq_true rfl, Nat.le_of_ble_eq_true rfl⟩) hPc hDc hKc hS hA hN rfl hl.1 rfl (Nat.le_of_ble_eq_true rfl) dX4_expandedSums_50 (fun H locs hP1 hD1 hk1 hS => ?_)
    have hP := nd_n0 hP hk1
    refine lv_iload_n hx hb dX4_expandedSums_53 rfl (lv_at hl 3 rfl) ?_
    refine lv_bipush (v := 7) hx hb dX4_expandedSums_54 (by decide) ?_
    refine lv_iload_n hx hb dX4_expandedSums_56 rfl (lv_at hl 3 rfl) ?_
    obtain ⟨q18, s19, hq, h⟩ := nd_b2_e h
    have hPc : va_P (dC, dI) vwCl (dw_P a ac ()) H := nd_p0
    have hDc : va_D A (dw_P a ac ()) := nd_d0
    have hKc : va_K (dC, dI) vwCl (dk_P ac) s := nd_y0 hK
    have hFc : ∀ q, va_A (dw_P a ac ()) H.size q → A q := nd_r0 hS hA
    refine nd_cSi (As := [.int q15, .int x1, .int 7, .int x1]) (rest := []) (q := q18) (w' := dw_P a ac s19) ⟨hx, hb, hml, hown, hts⟩ (fun sz => dm_X4_number l hlt dC dI a ac n (q15) (x1) (7) (x1) () hq sz) (cwS 4 hts gi_dm_X4_expandedSums_0 rfl rfl rfl (by decide +kernel) ⟨Nat.le_of_ble_eq_true rfl, Nat.le_of_ble_eq_true rfl⟩) hPc hDc hKc hS hA hN rfl hl.1 rfl (Nat.le_of_ble_eq_true rfl) dX4_expandedSums_57 (fun H locs hP1 hD1 hk1 hS => ?_)
    have hP := nd_n0 hP hk1
    exact K _ _ _ _ _ _ dX4_expandedSums_60 rfl (Option.some.inj h).symm hP hD hS
set_option maxHeartbeats 40000000 in
set_option maxRecDepth 100000 in
theorem db_X4_expandedSums_0 {p : Program} {l : Launch} {e : Env} {s : State} {m : MethodId} {args : Array Value} {below : List Frame} {meth : Method} {c : Code} {Q : State → Prop} {A : Nat → Prop} {dC : Nat → ClassId} {dI : Nat → Nat → Nat} {a : Nat → Nat} {ac : Nat → ClassId} {n : Nat} {r : Int32 × (Unit)} (C : nd_C p l s m args c A (dC, dI) cX4_expandedSums 6 RX4 ow_dm_X4_expandedSums (dk_P ac)) (K : nd_Ki p l e (headSpec ow_dm_X4_expandedSums ({ frames := 1, cells := 0, slots := 0, locals := 23 })).room s m args below meth c Q A (dC, dI) cX4_expandedSums .int (Unit) (dw_P a ac) r) : dj_X4_expandedSums_0 p l e s m args below meth c Q A dC dI a ac (df_X4_expandedSums_0 n) r := by
  obtain ⟨hlt, hx, hb, hml, hown, hts, hN, hA, hK⟩ := id C
  intro v0 s0 H locs ls h hP hD hS hl
  unfold df_X4_expandedSums_0 at h
  refine lv_bipush (v := 8) hx hb dX4_expandedSums_0 (by decide) ?_
  refine lv_iload_n hx hb dX4_expandedSums_2 rfl (lv_at hl 0 rfl) ?_
  refine lv_bipush (v := 7) hx hb dX4_expandedSums_3 (by decide) ?_
  refine lv_ishr hx hb dX4_expandedSums_5 ?_
  refine lv_bipush (v := 7) hx hb dX4_expandedSums_6 (by decide) ?_
  refine lv_iand hx hb dX4_expandedSums_8 ?_
  refine lv_iadd hx hb dX4_expandedSums_9 ?_
  refine lv_topi (fun z1 ez1 => ?_)
  have h := nd_at h ez1
  refine lv_istore_n (lv' := [(1, .int z1), (0, .int v0)]) hx hb dX4_expandedSums_10 rfl hl (by decide) rfl (fun ls hl => ?_)
  refine lv_bipush (v := 8) hx hb dX4_expandedSums_11 (by decide) ?_
  refine lv_iload_n hx hb dX4_expandedSums_13 rfl (lv_at hl 1 rfl) ?_
  refine lv_iconst (v := 2) hx hb dX4_expandedSums_14 (by decide) ?_
  refine lv_ishr hx hb dX4_expandedSums_15 ?_
  refine lv_bipush (v := 7) hx hb dX4_expandedSums_16 (by decide) ?_
  refine lv_iand hx hb dX4_expandedSums_18 ?_
  refine lv_iadd hx hb dX4_expandedSums_19 ?_
  refine lv_topi (fun z2 ez2 => ?_)
  have h := nd_at h ez2
  refine lv_istore_n (lv' := [(2, .int z2), (1, .int z1), (0, .int v0)]) hx hb dX4_expandedSums_20 rfl hl (by decide) rfl (fun ls hl => ?_)
  refine lv_iload_n hx hb dX4_expandedSums_21 rfl (lv_at hl 2 rfl) ?_
  refine lv_sipush (v := 4096) hx hb dX4_expandedSums_22 (by decide) ?_
  refine lv_iand hx hb dX4_expandedSums_25 ?_
  refine lv_if_eq (tgt := 33) hx hb dX4_expandedSums_26 (by decide) (fun c3 => ?_) (fun c3 => ?_)
  · have h := nd_pos h c3
    refine lv_iconst (v := 0) hx hb dX4_expandedSums_33 (by decide) ?_
    exact (db_X4_expandedSums_34 C K) (v0) (z1) (z2) (0) s0 _ _ _ h hP hD hS (lv_sub hl [2, 1, 0] rfl)
  · have h := nd_neg h c3
    refine lv_iconst (v := 1) hx hb dX4_expandedSums_29 (by decide) ?_
    refine lv_goto (tgt := 34) hx hb dX4_expandedSums_30 (by decide) ?_
    exact (db_X4_expandedSums_34 C K) (v0) (z1) (z2) (1) s0 _ _ _ h hP hD hS (lv_sub hl [2, 1, 0] rfl)
set_option maxHeartbeats 40000000 in
set_option maxRecDepth 100000 in
theorem dm_X4_expandedSums (l : Launch) (hlt : l.stackTraces = false) (dC : Nat → ClassId) (dI : Nat → Nat → Nat) (a : Nat → Nat) (ac : Nat → ClassId) (n : Nat) (v0 : Int32) (s0 : Unit) {r : Int32 × (Unit)} (h : df_X4_expandedSums n v0 s0 = some r) (sz : Nat) : Met l yX4_expandedSums ow_dm_X4_expandedSums ({ frames := 1, cells := 0, slots := 0, locals := 23 }) (va_Pc [.int v0] (fun U => U.heap.size = sz ∧ va_P (dC, dI) vwCl (dw_P a ac s0) U.heap ∧ va_K (dC, dI) vwCl (dk_P ac) U ∧ va_D (fun _ => True) (dw_P a ac s0) ∧ nv_E dI (va_A (dw_P a ac s0) sz) U)) (va_Qi (fun x _ => x = r.1) (fun (_ : Unit) t => va_P (dC, dI) vwCl (dw_P a ac r.2) t.heap ∧ va_K (dC, dI) vwCl (dk_P ac) t ∧ va_D (va_A (dw_P a ac s0) sz) (dw_P a ac r.2)) (va_A (dw_P a ac s0) sz)) 0 0 (va_A (dw_P a ac s0) sz) := by
  refine Met.ofW (cc := cX4_expandedSums) (maxL := 6) (ret := (some .int)) (by decide) rfl ?_
  intro p e s m args below meth c s₁ B hml hv
  obtain ⟨rfl, hsz, hP, hK, hD0, hN⟩ := hv
  have hx := B.exec
  have hb := B.bytes
  have hr := B.returns
  have hts := atoms_spec (ws := ow_dm_X4_expandedSums) B.pre
  have hown : s.vm.findClass RX4 = some m.cls := findClass_of_methodNamed B.named
  have hlocks := B.notSynchronized
  subst hsz
  have hD := hD0.self (sz := s.heap.size)
  generalize hAe : va_A (dw_P a ac s0) s.heap.size = A at hD hN ⊢
  have hA : ∀ q : Nat, s.heap.size ≤ q → A q := fun q h => by rw [← hAe]; exact Or.inr h
  have hl := lv_entry ([.int v0]) (n := 6) (Nat.le_of_ble_eq_true rfl)
  rw [lg_entry_eq]
  generalize (lg_sl ([.int v0]) ++ List.replicate (6 - (lg_sl ([.int v0])).length) Slot.unset).toArray = ls at hl ⊢
  have hl : lv_has ls 6 [(0, .int v0)] := hl
  exact db_X4_expandedSums_0 (dC := dC) (dI := dI) (a := a) (ac := ac) (n := n) (r := r) ⟨hlt, hx, hb, hml, hown, hts, hN, hA, hK⟩ (fun pc v τ H locs ls d z er hP hD hS => by subst er; exact W.zret (v := v) hx hb hr z (fun t ht hW => ⟨⟨v, (), rfl, rfl, by rw [ht]; exact hP, va_K.moved hW.alike hK, hD⟩, hS.F ht⟩) hS.2.2 d) v0 s0 _ _ _ h hP hD va_S.rf (lv_sub hl [0] rfl)
def ow_dm_X4_expandedThird : List Cond := Cond.code yX4_expandedThird cX4_expandedThird 4 (some .int) :: ([Cond.methodLink RX4 153 yX4_number, Cond.static yX4_number, Cond.initialized RX4, Cond.methodLink RX4 156 yX4_loading, Cond.static yX4_loading, Cond.constant RX4 136 (1048691), Cond.methodLink RX4 159 yX4_storing, Cond.static yX4_storing] ++ (ow_dm_X4_number ++ (ow_dm_X4_loading ++ (ow_dm_X4_storing ++ []))))
theorem gd_dm_X4_expandedThird : ∀ w ∈ ow_dm_X4_expandedThird, (w.onTables && w.keeps) = true ∨ ∃ ty, w = Cond.arrayClass ty := List.forall_mem_cons.mpr ⟨good_of_word rfl, List.forall_mem_append.mpr ⟨fun w h => good_of_word (List.all_eq_true.mp (by decide +kernel) w h), List.forall_mem_append.mpr ⟨gd_dm_X4_number, List.forall_mem_append.mpr ⟨gd_dm_X4_loading, List.forall_mem_append.mpr ⟨gd_dm_X4_storing, fun _ h => nomatch h⟩⟩⟩⟩⟩
theorem gi_dm_X4_expandedThird_0 : GoodIn ow_dm_X4_expandedThird (wsS RX4 153 yX4_number ow_dm_X4_number) := goodIn_app (goodIn_of _ (by decide +kernel)) (fun w h => ⟨List.mem_cons_of_mem _ (List.mem_append_right _ (List.mem_append_left _ h)), gd_dm_X4_number w h⟩)
theorem gi_dm_X4_expandedThird_1 : GoodIn ow_dm_X4_expandedThird (wsS RX4 156 yX4_loading ow_dm_X4_loading) := goodIn_app (goodIn_of _ (by decide +kernel)) (fun w h => ⟨List.mem_cons_of_mem _ (List.mem_append_right _ (List.mem_append_right _ (List.mem_append_left _ h))), gd_dm_X4_loading w h⟩)
theorem gi_dm_X4_expandedThird_2 : GoodIn ow_dm_X4_expandedThird (wsS RX4 159 yX4_storing ow_dm_X4_storing) := goodIn_app (goodIn_of _ (by decide +kernel)) (fun w h => ⟨List.mem_cons_of_mem _ (List.mem_append_right _ (List.mem_append_right _ (List.mem_append_right _ (List.mem_append_left _ h)))), gd_dm_X4_storing w h⟩)
def dj_X4_expandedThird_91 (p : Program) (l : Launch) (e : Env) (s : State) (m : MethodId) (args : Array Value) (below : List Frame) (meth : Method) (c : Code) (Q : State → Prop) (A : Nat → Prop) (dC : Nat → ClassId) (dI : Nat → Nat → Nat) (a : Nat → Nat) (ac : Nat → ClassId) (g : Int32 → (Unit) → Option (Int32 × (Unit))) (r : Int32 × (Unit)) : Prop := ∀ (y0 : Int32) (s0 : Unit) (H : Heap) (locs : List Loc) (ls : Array Slot), g y0 s0 = some r → va_P (dC, dI) vwCl (dw_P a ac s0) H → va_D A (dw_P a ac s0) → va_S A s.heap H locs → lv_has ls 4 [] → W p l e (headSpec ow_dm_X4_expandedThird ({ frames := 1, cells := 0, slots := 0, locals := 23 })).room s m args below meth c H locs 0 0 Q (F0 m 91 ls [.int y0])
def dj_X4_expandedThird_215 (p : Program) (l : Launch) (e : Env) (s : State) (m : MethodId) (args : Array Value) (below : List Frame) (meth : Method) (c : Code) (Q : State → Prop) (A : Nat → Prop) (dC : Nat → ClassId) (dI : Nat → Nat → Nat) (a : Nat → Nat) (ac : Nat → ClassId) (g : (Unit) → Option (Int32 × (Unit))) (r : Int32 × (Unit)) : Prop := ∀ (s0 : Unit) (H : Heap) (locs : List Loc) (ls : Array Slot), g s0 = some r → va_P (dC, dI) vwCl (dw_P a ac s0) H → va_D A (dw_P a ac s0) → va_S A s.heap H locs → lv_has ls 4 [] → W p l e (headSpec ow_dm_X4_expandedThird ({ frames := 1, cells := 0, slots := 0, locals := 23 })).room s m args below meth c H locs 0 0 Q (F0 m 215 ls [])
def dj_X4_expandedThird_127 (p : Program) (l : Launch) (e : Env) (s : State) (m : MethodId) (args : Array Value) (below : List Frame) (meth : Method) (c : Code) (Q : State → Prop) (A : Nat → Prop) (dC : Nat → ClassId) (dI : Nat → Nat → Nat) (a : Nat → Nat) (ac : Nat → ClassId) (g : Int32 → (Unit) → Option (Int32 × (Unit))) (r : Int32 × (Unit)) : Prop := ∀ (y0 : Int32) (s0 : Unit) (H : Heap) (locs : List Loc) (ls : Array Slot), g y0 s0 = some r → va_P (dC, dI) vwCl (dw_P a ac s0) H → va_D A (dw_P a ac s0) → va_S A s.heap H locs → lv_has ls 4 [] → W p l e (headSpec ow_dm_X4_expandedThird ({ frames := 1, cells := 0, slots := 0, locals := 23 })).room s m args below meth c H locs 0 0 Q (F0 m 127 ls [.int y0])
def dj_X4_expandedThird_186 (p : Program) (l : Launch) (e : Env) (s : State) (m : MethodId) (args : Array Value) (below : List Frame) (meth : Method) (c : Code) (Q : State → Prop) (A : Nat → Prop) (dC : Nat → ClassId) (dI : Nat → Nat → Nat) (a : Nat → Nat) (ac : Nat → ClassId) (g : Int32 → Int32 → (Unit) → Option (Int32 × (Unit))) (r : Int32 × (Unit)) : Prop := ∀ (y0 : Int32) (y1 : Int32) (s0 : Unit) (H : Heap) (locs : List Loc) (ls : Array Slot), g y0 y1 s0 = some r → va_P (dC, dI) vwCl (dw_P a ac s0) H → va_D A (dw_P a ac s0) → va_S A s.heap H locs → lv_has ls 4 [] → W p l e (headSpec ow_dm_X4_expandedThird ({ frames := 1, cells := 0, slots := 0, locals := 23 })).room s m args below meth c H locs 0 0 Q (F0 m 186 ls [.int y1, .int y0])
def dj_X4_expandedThird_172 (p : Program) (l : Launch) (e : Env) (s : State) (m : MethodId) (args : Array Value) (below : List Frame) (meth : Method) (c : Code) (Q : State → Prop) (A : Nat → Prop) (dC : Nat → ClassId) (dI : Nat → Nat → Nat) (a : Nat → Nat) (ac : Nat → ClassId) (g : Int32 → (Unit) → Option (Int32 × (Unit))) (r : Int32 × (Unit)) : Prop := ∀ (y0 : Int32) (s0 : Unit) (H : Heap) (locs : List Loc) (ls : Array Slot), g y0 s0 = some r → va_P (dC, dI) vwCl (dw_P a ac s0) H → va_D A (dw_P a ac s0) → va_S A s.heap H locs → lv_has ls 4 [] → W p l e (headSpec ow_dm_X4_expandedThird ({ frames := 1, cells := 0, slots := 0, locals := 23 })).room s m args below meth c H locs 0 0 Q (F0 m 172 ls [.int y0])
def dj_X4_expandedThird_145 (p : Program) (l : Launch) (e : Env) (s : State) (m : MethodId) (args : Array Value) (below : List Frame) (meth : Method) (c : Code) (Q : State → Prop) (A : Nat → Prop) (dC : Nat → ClassId) (dI : Nat → Nat → Nat) (a : Nat → Nat) (ac : Nat → ClassId) (g : Int32 → Int32 → Int32 → (Unit) → Option (Int32 × (Unit))) (r : Int32 × (Unit)) : Prop := ∀ (x1 : Int32) (y0 : Int32) (y1 : Int32) (s0 : Unit) (H : Heap) (locs : List Loc) (ls : Array Slot), g x1 y0 y1 s0 = some r → va_P (dC, dI) vwCl (dw_P a ac s0) H → va_D A (dw_P a ac s0) → va_S A s.heap H locs → lv_has ls 4 [(1, .int x1)] → W p l e (headSpec ow_dm_X4_expandedThird ({ frames := 1, cells := 0, slots := 0, locals := 23 })).room s m args below meth c H locs 0 0 Q (F0 m 145 ls [.int y1, .int y0])
def dj_X4_expandedThird_28 (p : Program) (l : Launch) (e : Env) (s : State) (m : MethodId) (args : Array Value) (below : List Frame) (meth : Method) (c : Code) (Q : State → Prop) (A : Nat → Prop) (dC : Nat → ClassId) (dI : Nat → Nat → Nat) (a : Nat → Nat) (ac : Nat → ClassId) (g : Int32 → Int32 → Int32 → Int32 → (Unit) → Option (Int32 × (Unit))) (r : Int32 × (Unit)) : Prop := ∀ (x0 : Int32) (x1 : Int32) (x2 : Int32) (y0 : Int32) (s0 : Unit) (H : Heap) (locs : List Loc) (ls : Array Slot), g x0 x1 x2 y0 s0 = some r → va_P (dC, dI) vwCl (dw_P a ac s0) H → va_D A (dw_P a ac s0) → va_S A s.heap H locs → lv_has ls 4 [(0, .int x0), (1, .int x1), (2, .int x2)] → W p l e (headSpec ow_dm_X4_expandedThird ({ frames := 1, cells := 0, slots := 0, locals := 23 })).room s m args below meth c H locs 0 0 Q (F0 m 28 ls [.int y0])
def dj_X4_expandedThird_0 (p : Program) (l : Launch) (e : Env) (s : State) (m : MethodId) (args : Array Value) (below : List Frame) (meth : Method) (c : Code) (Q : State → Prop) (A : Nat → Prop) (dC : Nat → ClassId) (dI : Nat → Nat → Nat) (a : Nat → Nat) (ac : Nat → ClassId) (g : Int32 → (Unit) → Option (Int32 × (Unit))) (r : Int32 × (Unit)) : Prop := ∀ (v0 : Int32) (s0 : Unit) (H : Heap) (locs : List Loc) (ls : Array Slot), g v0 s0 = some r → va_P (dC, dI) vwCl (dw_P a ac s0) H → va_D A (dw_P a ac s0) → va_S A s.heap H locs → lv_has ls 4 [(0, .int v0)] → W p l e (headSpec ow_dm_X4_expandedThird ({ frames := 1, cells := 0, slots := 0, locals := 23 })).room s m args below meth c H locs 0 0 Q (F0 m 0 ls [])
set_option maxHeartbeats 40000000 in
set_option maxRecDepth 100000 in
theorem db_X4_expandedThird_91 {p : Program} {l : Launch} {e : Env} {s : State} {m : MethodId} {args : Array Value} {below : List Frame} {meth : Method} {c : Code} {Q : State → Prop} {A : Nat → Prop} {dC : Nat → ClassId} {dI : Nat → Nat → Nat} {a : Nat → Nat} {ac : Nat → ClassId} {n : Nat} {r : Int32 × (Unit)} (C : nd_C p l s m args c A (dC, dI) cX4_expandedThird 4 RX4 ow_dm_X4_expandedThird (dk_P ac)) (K : nd_Ki p l e (headSpec ow_dm_X4_expandedThird ({ frames := 1, cells := 0, slots := 0, locals := 23 })).room s m args below meth c Q A (dC, dI) cX4_expandedThird .int (Unit) (dw_P a ac) r) : dj_X4_expandedThird_91 p l e s m args below meth c Q A dC dI a ac (df_X4_expandedThird_91 n) r := by
  obtain ⟨hlt, hx, hb, hml, hown, hts, hN, hA, hK⟩ := id C
  intro y0 s0 H locs ls h hP hD hS hl
  unfold df_X4_expandedThird_91 at h
  exact K _ _ _ _ _ _ dX4_expandedThird_91 rfl (Option.some.inj h).symm hP hD hS
set_option maxHeartbeats 40000000 in
set_option maxRecDepth 100000 in
theorem db_X4_expandedThird_215 {p : Program} {l : Launch} {e : Env} {s : State} {m : MethodId} {args : Array Value} {below : List Frame} {meth : Method} {c : Code} {Q : State → Prop} {A : Nat → Prop} {dC : Nat → ClassId} {dI : Nat → Nat → Nat} {a : Nat → Nat} {ac : Nat → ClassId} {n : Nat} {r : Int32 × (Unit)} (C : nd_C p l s m args c A (dC, dI) cX4_expandedThird 4 RX4 ow_dm_X4_expandedThird (dk_P ac)) (K : nd_Ki p l e (headSpec ow_dm_X4_expandedThird ({ frames := 1, cells := 0, slots := 0, locals := 23 })).room s m args below meth c Q A (dC, dI) cX4_expandedThird .int (Unit) (dw_P a ac) r) : dj_X4_expandedThird_215 p l e s m args below meth c Q A dC dI a ac (df_X4_expandedThird_215 n) r := by
  obtain ⟨hlt, hx, hb, hml, hown, hts, hN, hA, hK⟩ := id C
  intro s0 H locs ls h hP hD hS hl
  unfold df_X4_expandedThird_215 at h
  refine lv_iconst (v := 0) hx hb dX4_expandedThird_215 (by decide) ?_
  exact K _ _ _ _ _ _ dX4_expandedThird_216 rfl (Option.some.inj h).symm hP hD hS
set_option maxHeartbeats 40000000 in
set_option maxRecDepth 100000 in
theorem db_X4_expandedThird_127 {p : Program} {l : Launch} {e : Env} {s : State} {m : MethodId} {args : Array Value} {below : List Frame} {meth : Method} {c : Code} {Q : State → Prop} {A : Nat → Prop} {dC : Nat → ClassId} {dI : Nat → Nat → Nat} {a : Nat → Nat} {ac : Nat → ClassId} {n : Nat} {r : Int32 × (Unit)} (C : nd_C p l s m args c A (dC, dI) cX4_expandedThird 4 RX4 ow_dm_X4_expandedThird (dk_P ac)) (K : nd_Ki p l e (headSpec ow_dm_X4_expandedThird ({ frames := 1, cells := 0, slots := 0, locals := 23 })).room s m args below meth c Q A (dC, dI) cX4_expandedThird .int (Unit) (dw_P a ac) r) : dj_X4_expandedThird_127 p l e s m args below meth c Q A dC dI a ac (df_X4_expandedThird_127 n) r := by
  obtain ⟨hlt, hx, hb, hml, hown, hts, hN, hA, hK⟩ := id C
  intro y0 s0 H locs ls h hP hD hS hl
  unfold df_X4_expandedThird_127 at h
  exact K _ _ _ _ _ _ dX4_expandedThird_127 rfl (Option.some.inj h).symm hP hD hS
set_option maxHeartbeats 40000000 in
set_option maxRecDepth 100000 in
theorem db_X4_expandedThird_186 {p : Program} {l : Launch} {e : Env} {s : State} {m : MethodId} {args : Array Value} {below : List Frame} {meth : Method} {c : Code} {Q : State → Prop} {A : Nat → Prop} {dC : Nat → ClassId} {dI : Nat → Nat → Nat} {a : Nat → Nat} {ac : Nat → ClassId} {n : Nat} {r : Int32 × (Unit)} (C : nd_C p l s m args c A (dC, dI) cX4_expandedThird 4 RX4 ow_dm_X4_expandedThird (dk_P ac)) (K : nd_Ki p l e (headSpec ow_dm_X4_expandedThird ({ frames := 1, cells := 0, slots := 0, locals := 23 })).room s m args below meth c Q A (dC, dI) cX4_expandedThird .int (Unit) (dw_P a ac) r) : dj_X4_expandedThird_186 p l e s m args below meth c Q A dC dI a ac (df_X4_expandedThird_186 n) r := by
  obtain ⟨hlt, hx, hb, hml, hown, hts, hN, hA, hK⟩ := id C
  intro y0 y1 s0 H locs ls h hP hD hS hl
  unfold df_X4_expandedThird_186 at h
  refine lv_bipush (v := 7) hx hb dX4_expandedThird_186 (by decide) ?_
  refine lv_ishl hx hb dX4_expandedThird_188 ?_
  refine lv_ior hx hb dX4_expandedThird_189 ?_
  refine lv_bipush (v := 103) hx hb dX4_expandedThird_190 (by decide) ?_
  refine lv_ior hx hb dX4_expandedThird_192 ?_
  exact K _ _ _ _ _ _ dX4_expandedThird_193 rfl (Option.some.inj h).symm hP hD hS
set_option maxHeartbeats 40000000 in
set_option maxRecDepth 100000 in
theorem db_X4_expandedThird_172 {p : Program} {l : Launch} {e : Env} {s : State} {m : MethodId} {args : Array Value} {below : List Frame} {meth : Method} {c : Code} {Q : State → Prop} {A : Nat → Prop} {dC : Nat → ClassId} {dI : Nat → Nat → Nat} {a : Nat → Nat} {ac : Nat → ClassId} {n : Nat} {r : Int32 × (Unit)} (C : nd_C p l s m args c A (dC, dI) cX4_expandedThird 4 RX4 ow_dm_X4_expandedThird (dk_P ac)) (K : nd_Ki p l e (headSpec ow_dm_X4_expandedThird ({ frames := 1, cells := 0, slots := 0, locals := 23 })).room s m args below meth c Q A (dC, dI) cX4_expandedThird .int (Unit) (dw_P a ac) r) : dj_X4_expandedThird_172 p l e s m args below meth c Q A dC dI a ac (df_X4_expandedThird_172 n) r := by
  obtain ⟨hlt, hx, hb, hml, hown, hts, hN, hA, hK⟩ := id C
  intro y0 s0 H locs ls h hP hD hS hl
  unfold df_X4_expandedThird_172 at h
  exact K _ _ _ _ _ _ dX4_expandedThird_172 rfl (Option.some.inj h).symm hP hD hS
set_option maxHeartbeats 40000000 in
set_option maxRecDepth 100000 in
theorem db_X4_expandedThird_145 {p : Program} {l : Launch} {e : Env} {s : State} {m : MethodId} {args : Array Value} {below : List Frame} {meth : Method} {c : Code} {Q : State → Prop} {A : Nat → Prop} {dC : Nat → ClassId} {dI : Nat → Nat → Nat} {a : Nat → Nat} {ac : Nat → ClassId} {n : Nat} {r : Int32 × (Unit)} (C : nd_C p l s m args c A (dC, dI) cX4_expandedThird 4 RX4 ow_dm_X4_expandedThird (dk_P ac)) (K : nd_Ki p l e (headSpec ow_dm_X4_expandedThird ({ frames := 1, cells := 0, slots := 0, locals := 23 })).room s m args below meth c Q A (dC, dI) cX4_expandedThird .int (Unit) (dw_P a ac) r) : dj_X4_expandedThird_145 p l e s m args below meth c Q A dC dI a ac (df_X4_expandedThird_145 n) r := by
  obtain ⟨hlt, hx, hb, hml, hown, hts, hN, hA, hK⟩ := id C
  intro x1 y0 y1 s0 H locs ls h hP hD hS hl
  unfold df_X4_expandedThird_145 at h
  refine lv_bipush (v := 15) hx hb dX4_expandedThird_145 (by decide) ?_
  refine lv_ishl hx hb dX4_expandedThird_147 ?_
  refine lv_ior hx hb dX4_expandedThird_148 ?_
  refine lv_iload_n hx hb dX4_expandedThird_149 rfl (lv_at hl 0 rfl) ?_
  refine lv_bipush (v := 7) hx hb dX4_expandedThird_150 (by decide) ?_
  refine lv_ishl hx hb dX4_expandedThird_152 ?_
  refine lv_ior hx hb dX4_expandedThird_153 ?_
  refine lv_bipush (v := 51) hx hb dX4_expandedThird_154 (by decide) ?_
  refine lv_ior hx hb dX4_expandedThird_156 ?_
  exact K _ _ _ _ _ _ dX4_expandedThird_157 rfl (Option.some.inj h).symm hP hD hS
set_option maxHeartbeats 40000000 in
set_option maxRecDepth 100000 in
theorem db_X4_expandedThird_28 {p : Program} {l : Launch} {e : Env} {s : State} {m : MethodId} {args : Array Value} {below : List Frame} {meth : Method} {c : Code} {Q : State → Prop} {A : Nat → Prop} {dC : Nat → ClassId} {dI : Nat → Nat → Nat} {a : Nat → Nat} {ac : Nat → ClassId} {n : Nat} {r : Int32 × (Unit)} (C : nd_C p l s m args c A (dC, dI) cX4_expandedThird 4 RX4 ow_dm_X4_expandedThird (dk_P ac)) (K : nd_Ki p l e (headSpec ow_dm_X4_expandedThird ({ frames := 1, cells := 0, slots := 0, locals := 23 })).room s m args below meth c Q A (dC, dI) cX4_expandedThird .int (Unit) (dw_P a ac) r) : dj_X4_expandedThird_28 p l e s m args below meth c Q A dC dI a ac (df_X4_expandedThird_28 n) r := by
  obtain ⟨hlt, hx, hb, hml, hown, hts, hN, hA, hK⟩ := id C
  intro x0 x1 x2 y0 s0 H locs ls h hP hD hS hl
  unfold df_X4_expandedThird_28 at h
  refine lv_istore_n (lv' := [(3, .int y0), (0, .int x0), (1, .int x1), (2, .int x2)]) hx hb dX4_expandedThird_28 rfl hl (by decide) rfl (fun ls hl => ?_)
  refine lv_iload_n hx hb dX4_expandedThird_29 rfl (lv_at hl 1 rfl) ?_
  refine lv_bipush (v := 13) hx hb dX4_expandedThird_30 (by decide) ?_
  refine lv_ishr hx hb dX4_expandedThird_32 ?_
  by_cases c4 : ((x0 : Int32) >>> ((13 : Int32) &&& 31)) = 0
  · have h := nd_pos h c4
    refine lv_tableIn (off := 43) (tgt := 76) hx hb dX4_expandedThird_33 (by rw [c4]; decide) (by rw [c4]; decide) (by rw [c4]; decide) (by decide) ?_
    refine lv_iload_n hx hb dX4_expandedThird_76 rfl (lv_at hl 0 rfl) ?_
    refine lv_if_eq (tgt := 84) hx hb dX4_expandedThird_77 (by decide) (fun c5 => ?_) (fun c5 => ?_)
    · have h := nd_pos h c5
      refine lv_iload_n hx hb dX4_expandedThird_84 rfl (lv_at hl 3 rfl) ?_
      refine lv_iload_n hx hb dX4_expandedThird_85 rfl (lv_at hl 2 rfl) ?_
      refine lv_iconst (v := 1) hx hb dX4_expandedThird_86 (by decide) ?_
      refine lv_iload_n hx hb dX4_expandedThird_87 rfl (lv_at hl 2 rfl) ?_
      obtain ⟨q6, s7, hq, h⟩ := nd_b2_e h
      have hPc : va_P (dC, dI) vwCl (dw_P a ac ()) H := nd_p0
      have hDc : va_D A (dw_P a ac ()) := nd_d0
      have hKc : va_K (dC, dI) vwCl (dk_P ac) s := nd_y0 hK
      have hFc : ∀ q, va_A (dw_P a ac ()) H.size q → A q := nd_r0 hS hA
      refine nd_cSi (As := [.int x2, .int x1, .int 1, .int x1]) (rest := []) (q := q6) (w' := dw_P a ac s7) ⟨hx, hb, hml, hown, hts⟩ (fun sz => dm_X4_number l hlt dC dI a ac n (x2) (x1) (1) (x1) () hq sz) (cwS 4 hts gi_dm_X4_expandedThird_0 rfl rfl rfl (by decide +kernel) ⟨Nat.le_of_ble_eq_true rfl, Nat.le_of_ble_eq_true rfl⟩) hPc hDc hKc hS hA hN rfl hl.1 rfl (Nat.le_of_ble_eq_true rfl) dX4_expandedThird_88 (fun H locs hP1 hD1 hk1 hS => ?_)
      have hP := nd_n0 hP hk1
      exact (db_X4_expandedThird_91 C K) (q6) s0 _ _ _ h hP hD hS (lv_sub hl [] rfl)
    · have h := nd_neg h c5
      refine lv_iconst (v := 0) hx hb dX4_expandedThird_80 (by decide) ?_
      refine lv_goto (tgt := 91) hx hb dX4_expandedThird_81 (by decide) ?_
      exact (db_X4_expandedThird_91 C K) (0) s0 _ _ _ h hP hD hS (lv_sub hl [] rfl)
  have h := nd_neg h c4
  by_cases c9 : ((x0 : Int32) >>> ((13 : Int32) &&& 31)) = 1
  · have h := nd_pos h c9
    refine lv_tableIn (off := 182) (tgt := 215) hx hb dX4_expandedThird_33 (by rw [c9]; decide) (by rw [c9]; decide) (by rw [c9]; decide) (by decide) ?_
    exact (db_X4_expandedThird_215 C K)  s0 _ _ _ h hP hD hS (lv_sub hl [] rfl)
  have h := nd_neg h c9
  by_cases c10 : ((x0 : Int32) >>> ((13 : Int32) &&& 31)) = 2
  · have h := nd_pos h c10
    refine lv_tableIn (off := 59) (tgt := 92) hx hb dX4_expandedThird_33 (by rw [c10]; decide) (by rw [c10]; decide) (by rw [c10]; decide) (by decide) ?_
    refine lv_iload_n hx hb dX4_expandedThird_92 rfl (lv_at hl 2 rfl) ?_
    refine lv_if_ne (tgt := 100) hx hb dX4_expandedThird_93 (by decide) (fun c11 => ?_) (fun c11 => ?_)
    · have h := nd_neg h c11
      refine lv_iload_n hx hb dX4_expandedThird_100 rfl (lv_at hl 1 rfl) ?_
      refine lv_bipush (v := 7) hx hb dX4_expandedThird_101 (by decide) ?_
      refine lv_ishr hx hb dX4_expandedThird_103 ?_
      refine lv_bipush (v := 32) hx hb dX4_expandedThird_104 (by decide) ?_
      refine lv_iand hx hb dX4_expandedThird_106 ?_
      refine lv_iload_n hx hb dX4_expandedThird_107 rfl (lv_at hl 1 rfl) ?_
      refine lv_iconst (v := 2) hx hb dX4_expandedThird_108 (by decide) ?_
      refine lv_ishr hx hb dX4_expandedThird_109 ?_
      refine lv_bipush (v := 28) hx hb dX4_expandedThird_110 (by decide) ?_
      refine lv_iand hx hb dX4_expandedThird_112 ?_
      refine lv_ior hx hb dX4_expandedThird_113 ?_
      refine lv_iload_n hx hb dX4_expandedThird_114 rfl (lv_at hl 1 rfl) ?_
      refine lv_iconst (v := 4) hx hb dX4_expandedThird_115 (by decide) ?_
      refine lv_ishl hx hb dX4_expandedThird_116 ?_
      refine lv_sipush (v := 192) hx hb dX4_expandedThird_117 (by decide) ?_
      refine lv_iand hx hb dX4_expandedThird_120 ?_
      refine lv_ior hx hb dX4_expandedThird_121 ?_
      refine lv_iconst (v := 2) hx hb dX4_expandedThird_122 (by decide) ?_
      refine lv_iload_n hx hb dX4_expandedThird_123 rfl (lv_at hl 2 rfl) ?_
      obtain ⟨q12, s13, hq, h⟩ := nd_b2_e h
      have hPc : va_P (dC, dI) vwCl (dw_P a ac ()) H := nd_p0
      have hDc : va_D A (dw_P a ac ()) := nd_d0
      have hKc : va_K (dC, dI) vwCl (dk_P ac) s := nd_y0 hK
      have hFc : ∀ q, va_A (dw_P a ac ()) H.size q → A q := nd_r0 hS hA
      refine nd_cSi (As := [.int (((((x0 : Int32) >>> ((7 : Int32) &&& 31)) &&& 32) ||| (((x0 : Int32) >>> ((2 : Int32) &&& 31)) &&& 28)) ||| (((x0 : Int32) <<< ((4 : Int32) &&& 31)) &&& 192)), .int 2, .int x1]) (rest := []) (q := q12) (w' := dw_P a ac s13) ⟨hx, hb, hml, hown, hts⟩ (fun sz => dm_X4_loading l hlt dC dI a ac n ((((((x0 : Int32) >>> ((7 : Int32) &&& 31)) &&& 32) ||| (((x0 : Int32) >>> ((2 : Int32) &&& 31)) &&& 28)) ||| (((x0 : Int32) <<< ((4 : Int32) &&& 31)) &&& 192))) (2) (x1) () hq sz) (cwS 3 hts gi_dm_X4_expandedThird_1 rfl rfl rfl (by decide +kernel) ⟨Nat.le_of_ble_eq_true rfl, Nat.le_of_ble_eq_true rfl⟩) hPc hDc hKc hS hA hN rfl hl.1 rfl (Nat.le_of_ble_eq_true rfl) dX4_expandedThird_124 (fun H locs hP1 hD1 hk1 hS => ?_)
      have hP := nd_n0 hP hk1
      exact (db_X4_expandedThird_127 C K) (q12) s0 _ _ _ h hP hD hS (lv_sub hl [] rfl)
    · have h := nd_pos h c11
      refine lv_iconst (v := 0) hx hb dX4_expandedThird_96 (by decide) ?_
      refine lv_goto (tgt := 127) hx hb dX4_expandedThird_97 (by decide) ?_
      exact (db_X4_expandedThird_127 C K) (0) s0 _ _ _ h hP hD hS (lv_sub hl [] rfl)
  have h := nd_neg h c10
  by_cases c15 : ((x0 : Int32) >>> ((13 : Int32) &&& 31)) = 3
  · have h := nd_pos h c15
    refine lv_tableIn (off := 182) (tgt := 215) hx hb dX4_expandedThird_33 (by rw [c15]; decide) (by rw [c15]; decide) (by rw [c15]; decide) (by decide) ?_
    exact (db_X4_expandedThird_215 C K)  s0 _ _ _ h hP hD hS (lv_sub hl [] rfl)
  have h := nd_neg h c15
  by_cases c16 : ((x0 : Int32) >>> ((13 : Int32) &&& 31)) = 4
  · have h := nd_pos h c16
    refine lv_tableIn (off := 95) (tgt := 128) hx hb dX4_expandedThird_33 (by rw [c16]; decide) (by rw [c16]; decide) (by rw [c16]; decide) (by decide) ?_
    refine lv_iload_n hx hb dX4_expandedThird_128 rfl (lv_at hl 3 rfl) ?_
    refine lv_if_eq (tgt := 158) hx hb dX4_expandedThird_129 (by decide) (fun c17 => ?_) (fun c17 => ?_)
    · have h := nd_pos h c17
      refine lv_iload_n hx hb dX4_expandedThird_158 rfl (lv_at hl 2 rfl) ?_
      refine lv_if_ne (tgt := 173) hx hb dX4_expandedThird_159 (by decide) (fun c18 => ?_) (fun c18 => ?_)
      · have h := nd_neg h c18
        refine lv_iload_n hx hb dX4_expandedThird_173 rfl (lv_at hl 2 rfl) ?_
        refine lv_bipush (v := 15) hx hb dX4_expandedThird_174 (by decide) ?_
        refine lv_ishl hx hb dX4_expandedThird_176 ?_
        refine lv_iload_n hx hb dX4_expandedThird_177 rfl (lv_at hl 0 rfl) ?_
        refine lv_if_eq (tgt := 185) hx hb dX4_expandedThird_178 (by decide) (fun c19 => ?_) (fun c19 => ?_)
        · have h := nd_pos h c19
          refine lv_iconst (v := 0) hx hb dX4_expandedThird_185 (by decide) ?_
          exact (db_X4_expandedThird_186 C K) (((x1 : Int32) <<< ((15 : Int32) &&& 31))) (0) s0 _ _ _ h hP hD hS (lv_sub hl [] rfl)
        · have h := nd_neg h c19
          refine lv_iconst (v := 1) hx hb dX4_expandedThird_181 (by decide) ?_
          refine lv_goto (tgt := 186) hx hb dX4_expandedThird_182 (by decide) ?_
          exact (db_X4_expandedThird_186 C K) (((x1 : Int32) <<< ((15 : Int32) &&& 31))) (1) s0 _ _ _ h hP hD hS (lv_sub hl [] rfl)
      · have h := nd_pos h c18
        refine lv_iload_n hx hb dX4_expandedThird_162 rfl (lv_at hl 0 rfl) ?_
        refine lv_if_eq (tgt := 171) hx hb dX4_expandedThird_163 (by decide) (fun c20 => ?_) (fun c20 => ?_)
        · have h := nd_pos h c20
          refine lv_iconst (v := 0) hx hb dX4_expandedThird_171 (by decide) ?_
          exact (db_X4_expandedThird_172 C K) (0) s0 _ _ _ h hP hD hS (lv_sub hl [] rfl)
        · have h := nd_neg h c20
          refine lv_ldc hx hb hown (hts (.constant RX4 136 (1048691)) (List.mem_of_getElem? (i := 6) rfl)) dX4_expandedThird_166 ?_
          refine lv_goto (tgt := 172) hx hb dX4_expandedThird_168 (by decide) ?_
          exact (db_X4_expandedThird_172 C K) (1048691) s0 _ _ _ h hP hD hS (lv_sub hl [] rfl)
    · have h := nd_neg h c17
      refine lv_iload_n hx hb dX4_expandedThird_132 rfl (lv_at hl 3 rfl) ?_
      refine lv_bipush (v := 20) hx hb dX4_expandedThird_133 (by decide) ?_
      refine lv_ishl hx hb dX4_expandedThird_135 ?_
      refine lv_iload_n hx hb dX4_expandedThird_136 rfl (lv_at hl 0 rfl) ?_
      refine lv_if_eq (tgt := 144) hx hb dX4_expandedThird_137 (by decide) (fun c21 => ?_) (fun c21 => ?_)
      · have h := nd_pos h c21
        refine lv_iconst (v := 0) hx hb dX4_expandedThird_144 (by decide) ?_
        exact (db_X4_expandedThird_145 C K) (x1) (((x2 : Int32) <<< ((20 : Int32) &&& 31))) (0) s0 _ _ _ h hP hD hS (lv_sub hl [2] rfl)
      · have h := nd_neg h c21
        refine lv_iload_n hx hb dX4_expandedThird_140 rfl (lv_at hl 2 rfl) ?_
        refine lv_goto (tgt := 145) hx hb dX4_expandedThird_141 (by decide) ?_
        exact (db_X4_expandedThird_145 C K) (x1) (((x2 : Int32) <<< ((20 : Int32) &&& 31))) (x1) s0 _ _ _ h hP hD hS (lv_sub hl [2] rfl)
  have h := nd_neg h c16
  by_cases c22 : ((x0 : Int32) >>> ((13 : Int32) &&& 31)) = 5
  · have h := nd_pos h c22
    refine lv_tableIn (off := 182) (tgt := 215) hx hb dX4_expandedThird_33 (by rw [c22]; decide) (by rw [c22]; decide) (by rw [c22]; decide) (by decide) ?_
    exact (db_X4_expandedThird_215 C K)  s0 _ _ _ h hP hD hS (lv_sub hl [] rfl)
  have h := nd_neg h c22
  by_cases c23 : ((x0 : Int32) >>> ((13 : Int32) &&& 31)) = 6
  · have h := nd_pos h c23
    refine lv_tableIn (off := 161) (tgt := 194) hx hb dX4_expandedThird_33 (by rw [c23]; decide) (by rw [c23]; decide) (by rw [c23]; decide) (by decide) ?_
    refine lv_iload_n hx hb dX4_expandedThird_194 rfl (lv_at hl 1 rfl) ?_
    refine lv_bipush (v := 7) hx hb dX4_expandedThird_195 (by decide) ?_
    refine lv_ishr hx hb dX4_expandedThird_197 ?_
    refine lv_bipush (v := 60) hx hb dX4_expandedThird_198 (by decide) ?_
    refine lv_iand hx hb dX4_expandedThird_200 ?_
    refine lv_iload_n hx hb dX4_expandedThird_201 rfl (lv_at hl 1 rfl) ?_
    refine lv_iconst (v := 1) hx hb dX4_expandedThird_202 (by decide) ?_
    refine lv_ishr hx hb dX4_expandedThird_203 ?_
    refine lv_sipush (v := 192) hx hb dX4_expandedThird_204 (by decide) ?_
    refine lv_iand hx hb dX4_expandedThird_207 ?_
    refine lv_ior hx hb dX4_expandedThird_208 ?_
    refine lv_iconst (v := 2) hx hb dX4_expandedThird_209 (by decide) ?_
    refine lv_iload_n hx hb dX4_expandedThird_210 rfl (lv_at hl 3 rfl) ?_
    obtain ⟨q24, s25, hq, h⟩ := nd_b2_e h
    have hPc : va_P (dC, dI) vwCl (dw_P a ac ()) H := nd_p0
    have hDc : va_D A (dw_P a ac ()) := nd_d0
    have hKc : va_K (dC, dI) vwCl (dk_P ac) s := nd_y0 hK
    have hFc : ∀ q, va_A (dw_P a ac ()) H.size q → A q := nd_r0 hS hA
    refine nd_cSi (As := [.int ((((x0 : Int32) >>> ((7 : Int32) &&& 31)) &&& 60) ||| (((x0 : Int32) >>> ((1 : Int32) &&& 31)) &&& 192)), .int 2, .int x2]) (rest := []) (q := q24) (w' := dw_P a ac s25) ⟨hx, hb, hml, hown, hts⟩ (fun sz => dm_X4_storing l hlt dC dI a ac n (((((x0 : Int32) >>> ((7 : Int32) &&& 31)) &&& 60) ||| (((x0 : Int32) >>> ((1 : Int32) &&& 31)) &&& 192))) (2) (x2) () hq sz) (cwS 3 hts gi_dm_X4_expandedThird_2 rfl rfl rfl (by decide +kernel) ⟨Nat.le_of_ble_eq_true rfl, Nat.le_of_ble_eq_true rfl⟩) hPc hDc hKc hS hA hN rfl hl.1 rfl (Nat.le_of_ble_eq_true rfl) dX4_expandedThird_211 (fun H locs hP1 hD1 hk1 hS => ?_)
    have hP := nd_n0 hP hk1
    exact K _ _ _ _ _ _ dX4_expandedThird_214 rfl (Option.some.inj h).symm hP hD hS
  have h := nd_neg h c23
  refine lv_tableOut (tgt := 215) hx hb dX4_expandedThird_33 (by have g0 := nv_nei c4 (k := 0) (by decide); have g1 := nv_nei c9 (k := 1) (by decide); have g2 := nv_nei c10 (k := 2) (by decide); have g3 := nv_nei c15 (k := 3) (by decide); have g4 := nv_nei c16 (k := 4) (by decide); have g5 := nv_nei c22 (k := 5) (by decide); have g6 := nv_nei c23 (k := 6) (by decide); omega) (by decide) ?_
  exact (db_X4_expandedThird_215 C K)  s0 _ _ _ h hP hD hS (lv_sub hl [] rfl)
set_option maxHeartbeats 40000000 in
set_option maxRecDepth 100000 in
theorem db_X4_expandedThird_0 {p : Program} {l : Launch} {e : Env} {s : State} {m : MethodId} {args : Array Value} {below : List Frame} {meth : Method} {c : Code} {Q : State → Prop} {A : Nat → Prop} {dC : Nat → ClassId} {dI : Nat → Nat → Nat} {a : Nat → Nat} {ac : Nat → ClassId} {n : Nat} {r : Int32 × (Unit)} (C : nd_C p l s m args c A (dC, dI) cX4_expandedThird 4 RX4 ow_dm_X4_expandedThird (dk_P ac)) (K : nd_Ki p l e (headSpec ow_dm_X4_expandedThird ({ frames := 1, cells := 0, slots := 0, locals := 23 })).room s m args below meth c Q A (dC, dI) cX4_expandedThird .int (Unit) (dw_P a ac) r) : dj_X4_expandedThird_0 p l e s m args below meth c Q A dC dI a ac (df_X4_expandedThird_0 n) r := by
  obtain ⟨hlt, hx, hb, hml, hown, hts, hN, hA, hK⟩ := id C
  intro v0 s0 H locs ls h hP hD hS hl
  unfold df_X4_expandedThird_0 at h
  refine lv_iload_n hx hb dX4_expandedThird_0 rfl (lv_at hl 0 rfl) ?_
  refine lv_bipush (v := 7) hx hb dX4_expandedThird_1 (by decide) ?_
  refine lv_ishr hx hb dX4_expandedThird_3 ?_
  refine lv_bipush (v := 31) hx hb dX4_expandedThird_4 (by decide) ?_
  refine lv_iand hx hb dX4_expandedThird_6 ?_
  refine lv_topi (fun z1 ez1 => ?_)
  have h := nd_at h ez1
  refine lv_istore_n (lv' := [(1, .int z1), (0, .int v0)]) hx hb dX4_expandedThird_7 rfl hl (by decide) rfl (fun ls hl => ?_)
  refine lv_iload_n hx hb dX4_expandedThird_8 rfl (lv_at hl 1 rfl) ?_
  refine lv_iconst (v := 2) hx hb dX4_expandedThird_9 (by decide) ?_
  refine lv_ishr hx hb dX4_expandedThird_10 ?_
  refine lv_bipush (v := 31) hx hb dX4_expandedThird_11 (by decide) ?_
  refine lv_iand hx hb dX4_expandedThird_13 ?_
  refine lv_topi (fun z2 ez2 => ?_)
  have h := nd_at h ez2
  refine lv_istore_n (lv' := [(2, .int z2), (1, .int z1), (0, .int v0)]) hx hb dX4_expandedThird_14 rfl hl (by decide) rfl (fun ls hl => ?_)
  refine lv_iload_n hx hb dX4_expandedThird_15 rfl (lv_at hl 2 rfl) ?_
  refine lv_sipush (v := 4096) hx hb dX4_expandedThird_16 (by decide) ?_
  refine lv_iand hx hb dX4_expandedThird_19 ?_
  refine lv_if_eq (tgt := 27) hx hb dX4_expandedThird_20 (by decide) (fun c3 => ?_) (fun c3 => ?_)
  · have h := nd_pos h c3
    refine lv_iconst (v := 0) hx hb dX4_expandedThird_27 (by decide) ?_
    exact (db_X4_expandedThird_28 C K) (v0) (z1) (z2) (0) s0 _ _ _ h hP hD hS (lv_sub hl [2, 1, 0] rfl)
  · have h := nd_neg h c3
    refine lv_iconst (v := 1) hx hb dX4_expandedThird_23 (by decide) ?_
    refine lv_goto (tgt := 28) hx hb dX4_expandedThird_24 (by decide) ?_
    exact (db_X4_expandedThird_28 C K) (v0) (z1) (z2) (1) s0 _ _ _ h hP hD hS (lv_sub hl [2, 1, 0] rfl)
set_option maxHeartbeats 40000000 in
set_option maxRecDepth 100000 in
theorem dm_X4_expandedThird (l : Launch) (hlt : l.stackTraces = false) (dC : Nat → ClassId) (dI : Nat → Nat → Nat) (a : Nat → Nat) (ac : Nat → ClassId) (n : Nat) (v0 : Int32) (s0 : Unit) {r : Int32 × (Unit)} (h : df_X4_expandedThird n v0 s0 = some r) (sz : Nat) : Met l yX4_expandedThird ow_dm_X4_expandedThird ({ frames := 1, cells := 0, slots := 0, locals := 23 }) (va_Pc [.int v0] (fun U => U.heap.size = sz ∧ va_P (dC, dI) vwCl (dw_P a ac s0) U.heap ∧ va_K (dC, dI) vwCl (dk_P ac) U ∧ va_D (fun _ => True) (dw_P a ac s0) ∧ nv_E dI (va_A (dw_P a ac s0) sz) U)) (va_Qi (fun x _ => x = r.1) (fun (_ : Unit) t => va_P (dC, dI) vwCl (dw_P a ac r.2) t.heap ∧ va_K (dC, dI) vwCl (dk_P ac) t ∧ va_D (va_A (dw_P a ac s0) sz) (dw_P a ac r.2)) (va_A (dw_P a ac s0) sz)) 0 0 (va_A (dw_P a ac s0) sz) := by
  refine Met.ofW (cc := cX4_expandedThird) (maxL := 4) (ret := (some .int)) (by decide) rfl ?_
  intro p e s m args below meth c s₁ B hml hv
  obtain ⟨rfl, hsz, hP, hK, hD0, hN⟩ := hv
  have hx := B.exec
  have hb := B.bytes
  have hr := B.returns
  have hts := atoms_spec (ws := ow_dm_X4_expandedThird) B.pre
  have hown : s.vm.findClass RX4 = some m.cls := findClass_of_methodNamed B.named
  have hlocks := B.notSynchronized
  subst hsz
  have hD := hD0.self (sz := s.heap.size)
  generalize hAe : va_A (dw_P a ac s0) s.heap.size = A at hD hN ⊢
  have hA : ∀ q : Nat, s.heap.size ≤ q → A q := fun q h => by rw [← hAe]; exact Or.inr h
  have hl := lv_entry ([.int v0]) (n := 4) (Nat.le_of_ble_eq_true rfl)
  rw [lg_entry_eq]
  generalize (lg_sl ([.int v0]) ++ List.replicate (4 - (lg_sl ([.int v0])).length) Slot.unset).toArray = ls at hl ⊢
  have hl : lv_has ls 4 [(0, .int v0)] := hl
  exact db_X4_expandedThird_0 (dC := dC) (dI := dI) (a := a) (ac := ac) (n := n) (r := r) ⟨hlt, hx, hb, hml, hown, hts, hN, hA, hK⟩ (fun pc v τ H locs ls d z er hP hD hS => by subst er; exact W.zret (v := v) hx hb hr z (fun t ht hW => ⟨⟨v, (), rfl, rfl, by rw [ht]; exact hP, va_K.moved hW.alike hK, hD⟩, hS.F ht⟩) hS.2.2 d) v0 s0 _ _ _ h hP hD va_S.rf (lv_sub hl [0] rfl)
def ow_dm_X4_expanded : List Cond := Cond.code yX4_expanded cX4_expanded 1 (some .int) :: ([Cond.methodLink RX4 140 yX4_expandedFirst, Cond.static yX4_expandedFirst, Cond.initialized RX4, Cond.methodLink RX4 146 yX4_expandedSecond, Cond.static yX4_expandedSecond, Cond.methodLink RX4 143 yX4_expandedSums, Cond.static yX4_expandedSums, Cond.methodLink RX4 149 yX4_expandedThird, Cond.static yX4_expandedThird] ++ (ow_dm_X4_expandedFirst ++ (ow_dm_X4_expandedSecond ++ (ow_dm_X4_expandedSums ++ (ow_dm_X4_expandedThird ++ [])))))
theorem gd_dm_X4_expanded : ∀ w ∈ ow_dm_X4_expanded, (w.onTables && w.keeps) = true ∨ ∃ ty, w = Cond.arrayClass ty := List.forall_mem_cons.mpr ⟨good_of_word rfl, List.forall_mem_append.mpr ⟨fun w h => good_of_word (List.all_eq_true.mp (by decide +kernel) w h), List.forall_mem_append.mpr ⟨gd_dm_X4_expandedFirst, List.forall_mem_append.mpr ⟨gd_dm_X4_expandedSecond, List.forall_mem_append.mpr ⟨gd_dm_X4_expandedSums, List.forall_mem_append.mpr ⟨gd_dm_X4_expandedThird, fun _ h => nomatch h⟩⟩⟩⟩⟩⟩
theorem gi_dm_X4_expanded_0 : GoodIn ow_dm_X4_expanded (wsS RX4 140 yX4_expandedFirst ow_dm_X4_expandedFirst) := goodIn_app (goodIn_of _ (by decide +kernel)) (fun w h => ⟨List.mem_cons_of_mem _ (List.mem_append_right _ (List.mem_append_left _ h)), gd_dm_X4_expandedFirst w h⟩)
theorem gi_dm_X4_expanded_1 : GoodIn ow_dm_X4_expanded (wsS RX4 146 yX4_expandedSecond ow_dm_X4_expandedSecond) := goodIn_app (goodIn_of _ (by decide +kernel)) (fun w h => ⟨List.mem_cons_of_mem _ (List.mem_append_right _ (List.mem_append_right _ (List.mem_append_left _ h))), gd_dm_X4_expandedSecond w h⟩)
theorem gi_dm_X4_expanded_2 : GoodIn ow_dm_X4_expanded (wsS RX4 143 yX4_expandedSums ow_dm_X4_expandedSums) := goodIn_app (goodIn_of _ (by decide +kernel)) (fun w h => ⟨List.mem_cons_of_mem _ (List.mem_append_right _ (List.mem_append_right _ (List.mem_append_right _ (List.mem_append_left _ h)))), gd_dm_X4_expandedSums w h⟩)
theorem gi_dm_X4_expanded_3 : GoodIn ow_dm_X4_expanded (wsS RX4 149 yX4_expandedThird ow_dm_X4_expandedThird) := goodIn_app (goodIn_of _ (by decide +kernel)) (fun w h => ⟨List.mem_cons_of_mem _ (List.mem_append_right _ (List.mem_append_right _ (List.mem_append_right _ (List.mem_append_right _ (List.mem_append_left _ h))))), gd_dm_X4_expandedThird w h⟩)
def dj_X4_expanded_52 (p : Program) (l : Launch) (e : Env) (s : State) (m : MethodId) (args : Array Value) (below : List Frame) (meth : Method) (c : Code) (Q : State → Prop) (A : Nat → Prop) (dC : Nat → ClassId) (dI : Nat → Nat → Nat) (a : Nat → Nat) (ac : Nat → ClassId) (g : Int32 → (Unit) → Option (Int32 × (Unit))) (r : Int32 × (Unit)) : Prop := ∀ (y0 : Int32) (s0 : Unit) (H : Heap) (locs : List Loc) (ls : Array Slot), g y0 s0 = some r → va_P (dC, dI) vwCl (dw_P a ac s0) H → va_D A (dw_P a ac s0) → va_S A s.heap H locs → lv_has ls 1 [] → W p l e (headSpec ow_dm_X4_expanded ({ frames := 2, cells := 0, slots := 0, locals := 48 })).room s m args below meth c H locs 0 0 Q (F0 m 52 ls [.int y0])
def dj_X4_expanded_0 (p : Program) (l : Launch) (e : Env) (s : State) (m : MethodId) (args : Array Value) (below : List Frame) (meth : Method) (c : Code) (Q : State → Prop) (A : Nat → Prop) (dC : Nat → ClassId) (dI : Nat → Nat → Nat) (a : Nat → Nat) (ac : Nat → ClassId) (g : Int32 → (Unit) → Option (Int32 × (Unit))) (r : Int32 × (Unit)) : Prop := ∀ (v0 : Int32) (s0 : Unit) (H : Heap) (locs : List Loc) (ls : Array Slot), g v0 s0 = some r → va_P (dC, dI) vwCl (dw_P a ac s0) H → va_D A (dw_P a ac s0) → va_S A s.heap H locs → lv_has ls 1 [(0, .int v0)] → W p l e (headSpec ow_dm_X4_expanded ({ frames := 2, cells := 0, slots := 0, locals := 48 })).room s m args below meth c H locs 0 0 Q (F0 m 0 ls [])
set_option maxHeartbeats 40000000 in
set_option maxRecDepth 100000 in
theorem db_X4_expanded_52 {p : Program} {l : Launch} {e : Env} {s : State} {m : MethodId} {args : Array Value} {below : List Frame} {meth : Method} {c : Code} {Q : State → Prop} {A : Nat → Prop} {dC : Nat → ClassId} {dI : Nat → Nat → Nat} {a : Nat → Nat} {ac : Nat → ClassId} {n : Nat} {r : Int32 × (Unit)} (C : nd_C p l s m args c A (dC, dI) cX4_expanded 1 RX4 ow_dm_X4_expanded (dk_P ac)) (K : nd_Ki p l e (headSpec ow_dm_X4_expanded ({ frames := 2, cells := 0, slots := 0, locals := 48 })).room s m args below meth c Q A (dC, dI) cX4_expanded .int (Unit) (dw_P a ac) r) : dj_X4_expanded_52 p l e s m args below meth c Q A dC dI a ac (df_X4_expanded_52 n) r := by
  obtain ⟨hlt, hx, hb, hml, hown, hts, hN, hA, hK⟩ := id C
  intro y0 s0 H locs ls h hP hD hS hl
  unfold df_X4_expanded_52 at h
  exact K _ _ _ _ _ _ dX4_expanded_52 rfl (Option.some.inj h).symm hP hD hS
set_option maxHeartbeats 40000000 in
set_option maxRecDepth 100000 in
theorem db_X4_expanded_0 {p : Program} {l : Launch} {e : Env} {s : State} {m : MethodId} {args : Array Value} {below : List Frame} {meth : Method} {c : Code} {Q : State → Prop} {A : Nat → Prop} {dC : Nat → ClassId} {dI : Nat → Nat → Nat} {a : Nat → Nat} {ac : Nat → ClassId} {n : Nat} {r : Int32 × (Unit)} (C : nd_C p l s m args c A (dC, dI) cX4_expanded 1 RX4 ow_dm_X4_expanded (dk_P ac)) (K : nd_Ki p l e (headSpec ow_dm_X4_expanded ({ frames := 2, cells := 0, slots := 0, locals := 48 })).room s m args below meth c Q A (dC, dI) cX4_expanded .int (Unit) (dw_P a ac) r) : dj_X4_expanded_0 p l e s m args below meth c Q A dC dI a ac (df_X4_expanded_0 n) r := by
  obtain ⟨hlt, hx, hb, hml, hown, hts, hN, hA, hK⟩ := id C
  intro v0 s0 H locs ls h hP hD hS hl
  unfold df_X4_expanded_0 at h
  refine lv_iload_n hx hb dX4_expanded_0 rfl (lv_at hl 0 rfl) ?_
  refine lv_iconst (v := 3) hx hb dX4_expanded_1 (by decide) ?_
  refine lv_iand hx hb dX4_expanded_2 ?_
  by_cases c1 : (v0 &&& 3) = 0
  · have h := nd_pos h c1
    refine lv_lookup (off := 25) (tgt := 28) hx hb dX4_expanded_3 (by decide) (by rw [c1]; decide) (by decide) ?_
    refine lv_iload_n hx hb dX4_expanded_28 rfl (lv_at hl 0 rfl) ?_
    obtain ⟨q2, s3, hq, h⟩ := nd_b2_e h
    have hPc : va_P (dC, dI) vwCl (dw_P a ac ()) H := nd_p0
    have hDc : va_D A (dw_P a ac ()) := nd_d0
    have hKc : va_K (dC, dI) vwCl (dk_P ac) s := nd_y0 hK
    have hFc : ∀ q, va_A (dw_P a ac ()) H.size q → A q := nd_r0 hS hA
    refine nd_cSi (As := [.int v0]) (rest := []) (q := q2) (w' := dw_P a ac s3) ⟨hx, hb, hml, hown, hts⟩ (fun sz => dm_X4_expandedFirst l hlt dC dI a ac n (v0) () hq sz) (cwS 1 hts gi_dm_X4_expanded_0 rfl rfl rfl (by decide +kernel) ⟨Nat.le_of_ble_eq_true rfl, Nat.le_of_ble_eq_true rfl⟩) hPc hDc hKc hS hA hN rfl hl.1 rfl (Nat.le_of_ble_eq_true rfl) dX4_expanded_29 (fun H locs hP1 hD1 hk1 hS => ?_)
    have hP := nd_n0 hP hk1
    exact K _ _ _ _ _ _ dX4_expanded_32 rfl (Option.some.inj h).symm hP hD hS
  have h := nd_neg h c1
  by_cases c5 : (v0 &&& 3) = 1
  · have h := nd_pos h c5
    refine lv_lookup (off := 30) (tgt := 33) hx hb dX4_expanded_3 (by decide) (by rw [c5]; decide) (by decide) ?_
    refine lv_iload_n hx hb dX4_expanded_33 rfl (lv_at hl 0 rfl) ?_
    refine lv_bipush (v := 13) hx hb dX4_expanded_34 (by decide) ?_
    refine lv_ishr hx hb dX4_expanded_36 ?_
    refine lv_iconst (v := 4) hx hb dX4_expanded_37 (by decide) ?_
    refine lv_icmp_ne (tgt := 48) hx hb dX4_expanded_38 (by decide) (fun c6 => ?_) (fun c6 => ?_)
    · have h := nd_neg h c6
      refine lv_iload_n hx hb dX4_expanded_48 rfl (lv_at hl 0 rfl) ?_
      obtain ⟨q7, s8, hq, h⟩ := nd_b2_e h
      have hPc : va_P (dC, dI) vwCl (dw_P a ac ()) H := nd_p0
      have hDc : va_D A (dw_P a ac ()) := nd_d0
      have hKc : va_K (dC, dI) vwCl (dk_P ac) s := nd_y0 hK
      have hFc : ∀ q, va_A (dw_P a ac ()) H.size q → A q := nd_r0 hS hA
      refine nd_cSi (As := [.int v0]) (rest := []) (q := q7) (w' := dw_P a ac s8) ⟨hx, hb, hml, hown, hts⟩ (fun sz => dm_X4_expandedSecond l hlt dC dI a ac n (v0) () hq sz) (cwS 1 hts gi_dm_X4_expanded_1 rfl rfl rfl (by decide +kernel) ⟨Nat.le_of_ble_eq_true rfl, Nat.le_of_ble_eq_true rfl⟩) hPc hDc hKc hS hA hN rfl hl.1 rfl (Nat.le_of_ble_eq_true rfl) dX4_expanded_49 (fun H locs hP1 hD1 hk1 hS => ?_)
      have hP := nd_n0 hP hk1
      exact (db_X4_expanded_52 C K) (q7) s0 _ _ _ h hP hD hS (lv_sub hl [] rfl)
    · have h := nd_pos h c6
      refine lv_iload_n hx hb dX4_expanded_41 rfl (lv_at hl 0 rfl) ?_
      obtain ⟨q10, s11, hq, h⟩ := nd_b2_e h
      have hPc : va_P (dC, dI) vwCl (dw_P a ac ()) H := nd_p0
      have hDc : va_D A (dw_P a ac ()) := nd_d0
      have hKc : va_K (dC, dI) vwCl (dk_P ac) s := nd_y0 hK
      have hFc : ∀ q, va_A (dw_P a ac ()) H.size q → A q := nd_r0 hS hA
      refine nd_cSi (As := [.int v0]) (rest := []) (q := q10) (w' := dw_P a ac s11) ⟨hx, hb, hml, hown, hts⟩ (fun sz => dm_X4_expandedSums l hlt dC dI a ac n (v0) () hq sz) (cwS 1 hts gi_dm_X4_expanded_2 rfl rfl rfl (by decide +kernel) ⟨Nat.le_of_ble_eq_true rfl, Nat.le_of_ble_eq_true rfl⟩) hPc hDc hKc hS hA hN rfl hl.1 rfl (Nat.le_of_ble_eq_true rfl) dX4_expanded_42 (fun H locs hP1 hD1 hk1 hS => ?_)
      have hP := nd_n0 hP hk1
      refine lv_goto (tgt := 52) hx hb dX4_expanded_45 (by decide) ?_
      exact (db_X4_expanded_52 C K) (q10) s0 _ _ _ h hP hD hS (lv_sub hl [] rfl)
  have h := nd_neg h c5
  refine lv_lookup (off := 50) (tgt := 53) hx hb dX4_expanded_3 (by decide) (show Op.lookupswitch.offset [(0, 25), (1, 30)] 50 ((v0 &&& 3) : Int32).toInt = 50 by rw [lv_osw c1 (by decide), lv_osw c5 (by decide)] <;> rfl) (by decide) ?_
  refine lv_iload_n hx hb dX4_expanded_53 rfl (lv_at hl 0 rfl) ?_
  obtain ⟨q13, s14, hq, h⟩ := nd_b2_e h
  have hPc : va_P (dC, dI) vwCl (dw_P a ac ()) H := nd_p0
  have hDc : va_D A (dw_P a ac ()) := nd_d0
  have hKc : va_K (dC, dI) vwCl (dk_P ac) s := nd_y0 hK
  have hFc : ∀ q, va_A (dw_P a ac ()) H.size q → A q := nd_r0 hS hA
  refine nd_cSi (As := [.int v0]) (rest := []) (q := q13) (w' := dw_P a ac s14) ⟨hx, hb, hml, hown, hts⟩ (fun sz => dm_X4_expandedThird l hlt dC dI a ac n (v0) () hq sz) (cwS 1 hts gi_dm_X4_expanded_3 rfl rfl rfl (by decide +kernel) ⟨Nat.le_of_ble_eq_true rfl, Nat.le_of_ble_eq_true rfl⟩) hPc hDc hKc hS hA hN rfl hl.1 rfl (Nat.le_of_ble_eq_true rfl) dX4_expanded_54 (fun H locs hP1 hD1 hk1 hS => ?_)
  have hP := nd_n0 hP hk1
  exact K _ _ _ _ _ _ dX4_expanded_57 rfl (Option.some.inj h).symm hP hD hS
set_option maxHeartbeats 40000000 in
set_option maxRecDepth 100000 in
theorem dm_X4_expanded (l : Launch) (hlt : l.stackTraces = false) (dC : Nat → ClassId) (dI : Nat → Nat → Nat) (a : Nat → Nat) (ac : Nat → ClassId) (n : Nat) (v0 : Int32) (s0 : Unit) {r : Int32 × (Unit)} (h : df_X4_expanded n v0 s0 = some r) (sz : Nat) : Met l yX4_expanded ow_dm_X4_expanded ({ frames := 2, cells := 0, slots := 0, locals := 48 }) (va_Pc [.int v0] (fun U => U.heap.size = sz ∧ va_P (dC, dI) vwCl (dw_P a ac s0) U.heap ∧ va_K (dC, dI) vwCl (dk_P ac) U ∧ va_D (fun _ => True) (dw_P a ac s0) ∧ nv_E dI (va_A (dw_P a ac s0) sz) U)) (va_Qi (fun x _ => x = r.1) (fun (_ : Unit) t => va_P (dC, dI) vwCl (dw_P a ac r.2) t.heap ∧ va_K (dC, dI) vwCl (dk_P ac) t ∧ va_D (va_A (dw_P a ac s0) sz) (dw_P a ac r.2)) (va_A (dw_P a ac s0) sz)) 0 0 (va_A (dw_P a ac s0) sz) := by
  refine Met.ofW (cc := cX4_expanded) (maxL := 1) (ret := (some .int)) (by decide) rfl ?_
  intro p e s m args below meth c s₁ B hml hv
  obtain ⟨rfl, hsz, hP, hK, hD0, hN⟩ := hv
  have hx := B.exec
  have hb := B.bytes
  have hr := B.returns
  have hts := atoms_spec (ws := ow_dm_X4_expanded) B.pre
  have hown : s.vm.findClass RX4 = some m.cls := findClass_of_methodNamed B.named
  have hlocks := B.notSynchronized
  subst hsz
  have hD := hD0.self (sz := s.heap.size)
  generalize hAe : va_A (dw_P a ac s0) s.heap.size = A at hD hN ⊢
  have hA : ∀ q : Nat, s.heap.size ≤ q → A q := fun q h => by rw [← hAe]; exact Or.inr h
  have hl := lv_entry ([.int v0]) (n := 1) (Nat.le_of_ble_eq_true rfl)
  rw [lg_entry_eq]
  generalize (lg_sl ([.int v0]) ++ List.replicate (1 - (lg_sl ([.int v0])).length) Slot.unset).toArray = ls at hl ⊢
  have hl : lv_has ls 1 [(0, .int v0)] := hl
  exact db_X4_expanded_0 (dC := dC) (dI := dI) (a := a) (ac := ac) (n := n) (r := r) ⟨hlt, hx, hb, hml, hown, hts, hN, hA, hK⟩ (fun pc v τ H locs ls d z er hP hD hS => by subst er; exact W.zret (v := v) hx hb hr z (fun t ht hW => ⟨⟨v, (), rfl, rfl, by rw [ht]; exact hP, va_K.moved hW.alike hK, hD⟩, hS.F ht⟩) hS.2.2 d) v0 s0 _ _ _ h hP hD va_S.rf (lv_sub hl [0] rfl)
def ow_dm_X6_byteAt : List Cond := Cond.code yX6_byteAt cX6_byteAt 4 (some .int) :: ([Cond.fieldLink RX6 17 "TimeMachine$Machine" "page" "[I", Cond.fieldLink RX6 10 "TimeMachine$Machine" "word" "[I"] ++ (u_ws RX6 TX6 20 ++ []))
theorem gd_dm_X6_byteAt : ∀ w ∈ ow_dm_X6_byteAt, (w.onTables && w.keeps) = true ∨ ∃ ty, w = Cond.arrayClass ty := List.forall_mem_cons.mpr ⟨good_of_word rfl, List.forall_mem_append.mpr ⟨fun w h => good_of_word (List.all_eq_true.mp (by decide +kernel) w h), List.forall_mem_append.mpr ⟨gu_X6, fun _ h => nomatch h⟩⟩⟩
theorem hi_dm_X6_byteAt_X6 : ∀ w ∈ u_ws RX6 TX6 20, w ∈ ow_dm_X6_byteAt := fun w h => List.mem_cons_of_mem _ (List.mem_append_right _ (List.mem_append_left _ h))
def dj_X6_byteAt_0 (p : Program) (l : Launch) (e : Env) (s : State) (m : MethodId) (args : Array Value) (below : List Frame) (meth : Method) (c : Code) (Q : State → Prop) (A : Nat → Prop) (dC : Nat → ClassId) (dI : Nat → Nat → Nat) (a : Nat → Nat) (ac : Nat → ClassId) (g : Int32 → Int32 → (St × (St)) → Option (Int32 × (St × (St)))) (r : Int32 × (St × (St))) : Prop := ∀ (v0 : Int32) (v1 : Int32) (s0 : St × (St)) (H : Heap) (locs : List Loc) (ls : Array Slot), g v0 v1 s0 = some r → va_P (dC, dI) vwCl (dw_X6 a ac s0) H → va_D A (dw_X6 a ac s0) → va_S A s.heap H locs → lv_has ls 4 [(0, .ref (a 0)), (1, .int v0), (2, .int v1)] → W p l e (headSpec ow_dm_X6_byteAt ({ frames := 0, cells := 0, slots := 0, locals := 0 })).room s m args below meth c H locs 0 0 Q (F0 m 0 ls [])
set_option maxHeartbeats 40000000 in
set_option maxRecDepth 100000 in
theorem db_X6_byteAt_0 {p : Program} {l : Launch} {e : Env} {s : State} {m : MethodId} {args : Array Value} {below : List Frame} {meth : Method} {c : Code} {Q : State → Prop} {A : Nat → Prop} {dC : Nat → ClassId} {dI : Nat → Nat → Nat} {a : Nat → Nat} {ac : Nat → ClassId} {n : Nat} {r : Int32 × (St × (St))} (C : nd_C p l s m args c A (dC, dI) cX6_byteAt 4 RX6 ow_dm_X6_byteAt (dk_X6 ac)) (K : nd_Ki p l e (headSpec ow_dm_X6_byteAt ({ frames := 0, cells := 0, slots := 0, locals := 0 })).room s m args below meth c Q A (dC, dI) cX6_byteAt .int (St × (St)) (dw_X6 a ac) r) : dj_X6_byteAt_0 p l e s m args below meth c Q A dC dI a ac (df_X6_byteAt_0 n) r := by
  obtain ⟨hlt, hx, hb, hml, hown, hts, hN, hA, hK⟩ := id C
  intro v0 v1 s0 H locs ls h hP hD hS hl
  unfold df_X6_byteAt_0 at h
  refine lv_aload_n hx hb dX6_byteAt_0 rfl (lv_at hl 0 rfl) ?_
  refine va_get (D := (dC, dI)) (ci := 7) (v := .ref (a 3)) (C := RX6) (T := TX6) (N := 20) hx hb hts hi_dm_X6_byteAt_X6 hown hK hP 0 rfl rfl 2 (by decide) (hts (.fieldLink RX6 17 "TimeMachine$Machine" "page" "[I") (List.mem_of_getElem? (i := 1) rfl)) (fun _ h9 => h9) rfl dX6_byteAt_1 ?_
  refine lv_iload_n hx hb dX6_byteAt_4 rfl (lv_at hl 1 rfl) ?_
  refine lv_bipush (v := 6) hx hb dX6_byteAt_5 (by decide) ?_
  refine lv_ishl hx hb dX6_byteAt_7 ?_
  refine lv_iload_n hx hb dX6_byteAt_8 rfl (lv_at hl 2 rfl) ?_
  refine lv_bipush (v := 10) hx hb dX6_byteAt_9 (by decide) ?_
  refine lv_iushr hx hb dX6_byteAt_11 rfl ?_
  refine lv_bipush (v := 63) hx hb dX6_byteAt_12 (by decide) ?_
  refine lv_iand hx hb dX6_byteAt_14 ?_
  refine lv_ior hx hb dX6_byteAt_15 ?_
  obtain ⟨i1, h⟩ := nd_ck_e h
  refine va_iald (i := (((v0 : Int32) <<< ((6 : Int32) &&& 31)) ||| ((((v1 : Int32).toUInt32 >>> ((10 : Int32).toUInt32 &&& Int32.toUInt32 31)).toInt32) &&& 63))) hx hb hK hP 3 2 rfl rfl i1 dX6_byteAt_16 ?_
  refine lv_iconst (v := 3) hx hb dX6_byteAt_17 (by decide) ?_
  refine lv_ishr hx hb dX6_byteAt_18 ?_
  refine lv_topi (fun z2 ez2 => ?_)
  have h := nd_at h ez2
  refine lv_istore_n (lv' := [(3, .int z2), (0, .ref (a 0)), (1, .int v0), (2, .int v1)]) hx hb dX6_byteAt_19 rfl hl (by decide) rfl (fun ls hl => ?_)
  refine lv_aload_n hx hb dX6_byteAt_20 rfl (lv_at hl 1 rfl) ?_
  refine va_get (D := (dC, dI)) (ci := 7) (v := .ref (a 1)) (C := RX6) (T := TX6) (N := 20) hx hb hts hi_dm_X6_byteAt_X6 hown hK hP 0 rfl rfl 0 (by decide) (hts (.fieldLink RX6 10 "TimeMachine$Machine" "word" "[I") (List.mem_of_getElem? (i := 2) rfl)) (fun _ h9 => h9) rfl dX6_byteAt_21 ?_
  refine lv_iload_n hx hb dX6_byteAt_24 rfl (lv_at hl 0 rfl) ?_
  refine lv_bipush (v := 8) hx hb dX6_byteAt_25 (by decide) ?_
  refine lv_ishl hx hb dX6_byteAt_27 ?_
  refine lv_iload_n hx hb dX6_byteAt_28 rfl (lv_at hl 3 rfl) ?_
  refine lv_iconst (v := 2) hx hb dX6_byteAt_29 (by decide) ?_
  refine lv_iushr hx hb dX6_byteAt_30 rfl ?_
  refine lv_sipush (v := 255) hx hb dX6_byteAt_31 (by decide) ?_
  refine lv_iand hx hb dX6_byteAt_34 ?_
  refine lv_ior hx hb dX6_byteAt_35 ?_
  obtain ⟨i3, h⟩ := nd_ck_e h
  refine va_iald (i := (((z2 : Int32) <<< ((8 : Int32) &&& 31)) ||| ((((v1 : Int32).toUInt32 >>> ((2 : Int32).toUInt32 &&& Int32.toUInt32 31)).toInt32) &&& 255))) hx hb hK hP 1 0 rfl rfl i3 dX6_byteAt_36 ?_
  refine lv_bipush (v := 8) hx hb dX6_byteAt_37 (by decide) ?_
  refine lv_iload_n hx hb dX6_byteAt_39 rfl (lv_at hl 3 rfl) ?_
  refine lv_iconst (v := 3) hx hb dX6_byteAt_40 (by decide) ?_
  refine lv_iand hx hb dX6_byteAt_41 ?_
  refine lv_imul hx hb dX6_byteAt_42 ?_
  refine lv_iushr hx hb dX6_byteAt_43 rfl ?_
  refine lv_sipush (v := 255) hx hb dX6_byteAt_44 (by decide) ?_
  refine lv_iand hx hb dX6_byteAt_47 ?_
  exact K _ _ _ _ _ _ dX6_byteAt_48 rfl (Option.some.inj h).symm hP hD hS
set_option maxHeartbeats 40000000 in
set_option maxRecDepth 100000 in
theorem dm_X6_byteAt (l : Launch) (hlt : l.stackTraces = false) (dC : Nat → ClassId) (dI : Nat → Nat → Nat) (a : Nat → Nat) (ac : Nat → ClassId) (n : Nat) (v0 : Int32) (v1 : Int32) (s0 : St × (St)) {r : Int32 × (St × (St))} (h : df_X6_byteAt n v0 v1 s0 = some r) (sz : Nat) : Met l yX6_byteAt ow_dm_X6_byteAt ({ frames := 0, cells := 0, slots := 0, locals := 0 }) (va_Pc [.ref (a 0), .int v0, .int v1] (fun U => U.heap.size = sz ∧ va_P (dC, dI) vwCl (dw_X6 a ac s0) U.heap ∧ va_K (dC, dI) vwCl (dk_X6 ac) U ∧ va_D (fun _ => True) (dw_X6 a ac s0) ∧ nv_E dI (va_A (dw_X6 a ac s0) sz) U)) (va_Qi (fun x _ => x = r.1) (fun (_ : Unit) t => va_P (dC, dI) vwCl (dw_X6 a ac r.2) t.heap ∧ va_K (dC, dI) vwCl (dk_X6 ac) t ∧ va_D (va_A (dw_X6 a ac s0) sz) (dw_X6 a ac r.2)) (va_A (dw_X6 a ac s0) sz)) 0 0 (va_A (dw_X6 a ac s0) sz) := by
  refine Met.ofW (cc := cX6_byteAt) (maxL := 4) (ret := (some .int)) (by decide) rfl ?_
  intro p e s m args below meth c s₁ B hml hv
  obtain ⟨rfl, hsz, hP, hK, hD0, hN⟩ := hv
  have hx := B.exec
  have hb := B.bytes
  have hr := B.returns
  have hts := atoms_spec (ws := ow_dm_X6_byteAt) B.pre
  have hown : s.vm.findClass RX6 = some m.cls := findClass_of_methodNamed B.named
  have hlocks := B.notSynchronized
  subst hsz
  have hD := hD0.self (sz := s.heap.size)
  generalize hAe : va_A (dw_X6 a ac s0) s.heap.size = A at hD hN ⊢
  have hA : ∀ q : Nat, s.heap.size ≤ q → A q := fun q h => by rw [← hAe]; exact Or.inr h
  have hl := lv_entry ([.ref (a 0), .int v0, .int v1]) (n := 4) (Nat.le_of_ble_eq_true rfl)
  rw [lg_entry_eq]
  generalize (lg_sl ([.ref (a 0), .int v0, .int v1]) ++ List.replicate (4 - (lg_sl ([.ref (a 0), .int v0, .int v1])).length) Slot.unset).toArray = ls at hl ⊢
  have hl : lv_has ls 4 [(0, .ref (a 0)), (1, .int v0), (2, .int v1)] := hl
  exact db_X6_byteAt_0 (dC := dC) (dI := dI) (a := a) (ac := ac) (n := n) (r := r) ⟨hlt, hx, hb, hml, hown, hts, hN, hA, hK⟩ (fun pc v τ H locs ls d z er hP hD hS => by subst er; exact W.zret (v := v) hx hb hr z (fun t ht hW => ⟨⟨v, (), rfl, rfl, by rw [ht]; exact hP, va_K.moved hW.alike hK, hD⟩, hS.F ht⟩) hS.2.2 d) v0 v1 s0 _ _ _ h hP hD va_S.rf (lv_sub hl [0, 1, 2] rfl)
def ow_dm_X4_set : List Cond := Cond.code yX4_set cX4_set 4 none :: ([Cond.fieldLink RX4 19 "TimeMachine$Hart" "reg" "[I", Cond.fieldLink RX4 24 "TimeMachine$Hart" "base" "I"] ++ (u_ws RX4 TX4 6 ++ []))
theorem gd_dm_X4_set : ∀ w ∈ ow_dm_X4_set, (w.onTables && w.keeps) = true ∨ ∃ ty, w = Cond.arrayClass ty := List.forall_mem_cons.mpr ⟨good_of_word rfl, List.forall_mem_append.mpr ⟨fun w h => good_of_word (List.all_eq_true.mp (by decide +kernel) w h), List.forall_mem_append.mpr ⟨gu_X4, fun _ h => nomatch h⟩⟩⟩
theorem hi_dm_X4_set_X4 : ∀ w ∈ u_ws RX4 TX4 6, w ∈ ow_dm_X4_set := fun w h => List.mem_cons_of_mem _ (List.mem_append_right _ (List.mem_append_left _ h))
def dj_X4_set_24 (p : Program) (l : Launch) (e : Env) (s : State) (m : MethodId) (args : Array Value) (below : List Frame) (meth : Method) (c : Code) (Q : State → Prop) (A : Nat → Prop) (dC : Nat → ClassId) (dI : Nat → Nat → Nat) (a : Nat → Nat) (ac : Nat → ClassId) (g : (St × (St × (St))) → Option (St × (St × (St)))) (r : St × (St × (St))) : Prop := ∀ (s0 : St × (St × (St))) (H : Heap) (locs : List Loc) (ls : Array Slot), g s0 = some r → va_P (dC, dI) vwCl (dw_X4 a ac s0) H → va_D A (dw_X4 a ac s0) → va_S A s.heap H locs → lv_has ls 4 [] → W p l e (headSpec ow_dm_X4_set ({ frames := 0, cells := 0, slots := 0, locals := 0 })).room s m args below meth c H locs 0 0 Q (F0 m 24 ls [])
def dj_X4_set_0 (p : Program) (l : Launch) (e : Env) (s : State) (m : MethodId) (args : Array Value) (below : List Frame) (meth : Method) (c : Code) (Q : State → Prop) (A : Nat → Prop) (dC : Nat → ClassId) (dI : Nat → Nat → Nat) (a : Nat → Nat) (ac : Nat → ClassId) (g : Int32 → Int32 → (St × (St × (St))) → Option (St × (St × (St)))) (r : St × (St × (St))) : Prop := ∀ (v0 : Int32) (v1 : Int32) (s0 : St × (St × (St))) (H : Heap) (locs : List Loc) (ls : Array Slot), g v0 v1 s0 = some r → va_P (dC, dI) vwCl (dw_X4 a ac s0) H → va_D A (dw_X4 a ac s0) → va_S A s.heap H locs → lv_has ls 4 [(0, .ref (a 0)), (1, .int v0), (2, .int v1)] → W p l e (headSpec ow_dm_X4_set ({ frames := 0, cells := 0, slots := 0, locals := 0 })).room s m args below meth c H locs 0 0 Q (F0 m 0 ls [])
set_option maxHeartbeats 40000000 in
set_option maxRecDepth 100000 in
theorem db_X4_set_24 {p : Program} {l : Launch} {e : Env} {s : State} {m : MethodId} {args : Array Value} {below : List Frame} {meth : Method} {c : Code} {Q : State → Prop} {A : Nat → Prop} {dC : Nat → ClassId} {dI : Nat → Nat → Nat} {a : Nat → Nat} {ac : Nat → ClassId} {n : Nat} {r : St × (St × (St))} (C : nd_C p l s m args c A (dC, dI) cX4_set 4 RX4 ow_dm_X4_set (dk_X4 ac)) (K : nd_Kv p l e (headSpec ow_dm_X4_set ({ frames := 0, cells := 0, slots := 0, locals := 0 })).room s m args below meth c Q A (dC, dI) cX4_set (St × (St × (St))) (dw_X4 a ac) r) : dj_X4_set_24 p l e s m args below meth c Q A dC dI a ac (df_X4_set_24 n) r := by
  obtain ⟨hlt, hx, hb, hml, hown, hts, hN, hA, hK⟩ := id C
  intro s0 H locs ls h hP hD hS hl
  unfold df_X4_set_24 at h
  exact K _ _ _ _ _ dX4_set_24 (Option.some.inj h).symm hP hD hS
set_option maxHeartbeats 40000000 in
set_option maxRecDepth 100000 in
theorem db_X4_set_0 {p : Program} {l : Launch} {e : Env} {s : State} {m : MethodId} {args : Array Value} {below : List Frame} {meth : Method} {c : Code} {Q : State → Prop} {A : Nat → Prop} {dC : Nat → ClassId} {dI : Nat → Nat → Nat} {a : Nat → Nat} {ac : Nat → ClassId} {n : Nat} {r : St × (St × (St))} (C : nd_C p l s m args c A (dC, dI) cX4_set 4 RX4 ow_dm_X4_set (dk_X4 ac)) (K : nd_Kv p l e (headSpec ow_dm_X4_set ({ frames := 0, cells := 0, slots := 0, locals := 0 })).room s m args below meth c Q A (dC, dI) cX4_set (St × (St × (St))) (dw_X4 a ac) r) : dj_X4_set_0 p l e s m args below meth c Q A dC dI a ac (df_X4_set_0 n) r := by
  obtain ⟨hlt, hx, hb, hml, hown, hts, hN, hA, hK⟩ := id C
  intro v0 v1 s0 H locs ls h hP hD hS hl
  unfold df_X4_set_0 at h
  refine lv_iload_n hx hb dX4_set_0 rfl (lv_at hl 1 rfl) ?_
  refine lv_bipush (v := 7) hx hb dX4_set_1 (by decide) ?_
  refine lv_ishr hx hb dX4_set_3 ?_
  refine lv_bipush (v := 31) hx hb dX4_set_4 (by decide) ?_
  refine lv_iand hx hb dX4_set_6 ?_
  refine lv_topi (fun z1 ez1 => ?_)
  have h := nd_at h ez1
  refine lv_istore_n (lv' := [(3, .int z1), (0, .ref (a 0)), (1, .int v0), (2, .int v1)]) hx hb dX4_set_7 rfl hl (by decide) rfl (fun ls hl => ?_)
  refine lv_iload_n hx hb dX4_set_8 rfl (lv_at hl 0 rfl) ?_
  refine lv_if_eq (tgt := 24) hx hb dX4_set_9 (by decide) (fun c2 => ?_) (fun c2 => ?_)
  · have h := nd_pos h c2
    exact (db_X4_set_24 C K)  s0 _ _ _ h hP hD hS (lv_sub hl [] rfl)
  · have h := nd_neg h c2
    refine lv_aload_n hx hb dX4_set_12 rfl (lv_at hl 1 rfl) ?_
    refine va_get (D := (dC, dI)) (ci := 5) (v := .ref (a 5)) (C := RX4) (T := TX4) (N := 6) hx hb hts hi_dm_X4_set_X4 hown hK hP 0 rfl rfl 1 (by decide) (hts (.fieldLink RX4 19 "TimeMachine$Hart" "reg" "[I") (List.mem_of_getElem? (i := 1) rfl)) (fun _ h9 => h9) rfl dX4_set_13 ?_
    refine lv_aload_n hx hb dX4_set_16 rfl (lv_at hl 1 rfl) ?_
    refine va_get (D := (dC, dI)) (ci := 5) (v := .int (sI s0.1 1)) (C := RX4) (T := TX4) (N := 6) hx hb hts hi_dm_X4_set_X4 hown hK hP 0 rfl rfl 3 (by decide) (hts (.fieldLink RX4 24 "TimeMachine$Hart" "base" "I") (List.mem_of_getElem? (i := 2) rfl)) (fun _ h9 => h9) rfl dX4_set_17 ?_
    refine lv_iload_n hx hb dX4_set_20 rfl (lv_at hl 0 rfl) ?_
    refine lv_iadd hx hb dX4_set_21 ?_
    refine lv_iload_n hx hb dX4_set_22 rfl (lv_at hl 3 rfl) ?_
    obtain ⟨i3, h⟩ := nd_ck_e h
    refine va_iast (i := ((sI s0.1 1) + z1)) (x := v1) hx hb hK hP hD hS 5 3 rfl rfl i3 dX4_set_23 (fun H locs hP hD hS => ?_)
    obtain ⟨s4, es4, h⟩ := nd_let_e h
    have hP : va_P (dC, dI) vwCl (dw_X4 a ac s4) H := by rw [es4]; exact hP
    have hD : va_D A (dw_X4 a ac s4) := by rw [es4]; exact hD
    exact (db_X4_set_24 C K)  s4 _ _ _ h hP hD hS (lv_sub hl [] rfl)
set_option maxHeartbeats 40000000 in
set_option maxRecDepth 100000 in
theorem dm_X4_set (l : Launch) (hlt : l.stackTraces = false) (dC : Nat → ClassId) (dI : Nat → Nat → Nat) (a : Nat → Nat) (ac : Nat → ClassId) (n : Nat) (v0 : Int32) (v1 : Int32) (s0 : St × (St × (St))) {r : St × (St × (St))} (h : df_X4_set n v0 v1 s0 = some r) (sz : Nat) : Met l yX4_set ow_dm_X4_set ({ frames := 0, cells := 0, slots := 0, locals := 0 }) (va_Pc [.ref (a 0), .int v0, .int v1] (fun U => U.heap.size = sz ∧ va_P (dC, dI) vwCl (dw_X4 a ac s0) U.heap ∧ va_K (dC, dI) vwCl (dk_X4 ac) U ∧ va_D (fun _ => True) (dw_X4 a ac s0) ∧ nv_E dI (va_A (dw_X4 a ac s0) sz) U)) (va_Qv (fun _ => True) (fun (_ : Unit) t => va_P (dC, dI) vwCl (dw_X4 a ac r) t.heap ∧ va_K (dC, dI) vwCl (dk_X4 ac) t ∧ va_D (va_A (dw_X4 a ac s0) sz) (dw_X4 a ac r)) (va_A (dw_X4 a ac s0) sz)) 0 0 (va_A (dw_X4 a ac s0) sz) := by
  refine Met.ofW (cc := cX4_set) (maxL := 4) (ret := none) (by decide) rfl ?_
  intro p e s m args below meth c s₁ B hml hv
  obtain ⟨rfl, hsz, hP, hK, hD0, hN⟩ := hv
  have hx := B.exec
  have hb := B.bytes
  have hr := B.returns
  have hts := atoms_spec (ws := ow_dm_X4_set) B.pre
  have hown : s.vm.findClass RX4 = some m.cls := findClass_of_methodNamed B.named
  have hlocks := B.notSynchronized
  subst hsz
  have hD := hD0.self (sz := s.heap.size)
  generalize hAe : va_A (dw_X4 a ac s0) s.heap.size = A at hD hN ⊢
  have hA : ∀ q : Nat, s.heap.size ≤ q → A q := fun q h => by rw [← hAe]; exact Or.inr h
  have hl := lv_entry ([.ref (a 0), .int v0, .int v1]) (n := 4) (Nat.le_of_ble_eq_true rfl)
  rw [lg_entry_eq]
  generalize (lg_sl ([.ref (a 0), .int v0, .int v1]) ++ List.replicate (4 - (lg_sl ([.ref (a 0), .int v0, .int v1])).length) Slot.unset).toArray = ls at hl ⊢
  have hl : lv_has ls 4 [(0, .ref (a 0)), (1, .int v0), (2, .int v1)] := hl
  exact db_X4_set_0 (dC := dC) (dI := dI) (a := a) (ac := ac) (n := n) (r := r) ⟨hlt, hx, hb, hml, hown, hts, hN, hA, hK⟩ (fun pc τ H locs ls d er hP hD hS => by subst er; exact W.vret hx hb hr (fun t ht hW => ⟨⟨(), rfl, trivial, by rw [ht]; exact hP, va_K.moved hW.alike hK, hD⟩, hS.F ht⟩) hS.2.2 d) v0 v1 s0 _ _ _ h hP hD va_S.rf (lv_sub hl [0, 1, 2] rfl)
def ow_dm_X6_wordAt : List Cond := Cond.code yX6_wordAt cX6_wordAt 4 (some .int) :: ([Cond.fieldLink RX6 17 "TimeMachine$Machine" "page" "[I", Cond.fieldLink RX6 10 "TimeMachine$Machine" "word" "[I"] ++ (u_ws RX6 TX6 20 ++ []))
theorem gd_dm_X6_wordAt : ∀ w ∈ ow_dm_X6_wordAt, (w.onTables && w.keeps) = true ∨ ∃ ty, w = Cond.arrayClass ty := List.forall_mem_cons.mpr ⟨good_of_word rfl, List.forall_mem_append.mpr ⟨fun w h => good_of_word (List.all_eq_true.mp (by decide +kernel) w h), List.forall_mem_append.mpr ⟨gu_X6, fun _ h => nomatch h⟩⟩⟩
theorem hi_dm_X6_wordAt_X6 : ∀ w ∈ u_ws RX6 TX6 20, w ∈ ow_dm_X6_wordAt := fun w h => List.mem_cons_of_mem _ (List.mem_append_right _ (List.mem_append_left _ h))
def dj_X6_wordAt_0 (p : Program) (l : Launch) (e : Env) (s : State) (m : MethodId) (args : Array Value) (below : List Frame) (meth : Method) (c : Code) (Q : State → Prop) (A : Nat → Prop) (dC : Nat → ClassId) (dI : Nat → Nat → Nat) (a : Nat → Nat) (ac : Nat → ClassId) (g : Int32 → Int32 → (St × (St)) → Option (Int32 × (St × (St)))) (r : Int32 × (St × (St))) : Prop := ∀ (v0 : Int32) (v1 : Int32) (s0 : St × (St)) (H : Heap) (locs : List Loc) (ls : Array Slot), g v0 v1 s0 = some r → va_P (dC, dI) vwCl (dw_X6 a ac s0) H → va_D A (dw_X6 a ac s0) → va_S A s.heap H locs → lv_has ls 4 [(0, .ref (a 0)), (1, .int v0), (2, .int v1)] → W p l e (headSpec ow_dm_X6_wordAt ({ frames := 0, cells := 0, slots := 0, locals := 0 })).room s m args below meth c H locs 0 0 Q (F0 m 0 ls [])
set_option maxHeartbeats 40000000 in
set_option maxRecDepth 100000 in
theorem db_X6_wordAt_0 {p : Program} {l : Launch} {e : Env} {s : State} {m : MethodId} {args : Array Value} {below : List Frame} {meth : Method} {c : Code} {Q : State → Prop} {A : Nat → Prop} {dC : Nat → ClassId} {dI : Nat → Nat → Nat} {a : Nat → Nat} {ac : Nat → ClassId} {n : Nat} {r : Int32 × (St × (St))} (C : nd_C p l s m args c A (dC, dI) cX6_wordAt 4 RX6 ow_dm_X6_wordAt (dk_X6 ac)) (K : nd_Ki p l e (headSpec ow_dm_X6_wordAt ({ frames := 0, cells := 0, slots := 0, locals := 0 })).room s m args below meth c Q A (dC, dI) cX6_wordAt .int (St × (St)) (dw_X6 a ac) r) : dj_X6_wordAt_0 p l e s m args below meth c Q A dC dI a ac (df_X6_wordAt_0 n) r := by
  obtain ⟨hlt, hx, hb, hml, hown, hts, hN, hA, hK⟩ := id C
  intro v0 v1 s0 H locs ls h hP hD hS hl
  unfold df_X6_wordAt_0 at h
  refine lv_aload_n hx hb dX6_wordAt_0 rfl (lv_at hl 0 rfl) ?_
  refine va_get (D := (dC, dI)) (ci := 7) (v := .ref (a 3)) (C := RX6) (T := TX6) (N := 20) hx hb hts hi_dm_X6_wordAt_X6 hown hK hP 0 rfl rfl 2 (by decide) (hts (.fieldLink RX6 17 "TimeMachine$Machine" "page" "[I") (List.mem_of_getElem? (i := 1) rfl)) (fun _ h9 => h9) rfl dX6_wordAt_1 ?_
  refine lv_iload_n hx hb dX6_wordAt_4 rfl (lv_at hl 1 rfl) ?_
  refine lv_bipush (v := 6) hx hb dX6_wordAt_5 (by decide) ?_
  refine lv_ishl hx hb dX6_wordAt_7 ?_
  refine lv_iload_n hx hb dX6_wordAt_8 rfl (lv_at hl 2 rfl) ?_
  refine lv_bipush (v := 10) hx hb dX6_wordAt_9 (by decide) ?_
  refine lv_iushr hx hb dX6_wordAt_11 rfl ?_
  refine lv_bipush (v := 63) hx hb dX6_wordAt_12 (by decide) ?_
  refine lv_iand hx hb dX6_wordAt_14 ?_
  refine lv_ior hx hb dX6_wordAt_15 ?_
  obtain ⟨i1, h⟩ := nd_ck_e h
  refine va_iald (i := (((v0 : Int32) <<< ((6 : Int32) &&& 31)) ||| ((((v1 : Int32).toUInt32 >>> ((10 : Int32).toUInt32 &&& Int32.toUInt32 31)).toInt32) &&& 63))) hx hb hK hP 3 2 rfl rfl i1 dX6_wordAt_16 ?_
  refine lv_iconst (v := 3) hx hb dX6_wordAt_17 (by decide) ?_
  refine lv_ishr hx hb dX6_wordAt_18 ?_
  refine lv_topi (fun z2 ez2 => ?_)
  have h := nd_at h ez2
  refine lv_istore_n (lv' := [(3, .int z2), (0, .ref (a 0)), (1, .int v0), (2, .int v1)]) hx hb dX6_wordAt_19 rfl hl (by decide) rfl (fun ls hl => ?_)
  refine lv_aload_n hx hb dX6_wordAt_20 rfl (lv_at hl 1 rfl) ?_
  refine va_get (D := (dC, dI)) (ci := 7) (v := .ref (a 1)) (C := RX6) (T := TX6) (N := 20) hx hb hts hi_dm_X6_wordAt_X6 hown hK hP 0 rfl rfl 0 (by decide) (hts (.fieldLink RX6 10 "TimeMachine$Machine" "word" "[I") (List.mem_of_getElem? (i := 2) rfl)) (fun _ h9 => h9) rfl dX6_wordAt_21 ?_
  refine lv_iload_n hx hb dX6_wordAt_24 rfl (lv_at hl 0 rfl) ?_
  refine lv_bipush (v := 8) hx hb dX6_wordAt_25 (by decide) ?_
  refine lv_ishl hx hb dX6_wordAt_27 ?_
  refine lv_iload_n hx hb dX6_wordAt_28 rfl (lv_at hl 3 rfl) ?_
  refine lv_iconst (v := 2) hx hb dX6_wordAt_29 (by decide) ?_
  refine lv_iushr hx hb dX6_wordAt_30 rfl ?_
  refine lv_sipush (v := 255) hx hb dX6_wordAt_31 (by decide) ?_
  refine lv_iand hx hb dX6_wordAt_34 ?_
  refine lv_ior hx hb dX6_wordAt_35 ?_
  obtain ⟨i3, h⟩ := nd_ck_e h
  refine va_iald (i := (((z2 : Int32) <<< ((8 : Int32) &&& 31)) ||| ((((v1 : Int32).toUInt32 >>> ((2 : Int32).toUInt32 &&& Int32.toUInt32 31)).toInt32) &&& 255))) hx hb hK hP 1 0 rfl rfl i3 dX6_wordAt_36 ?_
  exact K _ _ _ _ _ _ dX6_wordAt_37 rfl (Option.some.inj h).symm hP hD hS
set_option maxHeartbeats 40000000 in
set_option maxRecDepth 100000 in
theorem dm_X6_wordAt (l : Launch) (hlt : l.stackTraces = false) (dC : Nat → ClassId) (dI : Nat → Nat → Nat) (a : Nat → Nat) (ac : Nat → ClassId) (n : Nat) (v0 : Int32) (v1 : Int32) (s0 : St × (St)) {r : Int32 × (St × (St))} (h : df_X6_wordAt n v0 v1 s0 = some r) (sz : Nat) : Met l yX6_wordAt ow_dm_X6_wordAt ({ frames := 0, cells := 0, slots := 0, locals := 0 }) (va_Pc [.ref (a 0), .int v0, .int v1] (fun U => U.heap.size = sz ∧ va_P (dC, dI) vwCl (dw_X6 a ac s0) U.heap ∧ va_K (dC, dI) vwCl (dk_X6 ac) U ∧ va_D (fun _ => True) (dw_X6 a ac s0) ∧ nv_E dI (va_A (dw_X6 a ac s0) sz) U)) (va_Qi (fun x _ => x = r.1) (fun (_ : Unit) t => va_P (dC, dI) vwCl (dw_X6 a ac r.2) t.heap ∧ va_K (dC, dI) vwCl (dk_X6 ac) t ∧ va_D (va_A (dw_X6 a ac s0) sz) (dw_X6 a ac r.2)) (va_A (dw_X6 a ac s0) sz)) 0 0 (va_A (dw_X6 a ac s0) sz) := by
  refine Met.ofW (cc := cX6_wordAt) (maxL := 4) (ret := (some .int)) (by decide) rfl ?_
  intro p e s m args below meth c s₁ B hml hv
  obtain ⟨rfl, hsz, hP, hK, hD0, hN⟩ := hv
  have hx := B.exec
  have hb := B.bytes
  have hr := B.returns
  have hts := atoms_spec (ws := ow_dm_X6_wordAt) B.pre
  have hown : s.vm.findClass RX6 = some m.cls := findClass_of_methodNamed B.named
  have hlocks := B.notSynchronized
  subst hsz
  have hD := hD0.self (sz := s.heap.size)
  generalize hAe : va_A (dw_X6 a ac s0) s.heap.size = A at hD hN ⊢
  have hA : ∀ q : Nat, s.heap.size ≤ q → A q := fun q h => by rw [← hAe]; exact Or.inr h
  have hl := lv_entry ([.ref (a 0), .int v0, .int v1]) (n := 4) (Nat.le_of_ble_eq_true rfl)
  rw [lg_entry_eq]
  generalize (lg_sl ([.ref (a 0), .int v0, .int v1]) ++ List.replicate (4 - (lg_sl ([.ref (a 0), .int v0, .int v1])).length) Slot.unset).toArray = ls at hl ⊢
  have hl : lv_has ls 4 [(0, .ref (a 0)), (1, .int v0), (2, .int v1)] := hl
  exact db_X6_wordAt_0 (dC := dC) (dI := dI) (a := a) (ac := ac) (n := n) (r := r) ⟨hlt, hx, hb, hml, hown, hts, hN, hA, hK⟩ (fun pc v τ H locs ls d z er hP hD hS => by subst er; exact W.zret (v := v) hx hb hr z (fun t ht hW => ⟨⟨v, (), rfl, rfl, by rw [ht]; exact hP, va_K.moved hW.alike hK, hD⟩, hS.F ht⟩) hS.2.2 d) v0 v1 s0 _ _ _ h hP hD va_S.rf (lv_sub hl [0, 1, 2] rfl)
def ow_dm_X4_load : List Cond := Cond.code yX4_load cX4_load 4 (some .int) :: ([Cond.fieldLink RX4 7 "TimeMachine$Hart" "machine" "LTimeMachine$Machine;", Cond.fieldLink RX4 20 "TimeMachine$Hart" "process" "I", Cond.methodLink RX4 30 yX6_may, Cond.instanceMethod yX6_may, Cond.selects RX6 yX6_may yX6_may, Cond.initialized RX6, Cond.methodLink RX4 94 yX6_byteAt, Cond.instanceMethod yX6_byteAt, Cond.selects RX6 yX6_byteAt yX6_byteAt, Cond.methodLink RX4 52 yX4_set, Cond.instanceMethod yX4_set, Cond.selects RX4 yX4_set yX4_set, Cond.initialized RX4, Cond.methodLink RX4 34 yX6_halfAt, Cond.instanceMethod yX6_halfAt, Cond.selects RX6 yX6_halfAt yX6_halfAt, Cond.methodLink RX4 97 yX6_wordAt, Cond.instanceMethod yX6_wordAt, Cond.selects RX6 yX6_wordAt yX6_wordAt] ++ (u_ws RX4 TX4 6 ++ (ow_dm_X6_may ++ (ow_dm_X6_byteAt ++ (ow_dm_X4_set ++ (ow_dm_X6_halfAt ++ (ow_dm_X6_wordAt ++ [])))))))
theorem gd_dm_X4_load : ∀ w ∈ ow_dm_X4_load, (w.onTables && w.keeps) = true ∨ ∃ ty, w = Cond.arrayClass ty := List.forall_mem_cons.mpr ⟨good_of_word rfl, List.forall_mem_append.mpr ⟨fun w h => good_of_word (List.all_eq_true.mp (by decide +kernel) w h), List.forall_mem_append.mpr ⟨gu_X4, List.forall_mem_append.mpr ⟨gd_dm_X6_may, List.forall_mem_append.mpr ⟨gd_dm_X6_byteAt, List.forall_mem_append.mpr ⟨gd_dm_X4_set, List.forall_mem_append.mpr ⟨gd_dm_X6_halfAt, List.forall_mem_append.mpr ⟨gd_dm_X6_wordAt, fun _ h => nomatch h⟩⟩⟩⟩⟩⟩⟩⟩
theorem hi_dm_X4_load_X4 : ∀ w ∈ u_ws RX4 TX4 6, w ∈ ow_dm_X4_load := fun w h => List.mem_cons_of_mem _ (List.mem_append_right _ (List.mem_append_left _ h))
theorem gi_dm_X4_load_0 : GoodIn ow_dm_X4_load (wsV RX4 30 RX6 yX6_may ow_dm_X6_may) := goodIn_app (goodIn_of _ (by decide +kernel)) (fun w h => ⟨List.mem_cons_of_mem _ (List.mem_append_right _ (List.mem_append_right _ (List.mem_append_left _ h))), gd_dm_X6_may w h⟩)
theorem gi_dm_X4_load_1 : GoodIn ow_dm_X4_load (wsV RX4 94 RX6 yX6_byteAt ow_dm_X6_byteAt) := goodIn_app (goodIn_of _ (by decide +kernel)) (fun w h => ⟨List.mem_cons_of_mem _ (List.mem_append_right _ (List.mem_append_right _ (List.mem_append_right _ (List.mem_append_left _ h)))), gd_dm_X6_byteAt w h⟩)
theorem gi_dm_X4_load_2 : GoodIn ow_dm_X4_load (wsV RX4 52 RX4 yX4_set ow_dm_X4_set) := goodIn_app (goodIn_of _ (by decide +kernel)) (fun w h => ⟨List.mem_cons_of_mem _ (List.mem_append_right _ (List.mem_append_right _ (List.mem_append_right _ (List.mem_append_right _ (List.mem_append_left _ h))))), gd_dm_X4_set w h⟩)
theorem gi_dm_X4_load_3 : GoodIn ow_dm_X4_load (wsV RX4 34 RX6 yX6_halfAt ow_dm_X6_halfAt) := goodIn_app (goodIn_of _ (by decide +kernel)) (fun w h => ⟨List.mem_cons_of_mem _ (List.mem_append_right _ (List.mem_append_right _ (List.mem_append_right _ (List.mem_append_right _ (List.mem_append_right _ (List.mem_append_left _ h)))))), gd_dm_X6_halfAt w h⟩)
theorem gi_dm_X4_load_4 : GoodIn ow_dm_X4_load (wsV RX4 97 RX6 yX6_wordAt ow_dm_X6_wordAt) := goodIn_app (goodIn_of _ (by decide +kernel)) (fun w h => ⟨List.mem_cons_of_mem _ (List.mem_append_right _ (List.mem_append_right _ (List.mem_append_right _ (List.mem_append_right _ (List.mem_append_right _ (List.mem_append_right _ (List.mem_append_left _ h))))))), gd_dm_X6_wordAt w h⟩)
def dj_X4_load_10 (p : Program) (l : Launch) (e : Env) (s : State) (m : MethodId) (args : Array Value) (below : List Frame) (meth : Method) (c : Code) (Q : State → Prop) (A : Nat → Prop) (dC : Nat → ClassId) (dI : Nat → Nat → Nat) (a : Nat → Nat) (ac : Nat → ClassId) (g : (St × (St × (St))) → Option (Int32 × (St × (St × (St))))) (r : Int32 × (St × (St × (St)))) : Prop := ∀ (s0 : St × (St × (St))) (H : Heap) (locs : List Loc) (ls : Array Slot), g s0 = some r → va_P (dC, dI) vwCl (dw_X4 a ac s0) H → va_D A (dw_X4 a ac s0) → va_S A s.heap H locs → lv_has ls 4 [] → W p l e (headSpec ow_dm_X4_load ({ frames := 1, cells := 0, slots := 0, locals := 23 })).room s m args below meth c H locs 0 0 Q (F0 m 10 ls [])
def dj_X4_load_179 (p : Program) (l : Launch) (e : Env) (s : State) (m : MethodId) (args : Array Value) (below : List Frame) (meth : Method) (c : Code) (Q : State → Prop) (A : Nat → Prop) (dC : Nat → ClassId) (dI : Nat → Nat → Nat) (a : Nat → Nat) (ac : Nat → ClassId) (g : (St × (St × (St))) → Option (Int32 × (St × (St × (St))))) (r : Int32 × (St × (St × (St)))) : Prop := ∀ (s0 : St × (St × (St))) (H : Heap) (locs : List Loc) (ls : Array Slot), g s0 = some r → va_P (dC, dI) vwCl (dw_X4 a ac s0) H → va_D A (dw_X4 a ac s0) → va_S A s.heap H locs → lv_has ls 4 [] → W p l e (headSpec ow_dm_X4_load ({ frames := 1, cells := 0, slots := 0, locals := 23 })).room s m args below meth c H locs 0 0 Q (F0 m 179 ls [])
def dj_X4_load_162 (p : Program) (l : Launch) (e : Env) (s : State) (m : MethodId) (args : Array Value) (below : List Frame) (meth : Method) (c : Code) (Q : State → Prop) (A : Nat → Prop) (dC : Nat → ClassId) (dI : Nat → Nat → Nat) (a : Nat → Nat) (ac : Nat → ClassId) (g : Int32 → Int32 → (St × (St × (St))) → Option (Int32 × (St × (St × (St))))) (r : Int32 × (St × (St × (St)))) : Prop := ∀ (x1 : Int32) (x3 : Int32) (s0 : St × (St × (St))) (H : Heap) (locs : List Loc) (ls : Array Slot), g x1 x3 s0 = some r → va_P (dC, dI) vwCl (dw_X4 a ac s0) H → va_D A (dw_X4 a ac s0) → va_S A s.heap H locs → lv_has ls 4 [(0, .ref (a 0)), (1, .int x1), (3, .int x3)] → W p l e (headSpec ow_dm_X4_load ({ frames := 1, cells := 0, slots := 0, locals := 23 })).room s m args below meth c H locs 0 0 Q (F0 m 162 ls [])
def dj_X4_load_0 (p : Program) (l : Launch) (e : Env) (s : State) (m : MethodId) (args : Array Value) (below : List Frame) (meth : Method) (c : Code) (Q : State → Prop) (A : Nat → Prop) (dC : Nat → ClassId) (dI : Nat → Nat → Nat) (a : Nat → Nat) (ac : Nat → ClassId) (g : Int32 → Int32 → Int32 → (St × (St × (St))) → Option (Int32 × (St × (St × (St))))) (r : Int32 × (St × (St × (St)))) : Prop := ∀ (v0 : Int32) (v1 : Int32) (v2 : Int32) (s0 : St × (St × (St))) (H : Heap) (locs : List Loc) (ls : Array Slot), g v0 v1 v2 s0 = some r → va_P (dC, dI) vwCl (dw_X4 a ac s0) H → va_D A (dw_X4 a ac s0) → va_S A s.heap H locs → lv_has ls 4 [(0, .ref (a 0)), (1, .int v0), (2, .int v1), (3, .int v2)] → W p l e (headSpec ow_dm_X4_load ({ frames := 1, cells := 0, slots := 0, locals := 23 })).room s m args below meth c H locs 0 0 Q (F0 m 0 ls [])
set_option maxHeartbeats 40000000 in
set_option maxRecDepth 100000 in
theorem db_X4_load_10 {p : Program} {l : Launch} {e : Env} {s : State} {m : MethodId} {args : Array Value} {below : List Frame} {meth : Method} {c : Code} {Q : State → Prop} {A : Nat → Prop} {dC : Nat → ClassId} {dI : Nat → Nat → Nat} {a : Nat → Nat} {ac : Nat → ClassId} {n : Nat} {r : Int32 × (St × (St × (St)))} (C : nd_C p l s m args c A (dC, dI) cX4_load 4 RX4 ow_dm_X4_load (dk_X4 ac)) (K : nd_Ki p l e (headSpec ow_dm_X4_load ({ frames := 1, cells := 0, slots := 0, locals := 23 })).room s m args below meth c Q A (dC, dI) cX4_load .int (St × (St × (St))) (dw_X4 a ac) r) : dj_X4_load_10 p l e s m args below meth c Q A dC dI a ac (df_X4_load_10 n) r := by
  obtain ⟨hlt, hx, hb, hml, hown, hts, hN, hA, hK⟩ := id C
  intro s0 H locs ls h hP hD hS hl
  unfold df_X4_load_10 at h
  refine lv_iconst (v := 4) hx hb dX4_load_10 (by decide) ?_
  exact K _ _ _ _ _ _ dX4_load_11 rfl (Option.some.inj h).symm hP hD hS
set_option maxHeartbeats 40000000 in
set_option maxRecDepth 100000 in
theorem db_X4_load_179 {p : Program} {l : Launch} {e : Env} {s : State} {m : MethodId} {args : Array Value} {below : List Frame} {meth : Method} {c : Code} {Q : State → Prop} {A : Nat → Prop} {dC : Nat → ClassId} {dI : Nat → Nat → Nat} {a : Nat → Nat} {ac : Nat → ClassId} {n : Nat} {r : Int32 × (St × (St × (St)))} (C : nd_C p l s m args c A (dC, dI) cX4_load 4 RX4 ow_dm_X4_load (dk_X4 ac)) (K : nd_Ki p l e (headSpec ow_dm_X4_load ({ frames := 1, cells := 0, slots := 0, locals := 23 })).room s m args below meth c Q A (dC, dI) cX4_load .int (St × (St × (St))) (dw_X4 a ac) r) : dj_X4_load_179 p l e s m args below meth c Q A dC dI a ac (df_X4_load_179 n) r := by
  obtain ⟨hlt, hx, hb, hml, hown, hts, hN, hA, hK⟩ := id C
  intro s0 H locs ls h hP hD hS hl
  unfold df_X4_load_179 at h
  refine lv_iconst (v := 0) hx hb dX4_load_179 (by decide) ?_
  exact K _ _ _ _ _ _ dX4_load_180 rfl (Option.some.inj h).symm hP hD hS
set_option maxHeartbeats 40000000 in
set_option maxRecDepth 100000 in
theorem db_X4_load_162 {p : Program} {l : Launch} {e : Env} {s : State} {m : MethodId} {args : Array Value} {below : List Frame} {meth : Method} {c : Code} {Q : State → Prop} {A : Nat → Prop} {dC : Nat → ClassId} {dI : Nat → Nat → Nat} {a : Nat → Nat} {ac : Nat → ClassId} {n : Nat} {r : Int32 × (St × (St × (St)))} (C : nd_C p l s m args c A (dC, dI) cX4_load 4 RX4 ow_dm_X4_load (dk_X4 ac)) (K : nd_Ki p l e (headSpec ow_dm_X4_load ({ frames := 1, cells := 0, slots := 0, locals := 23 })).room s m args below meth c Q A (dC, dI) cX4_load .int (St × (St × (St))) (dw_X4 a ac) r) : dj_X4_load_162 p l e s m args below meth c Q A dC dI a ac (df_X4_load_162 n) r := by
  obtain ⟨hlt, hx, hb, hml, hown, hts, hN, hA, hK⟩ := id C
  intro x1 x3 s0 H locs ls h hP hD hS hl
  unfold df_X4_load_162 at h
  refine lv_aload_n hx hb dX4_load_162 rfl (lv_at hl 0 rfl) ?_
  refine lv_iload_n hx hb dX4_load_163 rfl (lv_at hl 1 rfl) ?_
  refine lv_aload_n hx hb dX4_load_164 rfl (lv_at hl 0 rfl) ?_
  refine va_get (D := (dC, dI)) (ci := 5) (v := .ref (a 1)) (C := RX4) (T := TX4) (N := 6) hx hb hts hi_dm_X4_load_X4 hown hK hP 0 rfl rfl 0 (by decide) (hts (.fieldLink RX4 7 "TimeMachine$Hart" "machine" "LTimeMachine$Machine;") (List.mem_of_getElem? (i := 1) rfl)) (fun _ h9 => h9) rfl dX4_load_165 ?_
  refine lv_aload_n hx hb dX4_load_168 rfl (lv_at hl 0 rfl) ?_
  refine va_get (D := (dC, dI)) (ci := 5) (v := .int (sI s0.1 0)) (C := RX4) (T := TX4) (N := 6) hx hb hts hi_dm_X4_load_X4 hown hK hP 0 rfl rfl 2 (by decide) (hts (.fieldLink RX4 20 "TimeMachine$Hart" "process" "I") (List.mem_of_getElem? (i := 2) rfl)) (fun _ h9 => h9) rfl dX4_load_169 ?_
  refine lv_iload_n hx hb dX4_load_172 rfl (lv_at hl 2 rfl) ?_
  obtain ⟨q34, s35, hq, h⟩ := nd_b2_e h
  have hPc := dp_X4_1 hP
  have hDc := dd_X4_1 hD
  have hKc := dy_X4_1 hK
  have hFc := nd_rs hDc hS hA
  have hzA : ∀ q : Nat, H.size ≤ q → A q := fun q h => hA q (Nat.le_trans hS.1 h)
  refine nd_cVi (As := [.int (sI s0.1 0), .int x3]) (rest := [.int x1, .ref (a 0)]) (q := q34) (w' := dw_X6 (fun k => a (k + 1)) (fun k => ac (k + 1)) s35) ⟨hx, hb, hml, hown, hts⟩ (fun sz => dm_X6_halfAt l hlt dC dI (fun k => a (k + 1)) (fun k => ac (k + 1)) n ((sI s0.1 0)) (x3) s0.2 hq sz) (cwV 2 hts gi_dm_X4_load_3 rfl rfl rfl (by decide +kernel) ⟨Nat.le_of_ble_eq_true rfl, Nat.le_of_ble_eq_true rfl⟩) hPc hDc hKc hS hA hN (va_recv hKc hPc (ci := 7) (q0 := 0) rfl rfl) rfl hl.1 rfl (Nat.le_of_ble_eq_true rfl) dX4_load_173 (fun H locs hP1 hD1 hk1 hS => ?_)
  obtain ⟨hP, hD⟩ := dn_X4_1 hP hD hzA hk1 hP1 hD1
  obtain ⟨s37, es37, h⟩ := nd_let_e h
  have hP : va_P (dC, dI) vwCl (dw_X4 a ac s37) H := by rw [es37]; exact hP
  have hD : va_D A (dw_X4 a ac s37) := by rw [es37]; exact hD
  obtain ⟨s39, hq, h⟩ := nd_b1_e h
  have hPc := hP
  have hDc := hD
  have hKc := hK
  have hFc := nd_rs hD hS hA
  refine nd_cVv (As := [.int x1, .int q34]) (rest := []) (w' := dw_X4 a ac s39) ⟨hx, hb, hml, hown, hts⟩ (fun sz => dm_X4_set l hlt dC dI a ac n (x1) (q34) s37 hq sz) (cwV 2 hts gi_dm_X4_load_2 rfl rfl rfl (by decide +kernel) ⟨Nat.le_of_ble_eq_true rfl, Nat.le_of_ble_eq_true rfl⟩) hPc hDc hKc hS hA hN (va_recv hKc hPc (ci := 5) (q0 := 0) rfl rfl) rfl hl.1 rfl (Nat.le_of_ble_eq_true rfl) dX4_load_176 (fun H locs hP1 hD1 hk1 hS => ?_)
  have hP := hP1
  have hD := hD1.weaken (fun k q _ h => hFc q.1 h)
  exact (db_X4_load_179 C K)  s39 _ _ _ h hP hD hS (lv_sub hl [] rfl)
set_option maxHeartbeats 40000000 in
set_option maxRecDepth 100000 in
theorem db_X4_load_0 {p : Program} {l : Launch} {e : Env} {s : State} {m : MethodId} {args : Array Value} {below : List Frame} {meth : Method} {c : Code} {Q : State → Prop} {A : Nat → Prop} {dC : Nat → ClassId} {dI : Nat → Nat → Nat} {a : Nat → Nat} {ac : Nat → ClassId} {n : Nat} {r : Int32 × (St × (St × (St)))} (C : nd_C p l s m args c A (dC, dI) cX4_load 4 RX4 ow_dm_X4_load (dk_X4 ac)) (K : nd_Ki p l e (headSpec ow_dm_X4_load ({ frames := 1, cells := 0, slots := 0, locals := 23 })).room s m args below meth c Q A (dC, dI) cX4_load .int (St × (St × (St))) (dw_X4 a ac) r) : dj_X4_load_0 p l e s m args below meth c Q A dC dI a ac (df_X4_load_0 n) r := by
  obtain ⟨hlt, hx, hb, hml, hown, hts, hN, hA, hK⟩ := id C
  intro v0 v1 v2 s0 H locs ls h hP hD hS hl
  unfold df_X4_load_0 at h
  refine lv_iload_n hx hb dX4_load_0 rfl (lv_at hl 2 rfl) ?_
  refine lv_iconst (v := 3) hx hb dX4_load_1 (by decide) ?_
  refine lv_icmp_eq (tgt := 10) hx hb dX4_load_2 (by decide) (fun c1 => ?_) (fun c1 => ?_)
  · have h := nd_pos h c1
    exact (db_X4_load_10 C K)  s0 _ _ _ h hP hD hS (lv_sub hl [] rfl)
  · have h := nd_neg h c1
    refine lv_iload_n hx hb dX4_load_5 rfl (lv_at hl 2 rfl) ?_
    refine lv_iconst (v := 5) hx hb dX4_load_6 (by decide) ?_
    refine lv_icmp_le (tgt := 12) hx hb dX4_load_7 (by decide) (fun c2 => ?_) (fun c2 => ?_)
    · have h := nd_pos h c2
      refine lv_iload_n hx hb dX4_load_12 rfl (lv_at hl 3 rfl) ?_
      refine lv_iconst (v := 1) hx hb dX4_load_13 (by decide) ?_
      refine lv_iload_n hx hb dX4_load_14 rfl (lv_at hl 2 rfl) ?_
      refine lv_iconst (v := 3) hx hb dX4_load_15 (by decide) ?_
      refine lv_iand hx hb dX4_load_16 ?_
      refine lv_ishl hx hb dX4_load_17 ?_
      refine lv_iconst (v := 1) hx hb dX4_load_18 (by decide) ?_
      refine lv_isub hx hb dX4_load_19 ?_
      refine lv_iand hx hb dX4_load_20 ?_
      refine lv_if_eq (tgt := 27) hx hb dX4_load_21 (by decide) (fun c3 => ?_) (fun c3 => ?_)
      · have h := nd_pos h c3
        refine lv_aload_n hx hb dX4_load_27 rfl (lv_at hl 0 rfl) ?_
        refine va_get (D := (dC, dI)) (ci := 5) (v := .ref (a 1)) (C := RX4) (T := TX4) (N := 6) hx hb hts hi_dm_X4_load_X4 hown hK hP 0 rfl rfl 0 (by decide) (hts (.fieldLink RX4 7 "TimeMachine$Hart" "machine" "LTimeMachine$Machine;") (List.mem_of_getElem? (i := 1) rfl)) (fun _ h9 => h9) rfl dX4_load_28 ?_
        refine lv_aload_n hx hb dX4_load_31 rfl (lv_at hl 0 rfl) ?_
        refine va_get (D := (dC, dI)) (ci := 5) (v := .int (sI s0.1 0)) (C := RX4) (T := TX4) (N := 6) hx hb hts hi_dm_X4_load_X4 hown hK hP 0 rfl rfl 2 (by decide) (hts (.fieldLink RX4 20 "TimeMachine$Hart" "process" "I") (List.mem_of_getElem? (i := 2) rfl)) (fun _ h9 => h9) rfl dX4_load_32 ?_
        refine lv_iload_n hx hb dX4_load_35 rfl (lv_at hl 3 rfl) ?_
        refine lv_iconst (v := 1) hx hb dX4_load_36 (by decide) ?_
        obtain ⟨q4, s5, hq, h⟩ := nd_b2_e h
        have hPc := dp_X4_1 hP
        have hDc := dd_X4_1 hD
        have hKc := dy_X4_1 hK
        have hFc := nd_rs hDc hS hA
        have hzA : ∀ q : Nat, H.size ≤ q → A q := fun q h => hA q (Nat.le_trans hS.1 h)
        refine nd_cVi (As := [.int (sI s0.1 0), .int v2, .int 1]) (rest := []) (q := q4) (w' := dw_X6 (fun k => a (k + 1)) (fun k => ac (k + 1)) s5) ⟨hx, hb, hml, hown, hts⟩ (fun sz => dm_X6_may l hlt dC dI (fun k => a (k + 1)) (fun k => ac (k + 1)) n ((sI s0.1 0)) (v2) (1) s0.2 hq sz) (cwV 3 hts gi_dm_X4_load_0 rfl rfl rfl (by decide +kernel) ⟨Nat.le_of_ble_eq_true rfl, Nat.le_of_ble_eq_true rfl⟩) hPc hDc hKc hS hA hN (va_recv hKc hPc (ci := 7) (q0 := 0) rfl rfl) rfl hl.1 rfl (Nat.le_of_ble_eq_true rfl) dX4_load_37 (fun H locs hP1 hD1 hk1 hS => ?_)
        obtain ⟨hP, hD⟩ := dn_X4_1 hP hD hzA hk1 hP1 hD1
        obtain ⟨s7, es7, h⟩ := nd_let_e h
        have hP : va_P (dC, dI) vwCl (dw_X4 a ac s7) H := by rw [es7]; exact hP
        have hD : va_D A (dw_X4 a ac s7) := by rw [es7]; exact hD
        refine lv_if_ne (tgt := 46) hx hb dX4_load_40 (by decide) (fun c8 => ?_) (fun c8 => ?_)
        · have h := nd_neg h c8
          refine lv_iload_n hx hb dX4_load_46 rfl (lv_at hl 2 rfl) ?_
          by_cases c9 : v1 = 0
          · have h := nd_pos h c9
            refine lv_tableIn (off := 33) (tgt := 80) hx hb dX4_load_47 (by rw [c9]; decide) (by rw [c9]; decide) (by rw [c9]; decide) (by decide) ?_
            refine lv_aload_n hx hb dX4_load_80 rfl (lv_at hl 0 rfl) ?_
            refine lv_iload_n hx hb dX4_load_81 rfl (lv_at hl 1 rfl) ?_
            refine lv_aload_n hx hb dX4_load_82 rfl (lv_at hl 0 rfl) ?_
            refine va_get (D := (dC, dI)) (ci := 5) (v := .ref (a 1)) (C := RX4) (T := TX4) (N := 6) hx hb hts hi_dm_X4_load_X4 hown hK hP 0 rfl rfl 0 (by decide) (hts (.fieldLink RX4 7 "TimeMachine$Hart" "machine" "LTimeMachine$Machine;") (List.mem_of_getElem? (i := 1) rfl)) (fun _ h9 => h9) rfl dX4_load_83 ?_
            refine lv_aload_n hx hb dX4_load_86 rfl (lv_at hl 0 rfl) ?_
            refine va_get (D := (dC, dI)) (ci := 5) (v := .int (sI s7.1 0)) (C := RX4) (T := TX4) (N := 6) hx hb hts hi_dm_X4_load_X4 hown hK hP 0 rfl rfl 2 (by decide) (hts (.fieldLink RX4 20 "TimeMachine$Hart" "process" "I") (List.mem_of_getElem? (i := 2) rfl)) (fun _ h9 => h9) rfl dX4_load_87 ?_
            refine lv_iload_n hx hb dX4_load_90 rfl (lv_at hl 3 rfl) ?_
            obtain ⟨q10, s11, hq, h⟩ := nd_b2_e h
            have hPc := dp_X4_1 hP
            have hDc := dd_X4_1 hD
            have hKc := dy_X4_1 hK
            have hFc := nd_rs hDc hS hA
            have hzA : ∀ q : Nat, H.size ≤ q → A q := fun q h => hA q (Nat.le_trans hS.1 h)
            refine nd_cVi (As := [.int (sI s7.1 0), .int v2]) (rest := [.int v0, .ref (a 0)]) (q := q10) (w' := dw_X6 (fun k => a (k + 1)) (fun k => ac (k + 1)) s11) ⟨hx, hb, hml, hown, hts⟩ (fun sz => dm_X6_byteAt l hlt dC dI (fun k => a (k + 1)) (fun k => ac (k + 1)) n ((sI s7.1 0)) (v2) s7.2 hq sz) (cwV 2 hts gi_dm_X4_load_1 rfl rfl rfl (by decide +kernel) ⟨Nat.le_of_ble_eq_true rfl, Nat.le_of_ble_eq_true rfl⟩) hPc hDc hKc hS hA hN (va_recv hKc hPc (ci := 7) (q0 := 0) rfl rfl) rfl hl.1 rfl (Nat.le_of_ble_eq_true rfl) dX4_load_91 (fun H locs hP1 hD1 hk1 hS => ?_)
            obtain ⟨hP, hD⟩ := dn_X4_1 hP hD hzA hk1 hP1 hD1
            obtain ⟨s13, es13, h⟩ := nd_let_e h
            have hP : va_P (dC, dI) vwCl (dw_X4 a ac s13) H := by rw [es13]; exact hP
            have hD : va_D A (dw_X4 a ac s13) := by rw [es13]; exact hD
            refine lv_i2b hx hb dX4_load_94 rfl ?_
            obtain ⟨s15, hq, h⟩ := nd_b1_e h
            have hPc := hP
            have hDc := hD
            have hKc := hK
            have hFc := nd_rs hD hS hA
            refine nd_cVv (As := [.int v0, .int (q10.toInt8.toInt32)]) (rest := []) (w' := dw_X4 a ac s15) ⟨hx, hb, hml, hown, hts⟩ (fun sz => dm_X4_set l hlt dC dI a ac n (v0) ((q10.toInt8.toInt32)) s13 hq sz) (cwV 2 hts gi_dm_X4_load_2 rfl rfl rfl (by decide +kernel) ⟨Nat.le_of_ble_eq_true rfl, Nat.le_of_ble_eq_true rfl⟩) hPc hDc hKc hS hA hN (va_recv hKc hPc (ci := 5) (q0 := 0) rfl rfl) rfl hl.1 rfl (Nat.le_of_ble_eq_true rfl) dX4_load_95 (fun H locs hP1 hD1 hk1 hS => ?_)
            have hP := hP1
            have hD := hD1.weaken (fun k q _ h => hFc q.1 h)
            refine lv_goto (tgt := 179) hx hb dX4_load_98 (by decide) ?_
            exact (db_X4_load_179 C K)  s15 _ _ _ h hP hD hS (lv_sub hl [] rfl)
          have h := nd_neg h c9
          by_cases c17 : v1 = 1
          · have h := nd_pos h c17
            refine lv_tableIn (off := 54) (tgt := 101) hx hb dX4_load_47 (by rw [c17]; decide) (by rw [c17]; decide) (by rw [c17]; decide) (by decide) ?_
            refine lv_aload_n hx hb dX4_load_101 rfl (lv_at hl 0 rfl) ?_
            refine lv_iload_n hx hb dX4_load_102 rfl (lv_at hl 1 rfl) ?_
            refine lv_aload_n hx hb dX4_load_103 rfl (lv_at hl 0 rfl) ?_
            refine va_get (D := (dC, dI)) (ci := 5) (v := .ref (a 1)) (C := RX4) (T := TX4) (N := 6) hx hb hts hi_dm_X4_load_X4 hown hK hP 0 rfl rfl 0 (by decide) (hts (.fieldLink RX4 7 "TimeMachine$Hart" "machine" "LTimeMachine$Machine;") (List.mem_of_getElem? (i := 1) rfl)) (fun _ h9 => h9) rfl dX4_load_104 ?_
            refine lv_aload_n hx hb dX4_load_107 rfl (lv_at hl 0 rfl) ?_
            refine va_get (D := (dC, dI)) (ci := 5) (v := .int (sI s7.1 0)) (C := RX4) (T := TX4) (N := 6) hx hb hts hi_dm_X4_load_X4 hown hK hP 0 rfl rfl 2 (by decide) (hts (.fieldLink RX4 20 "TimeMachine$Hart" "process" "I") (List.mem_of_getElem? (i := 2) rfl)) (fun _ h9 => h9) rfl dX4_load_108 ?_
            refine lv_iload_n hx hb dX4_load_111 rfl (lv_at hl 3 rfl) ?_
            obtain ⟨q18, s19, hq, h⟩ := nd_b2_e h
            have hPc := dp_X4_1 hP
            have hDc := dd_X4_1 hD
            have hKc := dy_X4_1 hK
            have hFc := nd_rs hDc hS hA
            have hzA : ∀ q : Nat, H.size ≤ q → A q := fun q h => hA q (Nat.le_trans hS.1 h)
            refine nd_cVi (As := [.int (sI s7.1 0), .int v2]) (rest := [.int v0, .ref (a 0)]) (q := q18) (w' := dw_X6 (fun k => a (k + 1)) (fun k => ac (k + 1)) s19) ⟨hx, hb, hml, hown, hts⟩ (fun sz => dm_X6_halfAt l hlt dC dI (fun k => a (k + 1)) (fun k => ac (k + 1)) n ((sI s7.1 0)) (v2) s7.2 hq sz) (cwV 2 hts gi_dm_X4_load_3 rfl rfl rfl (by decide +kernel) ⟨Nat.le_of_ble_eq_true rfl, Nat.le_of_ble_eq_true rfl⟩) hPc hDc hKc hS hA hN (va_recv hKc hPc (ci := 7) (q0 := 0) rfl rfl) rfl hl.1 rfl (Nat.le_of_ble_eq_true rfl) dX4_load_112 (fun H locs hP1 hD1 hk1 hS => ?_)
            obtain ⟨hP, hD⟩ := dn_X4_1 hP hD hzA hk1 hP1 hD1
            obtain ⟨s21, es21, h⟩ := nd_let_e h
            have hP : va_P (dC, dI) vwCl (dw_X4 a ac s21) H := by rw [es21]; exact hP
            have hD : va_D A (dw_X4 a ac s21) := by rw [es21]; exact hD
            refine lv_i2s hx hb dX4_load_115 rfl ?_
            obtain ⟨s23, hq, h⟩ := nd_b1_e h
            have hPc := hP
            have hDc := hD
            have hKc := hK
            have hFc := nd_rs hD hS hA
            refine nd_cVv (As := [.int v0, .int (q18.toInt16.toInt32)]) (rest := []) (w' := dw_X4 a ac s23) ⟨hx, hb, hml, hown, hts⟩ (fun sz => dm_X4_set l hlt dC dI a ac n (v0) ((q18.toInt16.toInt32)) s21 hq sz) (cwV 2 hts gi_dm_X4_load_2 rfl rfl rfl (by decide +kernel) ⟨Nat.le_of_ble_eq_true rfl, Nat.le_of_ble_eq_true rfl⟩) hPc hDc hKc hS hA hN (va_recv hKc hPc (ci := 5) (q0 := 0) rfl rfl) rfl hl.1 rfl (Nat.le_of_ble_eq_true rfl) dX4_load_116 (fun H locs hP1 hD1 hk1 hS => ?_)
            have hP := hP1
            have hD := hD1.weaken (fun k q _ h => hFc q.1 h)
            refine lv_goto (tgt := 179) hx hb dX4_load_119 (by decide) ?_
            exact (db_X4_load_179 C K)  s23 _ _ _ h hP hD hS (lv_sub hl [] rfl)
          have h := nd_neg h c17
          by_cases c25 : v1 = 2
          · have h := nd_pos h c25
            refine lv_tableIn (off := 75) (tgt := 122) hx hb dX4_load_47 (by rw [c25]; decide) (by rw [c25]; decide) (by rw [c25]; decide) (by decide) ?_
            refine lv_aload_n hx hb dX4_load_122 rfl (lv_at hl 0 rfl) ?_
            refine lv_iload_n hx hb dX4_load_123 rfl (lv_at hl 1 rfl) ?_
            refine lv_aload_n hx hb dX4_load_124 rfl (lv_at hl 0 rfl) ?_
            refine va_get (D := (dC, dI)) (ci := 5) (v := .ref (a 1)) (C := RX4) (T := TX4) (N := 6) hx hb hts hi_dm_X4_load_X4 hown hK hP 0 rfl rfl 0 (by decide) (hts (.fieldLink RX4 7 "TimeMachine$Hart" "machine" "LTimeMachine$Machine;") (List.mem_of_getElem? (i := 1) rfl)) (fun _ h9 => h9) rfl dX4_load_125 ?_
            refine lv_aload_n hx hb dX4_load_128 rfl (lv_at hl 0 rfl) ?_
            refine va_get (D := (dC, dI)) (ci := 5) (v := .int (sI s7.1 0)) (C := RX4) (T := TX4) (N := 6) hx hb hts hi_dm_X4_load_X4 hown hK hP 0 rfl rfl 2 (by decide) (hts (.fieldLink RX4 20 "TimeMachine$Hart" "process" "I") (List.mem_of_getElem? (i := 2) rfl)) (fun _ h9 => h9) rfl dX4_load_129 ?_
            refine lv_iload_n hx hb dX4_load_132 rfl (lv_at hl 3 rfl) ?_
            obtain ⟨q26, s27, hq, h⟩ := nd_b2_e h
            have hPc := dp_X4_1 hP
            have hDc := dd_X4_1 hD
            have hKc := dy_X4_1 hK
            have hFc := nd_rs hDc hS hA
            have hzA : ∀ q : Nat, H.size ≤ q → A q := fun q h => hA q (Nat.le_trans hS.1 h)
            refine nd_cVi (As := [.int (sI s7.1 0), .int v2]) (rest := [.int v0, .ref (a 0)]) (q := q26) (w' := dw_X6 (fun k => a (k + 1)) (fun k => ac (k + 1)) s27) ⟨hx, hb, hml, hown, hts⟩ (fun sz => dm_X6_wordAt l hlt dC dI (fun k => a (k + 1)) (fun k => ac (k + 1)) n ((sI s7.1 0)) (v2) s7.2 hq sz) (cwV 2 hts gi_dm_X4_load_4 rfl rfl rfl (by decide +kernel) ⟨Nat.le_of_ble_eq_true rfl, Nat.le_of_ble_eq_true rfl⟩) hPc hDc hKc hS hA hN (va_recv hKc hPc (ci := 7) (q0 := 0) rfl rfl) rfl hl.1 rfl (Nat.le_of_ble_eq_true rfl) dX4_load_133 (fun H locs hP1 hD1 hk1 hS => ?_)
            obtain ⟨hP, hD⟩ := dn_X4_1 hP hD hzA hk1 hP1 hD1
            obtain ⟨s29, es29, h⟩ := nd_let_e h
            have hP : va_P (dC, dI) vwCl (dw_X4 a ac s29) H := by rw [es29]; exact hP
            have hD : va_D A (dw_X4 a ac s29) := by rw [es29]; exact hD
            obtain ⟨s31, hq, h⟩ := nd_b1_e h
            have hPc := hP
            have hDc := hD
            have hKc := hK
            have hFc := nd_rs hD hS hA
            refine nd_cVv (As := [.int v0, .int q26]) (rest := []) (w' := dw_X4 a ac s31) ⟨hx, hb, hml, hown, hts⟩ (fun sz => dm_X4_set l hlt dC dI a ac n (v0) (q26) s29 hq sz) (cwV 2 hts gi_dm_X4_load_2 rfl rfl rfl (by decide +kernel) ⟨Nat.le_of_ble_eq_true rfl, Nat.le_of_ble_eq_true rfl⟩) hPc hDc hKc hS hA hN (va_recv hKc hPc (ci := 5) (q0 := 0) rfl rfl) rfl hl.1 rfl (Nat.le_of_ble_eq_true rfl) dX4_load_136 (fun H locs hP1 hD1 hk1 hS => ?_)
            have hP := hP1
            have hD := hD1.weaken (fun k q _ h => hFc q.1 h)
            refine lv_goto (tgt := 179) hx hb dX4_load_139 (by decide) ?_
            exact (db_X4_load_179 C K)  s31 _ _ _ h hP hD hS (lv_sub hl [] rfl)
          have h := nd_neg h c25
          by_cases c33 : v1 = 3
          · have h := nd_pos h c33
            refine lv_tableIn (off := 115) (tgt := 162) hx hb dX4_load_47 (by rw [c33]; decide) (by rw [c33]; decide) (by rw [c33]; decide) (by decide) ?_
            exact (db_X4_load_162 C K) (v0) (v2) s7 _ _ _ h hP hD hS (lv_sub hl [0, 1, 3] rfl)
          have h := nd_neg h c33
          by_cases c41 : v1 = 4
          · have h := nd_pos h c41
            refine lv_tableIn (off := 95) (tgt := 142) hx hb dX4_load_47 (by rw [c41]; decide) (by rw [c41]; decide) (by rw [c41]; decide) (by decide) ?_
            refine lv_aload_n hx hb dX4_load_142 rfl (lv_at hl 0 rfl) ?_
            refine lv_iload_n hx hb dX4_load_143 rfl (lv_at hl 1 rfl) ?_
            refine lv_aload_n hx hb dX4_load_144 rfl (lv_at hl 0 rfl) ?_
            refine va_get (D := (dC, dI)) (ci := 5) (v := .ref (a 1)) (C := RX4) (T := TX4) (N := 6) hx hb hts hi_dm_X4_load_X4 hown hK hP 0 rfl rfl 0 (by decide) (hts (.fieldLink RX4 7 "TimeMachine$Hart" "machine" "LTimeMachine$Machine;") (List.mem_of_getElem? (i := 1) rfl)) (fun _ h9 => h9) rfl dX4_load_145 ?_
            refine lv_aload_n hx hb dX4_load_148 rfl (lv_at hl 0 rfl) ?_
            refine va_get (D := (dC, dI)) (ci := 5) (v := .int (sI s7.1 0)) (C := RX4) (T := TX4) (N := 6) hx hb hts hi_dm_X4_load_X4 hown hK hP 0 rfl rfl 2 (by decide) (hts (.fieldLink RX4 20 "TimeMachine$Hart" "process" "I") (List.mem_of_getElem? (i := 2) rfl)) (fun _ h9 => h9) rfl dX4_load_149 ?_
            refine lv_iload_n hx hb dX4_load_152 rfl (lv_at hl 3 rfl) ?_
            obtain ⟨q42, s43, hq, h⟩ := nd_b2_e h
            have hPc := dp_X4_1 hP
            have hDc := dd_X4_1 hD
            have hKc := dy_X4_1 hK
            have hFc := nd_rs hDc hS hA
            have hzA : ∀ q : Nat, H.size ≤ q → A q := fun q h => hA q (Nat.le_trans hS.1 h)
            refine nd_cVi (As := [.int (sI s7.1 0), .int v2]) (rest := [.int v0, .ref (a 0)]) (q := q42) (w' := dw_X6 (fun k => a (k + 1)) (fun k => ac (k + 1)) s43) ⟨hx, hb, hml, hown, hts⟩ (fun sz => dm_X6_byteAt l hlt dC dI (fun k => a (k + 1)) (fun k => ac (k + 1)) n ((sI s7.1 0)) (v2) s7.2 hq sz) (cwV 2 hts gi_dm_X4_load_1 rfl rfl rfl (by decide +kernel) ⟨Nat.le_of_ble_eq_true rfl, Nat.le_of_ble_eq_true rfl⟩) hPc hDc hKc hS hA hN (va_recv hKc hPc (ci := 7) (q0 := 0) rfl rfl) rfl hl.1 rfl (Nat.le_of_ble_eq_true rfl) dX4_load_153 (fun H locs hP1 hD1 hk1 hS => ?_)
            obtain ⟨hP, hD⟩ := dn_X4_1 hP hD hzA hk1 hP1 hD1
            obtain ⟨s45, es45, h⟩ := nd_let_e h
            have hP : va_P (dC, dI) vwCl (dw_X4 a ac s45) H := by rw [es45]; exact hP
            have hD : va_D A (dw_X4 a ac s45) := by rw [es45]; exact hD
            obtain ⟨s47, hq, h⟩ := nd_b1_e h
            have hPc := hP
            have hDc := hD
            have hKc := hK
            have hFc := nd_rs hD hS hA
            refine nd_cVv (As := [.int v0, .int q42]) (rest := []) (w' := dw_X4 a ac s47) ⟨hx, hb, hml, hown, hts⟩ (fun sz => dm_X4_set l hlt dC dI a ac n (v0) (q42) s45 hq sz) (cwV 2 hts gi_dm_X4_load_2 rfl rfl rfl (by decide +kernel) ⟨Nat.le_of_ble_eq_true rfl, Nat.le_of_ble_eq_true rfl⟩) hPc hDc hKc hS hA hN (va_recv hKc hPc (ci := 5) (q0 := 0) rfl rfl) rfl hl.1 rfl (Nat.le_of_ble_eq_true rfl) dX4_load_156 (fun H locs hP1 hD1 hk1 hS => ?_)
            have hP := hP1
            have hD := hD1.weaken (fun k q _ h => hFc q.1 h)
            refine lv_goto (tgt := 179) hx hb dX4_load_159 (by decide) ?_
            exact (db_X4_load_179 C K)  s47 _ _ _ h hP hD hS (lv_sub hl [] rfl)
          have h := nd_neg h c41
          refine lv_tableOut (tgt := 162) hx hb dX4_load_47 (by have g0 := nv_nei c9 (k := 0) (by decide); have g1 := nv_nei c17 (k := 1) (by decide); have g2 := nv_nei c25 (k := 2) (by decide); have g3 := nv_nei c33 (k := 3) (by decide); have g4 := nv_nei c41 (k := 4) (by decide); omega) (by decide) ?_
          exact (db_X4_load_162 C K) (v0) (v2) s7 _ _ _ h hP hD hS (lv_sub hl [0, 1, 3] rfl)
        · have h := nd_pos h c8
          refine lv_bipush (v := 11) hx hb dX4_load_43 (by decide) ?_
          exact K _ _ _ _ _ _ dX4_load_45 rfl (Option.some.inj h).symm hP hD hS
      · have h := nd_neg h c3
        refine lv_bipush (v := 7) hx hb dX4_load_24 (by decide) ?_
        exact K _ _ _ _ _ _ dX4_load_26 rfl (Option.some.inj h).symm hP hD hS
    · have h := nd_neg h c2
      exact (db_X4_load_10 C K)  s0 _ _ _ h hP hD hS (lv_sub hl [] rfl)
set_option maxHeartbeats 40000000 in
set_option maxRecDepth 100000 in
theorem dm_X4_load (l : Launch) (hlt : l.stackTraces = false) (dC : Nat → ClassId) (dI : Nat → Nat → Nat) (a : Nat → Nat) (ac : Nat → ClassId) (n : Nat) (v0 : Int32) (v1 : Int32) (v2 : Int32) (s0 : St × (St × (St))) {r : Int32 × (St × (St × (St)))} (h : df_X4_load n v0 v1 v2 s0 = some r) (sz : Nat) : Met l yX4_load ow_dm_X4_load ({ frames := 1, cells := 0, slots := 0, locals := 23 }) (va_Pc [.ref (a 0), .int v0, .int v1, .int v2] (fun U => U.heap.size = sz ∧ va_P (dC, dI) vwCl (dw_X4 a ac s0) U.heap ∧ va_K (dC, dI) vwCl (dk_X4 ac) U ∧ va_D (fun _ => True) (dw_X4 a ac s0) ∧ nv_E dI (va_A (dw_X4 a ac s0) sz) U)) (va_Qi (fun x _ => x = r.1) (fun (_ : Unit) t => va_P (dC, dI) vwCl (dw_X4 a ac r.2) t.heap ∧ va_K (dC, dI) vwCl (dk_X4 ac) t ∧ va_D (va_A (dw_X4 a ac s0) sz) (dw_X4 a ac r.2)) (va_A (dw_X4 a ac s0) sz)) 0 0 (va_A (dw_X4 a ac s0) sz) := by
  refine Met.ofW (cc := cX4_load) (maxL := 4) (ret := (some .int)) (by decide) rfl ?_
  intro p e s m args below meth c s₁ B hml hv
  obtain ⟨rfl, hsz, hP, hK, hD0, hN⟩ := hv
  have hx := B.exec
  have hb := B.bytes
  have hr := B.returns
  have hts := atoms_spec (ws := ow_dm_X4_load) B.pre
  have hown : s.vm.findClass RX4 = some m.cls := findClass_of_methodNamed B.named
  have hlocks := B.notSynchronized
  subst hsz
  have hD := hD0.self (sz := s.heap.size)
  generalize hAe : va_A (dw_X4 a ac s0) s.heap.size = A at hD hN ⊢
  have hA : ∀ q : Nat, s.heap.size ≤ q → A q := fun q h => by rw [← hAe]; exact Or.inr h
  have hl := lv_entry ([.ref (a 0), .int v0, .int v1, .int v2]) (n := 4) (Nat.le_of_ble_eq_true rfl)
  rw [lg_entry_eq]
  generalize (lg_sl ([.ref (a 0), .int v0, .int v1, .int v2]) ++ List.replicate (4 - (lg_sl ([.ref (a 0), .int v0, .int v1, .int v2])).length) Slot.unset).toArray = ls at hl ⊢
  have hl : lv_has ls 4 [(0, .ref (a 0)), (1, .int v0), (2, .int v1), (3, .int v2)] := hl
  exact db_X4_load_0 (dC := dC) (dI := dI) (a := a) (ac := ac) (n := n) (r := r) ⟨hlt, hx, hb, hml, hown, hts, hN, hA, hK⟩ (fun pc v τ H locs ls d z er hP hD hS => by subst er; exact W.zret (v := v) hx hb hr z (fun t ht hW => ⟨⟨v, (), rfl, rfl, by rw [ht]; exact hP, va_K.moved hW.alike hK, hD⟩, hS.F ht⟩) hS.2.2 d) v0 v1 v2 s0 _ _ _ h hP hD va_S.rf (lv_sub hl [0, 1, 2, 3] rfl)
def ow_dm_X4_reckoned : List Cond := Cond.code yX4_reckoned cX4_reckoned 3 (some .int) :: ([Cond.methodLink RX4 89 yJ6_compareUnsigned_7cf53, Cond.static yJ6_compareUnsigned_7cf53, Cond.initialized RJ6] ++ (ow_dm_J6_compareUnsigned_7cf53 ++ []))
theorem gd_dm_X4_reckoned : ∀ w ∈ ow_dm_X4_reckoned, (w.onTables && w.keeps) = true ∨ ∃ ty, w = Cond.arrayClass ty := List.forall_mem_cons.mpr ⟨good_of_word rfl, List.forall_mem_append.mpr ⟨fun w h => good_of_word (List.all_eq_true.mp (by decide +kernel) w h), List.forall_mem_append.mpr ⟨gd_dm_J6_compareUnsigned_7cf53, fun _ h => nomatch h⟩⟩⟩
theorem gi_dm_X4_reckoned_0 : GoodIn ow_dm_X4_reckoned (va_wsS RX4 89 yJ6_compareUnsigned_7cf53 ow_dm_J6_compareUnsigned_7cf53) := goodIn_app (goodIn_of _ (by decide +kernel)) (fun w h => ⟨List.mem_cons_of_mem _ (List.mem_append_right _ (List.mem_append_left _ h)), gd_dm_J6_compareUnsigned_7cf53 w h⟩)
def dj_X4_reckoned_65 (p : Program) (l : Launch) (e : Env) (s : State) (m : MethodId) (args : Array Value) (below : List Frame) (meth : Method) (c : Code) (Q : State → Prop) (A : Nat → Prop) (dC : Nat → ClassId) (dI : Nat → Nat → Nat) (a : Nat → Nat) (ac : Nat → ClassId) (g : Int32 → (Unit) → Option (Int32 × (Unit))) (r : Int32 × (Unit)) : Prop := ∀ (y0 : Int32) (s0 : Unit) (H : Heap) (locs : List Loc) (ls : Array Slot), g y0 s0 = some r → va_P (dC, dI) vwCl (dw_P a ac s0) H → va_D A (dw_P a ac s0) → va_S A s.heap H locs → lv_has ls 3 [] → W p l e (headSpec ow_dm_X4_reckoned ({ frames := 2, cells := 0, slots := 0, locals := 42 })).room s m args below meth c H locs 0 0 Q (F0 m 65 ls [.int y0])
def dj_X4_reckoned_79 (p : Program) (l : Launch) (e : Env) (s : State) (m : MethodId) (args : Array Value) (below : List Frame) (meth : Method) (c : Code) (Q : State → Prop) (A : Nat → Prop) (dC : Nat → ClassId) (dI : Nat → Nat → Nat) (a : Nat → Nat) (ac : Nat → ClassId) (g : Int32 → (Unit) → Option (Int32 × (Unit))) (r : Int32 × (Unit)) : Prop := ∀ (y0 : Int32) (s0 : Unit) (H : Heap) (locs : List Loc) (ls : Array Slot), g y0 s0 = some r → va_P (dC, dI) vwCl (dw_P a ac s0) H → va_D A (dw_P a ac s0) → va_S A s.heap H locs → lv_has ls 3 [] → W p l e (headSpec ow_dm_X4_reckoned ({ frames := 2, cells := 0, slots := 0, locals := 42 })).room s m args below meth c H locs 0 0 Q (F0 m 79 ls [.int y0])
def dj_X4_reckoned_0 (p : Program) (l : Launch) (e : Env) (s : State) (m : MethodId) (args : Array Value) (below : List Frame) (meth : Method) (c : Code) (Q : State → Prop) (A : Nat → Prop) (dC : Nat → ClassId) (dI : Nat → Nat → Nat) (a : Nat → Nat) (ac : Nat → ClassId) (g : Int32 → Int32 → Int32 → (Unit) → Option (Int32 × (Unit))) (r : Int32 × (Unit)) : Prop := ∀ (v0 : Int32) (v1 : Int32) (v2 : Int32) (s0 : Unit) (H : Heap) (locs : List Loc) (ls : Array Slot), g v0 v1 v2 s0 = some r → va_P (dC, dI) vwCl (dw_P a ac s0) H → va_D A (dw_P a ac s0) → va_S A s.heap H locs → lv_has ls 3 [(0, .int v0), (1, .int v1), (2, .int v2)] → W p l e (headSpec ow_dm_X4_reckoned ({ frames := 2, cells := 0, slots := 0, locals := 42 })).room s m args below meth c H locs 0 0 Q (F0 m 0 ls [])
set_option maxHeartbeats 40000000 in
set_option maxRecDepth 100000 in
theorem db_X4_reckoned_65 {p : Program} {l : Launch} {e : Env} {s : State} {m : MethodId} {args : Array Value} {below : List Frame} {meth : Method} {c : Code} {Q : State → Prop} {A : Nat → Prop} {dC : Nat → ClassId} {dI : Nat → Nat → Nat} {a : Nat → Nat} {ac : Nat → ClassId} {n : Nat} {r : Int32 × (Unit)} (C : nd_C p l s m args c A (dC, dI) cX4_reckoned 3 RX4 ow_dm_X4_reckoned (dk_P ac)) (K : nd_Ki p l e (headSpec ow_dm_X4_reckoned ({ frames := 2, cells := 0, slots := 0, locals := 42 })).room s m args below meth c Q A (dC, dI) cX4_reckoned .int (Unit) (dw_P a ac) r) : dj_X4_reckoned_65 p l e s m args below meth c Q A dC dI a ac (df_X4_reckoned_65 n) r := by
  obtain ⟨hlt, hx, hb, hml, hown, hts, hN, hA, hK⟩ := id C
  intro y0 s0 H locs ls h hP hD hS hl
  unfold df_X4_reckoned_65 at h
  exact K _ _ _ _ _ _ dX4_reckoned_65 rfl (Option.some.inj h).symm hP hD hS
set_option maxHeartbeats 40000000 in
set_option maxRecDepth 100000 in
theorem db_X4_reckoned_79 {p : Program} {l : Launch} {e : Env} {s : State} {m : MethodId} {args : Array Value} {below : List Frame} {meth : Method} {c : Code} {Q : State → Prop} {A : Nat → Prop} {dC : Nat → ClassId} {dI : Nat → Nat → Nat} {a : Nat → Nat} {ac : Nat → ClassId} {n : Nat} {r : Int32 × (Unit)} (C : nd_C p l s m args c A (dC, dI) cX4_reckoned 3 RX4 ow_dm_X4_reckoned (dk_P ac)) (K : nd_Ki p l e (headSpec ow_dm_X4_reckoned ({ frames := 2, cells := 0, slots := 0, locals := 42 })).room s m args below meth c Q A (dC, dI) cX4_reckoned .int (Unit) (dw_P a ac) r) : dj_X4_reckoned_79 p l e s m args below meth c Q A dC dI a ac (df_X4_reckoned_79 n) r := by
  obtain ⟨hlt, hx, hb, hml, hown, hts, hN, hA, hK⟩ := id C
  intro y0 s0 H locs ls h hP hD hS hl
  unfold df_X4_reckoned_79 at h
  exact K _ _ _ _ _ _ dX4_reckoned_79 rfl (Option.some.inj h).symm hP hD hS
set_option maxHeartbeats 40000000 in
set_option maxRecDepth 100000 in
theorem db_X4_reckoned_0 {p : Program} {l : Launch} {e : Env} {s : State} {m : MethodId} {args : Array Value} {below : List Frame} {meth : Method} {c : Code} {Q : State → Prop} {A : Nat → Prop} {dC : Nat → ClassId} {dI : Nat → Nat → Nat} {a : Nat → Nat} {ac : Nat → ClassId} {n : Nat} {r : Int32 × (Unit)} (C : nd_C p l s m args c A (dC, dI) cX4_reckoned 3 RX4 ow_dm_X4_reckoned (dk_P ac)) (K : nd_Ki p l e (headSpec ow_dm_X4_reckoned ({ frames := 2, cells := 0, slots := 0, locals := 42 })).room s m args below meth c Q A (dC, dI) cX4_reckoned .int (Unit) (dw_P a ac) r) : dj_X4_reckoned_0 p l e s m args below meth c Q A dC dI a ac (df_X4_reckoned_0 n) r := by
  obtain ⟨hlt, hx, hb, hml, hown, hts, hN, hA, hK⟩ := id C
  intro v0 v1 v2 s0 H locs ls h hP hD hS hl
  unfold df_X4_reckoned_0 at h
  refine lv_iload_n hx hb dX4_reckoned_0 rfl (lv_at hl 0 rfl) ?_
  by_cases c1 : v0 = 0
  · have h := nd_pos h c1
    refine lv_tableIn (off := 43) (tgt := 44) hx hb dX4_reckoned_1 (by rw [c1]; decide) (by rw [c1]; decide) (by rw [c1]; decide) (by decide) ?_
    refine lv_iload_n hx hb dX4_reckoned_44 rfl (lv_at hl 1 rfl) ?_
    refine lv_iload_n hx hb dX4_reckoned_45 rfl (lv_at hl 2 rfl) ?_
    refine lv_iadd hx hb dX4_reckoned_46 ?_
    exact K _ _ _ _ _ _ dX4_reckoned_47 rfl (Option.some.inj h).symm hP hD hS
  have h := nd_neg h c1
  by_cases c2 : v0 = 1
  · have h := nd_pos h c2
    refine lv_tableIn (off := 47) (tgt := 48) hx hb dX4_reckoned_1 (by rw [c2]; decide) (by rw [c2]; decide) (by rw [c2]; decide) (by decide) ?_
    refine lv_iload_n hx hb dX4_reckoned_48 rfl (lv_at hl 1 rfl) ?_
    refine lv_iload_n hx hb dX4_reckoned_49 rfl (lv_at hl 2 rfl) ?_
    refine lv_bipush (v := 31) hx hb dX4_reckoned_50 (by decide) ?_
    refine lv_iand hx hb dX4_reckoned_52 ?_
    refine lv_ishl hx hb dX4_reckoned_53 ?_
    exact K _ _ _ _ _ _ dX4_reckoned_54 rfl (Option.some.inj h).symm hP hD hS
  have h := nd_neg h c2
  by_cases c3 : v0 = 2
  · have h := nd_pos h c3
    refine lv_tableIn (off := 54) (tgt := 55) hx hb dX4_reckoned_1 (by rw [c3]; decide) (by rw [c3]; decide) (by rw [c3]; decide) (by decide) ?_
    refine lv_iload_n hx hb dX4_reckoned_55 rfl (lv_at hl 1 rfl) ?_
    refine lv_iload_n hx hb dX4_reckoned_56 rfl (lv_at hl 2 rfl) ?_
    refine lv_icmp_ge (tgt := 64) hx hb dX4_reckoned_57 (by decide) (fun c4 => ?_) (fun c4 => ?_)
    · have h := nd_pos h c4
      refine lv_iconst (v := 0) hx hb dX4_reckoned_64 (by decide) ?_
      exact (db_X4_reckoned_65 C K) (0) s0 _ _ _ h hP hD hS (lv_sub hl [] rfl)
    · have h := nd_neg h c4
      refine lv_iconst (v := 1) hx hb dX4_reckoned_60 (by decide) ?_
      refine lv_goto (tgt := 65) hx hb dX4_reckoned_61 (by decide) ?_
      exact (db_X4_reckoned_65 C K) (1) s0 _ _ _ h hP hD hS (lv_sub hl [] rfl)
  have h := nd_neg h c3
  by_cases c5 : v0 = 3
  · have h := nd_pos h c5
    refine lv_tableIn (off := 65) (tgt := 66) hx hb dX4_reckoned_1 (by rw [c5]; decide) (by rw [c5]; decide) (by rw [c5]; decide) (by decide) ?_
    refine lv_iload_n hx hb dX4_reckoned_66 rfl (lv_at hl 1 rfl) ?_
    refine lv_iload_n hx hb dX4_reckoned_67 rfl (lv_at hl 2 rfl) ?_
    obtain ⟨q6, s7, hq, h⟩ := nd_b2_e h
    have hPc : va_P (dC, dI) vwCl (dw_P a ac ()) H := nd_p0
    have hDc : va_D A (dw_P a ac ()) := nd_d0
    have hKc : va_K (dC, dI) vwCl (dk_P ac) s := nd_y0 hK
    have hFc : ∀ q, va_A (dw_P a ac ()) H.size q → A q := nd_r0 hS hA
    refine nd_cSi (As := [.int v1, .int v2]) (rest := []) (q := q6) (w' := dw_P a ac s7) ⟨hx, hb, hml, hown, hts⟩ (fun sz => dm_J6_compareUnsigned_7cf53 l hlt dC dI a ac n (v1) (v2) () hq sz) (va_cwS 2 hts gi_dm_X4_reckoned_0 rfl rfl rfl (by decide +kernel) ⟨Nat.le_of_ble_eq_true rfl, Nat.le_of_ble_eq_true rfl⟩) hPc hDc hKc hS hA hN rfl hl.1 rfl (Nat.le_of_ble_eq_true rfl) dX4_reckoned_68 (fun H locs hP1 hD1 hk1 hS => ?_)
    have hP := nd_n0 hP hk1
    refine lv_if_ge (tgt := 78) hx hb dX4_reckoned_71 (by decide) (fun c9 => ?_) (fun c9 => ?_)
    · have h := nd_pos h c9
      refine lv_iconst (v := 0) hx hb dX4_reckoned_78 (by decide) ?_
      exact (db_X4_reckoned_79 C K) (0) s0 _ _ _ h hP hD hS (lv_sub hl [] rfl)
    · have h := nd_neg h c9
      refine lv_iconst (v := 1) hx hb dX4_reckoned_74 (by decide) ?_
      refine lv_goto (tgt := 79) hx hb dX4_reckoned_75 (by decide) ?_
      exact (db_X4_reckoned_79 C K) (1) s0 _ _ _ h hP hD hS (lv_sub hl [] rfl)
  have h := nd_neg h c5
  by_cases c10 : v0 = 4
  · have h := nd_pos h c10
    refine lv_tableIn (off := 79) (tgt := 80) hx hb dX4_reckoned_1 (by rw [c10]; decide) (by rw [c10]; decide) (by rw [c10]; decide) (by decide) ?_
    refine lv_iload_n hx hb dX4_reckoned_80 rfl (lv_at hl 1 rfl) ?_
    refine lv_iload_n hx hb dX4_reckoned_81 rfl (lv_at hl 2 rfl) ?_
    refine lv_ixor hx hb dX4_reckoned_82 ?_
    exact K _ _ _ _ _ _ dX4_reckoned_83 rfl (Option.some.inj h).symm hP hD hS
  have h := nd_neg h c10
  by_cases c11 : v0 = 5
  · have h := nd_pos h c11
    refine lv_tableIn (off := 83) (tgt := 84) hx hb dX4_reckoned_1 (by rw [c11]; decide) (by rw [c11]; decide) (by rw [c11]; decide) (by decide) ?_
    refine lv_iload_n hx hb dX4_reckoned_84 rfl (lv_at hl 1 rfl) ?_
    refine lv_iload_n hx hb dX4_reckoned_85 rfl (lv_at hl 2 rfl) ?_
    refine lv_bipush (v := 31) hx hb dX4_reckoned_86 (by decide) ?_
    refine lv_iand hx hb dX4_reckoned_88 ?_
    refine lv_iushr hx hb dX4_reckoned_89 rfl ?_
    exact K _ _ _ _ _ _ dX4_reckoned_90 rfl (Option.some.inj h).symm hP hD hS
  have h := nd_neg h c11
  by_cases c12 : v0 = 6
  · have h := nd_pos h c12
    refine lv_tableIn (off := 90) (tgt := 91) hx hb dX4_reckoned_1 (by rw [c12]; decide) (by rw [c12]; decide) (by rw [c12]; decide) (by decide) ?_
    refine lv_iload_n hx hb dX4_reckoned_91 rfl (lv_at hl 1 rfl) ?_
    refine lv_iload_n hx hb dX4_reckoned_92 rfl (lv_at hl 2 rfl) ?_
    refine lv_ior hx hb dX4_reckoned_93 ?_
    exact K _ _ _ _ _ _ dX4_reckoned_94 rfl (Option.some.inj h).symm hP hD hS
  have h := nd_neg h c12
  refine lv_tableOut (tgt := 95) hx hb dX4_reckoned_1 (by have g0 := nv_nei c1 (k := 0) (by decide); have g1 := nv_nei c2 (k := 1) (by decide); have g2 := nv_nei c3 (k := 2) (by decide); have g3 := nv_nei c5 (k := 3) (by decide); have g4 := nv_nei c10 (k := 4) (by decide); have g5 := nv_nei c11 (k := 5) (by decide); have g6 := nv_nei c12 (k := 6) (by decide); omega) (by decide) ?_
  refine lv_iload_n hx hb dX4_reckoned_95 rfl (lv_at hl 1 rfl) ?_
  refine lv_iload_n hx hb dX4_reckoned_96 rfl (lv_at hl 2 rfl) ?_
  refine lv_iand hx hb dX4_reckoned_97 ?_
  exact K _ _ _ _ _ _ dX4_reckoned_98 rfl (Option.some.inj h).symm hP hD hS
set_option maxHeartbeats 40000000 in
set_option maxRecDepth 100000 in
theorem dm_X4_reckoned (l : Launch) (hlt : l.stackTraces = false) (dC : Nat → ClassId) (dI : Nat → Nat → Nat) (a : Nat → Nat) (ac : Nat → ClassId) (n : Nat) (v0 : Int32) (v1 : Int32) (v2 : Int32) (s0 : Unit) {r : Int32 × (Unit)} (h : df_X4_reckoned n v0 v1 v2 s0 = some r) (sz : Nat) : Met l yX4_reckoned ow_dm_X4_reckoned ({ frames := 2, cells := 0, slots := 0, locals := 42 }) (va_Pc [.int v0, .int v1, .int v2] (fun U => U.heap.size = sz ∧ va_P (dC, dI) vwCl (dw_P a ac s0) U.heap ∧ va_K (dC, dI) vwCl (dk_P ac) U ∧ va_D (fun _ => True) (dw_P a ac s0) ∧ nv_E dI (va_A (dw_P a ac s0) sz) U)) (va_Qi (fun x _ => x = r.1) (fun (_ : Unit) t => va_P (dC, dI) vwCl (dw_P a ac r.2) t.heap ∧ va_K (dC, dI) vwCl (dk_P ac) t ∧ va_D (va_A (dw_P a ac s0) sz) (dw_P a ac r.2)) (va_A (dw_P a ac s0) sz)) 0 0 (va_A (dw_P a ac s0) sz) := by
  refine Met.ofW (cc := cX4_reckoned) (maxL := 3) (ret := (some .int)) (by decide) rfl ?_
  intro p e s m args below meth c s₁ B hml hv
  obtain ⟨rfl, hsz, hP, hK, hD0, hN⟩ := hv
  have hx := B.exec
  have hb := B.bytes
  have hr := B.returns
  have hts := atoms_spec (ws := ow_dm_X4_reckoned) B.pre
  have hown : s.vm.findClass RX4 = some m.cls := findClass_of_methodNamed B.named
  have hlocks := B.notSynchronized
  subst hsz
  have hD := hD0.self (sz := s.heap.size)
  generalize hAe : va_A (dw_P a ac s0) s.heap.size = A at hD hN ⊢
  have hA : ∀ q : Nat, s.heap.size ≤ q → A q := fun q h => by rw [← hAe]; exact Or.inr h
  have hl := lv_entry ([.int v0, .int v1, .int v2]) (n := 3) (Nat.le_of_ble_eq_true rfl)
  rw [lg_entry_eq]
  generalize (lg_sl ([.int v0, .int v1, .int v2]) ++ List.replicate (3 - (lg_sl ([.int v0, .int v1, .int v2])).length) Slot.unset).toArray = ls at hl ⊢
  have hl : lv_has ls 3 [(0, .int v0), (1, .int v1), (2, .int v2)] := hl
  exact db_X4_reckoned_0 (dC := dC) (dI := dI) (a := a) (ac := ac) (n := n) (r := r) ⟨hlt, hx, hb, hml, hown, hts, hN, hA, hK⟩ (fun pc v τ H locs ls d z er hP hD hS => by subst er; exact W.zret (v := v) hx hb hr z (fun t ht hW => ⟨⟨v, (), rfl, rfl, by rw [ht]; exact hP, va_K.moved hW.alike hK, hD⟩, hS.F ht⟩) hS.2.2 d) v0 v1 v2 s0 _ _ _ h hP hD va_S.rf (lv_sub hl [0, 1, 2] rfl)
def ow_dm_X4_workWithNumber : List Cond := Cond.code yX4_workWithNumber cX4_workWithNumber 6 (some .int) :: ([Cond.methodLink RX4 113 yX4_reckoned, Cond.static yX4_reckoned, Cond.initialized RX4, Cond.methodLink RX4 52 yX4_set, Cond.instanceMethod yX4_set, Cond.selects RX4 yX4_set yX4_set] ++ (ow_dm_X4_reckoned ++ (ow_dm_X4_set ++ [])))
theorem gd_dm_X4_workWithNumber : ∀ w ∈ ow_dm_X4_workWithNumber, (w.onTables && w.keeps) = true ∨ ∃ ty, w = Cond.arrayClass ty := List.forall_mem_cons.mpr ⟨good_of_word rfl, List.forall_mem_append.mpr ⟨fun w h => good_of_word (List.all_eq_true.mp (by decide +kernel) w h), List.forall_mem_append.mpr ⟨gd_dm_X4_reckoned, List.forall_mem_append.mpr ⟨gd_dm_X4_set, fun _ h => nomatch h⟩⟩⟩⟩
theorem gi_dm_X4_workWithNumber_0 : GoodIn ow_dm_X4_workWithNumber (wsS RX4 113 yX4_reckoned ow_dm_X4_reckoned) := goodIn_app (goodIn_of _ (by decide +kernel)) (fun w h => ⟨List.mem_cons_of_mem _ (List.mem_append_right _ (List.mem_append_left _ h)), gd_dm_X4_reckoned w h⟩)
theorem gi_dm_X4_workWithNumber_1 : GoodIn ow_dm_X4_workWithNumber (wsV RX4 52 RX4 yX4_set ow_dm_X4_set) := goodIn_app (goodIn_of _ (by decide +kernel)) (fun w h => ⟨List.mem_cons_of_mem _ (List.mem_append_right _ (List.mem_append_right _ (List.mem_append_left _ h))), gd_dm_X4_set w h⟩)
def dj_X4_workWithNumber_72 (p : Program) (l : Launch) (e : Env) (s : State) (m : MethodId) (args : Array Value) (below : List Frame) (meth : Method) (c : Code) (Q : State → Prop) (A : Nat → Prop) (dC : Nat → ClassId) (dI : Nat → Nat → Nat) (a : Nat → Nat) (ac : Nat → ClassId) (g : Int32 → Int32 → (St × (St × (St))) → Option (Int32 × (St × (St × (St))))) (r : Int32 × (St × (St × (St)))) : Prop := ∀ (y1 : Int32) (y2 : Int32) (s0 : St × (St × (St))) (H : Heap) (locs : List Loc) (ls : Array Slot), g y1 y2 s0 = some r → va_P (dC, dI) vwCl (dw_X4 a ac s0) H → va_D A (dw_X4 a ac s0) → va_S A s.heap H locs → lv_has ls 6 [] → W p l e (headSpec ow_dm_X4_workWithNumber ({ frames := 3, cells := 0, slots := 0, locals := 64 })).room s m args below meth c H locs 0 0 Q (F0 m 72 ls [.int y2, .int y1, .ref (a 0)])
def dj_X4_workWithNumber_65 (p : Program) (l : Launch) (e : Env) (s : State) (m : MethodId) (args : Array Value) (below : List Frame) (meth : Method) (c : Code) (Q : State → Prop) (A : Nat → Prop) (dC : Nat → ClassId) (dI : Nat → Nat → Nat) (a : Nat → Nat) (ac : Nat → ClassId) (g : Int32 → Int32 → Int32 → Int32 → (St × (St × (St))) → Option (Int32 × (St × (St × (St))))) (r : Int32 × (St × (St × (St)))) : Prop := ∀ (x2 : Int32) (x3 : Int32) (x4 : Int32) (y1 : Int32) (s0 : St × (St × (St))) (H : Heap) (locs : List Loc) (ls : Array Slot), g x2 x3 x4 y1 s0 = some r → va_P (dC, dI) vwCl (dw_X4 a ac s0) H → va_D A (dw_X4 a ac s0) → va_S A s.heap H locs → lv_has ls 6 [(2, .int x2), (3, .int x3), (4, .int x4)] → W p l e (headSpec ow_dm_X4_workWithNumber ({ frames := 3, cells := 0, slots := 0, locals := 64 })).room s m args below meth c H locs 0 0 Q (F0 m 65 ls [.int y1, .ref (a 0)])
def dj_X4_workWithNumber_41 (p : Program) (l : Launch) (e : Env) (s : State) (m : MethodId) (args : Array Value) (below : List Frame) (meth : Method) (c : Code) (Q : State → Prop) (A : Nat → Prop) (dC : Nat → ClassId) (dI : Nat → Nat → Nat) (a : Nat → Nat) (ac : Nat → ClassId) (g : Int32 → Int32 → Int32 → Int32 → Int32 → (St × (St × (St))) → Option (Int32 × (St × (St × (St))))) (r : Int32 × (St × (St × (St)))) : Prop := ∀ (x1 : Int32) (x2 : Int32) (x3 : Int32) (x4 : Int32) (x5 : Int32) (s0 : St × (St × (St))) (H : Heap) (locs : List Loc) (ls : Array Slot), g x1 x2 x3 x4 x5 s0 = some r → va_P (dC, dI) vwCl (dw_X4 a ac s0) H → va_D A (dw_X4 a ac s0) → va_S A s.heap H locs → lv_has ls 6 [(0, .ref (a 0)), (1, .int x1), (2, .int x2), (3, .int x3), (4, .int x4), (5, .int x5)] → W p l e (headSpec ow_dm_X4_workWithNumber ({ frames := 3, cells := 0, slots := 0, locals := 64 })).room s m args below meth c H locs 0 0 Q (F0 m 41 ls [])
def dj_X4_workWithNumber_39 (p : Program) (l : Launch) (e : Env) (s : State) (m : MethodId) (args : Array Value) (below : List Frame) (meth : Method) (c : Code) (Q : State → Prop) (A : Nat → Prop) (dC : Nat → ClassId) (dI : Nat → Nat → Nat) (a : Nat → Nat) (ac : Nat → ClassId) (g : (St × (St × (St))) → Option (Int32 × (St × (St × (St))))) (r : Int32 × (St × (St × (St)))) : Prop := ∀ (s0 : St × (St × (St))) (H : Heap) (locs : List Loc) (ls : Array Slot), g s0 = some r → va_P (dC, dI) vwCl (dw_X4 a ac s0) H → va_D A (dw_X4 a ac s0) → va_S A s.heap H locs → lv_has ls 6 [] → W p l e (headSpec ow_dm_X4_workWithNumber ({ frames := 3, cells := 0, slots := 0, locals := 64 })).room s m args below meth c H locs 0 0 Q (F0 m 39 ls [])
def dj_X4_workWithNumber_22 (p : Program) (l : Launch) (e : Env) (s : State) (m : MethodId) (args : Array Value) (below : List Frame) (meth : Method) (c : Code) (Q : State → Prop) (A : Nat → Prop) (dC : Nat → ClassId) (dI : Nat → Nat → Nat) (a : Nat → Nat) (ac : Nat → ClassId) (g : Int32 → Int32 → Int32 → Int32 → Int32 → (St × (St × (St))) → Option (Int32 × (St × (St × (St))))) (r : Int32 × (St × (St × (St)))) : Prop := ∀ (x1 : Int32) (x2 : Int32) (x3 : Int32) (x4 : Int32) (x5 : Int32) (s0 : St × (St × (St))) (H : Heap) (locs : List Loc) (ls : Array Slot), g x1 x2 x3 x4 x5 s0 = some r → va_P (dC, dI) vwCl (dw_X4 a ac s0) H → va_D A (dw_X4 a ac s0) → va_S A s.heap H locs → lv_has ls 6 [(0, .ref (a 0)), (1, .int x1), (2, .int x2), (3, .int x3), (4, .int x4), (5, .int x5)] → W p l e (headSpec ow_dm_X4_workWithNumber ({ frames := 3, cells := 0, slots := 0, locals := 64 })).room s m args below meth c H locs 0 0 Q (F0 m 22 ls [])
def dj_X4_workWithNumber_0 (p : Program) (l : Launch) (e : Env) (s : State) (m : MethodId) (args : Array Value) (below : List Frame) (meth : Method) (c : Code) (Q : State → Prop) (A : Nat → Prop) (dC : Nat → ClassId) (dI : Nat → Nat → Nat) (a : Nat → Nat) (ac : Nat → ClassId) (g : Int32 → Int32 → Int32 → (St × (St × (St))) → Option (Int32 × (St × (St × (St))))) (r : Int32 × (St × (St × (St)))) : Prop := ∀ (v0 : Int32) (v1 : Int32) (v2 : Int32) (s0 : St × (St × (St))) (H : Heap) (locs : List Loc) (ls : Array Slot), g v0 v1 v2 s0 = some r → va_P (dC, dI) vwCl (dw_X4 a ac s0) H → va_D A (dw_X4 a ac s0) → va_S A s.heap H locs → lv_has ls 6 [(0, .ref (a 0)), (1, .int v0), (2, .int v1), (3, .int v2)] → W p l e (headSpec ow_dm_X4_workWithNumber ({ frames := 3, cells := 0, slots := 0, locals := 64 })).room s m args below meth c H locs 0 0 Q (F0 m 0 ls [])
set_option maxHeartbeats 40000000 in
set_option maxRecDepth 100000 in
theorem db_X4_workWithNumber_72 {p : Program} {l : Launch} {e : Env} {s : State} {m : MethodId} {args : Array Value} {below : List Frame} {meth : Method} {c : Code} {Q : State → Prop} {A : Nat → Prop} {dC : Nat → ClassId} {dI : Nat → Nat → Nat} {a : Nat → Nat} {ac : Nat → ClassId} {n : Nat} {r : Int32 × (St × (St × (St)))} (C : nd_C p l s m args c A (dC, dI) cX4_workWithNumber 6 RX4 ow_dm_X4_workWithNumber (dk_X4 ac)) (K : nd_Ki p l e (headSpec ow_dm_X4_workWithNumber ({ frames := 3, cells := 0, slots := 0, locals := 64 })).room s m args below meth c Q A (dC, dI) cX4_workWithNumber .int (St × (St × (St))) (dw_X4 a ac) r) : dj_X4_workWithNumber_72 p l e s m args below meth c Q A dC dI a ac (df_X4_workWithNumber_72 n) r := by
  obtain ⟨hlt, hx, hb, hml, hown, hts, hN, hA, hK⟩ := id C
  intro y1 y2 s0 H locs ls h hP hD hS hl
  unfold df_X4_workWithNumber_72 at h
  obtain ⟨s10, hq, h⟩ := nd_b1_e h
  have hPc := hP
  have hDc := hD
  have hKc := hK
  have hFc := nd_rs hD hS hA
  refine nd_cVv (As := [.int y1, .int y2]) (rest := []) (w' := dw_X4 a ac s10) ⟨hx, hb, hml, hown, hts⟩ (fun sz => dm_X4_set l hlt dC dI a ac n (y1) (y2) s0 hq sz) (cwV 2 hts gi_dm_X4_workWithNumber_1 rfl rfl rfl (by decide +kernel) ⟨Nat.le_of_ble_eq_true rfl, Nat.le_of_ble_eq_true rfl⟩) hPc hDc hKc hS hA hN (va_recv hKc hPc (ci := 5) (q0 := 0) rfl rfl) rfl hl.1 rfl (Nat.le_of_ble_eq_true rfl) dX4_workWithNumber_72 (fun H locs hP1 hD1 hk1 hS => ?_)
  have hP := hP1
  have hD := hD1.weaken (fun k q _ h => hFc q.1 h)
  refine lv_iconst (v := 0) hx hb dX4_workWithNumber_75 (by decide) ?_
  exact K _ _ _ _ _ _ dX4_workWithNumber_76 rfl (Option.some.inj h).symm hP hD hS
set_option maxHeartbeats 40000000 in
set_option maxRecDepth 100000 in
theorem db_X4_workWithNumber_65 {p : Program} {l : Launch} {e : Env} {s : State} {m : MethodId} {args : Array Value} {below : List Frame} {meth : Method} {c : Code} {Q : State → Prop} {A : Nat → Prop} {dC : Nat → ClassId} {dI : Nat → Nat → Nat} {a : Nat → Nat} {ac : Nat → ClassId} {n : Nat} {r : Int32 × (St × (St × (St)))} (C : nd_C p l s m args c A (dC, dI) cX4_workWithNumber 6 RX4 ow_dm_X4_workWithNumber (dk_X4 ac)) (K : nd_Ki p l e (headSpec ow_dm_X4_workWithNumber ({ frames := 3, cells := 0, slots := 0, locals := 64 })).room s m args below meth c Q A (dC, dI) cX4_workWithNumber .int (St × (St × (St))) (dw_X4 a ac) r) : dj_X4_workWithNumber_65 p l e s m args below meth c Q A dC dI a ac (df_X4_workWithNumber_65 n) r := by
  obtain ⟨hlt, hx, hb, hml, hown, hts, hN, hA, hK⟩ := id C
  intro x2 x3 x4 y1 s0 H locs ls h hP hD hS hl
  unfold df_X4_workWithNumber_65 at h
  refine lv_iload_n hx hb dX4_workWithNumber_65 rfl (lv_at hl 0 rfl) ?_
  refine lv_iload_n hx hb dX4_workWithNumber_66 rfl (lv_at hl 1 rfl) ?_
  refine lv_iload hx hb dX4_workWithNumber_67 (lv_at hl 2 rfl) ?_
  obtain ⟨q6, s7, hq, h⟩ := nd_b2_e h
  have hPc : va_P (dC, dI) vwCl (dw_P a ac ()) H := nd_p0
  have hDc : va_D A (dw_P a ac ()) := nd_d0
  have hKc : va_K (dC, dI) vwCl (dk_P ac) s := nd_y0 hK
  have hFc : ∀ q, va_A (dw_P a ac ()) H.size q → A q := nd_r0 hS hA
  refine nd_cSi (As := [.int x2, .int x3, .int x4]) (rest := [.int y1, .ref (a 0)]) (q := q6) (w' := dw_P a ac s7) ⟨hx, hb, hml, hown, hts⟩ (fun sz => dm_X4_reckoned l hlt dC dI a ac n (x2) (x3) (x4) () hq sz) (cwS 3 hts gi_dm_X4_workWithNumber_0 rfl rfl rfl (by decide +kernel) ⟨Nat.le_of_ble_eq_true rfl, Nat.le_of_ble_eq_true rfl⟩) hPc hDc hKc hS hA hN rfl hl.1 rfl (Nat.le_of_ble_eq_true rfl) dX4_workWithNumber_69 (fun H locs hP1 hD1 hk1 hS => ?_)
  have hP := nd_n0 hP hk1
  exact (db_X4_workWithNumber_72 C K) (y1) (q6) s0 _ _ _ h hP hD hS (lv_sub hl [] rfl)
set_option maxHeartbeats 40000000 in
set_option maxRecDepth 100000 in
theorem db_X4_workWithNumber_41 {p : Program} {l : Launch} {e : Env} {s : State} {m : MethodId} {args : Array Value} {below : List Frame} {meth : Method} {c : Code} {Q : State → Prop} {A : Nat → Prop} {dC : Nat → ClassId} {dI : Nat → Nat → Nat} {a : Nat → Nat} {ac : Nat → ClassId} {n : Nat} {r : Int32 × (St × (St × (St)))} (C : nd_C p l s m args c A (dC, dI) cX4_workWithNumber 6 RX4 ow_dm_X4_workWithNumber (dk_X4 ac)) (K : nd_Ki p l e (headSpec ow_dm_X4_workWithNumber ({ frames := 3, cells := 0, slots := 0, locals := 64 })).room s m args below meth c Q A (dC, dI) cX4_workWithNumber .int (St × (St × (St))) (dw_X4 a ac) r) : dj_X4_workWithNumber_41 p l e s m args below meth c Q A dC dI a ac (df_X4_workWithNumber_41 n) r := by
  obtain ⟨hlt, hx, hb, hml, hown, hts, hN, hA, hK⟩ := id C
  intro x1 x2 x3 x4 x5 s0 H locs ls h hP hD hS hl
  unfold df_X4_workWithNumber_41 at h
  refine lv_aload_n hx hb dX4_workWithNumber_41 rfl (lv_at hl 0 rfl) ?_
  refine lv_iload_n hx hb dX4_workWithNumber_42 rfl (lv_at hl 1 rfl) ?_
  refine lv_iload_n hx hb dX4_workWithNumber_43 rfl (lv_at hl 2 rfl) ?_
  refine lv_iconst (v := 5) hx hb dX4_workWithNumber_44 (by decide) ?_
  refine lv_icmp_ne (tgt := 65) hx hb dX4_workWithNumber_45 (by decide) (fun c5 => ?_) (fun c5 => ?_)
  · have h := nd_neg h c5
    exact (db_X4_workWithNumber_65 C K) (x2) (x3) (x4) (x1) s0 _ _ _ h hP hD hS (lv_sub hl [2, 3, 4] rfl)
  · have h := nd_pos h c5
    refine lv_iload hx hb dX4_workWithNumber_48 (lv_at hl 5 rfl) ?_
    refine lv_bipush (v := 32) hx hb dX4_workWithNumber_50 (by decide) ?_
    refine lv_icmp_ne (tgt := 65) hx hb dX4_workWithNumber_52 (by decide) (fun c12 => ?_) (fun c12 => ?_)
    · have h := nd_neg h c12
      exact (db_X4_workWithNumber_65 C K) (x2) (x3) (x4) (x1) s0 _ _ _ h hP hD hS (lv_sub hl [2, 3, 4] rfl)
    · have h := nd_pos h c12
      refine lv_iload_n hx hb dX4_workWithNumber_55 rfl (lv_at hl 3 rfl) ?_
      refine lv_iload hx hb dX4_workWithNumber_56 (lv_at hl 4 rfl) ?_
      refine lv_bipush (v := 31) hx hb dX4_workWithNumber_58 (by decide) ?_
      refine lv_iand hx hb dX4_workWithNumber_60 ?_
      refine lv_ishr hx hb dX4_workWithNumber_61 ?_
      refine lv_goto (tgt := 72) hx hb dX4_workWithNumber_62 (by decide) ?_
      exact (db_X4_workWithNumber_72 C K) (x1) (((x3 : Int32) >>> (((x4 &&& 31) : Int32) &&& 31))) s0 _ _ _ h hP hD hS (lv_sub hl [] rfl)
set_option maxHeartbeats 40000000 in
set_option maxRecDepth 100000 in
theorem db_X4_workWithNumber_39 {p : Program} {l : Launch} {e : Env} {s : State} {m : MethodId} {args : Array Value} {below : List Frame} {meth : Method} {c : Code} {Q : State → Prop} {A : Nat → Prop} {dC : Nat → ClassId} {dI : Nat → Nat → Nat} {a : Nat → Nat} {ac : Nat → ClassId} {n : Nat} {r : Int32 × (St × (St × (St)))} (C : nd_C p l s m args c A (dC, dI) cX4_workWithNumber 6 RX4 ow_dm_X4_workWithNumber (dk_X4 ac)) (K : nd_Ki p l e (headSpec ow_dm_X4_workWithNumber ({ frames := 3, cells := 0, slots := 0, locals := 64 })).room s m args below meth c Q A (dC, dI) cX4_workWithNumber .int (St × (St × (St))) (dw_X4 a ac) r) : dj_X4_workWithNumber_39 p l e s m args below meth c Q A dC dI a ac (df_X4_workWithNumber_39 n) r := by
  obtain ⟨hlt, hx, hb, hml, hown, hts, hN, hA, hK⟩ := id C
  intro s0 H locs ls h hP hD hS hl
  unfold df_X4_workWithNumber_39 at h
  refine lv_iconst (v := 4) hx hb dX4_workWithNumber_39 (by decide) ?_
  exact K _ _ _ _ _ _ dX4_workWithNumber_40 rfl (Option.some.inj h).symm hP hD hS
set_option maxHeartbeats 40000000 in
set_option maxRecDepth 100000 in
theorem db_X4_workWithNumber_22 {p : Program} {l : Launch} {e : Env} {s : State} {m : MethodId} {args : Array Value} {below : List Frame} {meth : Method} {c : Code} {Q : State → Prop} {A : Nat → Prop} {dC : Nat → ClassId} {dI : Nat → Nat → Nat} {a : Nat → Nat} {ac : Nat → ClassId} {n : Nat} {r : Int32 × (St × (St × (St)))} (C : nd_C p l s m args c A (dC, dI) cX4_workWithNumber 6 RX4 ow_dm_X4_workWithNumber (dk_X4 ac)) (K : nd_Ki p l e (headSpec ow_dm_X4_workWithNumber ({ frames := 3, cells := 0, slots := 0, locals := 64 })).room s m args below meth c Q A (dC, dI) cX4_workWithNumber .int (St × (St × (St))) (dw_X4 a ac) r) : dj_X4_workWithNumber_22 p l e s m args below meth c Q A dC dI a ac (df_X4_workWithNumber_22 n) r := by
  obtain ⟨hlt, hx, hb, hml, hown, hts, hN, hA, hK⟩ := id C
  intro x1 x2 x3 x4 x5 s0 H locs ls h hP hD hS hl
  unfold df_X4_workWithNumber_22 at h
  refine lv_iload_n hx hb dX4_workWithNumber_22 rfl (lv_at hl 2 rfl) ?_
  refine lv_iconst (v := 5) hx hb dX4_workWithNumber_23 (by decide) ?_
  refine lv_icmp_ne (tgt := 41) hx hb dX4_workWithNumber_24 (by decide) (fun c4 => ?_) (fun c4 => ?_)
  · have h := nd_neg h c4
    exact (db_X4_workWithNumber_41 C K) (x1) (x2) (x3) (x4) (x5) s0 _ _ _ h hP hD hS (lv_sub hl [0, 1, 2, 3, 4, 5] rfl)
  · have h := nd_pos h c4
    refine lv_iload hx hb dX4_workWithNumber_27 (lv_at hl 5 rfl) ?_
    refine lv_if_eq (tgt := 41) hx hb dX4_workWithNumber_29 (by decide) (fun c13 => ?_) (fun c13 => ?_)
    · have h := nd_pos h c13
      exact (db_X4_workWithNumber_41 C K) (x1) (x2) (x3) (x4) (x5) s0 _ _ _ h hP hD hS (lv_sub hl [0, 1, 2, 3, 4, 5] rfl)
    · have h := nd_neg h c13
      refine lv_iload hx hb dX4_workWithNumber_32 (lv_at hl 5 rfl) ?_
      refine lv_bipush (v := 32) hx hb dX4_workWithNumber_34 (by decide) ?_
      refine lv_icmp_eq (tgt := 41) hx hb dX4_workWithNumber_36 (by decide) (fun c14 => ?_) (fun c14 => ?_)
      · have h := nd_pos h c14
        exact (db_X4_workWithNumber_41 C K) (x1) (x2) (x3) (x4) (x5) s0 _ _ _ h hP hD hS (lv_sub hl [0, 1, 2, 3, 4, 5] rfl)
      · have h := nd_neg h c14
        exact (db_X4_workWithNumber_39 C K)  s0 _ _ _ h hP hD hS (lv_sub hl [] rfl)
set_option maxHeartbeats 40000000 in
set_option maxRecDepth 100000 in
theorem db_X4_workWithNumber_0 {p : Program} {l : Launch} {e : Env} {s : State} {m : MethodId} {args : Array Value} {below : List Frame} {meth : Method} {c : Code} {Q : State → Prop} {A : Nat → Prop} {dC : Nat → ClassId} {dI : Nat → Nat → Nat} {a : Nat → Nat} {ac : Nat → ClassId} {n : Nat} {r : Int32 × (St × (St × (St)))} (C : nd_C p l s m args c A (dC, dI) cX4_workWithNumber 6 RX4 ow_dm_X4_workWithNumber (dk_X4 ac)) (K : nd_Ki p l e (headSpec ow_dm_X4_workWithNumber ({ frames := 3, cells := 0, slots := 0, locals := 64 })).room s m args below meth c Q A (dC, dI) cX4_workWithNumber .int (St × (St × (St))) (dw_X4 a ac) r) : dj_X4_workWithNumber_0 p l e s m args below meth c Q A dC dI a ac (df_X4_workWithNumber_0 n) r := by
  obtain ⟨hlt, hx, hb, hml, hown, hts, hN, hA, hK⟩ := id C
  intro v0 v1 v2 s0 H locs ls h hP hD hS hl
  unfold df_X4_workWithNumber_0 at h
  refine lv_iload_n hx hb dX4_workWithNumber_0 rfl (lv_at hl 1 rfl) ?_
  refine lv_bipush (v := 20) hx hb dX4_workWithNumber_1 (by decide) ?_
  refine lv_ishr hx hb dX4_workWithNumber_3 ?_
  refine lv_topi (fun z1 ez1 => ?_)
  have h := nd_at h ez1
  refine lv_istore (lv' := [(4, .int z1), (0, .ref (a 0)), (1, .int v0), (2, .int v1), (3, .int v2)]) hx hb dX4_workWithNumber_4 hl (by decide) rfl (fun ls hl => ?_)
  refine lv_iload_n hx hb dX4_workWithNumber_6 rfl (lv_at hl 2 rfl) ?_
  refine lv_bipush (v := 25) hx hb dX4_workWithNumber_7 (by decide) ?_
  refine lv_iushr hx hb dX4_workWithNumber_9 rfl ?_
  refine lv_topi (fun z2 ez2 => ?_)
  have h := nd_at h ez2
  refine lv_istore (lv' := [(5, .int z2), (4, .int z1), (0, .ref (a 0)), (1, .int v0), (2, .int v1), (3, .int v2)]) hx hb dX4_workWithNumber_10 hl (by decide) rfl (fun ls hl => ?_)
  refine lv_iload_n hx hb dX4_workWithNumber_12 rfl (lv_at hl 4 rfl) ?_
  refine lv_iconst (v := 1) hx hb dX4_workWithNumber_13 (by decide) ?_
  refine lv_icmp_ne (tgt := 22) hx hb dX4_workWithNumber_14 (by decide) (fun c3 => ?_) (fun c3 => ?_)
  · have h := nd_neg h c3
    exact (db_X4_workWithNumber_22 C K) (v0) (v1) (v2) (z1) (z2) s0 _ _ _ h hP hD hS (lv_sub hl [2, 3, 4, 5, 1, 0] rfl)
  · have h := nd_pos h c3
    refine lv_iload hx hb dX4_workWithNumber_17 (lv_at hl 0 rfl) ?_
    refine lv_if_ne (tgt := 39) hx hb dX4_workWithNumber_19 (by decide) (fun c15 => ?_) (fun c15 => ?_)
    · have h := nd_neg h c15
      exact (db_X4_workWithNumber_39 C K)  s0 _ _ _ h hP hD hS (lv_sub hl [] rfl)
    · have h := nd_pos h c15
      exact (db_X4_workWithNumber_22 C K) (v0) (v1) (v2) (z1) (z2) s0 _ _ _ h hP hD hS (lv_sub hl [2, 3, 4, 5, 1, 0] rfl)
set_option maxHeartbeats 40000000 in
set_option maxRecDepth 100000 in
theorem dm_X4_workWithNumber (l : Launch) (hlt : l.stackTraces = false) (dC : Nat → ClassId) (dI : Nat → Nat → Nat) (a : Nat → Nat) (ac : Nat → ClassId) (n : Nat) (v0 : Int32) (v1 : Int32) (v2 : Int32) (s0 : St × (St × (St))) {r : Int32 × (St × (St × (St)))} (h : df_X4_workWithNumber n v0 v1 v2 s0 = some r) (sz : Nat) : Met l yX4_workWithNumber ow_dm_X4_workWithNumber ({ frames := 3, cells := 0, slots := 0, locals := 64 }) (va_Pc [.ref (a 0), .int v0, .int v1, .int v2] (fun U => U.heap.size = sz ∧ va_P (dC, dI) vwCl (dw_X4 a ac s0) U.heap ∧ va_K (dC, dI) vwCl (dk_X4 ac) U ∧ va_D (fun _ => True) (dw_X4 a ac s0) ∧ nv_E dI (va_A (dw_X4 a ac s0) sz) U)) (va_Qi (fun x _ => x = r.1) (fun (_ : Unit) t => va_P (dC, dI) vwCl (dw_X4 a ac r.2) t.heap ∧ va_K (dC, dI) vwCl (dk_X4 ac) t ∧ va_D (va_A (dw_X4 a ac s0) sz) (dw_X4 a ac r.2)) (va_A (dw_X4 a ac s0) sz)) 0 0 (va_A (dw_X4 a ac s0) sz) := by
  refine Met.ofW (cc := cX4_workWithNumber) (maxL := 6) (ret := (some .int)) (by decide) rfl ?_
  intro p e s m args below meth c s₁ B hml hv
  obtain ⟨rfl, hsz, hP, hK, hD0, hN⟩ := hv
  have hx := B.exec
  have hb := B.bytes
  have hr := B.returns
  have hts := atoms_spec (ws := ow_dm_X4_workWithNumber) B.pre
  have hown : s.vm.findClass RX4 = some m.cls := findClass_of_methodNamed B.named
  have hlocks := B.notSynchronized
  subst hsz
  have hD := hD0.self (sz := s.heap.size)
  generalize hAe : va_A (dw_X4 a ac s0) s.heap.size = A at hD hN ⊢
  have hA : ∀ q : Nat, s.heap.size ≤ q → A q := fun q h => by rw [← hAe]; exact Or.inr h
  have hl := lv_entry ([.ref (a 0), .int v0, .int v1, .int v2]) (n := 6) (Nat.le_of_ble_eq_true rfl)
  rw [lg_entry_eq]
  generalize (lg_sl ([.ref (a 0), .int v0, .int v1, .int v2]) ++ List.replicate (6 - (lg_sl ([.ref (a 0), .int v0, .int v1, .int v2])).length) Slot.unset).toArray = ls at hl ⊢
  have hl : lv_has ls 6 [(0, .ref (a 0)), (1, .int v0), (2, .int v1), (3, .int v2)] := hl
  exact db_X4_workWithNumber_0 (dC := dC) (dI := dI) (a := a) (ac := ac) (n := n) (r := r) ⟨hlt, hx, hb, hml, hown, hts, hN, hA, hK⟩ (fun pc v τ H locs ls d z er hP hD hS => by subst er; exact W.zret (v := v) hx hb hr z (fun t ht hW => ⟨⟨v, (), rfl, rfl, by rw [ht]; exact hP, va_K.moved hW.alike hK, hD⟩, hS.F ht⟩) hS.2.2 d) v0 v1 v2 s0 _ _ _ h hP hD va_S.rf (lv_sub hl [0, 1, 2, 3] rfl)
def ow_dm_X6_own : List Cond := Cond.code yX6_own cX6_own 6 (some .boolean) :: ([Cond.fieldLink RX6 17 "TimeMachine$Machine" "page" "[I", Cond.fieldLink RX6 14 "TimeMachine$Machine" "users" "[I", Cond.fieldLink RX6 10 "TimeMachine$Machine" "word" "[I", Cond.methodLink RX6 95 arraycopyName, .native arraycopyName, Cond.static arraycopyName, Cond.initialized "java/lang/System", Cond.fieldLink RX6 52 "TimeMachine$Machine" "framesUsed" "I"] ++ (u_ws RX6 TX6 20 ++ []))
theorem gd_dm_X6_own : ∀ w ∈ ow_dm_X6_own, (w.onTables && w.keeps) = true ∨ ∃ ty, w = Cond.arrayClass ty := List.forall_mem_cons.mpr ⟨good_of_word rfl, List.forall_mem_append.mpr ⟨fun w h => good_of_word (List.all_eq_true.mp (by decide +kernel) w h), List.forall_mem_append.mpr ⟨gu_X6, fun _ h => nomatch h⟩⟩⟩
theorem hi_dm_X6_own_X6 : ∀ w ∈ u_ws RX6 TX6 20, w ∈ ow_dm_X6_own := fun w h => List.mem_cons_of_mem _ (List.mem_append_right _ (List.mem_append_left _ h))
def dj_X6_own_39 (p : Program) (l : Launch) (e : Env) (s : State) (m : MethodId) (args : Array Value) (below : List Frame) (meth : Method) (c : Code) (Q : State → Prop) (A : Nat → Prop) (dC : Nat → ClassId) (dI : Nat → Nat → Nat) (a : Nat → Nat) (ac : Nat → ClassId) (g : Int32 → Int32 → Int32 → (St × (St)) → Option (Int32 × (St × (St)))) (r : Int32 × (St × (St))) : Prop := ∀ (x3 : Int32) (x4 : Int32) (x5 : Int32) (s0 : St × (St)) (H : Heap) (locs : List Loc) (ls : Array Slot), g x3 x4 x5 s0 = some r → va_P (dC, dI) vwCl (dw_X6 a ac s0) H → va_D A (dw_X6 a ac s0) → va_S A s.heap H locs → lv_has ls 6 [(0, .ref (a 0)), (3, .int x3), (4, .int x4), (5, .int x5)] → W p l e (headSpec ow_dm_X6_own ({ frames := 1, cells := 0, slots := 0, locals := 40 })).room s m args below meth c H locs 0 0 Q (F0 m 39 ls [])
def dj_X6_own_0 (p : Program) (l : Launch) (e : Env) (s : State) (m : MethodId) (args : Array Value) (below : List Frame) (meth : Method) (c : Code) (Q : State → Prop) (A : Nat → Prop) (dC : Nat → ClassId) (dI : Nat → Nat → Nat) (a : Nat → Nat) (ac : Nat → ClassId) (g : Int32 → Int32 → (St × (St)) → Option (Int32 × (St × (St)))) (r : Int32 × (St × (St))) : Prop := ∀ (v0 : Int32) (v1 : Int32) (s0 : St × (St)) (H : Heap) (locs : List Loc) (ls : Array Slot), g v0 v1 s0 = some r → va_P (dC, dI) vwCl (dw_X6 a ac s0) H → va_D A (dw_X6 a ac s0) → va_S A s.heap H locs → lv_has ls 6 [(0, .ref (a 0)), (1, .int v0), (2, .int v1)] → W p l e (headSpec ow_dm_X6_own ({ frames := 1, cells := 0, slots := 0, locals := 40 })).room s m args below meth c H locs 0 0 Q (F0 m 0 ls [])
set_option maxHeartbeats 40000000 in
set_option maxRecDepth 100000 in
theorem dB_X6_own_39 {p : Program} {l : Launch} {e : Env} {s : State} {m : MethodId} {args : Array Value} {below : List Frame} {meth : Method} {c : Code} {Q : State → Prop} {A : Nat → Prop} {dC : Nat → ClassId} {dI : Nat → Nat → Nat} {a : Nat → Nat} {ac : Nat → ClassId} {n : Nat} {r : Int32 × (St × (St))} (C : nd_C p l s m args c A (dC, dI) cX6_own 6 RX6 ow_dm_X6_own (dk_X6 ac)) (K : nd_Ki p l e (headSpec ow_dm_X6_own ({ frames := 1, cells := 0, slots := 0, locals := 40 })).room s m args below meth c Q A (dC, dI) cX6_own .boolean (St × (St)) (dw_X6 a ac) r) {g39 : Int32 → Int32 → Int32 → (St × (St)) → Option (Int32 × (St × (St)))} (J39 : dj_X6_own_39 p l e s m args below meth c Q A dC dI a ac g39 r) : dj_X6_own_39 p l e s m args below meth c Q A dC dI a ac (dF_X6_own_39 n g39) r := by
  obtain ⟨hlt, hx, hb, hml, hown, hts, hN, hA, hK⟩ := id C
  intro x3 x4 x5 s0 H locs ls h hP hD hS hl
  unfold dF_X6_own_39 at h
  refine lv_iload hx hb dX6_own_39 (lv_at hl 3 rfl) ?_
  refine lv_sipush (v := 256) hx hb dX6_own_41 (by decide) ?_
  refine lv_icmp_ge (tgt := 140) hx hb dX6_own_44 (by decide) (fun c6 => ?_) (fun c6 => ?_)
  · have h := nd_pos h c6
    refine lv_iconst (v := 0) hx hb dX6_own_140 (by decide) ?_
    exact K _ _ _ _ _ _ dX6_own_141 (by first | rfl | decide) (Option.some.inj h).symm hP hD hS
  · have h := nd_neg h c6
    refine lv_aload_n hx hb dX6_own_47 rfl (lv_at hl 0 rfl) ?_
    refine va_get (D := (dC, dI)) (ci := 7) (v := .ref (a 2)) (C := RX6) (T := TX6) (N := 20) hx hb hts hi_dm_X6_own_X6 hown hK hP 0 rfl rfl 1 (by decide) (hts (.fieldLink RX6 14 "TimeMachine$Machine" "users" "[I") (List.mem_of_getElem? (i := 2) rfl)) (fun _ h9 => h9) rfl dX6_own_48 ?_
    refine lv_iload hx hb dX6_own_51 (lv_at hl 3 rfl) ?_
    obtain ⟨i7, h⟩ := nd_ck_e h
    refine va_iald (i := x5) hx hb hK hP 2 1 rfl rfl i7 dX6_own_53 ?_
    refine lv_if_ne (tgt := 134) hx hb dX6_own_54 (by decide) (fun c8 => ?_) (fun c8 => ?_)
    · have h := nd_neg h c8
      obtain ⟨z9, ez9, h⟩ := nd_let_e h
      refine lv_iinc (v := z9) (lv' := [(5, .int z9), (0, .ref (a 0)), (3, .int x3), (4, .int x4)]) hx hb dX6_own_134 hl (k := 3) rfl (by rw [ez9]) (by decide) rfl (fun ls hl => ?_)
      refine lv_goto (tgt := 39) hx hb dX6_own_137 (by decide) ?_
      exact (J39) (x3) (x4) (z9) s0 _ _ _ h hP hD hS (lv_sub hl [1, 2, 3, 0] rfl)
    · have h := nd_pos h c8
      refine lv_aload_n hx hb dX6_own_57 rfl (lv_at hl 0 rfl) ?_
      refine va_get (D := (dC, dI)) (ci := 7) (v := .ref (a 1)) (C := RX6) (T := TX6) (N := 20) hx hb hts hi_dm_X6_own_X6 hown hK hP 0 rfl rfl 0 (by decide) (hts (.fieldLink RX6 10 "TimeMachine$Machine" "word" "[I") (List.mem_of_getElem? (i := 3) rfl)) (fun _ h9 => h9) rfl dX6_own_58 ?_
      refine lv_iload hx hb dX6_own_61 (lv_at hl 2 rfl) ?_
      refine lv_sipush (v := 256) hx hb dX6_own_63 (by decide) ?_
      refine lv_imul hx hb dX6_own_66 ?_
      refine lv_aload_n hx hb dX6_own_67 rfl (lv_at hl 0 rfl) ?_
      refine va_get (D := (dC, dI)) (ci := 7) (v := .ref (a 1)) (C := RX6) (T := TX6) (N := 20) hx hb hts hi_dm_X6_own_X6 hown hK hP 0 rfl rfl 0 (by decide) (hts (.fieldLink RX6 10 "TimeMachine$Machine" "word" "[I") (List.mem_of_getElem? (i := 3) rfl)) (fun _ h9 => h9) rfl dX6_own_68 ?_
      refine lv_iload hx hb dX6_own_71 (lv_at hl 3 rfl) ?_
      refine lv_sipush (v := 256) hx hb dX6_own_73 (by decide) ?_
      refine lv_imul hx hb dX6_own_76 ?_
      refine lv_sipush (v := 256) hx hb dX6_own_77 (by decide) ?_
      obtain ⟨k10, h⟩ := nd_cp_e h
      refine va_copyi (sp := (x4 * 256)) (dp := (x5 * 256)) (n := 256) hx hb (by rw [hml]; exact hl.1.symm) hown (hts (.methodLink RX6 95 arraycopyName) (List.mem_of_getElem? (i := 4) rfl)) (hts (.native arraycopyName) (List.mem_of_getElem? (i := 5) rfl)) (hts (.static arraycopyName) (List.mem_of_getElem? (i := 6) rfl)) (hts (.initialized "java/lang/System") (List.mem_of_getElem? (i := 7) rfl)) hK hP hD hS 1 1 0 0 rfl rfl rfl rfl rfl k10.1 k10.2.1 k10.2.2.1 k10.2.2.2.1 k10.2.2.2.2 (fun _ _ => rfl) (Nat.le_of_ble_eq_true rfl) (by decide +kernel) dX6_own_80 (fun H locs hP hD hS => ?_)
      obtain ⟨s11, es11, h⟩ := nd_let_e h
      have hP : va_P (dC, dI) vwCl (dw_X6 a ac s11) H := by rw [es11]; exact hP
      have hD : va_D A (dw_X6 a ac s11) := by rw [es11]; exact hD
      refine lv_aload_n hx hb dX6_own_83 rfl (lv_at hl 0 rfl) ?_
      refine va_get (D := (dC, dI)) (ci := 7) (v := .ref (a 2)) (C := RX6) (T := TX6) (N := 20) hx hb hts hi_dm_X6_own_X6 hown hK hP 0 rfl rfl 1 (by decide) (hts (.fieldLink RX6 14 "TimeMachine$Machine" "users" "[I") (List.mem_of_getElem? (i := 2) rfl)) (fun _ h9 => h9) rfl dX6_own_84 ?_
      refine lv_iload hx hb dX6_own_87 (lv_at hl 2 rfl) ?_
      refine lv_dup2_11 hx hb dX6_own_89 rfl rfl ?_
      obtain ⟨i12, h⟩ := nd_ck_e h
      refine va_iald (i := x4) hx hb hK hP 2 1 rfl rfl i12 dX6_own_90 ?_
      refine lv_iconst (v := 1) hx hb dX6_own_91 (by decide) ?_
      refine lv_isub hx hb dX6_own_92 ?_
      obtain ⟨i13, h⟩ := nd_ck_e h
      refine va_iast (i := x4) (x := ((sR s11.1 1 (Int32.toNatClampNeg x4)) - 1)) hx hb hK hP hD hS 2 1 rfl rfl i13 dX6_own_93 (fun H locs hP hD hS => ?_)
      obtain ⟨s14, es14, h⟩ := nd_let_e h
      have hP : va_P (dC, dI) vwCl (dw_X6 a ac s14) H := by rw [es14]; exact hP
      have hD : va_D A (dw_X6 a ac s14) := by rw [es14]; exact hD
      refine lv_aload_n hx hb dX6_own_94 rfl (lv_at hl 0 rfl) ?_
      refine va_get (D := (dC, dI)) (ci := 7) (v := .ref (a 2)) (C := RX6) (T := TX6) (N := 20) hx hb hts hi_dm_X6_own_X6 hown hK hP 0 rfl rfl 1 (by decide) (hts (.fieldLink RX6 14 "TimeMachine$Machine" "users" "[I") (List.mem_of_getElem? (i := 2) rfl)) (fun _ h9 => h9) rfl dX6_own_95 ?_
      refine lv_iload hx hb dX6_own_98 (lv_at hl 3 rfl) ?_
      refine lv_iconst (v := 1) hx hb dX6_own_100 (by decide) ?_
      obtain ⟨i15, h⟩ := nd_ck_e h
      refine va_iast (i := x5) (x := 1) hx hb hK hP hD hS 2 1 rfl rfl i15 dX6_own_101 (fun H locs hP hD hS => ?_)
      obtain ⟨s16, es16, h⟩ := nd_let_e h
      have hP : va_P (dC, dI) vwCl (dw_X6 a ac s16) H := by rw [es16]; exact hP
      have hD : va_D A (dw_X6 a ac s16) := by rw [es16]; exact hD
      refine lv_aload_n hx hb dX6_own_102 rfl (lv_at hl 0 rfl) ?_
      refine lv_dup hx hb dX6_own_103 rfl ?_
      refine va_get (D := (dC, dI)) (ci := 7) (v := .int (sI s16.1 0)) (C := RX6) (T := TX6) (N := 20) hx hb hts hi_dm_X6_own_X6 hown hK hP 0 rfl rfl 3 (by decide) (hts (.fieldLink RX6 52 "TimeMachine$Machine" "framesUsed" "I") (List.mem_of_getElem? (i := 8) rfl)) (fun _ h9 => h9) rfl dX6_own_104 ?_
      refine lv_iconst (v := 1) hx hb dX6_own_107 (by decide) ?_
      refine lv_iadd hx hb dX6_own_108 ?_
      refine va_put (D := (dC, dI)) (ci := 7) (v := .int ((sI s16.1 0) + 1)) (ty := .int) (C := RX6) (T := TX6) (N := 20) hx hb hts hi_dm_X6_own_X6 tyX6 tyX6_ok nmX6 hown hK hP hD hS 0 rfl rfl 3 (by decide) (hts (.fieldLink RX6 52 "TimeMachine$Machine" "framesUsed" "I") (List.mem_of_getElem? (i := 8) rfl)) (fun _ h9 => h9) rfl (by decide +kernel) rfl rfl (Nat.le_of_ble_eq_true rfl) dX6_own_109 (fun H locs hP hD hS => ?_)
      obtain ⟨s17, es17, h⟩ := nd_let_e h
      have hP : va_P (dC, dI) vwCl (dw_X6 a ac s17) H := by rw [es17]; exact hP
      have hD : va_D A (dw_X6 a ac s17) := by rw [es17]; exact hD
      refine lv_aload_n hx hb dX6_own_112 rfl (lv_at hl 0 rfl) ?_
      refine va_get (D := (dC, dI)) (ci := 7) (v := .ref (a 3)) (C := RX6) (T := TX6) (N := 20) hx hb hts hi_dm_X6_own_X6 hown hK hP 0 rfl rfl 2 (by decide) (hts (.fieldLink RX6 17 "TimeMachine$Machine" "page" "[I") (List.mem_of_getElem? (i := 1) rfl)) (fun _ h9 => h9) rfl dX6_own_113 ?_
      refine lv_iload_n hx hb dX6_own_116 rfl (lv_at hl 1 rfl) ?_
      refine lv_iload hx hb dX6_own_117 (lv_at hl 3 rfl) ?_
      refine lv_iconst (v := 3) hx hb dX6_own_119 (by decide) ?_
      refine lv_ishl hx hb dX6_own_120 ?_
      refine lv_aload_n hx hb dX6_own_121 rfl (lv_at hl 0 rfl) ?_
      refine va_get (D := (dC, dI)) (ci := 7) (v := .ref (a 3)) (C := RX6) (T := TX6) (N := 20) hx hb hts hi_dm_X6_own_X6 hown hK hP 0 rfl rfl 2 (by decide) (hts (.fieldLink RX6 17 "TimeMachine$Machine" "page" "[I") (List.mem_of_getElem? (i := 1) rfl)) (fun _ h9 => h9) rfl dX6_own_122 ?_
      refine lv_iload_n hx hb dX6_own_125 rfl (lv_at hl 1 rfl) ?_
      obtain ⟨i18, h⟩ := nd_ck_e h
      refine va_iald (i := x3) hx hb hK hP 3 2 rfl rfl i18 dX6_own_126 ?_
      refine lv_bipush (v := 7) hx hb dX6_own_127 (by decide) ?_
      refine lv_iand hx hb dX6_own_129 ?_
      refine lv_ior hx hb dX6_own_130 ?_
      obtain ⟨i19, h⟩ := nd_ck_e h
      refine va_iast (i := x3) (x := (((x5 : Int32) <<< ((3 : Int32) &&& 31)) ||| ((sR s17.1 2 (Int32.toNatClampNeg x3)) &&& 7))) hx hb hK hP hD hS 3 2 rfl rfl i19 dX6_own_131 (fun H locs hP hD hS => ?_)
      obtain ⟨s20, es20, h⟩ := nd_let_e h
      have hP : va_P (dC, dI) vwCl (dw_X6 a ac s20) H := by rw [es20]; exact hP
      have hD : va_D A (dw_X6 a ac s20) := by rw [es20]; exact hD
      refine lv_iconst (v := 1) hx hb dX6_own_132 (by decide) ?_
      exact K _ _ _ _ _ _ dX6_own_133 (by first | rfl | decide) (Option.some.inj h).symm hP hD hS
set_option maxHeartbeats 40000000 in
set_option maxRecDepth 100000 in
theorem db_X6_own_39 {p : Program} {l : Launch} {e : Env} {s : State} {m : MethodId} {args : Array Value} {below : List Frame} {meth : Method} {c : Code} {Q : State → Prop} {A : Nat → Prop} {dC : Nat → ClassId} {dI : Nat → Nat → Nat} {a : Nat → Nat} {ac : Nat → ClassId} {n : Nat} {r : Int32 × (St × (St))} (C : nd_C p l s m args c A (dC, dI) cX6_own 6 RX6 ow_dm_X6_own (dk_X6 ac)) (K : nd_Ki p l e (headSpec ow_dm_X6_own ({ frames := 1, cells := 0, slots := 0, locals := 40 })).room s m args below meth c Q A (dC, dI) cX6_own .boolean (St × (St)) (dw_X6 a ac) r) (k : Nat) : dj_X6_own_39 p l e s m args below meth c Q A dC dI a ac (df_X6_own_39 n k) r := by
  induction k with
  | zero => intro x3 x4 x5 s0 H locs ls h; exact nomatch (show (none : Option (Int32 × (St × (St)))) = some r from h)
  | succ k ih => exact dB_X6_own_39 C K ih
set_option maxHeartbeats 40000000 in
set_option maxRecDepth 100000 in
theorem db_X6_own_0 {p : Program} {l : Launch} {e : Env} {s : State} {m : MethodId} {args : Array Value} {below : List Frame} {meth : Method} {c : Code} {Q : State → Prop} {A : Nat → Prop} {dC : Nat → ClassId} {dI : Nat → Nat → Nat} {a : Nat → Nat} {ac : Nat → ClassId} {n : Nat} {r : Int32 × (St × (St))} (C : nd_C p l s m args c A (dC, dI) cX6_own 6 RX6 ow_dm_X6_own (dk_X6 ac)) (K : nd_Ki p l e (headSpec ow_dm_X6_own ({ frames := 1, cells := 0, slots := 0, locals := 40 })).room s m args below meth c Q A (dC, dI) cX6_own .boolean (St × (St)) (dw_X6 a ac) r) : dj_X6_own_0 p l e s m args below meth c Q A dC dI a ac (df_X6_own_0 n) r := by
  obtain ⟨hlt, hx, hb, hml, hown, hts, hN, hA, hK⟩ := id C
  intro v0 v1 s0 H locs ls h hP hD hS hl
  unfold df_X6_own_0 at h
  refine lv_iload_n hx hb dX6_own_0 rfl (lv_at hl 1 rfl) ?_
  refine lv_bipush (v := 6) hx hb dX6_own_1 (by decide) ?_
  refine lv_ishl hx hb dX6_own_3 ?_
  refine lv_iload_n hx hb dX6_own_4 rfl (lv_at hl 2 rfl) ?_
  refine lv_bipush (v := 10) hx hb dX6_own_5 (by decide) ?_
  refine lv_iushr hx hb dX6_own_7 rfl ?_
  refine lv_bipush (v := 63) hx hb dX6_own_8 (by decide) ?_
  refine lv_iand hx hb dX6_own_10 ?_
  refine lv_ior hx hb dX6_own_11 ?_
  refine lv_topi (fun z1 ez1 => ?_)
  have h := nd_at h ez1
  refine lv_istore_n (lv' := [(3, .int z1), (0, .ref (a 0)), (1, .int v0), (2, .int v1)]) hx hb dX6_own_12 rfl hl (by decide) rfl (fun ls hl => ?_)
  refine lv_aload_n hx hb dX6_own_13 rfl (lv_at hl 1 rfl) ?_
  refine va_get (D := (dC, dI)) (ci := 7) (v := .ref (a 3)) (C := RX6) (T := TX6) (N := 20) hx hb hts hi_dm_X6_own_X6 hown hK hP 0 rfl rfl 2 (by decide) (hts (.fieldLink RX6 17 "TimeMachine$Machine" "page" "[I") (List.mem_of_getElem? (i := 1) rfl)) (fun _ h9 => h9) rfl dX6_own_14 ?_
  refine lv_iload_n hx hb dX6_own_17 rfl (lv_at hl 0 rfl) ?_
  obtain ⟨i2, h⟩ := nd_ck_e h
  refine va_iald (i := z1) hx hb hK hP 3 2 rfl rfl i2 dX6_own_18 ?_
  refine lv_iconst (v := 3) hx hb dX6_own_19 (by decide) ?_
  refine lv_ishr hx hb dX6_own_20 ?_
  refine lv_topi (fun z3 ez3 => ?_)
  have h := nd_at h ez3
  refine lv_istore (lv' := [(4, .int z3), (3, .int z1), (0, .ref (a 0)), (1, .int v0), (2, .int v1)]) hx hb dX6_own_21 hl (by decide) rfl (fun ls hl => ?_)
  refine lv_aload_n hx hb dX6_own_23 rfl (lv_at hl 2 rfl) ?_
  refine va_get (D := (dC, dI)) (ci := 7) (v := .ref (a 2)) (C := RX6) (T := TX6) (N := 20) hx hb hts hi_dm_X6_own_X6 hown hK hP 0 rfl rfl 1 (by decide) (hts (.fieldLink RX6 14 "TimeMachine$Machine" "users" "[I") (List.mem_of_getElem? (i := 2) rfl)) (fun _ h9 => h9) rfl dX6_own_24 ?_
  refine lv_iload hx hb dX6_own_27 (lv_at hl 0 rfl) ?_
  obtain ⟨i4, h⟩ := nd_ck_e h
  refine va_iald (i := z3) hx hb hK hP 2 1 rfl rfl i4 dX6_own_29 ?_
  refine lv_iconst (v := 1) hx hb dX6_own_30 (by decide) ?_
  refine lv_icmp_gt (tgt := 36) hx hb dX6_own_31 (by decide) (fun c5 => ?_) (fun c5 => ?_)
  · have h := nd_pos h c5
    refine lv_iconst (v := 0) hx hb dX6_own_36 (by decide) ?_
    refine lv_istore (lv' := [(5, .int 0), (4, .int z3), (3, .int z1), (0, .ref (a 0)), (1, .int v0), (2, .int v1)]) hx hb dX6_own_37 hl (by decide) rfl (fun ls hl => ?_)
    exact (db_X6_own_39 C K n) (z1) (z3) (0) s0 _ _ _ h hP hD hS (lv_sub hl [3, 2, 1, 0] rfl)
  · have h := nd_neg h c5
    refine lv_iconst (v := 1) hx hb dX6_own_34 (by decide) ?_
    exact K _ _ _ _ _ _ dX6_own_35 (by first | rfl | decide) (Option.some.inj h).symm hP hD hS
set_option maxHeartbeats 40000000 in
set_option maxRecDepth 100000 in
theorem dm_X6_own (l : Launch) (hlt : l.stackTraces = false) (dC : Nat → ClassId) (dI : Nat → Nat → Nat) (a : Nat → Nat) (ac : Nat → ClassId) (n : Nat) (v0 : Int32) (v1 : Int32) (s0 : St × (St)) {r : Int32 × (St × (St))} (h : df_X6_own n v0 v1 s0 = some r) (sz : Nat) : Met l yX6_own ow_dm_X6_own ({ frames := 1, cells := 0, slots := 0, locals := 40 }) (va_Pc [.ref (a 0), .int v0, .int v1] (fun U => U.heap.size = sz ∧ va_P (dC, dI) vwCl (dw_X6 a ac s0) U.heap ∧ va_K (dC, dI) vwCl (dk_X6 ac) U ∧ va_D (fun _ => True) (dw_X6 a ac s0) ∧ nv_E dI (va_A (dw_X6 a ac s0) sz) U)) (va_Qi (fun x _ => x = r.1) (fun (_ : Unit) t => va_P (dC, dI) vwCl (dw_X6 a ac r.2) t.heap ∧ va_K (dC, dI) vwCl (dk_X6 ac) t ∧ va_D (va_A (dw_X6 a ac s0) sz) (dw_X6 a ac r.2)) (va_A (dw_X6 a ac s0) sz)) 0 0 (va_A (dw_X6 a ac s0) sz) := by
  refine Met.ofW (cc := cX6_own) (maxL := 6) (ret := (some .boolean)) (by decide) rfl ?_
  intro p e s m args below meth c s₁ B hml hv
  obtain ⟨rfl, hsz, hP, hK, hD0, hN⟩ := hv
  have hx := B.exec
  have hb := B.bytes
  have hr := B.returns
  have hts := atoms_spec (ws := ow_dm_X6_own) B.pre
  have hown : s.vm.findClass RX6 = some m.cls := findClass_of_methodNamed B.named
  have hlocks := B.notSynchronized
  subst hsz
  have hD := hD0.self (sz := s.heap.size)
  generalize hAe : va_A (dw_X6 a ac s0) s.heap.size = A at hD hN ⊢
  have hA : ∀ q : Nat, s.heap.size ≤ q → A q := fun q h => by rw [← hAe]; exact Or.inr h
  have hl := lv_entry ([.ref (a 0), .int v0, .int v1]) (n := 6) (Nat.le_of_ble_eq_true rfl)
  rw [lg_entry_eq]
  generalize (lg_sl ([.ref (a 0), .int v0, .int v1]) ++ List.replicate (6 - (lg_sl ([.ref (a 0), .int v0, .int v1])).length) Slot.unset).toArray = ls at hl ⊢
  have hl : lv_has ls 6 [(0, .ref (a 0)), (1, .int v0), (2, .int v1)] := hl
  exact db_X6_own_0 (dC := dC) (dI := dI) (a := a) (ac := ac) (n := n) (r := r) ⟨hlt, hx, hb, hml, hown, hts, hN, hA, hK⟩ (fun pc v τ H locs ls d z er hP hD hS => by subst er; exact W.zret (v := v) hx hb hr z (fun t ht hW => ⟨⟨v, (), rfl, rfl, by rw [ht]; exact hP, va_K.moved hW.alike hK, hD⟩, hS.F ht⟩) hS.2.2 d) v0 v1 s0 _ _ _ h hP hD va_S.rf (lv_sub hl [0, 1, 2] rfl)
def ow_dm_X6_put : List Cond := Cond.code yX6_put cX6_put 7 none :: ([Cond.fieldLink RX6 17 "TimeMachine$Machine" "page" "[I", Cond.fieldLink RX6 10 "TimeMachine$Machine" "word" "[I"] ++ (u_ws RX6 TX6 20 ++ []))
theorem gd_dm_X6_put : ∀ w ∈ ow_dm_X6_put, (w.onTables && w.keeps) = true ∨ ∃ ty, w = Cond.arrayClass ty := List.forall_mem_cons.mpr ⟨good_of_word rfl, List.forall_mem_append.mpr ⟨fun w h => good_of_word (List.all_eq_true.mp (by decide +kernel) w h), List.forall_mem_append.mpr ⟨gu_X6, fun _ h => nomatch h⟩⟩⟩
theorem hi_dm_X6_put_X6 : ∀ w ∈ u_ws RX6 TX6 20, w ∈ ow_dm_X6_put := fun w h => List.mem_cons_of_mem _ (List.mem_append_right _ (List.mem_append_left _ h))
def dj_X6_put_0 (p : Program) (l : Launch) (e : Env) (s : State) (m : MethodId) (args : Array Value) (below : List Frame) (meth : Method) (c : Code) (Q : State → Prop) (A : Nat → Prop) (dC : Nat → ClassId) (dI : Nat → Nat → Nat) (a : Nat → Nat) (ac : Nat → ClassId) (g : Int32 → Int32 → Int32 → Int32 → (St × (St)) → Option (St × (St))) (r : St × (St)) : Prop := ∀ (v0 : Int32) (v1 : Int32) (v2 : Int32) (v3 : Int32) (s0 : St × (St)) (H : Heap) (locs : List Loc) (ls : Array Slot), g v0 v1 v2 v3 s0 = some r → va_P (dC, dI) vwCl (dw_X6 a ac s0) H → va_D A (dw_X6 a ac s0) → va_S A s.heap H locs → lv_has ls 7 [(0, .ref (a 0)), (1, .int v0), (2, .int v1), (3, .int v2), (4, .int v3)] → W p l e (headSpec ow_dm_X6_put ({ frames := 0, cells := 0, slots := 0, locals := 0 })).room s m args below meth c H locs 0 0 Q (F0 m 0 ls [])
set_option maxHeartbeats 40000000 in
set_option maxRecDepth 100000 in
theorem db_X6_put_0 {p : Program} {l : Launch} {e : Env} {s : State} {m : MethodId} {args : Array Value} {below : List Frame} {meth : Method} {c : Code} {Q : State → Prop} {A : Nat → Prop} {dC : Nat → ClassId} {dI : Nat → Nat → Nat} {a : Nat → Nat} {ac : Nat → ClassId} {n : Nat} {r : St × (St)} (C : nd_C p l s m args c A (dC, dI) cX6_put 7 RX6 ow_dm_X6_put (dk_X6 ac)) (K : nd_Kv p l e (headSpec ow_dm_X6_put ({ frames := 0, cells := 0, slots := 0, locals := 0 })).room s m args below meth c Q A (dC, dI) cX6_put (St × (St)) (dw_X6 a ac) r) : dj_X6_put_0 p l e s m args below meth c Q A dC dI a ac (df_X6_put_0 n) r := by
  obtain ⟨hlt, hx, hb, hml, hown, hts, hN, hA, hK⟩ := id C
  intro v0 v1 v2 v3 s0 H locs ls h hP hD hS hl
  unfold df_X6_put_0 at h
  refine lv_bipush (v := 8) hx hb dX6_put_0 (by decide) ?_
  refine lv_iload_n hx hb dX6_put_2 rfl (lv_at hl 2 rfl) ?_
  refine lv_iconst (v := 3) hx hb dX6_put_3 (by decide) ?_
  refine lv_iand hx hb dX6_put_4 ?_
  refine lv_imul hx hb dX6_put_5 ?_
  refine lv_topi (fun z1 ez1 => ?_)
  have h := nd_at h ez1
  refine lv_istore (lv' := [(5, .int z1), (0, .ref (a 0)), (1, .int v0), (2, .int v1), (3, .int v2), (4, .int v3)]) hx hb dX6_put_6 hl (by decide) rfl (fun ls hl => ?_)
  refine lv_aload_n hx hb dX6_put_8 rfl (lv_at hl 1 rfl) ?_
  refine va_get (D := (dC, dI)) (ci := 7) (v := .ref (a 3)) (C := RX6) (T := TX6) (N := 20) hx hb hts hi_dm_X6_put_X6 hown hK hP 0 rfl rfl 2 (by decide) (hts (.fieldLink RX6 17 "TimeMachine$Machine" "page" "[I") (List.mem_of_getElem? (i := 1) rfl)) (fun _ h9 => h9) rfl dX6_put_9 ?_
  refine lv_iload_n hx hb dX6_put_12 rfl (lv_at hl 2 rfl) ?_
  refine lv_bipush (v := 6) hx hb dX6_put_13 (by decide) ?_
  refine lv_ishl hx hb dX6_put_15 ?_
  refine lv_iload_n hx hb dX6_put_16 rfl (lv_at hl 3 rfl) ?_
  refine lv_bipush (v := 10) hx hb dX6_put_17 (by decide) ?_
  refine lv_iushr hx hb dX6_put_19 rfl ?_
  refine lv_bipush (v := 63) hx hb dX6_put_20 (by decide) ?_
  refine lv_iand hx hb dX6_put_22 ?_
  refine lv_ior hx hb dX6_put_23 ?_
  obtain ⟨i2, h⟩ := nd_ck_e h
  refine va_iald (i := (((v0 : Int32) <<< ((6 : Int32) &&& 31)) ||| ((((v1 : Int32).toUInt32 >>> ((10 : Int32).toUInt32 &&& Int32.toUInt32 31)).toInt32) &&& 63))) hx hb hK hP 3 2 rfl rfl i2 dX6_put_24 ?_
  refine lv_iconst (v := 3) hx hb dX6_put_25 (by decide) ?_
  refine lv_ishr hx hb dX6_put_26 ?_
  refine lv_bipush (v := 8) hx hb dX6_put_27 (by decide) ?_
  refine lv_ishl hx hb dX6_put_29 ?_
  refine lv_iload_n hx hb dX6_put_30 rfl (lv_at hl 3 rfl) ?_
  refine lv_iconst (v := 2) hx hb dX6_put_31 (by decide) ?_
  refine lv_iushr hx hb dX6_put_32 rfl ?_
  refine lv_sipush (v := 255) hx hb dX6_put_33 (by decide) ?_
  refine lv_iand hx hb dX6_put_36 ?_
  refine lv_ior hx hb dX6_put_37 ?_
  refine lv_topi (fun z3 ez3 => ?_)
  have h := nd_at h ez3
  refine lv_istore (lv' := [(6, .int z3), (5, .int z1), (0, .ref (a 0)), (1, .int v0), (2, .int v1), (3, .int v2), (4, .int v3)]) hx hb dX6_put_38 hl (by decide) rfl (fun ls hl => ?_)
  refine lv_aload_n hx hb dX6_put_40 rfl (lv_at hl 2 rfl) ?_
  refine va_get (D := (dC, dI)) (ci := 7) (v := .ref (a 1)) (C := RX6) (T := TX6) (N := 20) hx hb hts hi_dm_X6_put_X6 hown hK hP 0 rfl rfl 0 (by decide) (hts (.fieldLink RX6 10 "TimeMachine$Machine" "word" "[I") (List.mem_of_getElem? (i := 2) rfl)) (fun _ h9 => h9) rfl dX6_put_41 ?_
  refine lv_iload hx hb dX6_put_44 (lv_at hl 0 rfl) ?_
  refine lv_aload_n hx hb dX6_put_46 rfl (lv_at hl 2 rfl) ?_
  refine va_get (D := (dC, dI)) (ci := 7) (v := .ref (a 1)) (C := RX6) (T := TX6) (N := 20) hx hb hts hi_dm_X6_put_X6 hown hK hP 0 rfl rfl 0 (by decide) (hts (.fieldLink RX6 10 "TimeMachine$Machine" "word" "[I") (List.mem_of_getElem? (i := 2) rfl)) (fun _ h9 => h9) rfl dX6_put_47 ?_
  refine lv_iload hx hb dX6_put_50 (lv_at hl 0 rfl) ?_
  obtain ⟨i4, h⟩ := nd_ck_e h
  refine va_iald (i := z3) hx hb hK hP 1 0 rfl rfl i4 dX6_put_52 ?_
  refine lv_iload_n hx hb dX6_put_53 rfl (lv_at hl 5 rfl) ?_
  refine lv_iload hx hb dX6_put_54 (lv_at hl 1 rfl) ?_
  refine lv_ishl hx hb dX6_put_56 ?_
  refine lv_iconst (v := (-1)) hx hb dX6_put_57 (by decide) ?_
  refine lv_ixor hx hb dX6_put_58 ?_
  refine lv_iand hx hb dX6_put_59 ?_
  refine lv_iload hx hb dX6_put_60 (lv_at hl 6 rfl) ?_
  refine lv_iload_n hx hb dX6_put_62 rfl (lv_at hl 5 rfl) ?_
  refine lv_iand hx hb dX6_put_63 ?_
  refine lv_iload hx hb dX6_put_64 (lv_at hl 1 rfl) ?_
  refine lv_ishl hx hb dX6_put_66 ?_
  refine lv_ior hx hb dX6_put_67 ?_
  obtain ⟨i5, h⟩ := nd_ck_e h
  refine va_iast (i := z3) (x := (((sR s0.1 0 (Int32.toNatClampNeg z3)) &&& (((v2 : Int32) <<< ((z1 : Int32) &&& 31)) ^^^ (-1))) ||| (((v3 &&& v2) : Int32) <<< ((z1 : Int32) &&& 31)))) hx hb hK hP hD hS 1 0 rfl rfl i5 dX6_put_68 (fun H locs hP hD hS => ?_)
  obtain ⟨s6, es6, h⟩ := nd_let_e h
  have hP : va_P (dC, dI) vwCl (dw_X6 a ac s6) H := by rw [es6]; exact hP
  have hD : va_D A (dw_X6 a ac s6) := by rw [es6]; exact hD
  exact K _ _ _ _ _ dX6_put_69 (Option.some.inj h).symm hP hD hS
set_option maxHeartbeats 40000000 in
set_option maxRecDepth 100000 in
theorem dm_X6_put (l : Launch) (hlt : l.stackTraces = false) (dC : Nat → ClassId) (dI : Nat → Nat → Nat) (a : Nat → Nat) (ac : Nat → ClassId) (n : Nat) (v0 : Int32) (v1 : Int32) (v2 : Int32) (v3 : Int32) (s0 : St × (St)) {r : St × (St)} (h : df_X6_put n v0 v1 v2 v3 s0 = some r) (sz : Nat) : Met l yX6_put ow_dm_X6_put ({ frames := 0, cells := 0, slots := 0, locals := 0 }) (va_Pc [.ref (a 0), .int v0, .int v1, .int v2, .int v3] (fun U => U.heap.size = sz ∧ va_P (dC, dI) vwCl (dw_X6 a ac s0) U.heap ∧ va_K (dC, dI) vwCl (dk_X6 ac) U ∧ va_D (fun _ => True) (dw_X6 a ac s0) ∧ nv_E dI (va_A (dw_X6 a ac s0) sz) U)) (va_Qv (fun _ => True) (fun (_ : Unit) t => va_P (dC, dI) vwCl (dw_X6 a ac r) t.heap ∧ va_K (dC, dI) vwCl (dk_X6 ac) t ∧ va_D (va_A (dw_X6 a ac s0) sz) (dw_X6 a ac r)) (va_A (dw_X6 a ac s0) sz)) 0 0 (va_A (dw_X6 a ac s0) sz) := by
  refine Met.ofW (cc := cX6_put) (maxL := 7) (ret := none) (by decide) rfl ?_
  intro p e s m args below meth c s₁ B hml hv
  obtain ⟨rfl, hsz, hP, hK, hD0, hN⟩ := hv
  have hx := B.exec
  have hb := B.bytes
  have hr := B.returns
  have hts := atoms_spec (ws := ow_dm_X6_put) B.pre
  have hown : s.vm.findClass RX6 = some m.cls := findClass_of_methodNamed B.named
  have hlocks := B.notSynchronized
  subst hsz
  have hD := hD0.self (sz := s.heap.size)
  generalize hAe : va_A (dw_X6 a ac s0) s.heap.size = A at hD hN ⊢
  have hA : ∀ q : Nat, s.heap.size ≤ q → A q := fun q h => by rw [← hAe]; exact Or.inr h
  have hl := lv_entry ([.ref (a 0), .int v0, .int v1, .int v2, .int v3]) (n := 7) (Nat.le_of_ble_eq_true rfl)
  rw [lg_entry_eq]
  generalize (lg_sl ([.ref (a 0), .int v0, .int v1, .int v2, .int v3]) ++ List.replicate (7 - (lg_sl ([.ref (a 0), .int v0, .int v1, .int v2, .int v3])).length) Slot.unset).toArray = ls at hl ⊢
  have hl : lv_has ls 7 [(0, .ref (a 0)), (1, .int v0), (2, .int v1), (3, .int v2), (4, .int v3)] := hl
  exact db_X6_put_0 (dC := dC) (dI := dI) (a := a) (ac := ac) (n := n) (r := r) ⟨hlt, hx, hb, hml, hown, hts, hN, hA, hK⟩ (fun pc τ H locs ls d er hP hD hS => by subst er; exact W.vret hx hb hr (fun t ht hW => ⟨⟨(), rfl, trivial, by rw [ht]; exact hP, va_K.moved hW.alike hK, hD⟩, hS.F ht⟩) hS.2.2 d) v0 v1 v2 v3 s0 _ _ _ h hP hD va_S.rf (lv_sub hl [0, 1, 2, 3, 4] rfl)
def ow_dm_X6_noteWrite : List Cond := Cond.code yX6_noteWrite cX6_noteWrite 4 none :: ([Cond.fieldLink RX6 82 "TimeMachine$Machine" "written" "I", Cond.fieldLink RX6 105 "TimeMachine$Machine" "reserved" "I"] ++ (u_ws RX6 TX6 20 ++ []))
theorem gd_dm_X6_noteWrite : ∀ w ∈ ow_dm_X6_noteWrite, (w.onTables && w.keeps) = true ∨ ∃ ty, w = Cond.arrayClass ty := List.forall_mem_cons.mpr ⟨good_of_word rfl, List.forall_mem_append.mpr ⟨fun w h => good_of_word (List.all_eq_true.mp (by decide +kernel) w h), List.forall_mem_append.mpr ⟨gu_X6, fun _ h => nomatch h⟩⟩⟩
theorem hi_dm_X6_noteWrite_X6 : ∀ w ∈ u_ws RX6 TX6 20, w ∈ ow_dm_X6_noteWrite := fun w h => List.mem_cons_of_mem _ (List.mem_append_right _ (List.mem_append_left _ h))
def dj_X6_noteWrite_51 (p : Program) (l : Launch) (e : Env) (s : State) (m : MethodId) (args : Array Value) (below : List Frame) (meth : Method) (c : Code) (Q : State → Prop) (A : Nat → Prop) (dC : Nat → ClassId) (dI : Nat → Nat → Nat) (a : Nat → Nat) (ac : Nat → ClassId) (g : (St × (St)) → Option (St × (St))) (r : St × (St)) : Prop := ∀ (s0 : St × (St)) (H : Heap) (locs : List Loc) (ls : Array Slot), g s0 = some r → va_P (dC, dI) vwCl (dw_X6 a ac s0) H → va_D A (dw_X6 a ac s0) → va_S A s.heap H locs → lv_has ls 4 [] → W p l e (headSpec ow_dm_X6_noteWrite ({ frames := 0, cells := 0, slots := 0, locals := 0 })).room s m args below meth c H locs 0 0 Q (F0 m 51 ls [])
def dj_X6_noteWrite_0 (p : Program) (l : Launch) (e : Env) (s : State) (m : MethodId) (args : Array Value) (below : List Frame) (meth : Method) (c : Code) (Q : State → Prop) (A : Nat → Prop) (dC : Nat → ClassId) (dI : Nat → Nat → Nat) (a : Nat → Nat) (ac : Nat → ClassId) (g : Int32 → Int32 → Int32 → (St × (St)) → Option (St × (St))) (r : St × (St)) : Prop := ∀ (v0 : Int32) (v1 : Int32) (v2 : Int32) (s0 : St × (St)) (H : Heap) (locs : List Loc) (ls : Array Slot), g v0 v1 v2 s0 = some r → va_P (dC, dI) vwCl (dw_X6 a ac s0) H → va_D A (dw_X6 a ac s0) → va_S A s.heap H locs → lv_has ls 4 [(0, .ref (a 0)), (1, .int v0), (2, .int v1), (3, .int v2)] → W p l e (headSpec ow_dm_X6_noteWrite ({ frames := 0, cells := 0, slots := 0, locals := 0 })).room s m args below meth c H locs 0 0 Q (F0 m 0 ls [])
set_option maxHeartbeats 40000000 in
set_option maxRecDepth 100000 in
theorem db_X6_noteWrite_51 {p : Program} {l : Launch} {e : Env} {s : State} {m : MethodId} {args : Array Value} {below : List Frame} {meth : Method} {c : Code} {Q : State → Prop} {A : Nat → Prop} {dC : Nat → ClassId} {dI : Nat → Nat → Nat} {a : Nat → Nat} {ac : Nat → ClassId} {n : Nat} {r : St × (St)} (C : nd_C p l s m args c A (dC, dI) cX6_noteWrite 4 RX6 ow_dm_X6_noteWrite (dk_X6 ac)) (K : nd_Kv p l e (headSpec ow_dm_X6_noteWrite ({ frames := 0, cells := 0, slots := 0, locals := 0 })).room s m args below meth c Q A (dC, dI) cX6_noteWrite (St × (St)) (dw_X6 a ac) r) : dj_X6_noteWrite_51 p l e s m args below meth c Q A dC dI a ac (df_X6_noteWrite_51 n) r := by
  obtain ⟨hlt, hx, hb, hml, hown, hts, hN, hA, hK⟩ := id C
  intro s0 H locs ls h hP hD hS hl
  unfold df_X6_noteWrite_51 at h
  exact K _ _ _ _ _ dX6_noteWrite_51 (Option.some.inj h).symm hP hD hS
set_option maxHeartbeats 40000000 in
set_option maxRecDepth 100000 in
theorem db_X6_noteWrite_0 {p : Program} {l : Launch} {e : Env} {s : State} {m : MethodId} {args : Array Value} {below : List Frame} {meth : Method} {c : Code} {Q : State → Prop} {A : Nat → Prop} {dC : Nat → ClassId} {dI : Nat → Nat → Nat} {a : Nat → Nat} {ac : Nat → ClassId} {n : Nat} {r : St × (St)} (C : nd_C p l s m args c A (dC, dI) cX6_noteWrite 4 RX6 ow_dm_X6_noteWrite (dk_X6 ac)) (K : nd_Kv p l e (headSpec ow_dm_X6_noteWrite ({ frames := 0, cells := 0, slots := 0, locals := 0 })).room s m args below meth c Q A (dC, dI) cX6_noteWrite (St × (St)) (dw_X6 a ac) r) : dj_X6_noteWrite_0 p l e s m args below meth c Q A dC dI a ac (df_X6_noteWrite_0 n) r := by
  obtain ⟨hlt, hx, hb, hml, hown, hts, hN, hA, hK⟩ := id C
  intro v0 v1 v2 s0 H locs ls h hP hD hS hl
  unfold df_X6_noteWrite_0 at h
  refine lv_iload_n hx hb dX6_noteWrite_0 rfl (lv_at hl 3 rfl) ?_
  refine lv_if_le (tgt := 51) hx hb dX6_noteWrite_1 (by decide) (fun c1 => ?_) (fun c1 => ?_)
  · have h := nd_pos h c1
    exact (db_X6_noteWrite_51 C K)  s0 _ _ _ h hP hD hS (lv_sub hl [] rfl)
  · have h := nd_neg h c1
    refine lv_aload_n hx hb dX6_noteWrite_4 rfl (lv_at hl 0 rfl) ?_
    refine lv_iload_n hx hb dX6_noteWrite_5 rfl (lv_at hl 1 rfl) ?_
    refine lv_bipush (v := 26) hx hb dX6_noteWrite_6 (by decide) ?_
    refine lv_ishl hx hb dX6_noteWrite_8 ?_
    refine lv_iload_n hx hb dX6_noteWrite_9 rfl (lv_at hl 2 rfl) ?_
    refine lv_bipush (v := 10) hx hb dX6_noteWrite_10 (by decide) ?_
    refine lv_ishl hx hb dX6_noteWrite_12 ?_
    refine lv_ior hx hb dX6_noteWrite_13 ?_
    refine lv_iload_n hx hb dX6_noteWrite_14 rfl (lv_at hl 3 rfl) ?_
    refine lv_ior hx hb dX6_noteWrite_15 ?_
    refine va_put (D := (dC, dI)) (ci := 7) (v := .int ((((v0 : Int32) <<< ((26 : Int32) &&& 31)) ||| ((v1 : Int32) <<< ((10 : Int32) &&& 31))) ||| v2)) (ty := .int) (C := RX6) (T := TX6) (N := 20) hx hb hts hi_dm_X6_noteWrite_X6 tyX6 tyX6_ok nmX6 hown hK hP hD hS 0 rfl rfl 19 (by decide) (hts (.fieldLink RX6 82 "TimeMachine$Machine" "written" "I") (List.mem_of_getElem? (i := 1) rfl)) (fun _ h9 => h9) rfl (by decide +kernel) rfl rfl (Nat.le_of_ble_eq_true rfl) dX6_noteWrite_16 (fun H locs hP hD hS => ?_)
    obtain ⟨s2, es2, h⟩ := nd_let_e h
    have hP : va_P (dC, dI) vwCl (dw_X6 a ac s2) H := by rw [es2]; exact hP
    have hD : va_D A (dw_X6 a ac s2) := by rw [es2]; exact hD
    refine lv_aload_n hx hb dX6_noteWrite_19 rfl (lv_at hl 0 rfl) ?_
    refine va_get (D := (dC, dI)) (ci := 7) (v := .int (sI s2.1 6)) (C := RX6) (T := TX6) (N := 20) hx hb hts hi_dm_X6_noteWrite_X6 hown hK hP 0 rfl rfl 16 (by decide) (hts (.fieldLink RX6 105 "TimeMachine$Machine" "reserved" "I") (List.mem_of_getElem? (i := 2) rfl)) (fun _ h9 => h9) rfl dX6_noteWrite_20 ?_
    refine lv_if_lt (tgt := 51) hx hb dX6_noteWrite_23 (by decide) (fun c3 => ?_) (fun c3 => ?_)
    · have h := nd_pos h c3
      exact (db_X6_noteWrite_51 C K)  s2 _ _ _ h hP hD hS (lv_sub hl [] rfl)
    · have h := nd_neg h c3
      refine lv_iload_n hx hb dX6_noteWrite_26 rfl (lv_at hl 2 rfl) ?_
      refine lv_aload_n hx hb dX6_noteWrite_27 rfl (lv_at hl 0 rfl) ?_
      refine va_get (D := (dC, dI)) (ci := 7) (v := .int (sI s2.1 6)) (C := RX6) (T := TX6) (N := 20) hx hb hts hi_dm_X6_noteWrite_X6 hown hK hP 0 rfl rfl 16 (by decide) (hts (.fieldLink RX6 105 "TimeMachine$Machine" "reserved" "I") (List.mem_of_getElem? (i := 2) rfl)) (fun _ h9 => h9) rfl dX6_noteWrite_28 ?_
      refine lv_iconst (v := 4) hx hb dX6_noteWrite_31 (by decide) ?_
      refine lv_iadd hx hb dX6_noteWrite_32 ?_
      refine lv_icmp_ge (tgt := 51) hx hb dX6_noteWrite_33 (by decide) (fun c4 => ?_) (fun c4 => ?_)
      · have h := nd_pos h c4
        exact (db_X6_noteWrite_51 C K)  s2 _ _ _ h hP hD hS (lv_sub hl [] rfl)
      · have h := nd_neg h c4
        refine lv_iload_n hx hb dX6_noteWrite_36 rfl (lv_at hl 2 rfl) ?_
        refine lv_iload_n hx hb dX6_noteWrite_37 rfl (lv_at hl 3 rfl) ?_
        refine lv_iadd hx hb dX6_noteWrite_38 ?_
        refine lv_aload_n hx hb dX6_noteWrite_39 rfl (lv_at hl 0 rfl) ?_
        refine va_get (D := (dC, dI)) (ci := 7) (v := .int (sI s2.1 6)) (C := RX6) (T := TX6) (N := 20) hx hb hts hi_dm_X6_noteWrite_X6 hown hK hP 0 rfl rfl 16 (by decide) (hts (.fieldLink RX6 105 "TimeMachine$Machine" "reserved" "I") (List.mem_of_getElem? (i := 2) rfl)) (fun _ h9 => h9) rfl dX6_noteWrite_40 ?_
        refine lv_icmp_le (tgt := 51) hx hb dX6_noteWrite_43 (by decide) (fun c5 => ?_) (fun c5 => ?_)
        · have h := nd_pos h c5
          exact (db_X6_noteWrite_51 C K)  s2 _ _ _ h hP hD hS (lv_sub hl [] rfl)
        · have h := nd_neg h c5
          refine lv_aload_n hx hb dX6_noteWrite_46 rfl (lv_at hl 0 rfl) ?_
          refine lv_iconst (v := (-1)) hx hb dX6_noteWrite_47 (by decide) ?_
          refine va_put (D := (dC, dI)) (ci := 7) (v := .int (-1)) (ty := .int) (C := RX6) (T := TX6) (N := 20) hx hb hts hi_dm_X6_noteWrite_X6 tyX6 tyX6_ok nmX6 hown hK hP hD hS 0 rfl rfl 16 (by decide) (hts (.fieldLink RX6 105 "TimeMachine$Machine" "reserved" "I") (List.mem_of_getElem? (i := 2) rfl)) (fun _ h9 => h9) rfl (by decide +kernel) rfl rfl (Nat.le_of_ble_eq_true rfl) dX6_noteWrite_48 (fun H locs hP hD hS => ?_)
          obtain ⟨s6, es6, h⟩ := nd_let_e h
          have hP : va_P (dC, dI) vwCl (dw_X6 a ac s6) H := by rw [es6]; exact hP
          have hD : va_D A (dw_X6 a ac s6) := by rw [es6]; exact hD
          exact (db_X6_noteWrite_51 C K)  s6 _ _ _ h hP hD hS (lv_sub hl [] rfl)
set_option maxHeartbeats 40000000 in
set_option maxRecDepth 100000 in
theorem dm_X6_noteWrite (l : Launch) (hlt : l.stackTraces = false) (dC : Nat → ClassId) (dI : Nat → Nat → Nat) (a : Nat → Nat) (ac : Nat → ClassId) (n : Nat) (v0 : Int32) (v1 : Int32) (v2 : Int32) (s0 : St × (St)) {r : St × (St)} (h : df_X6_noteWrite n v0 v1 v2 s0 = some r) (sz : Nat) : Met l yX6_noteWrite ow_dm_X6_noteWrite ({ frames := 0, cells := 0, slots := 0, locals := 0 }) (va_Pc [.ref (a 0), .int v0, .int v1, .int v2] (fun U => U.heap.size = sz ∧ va_P (dC, dI) vwCl (dw_X6 a ac s0) U.heap ∧ va_K (dC, dI) vwCl (dk_X6 ac) U ∧ va_D (fun _ => True) (dw_X6 a ac s0) ∧ nv_E dI (va_A (dw_X6 a ac s0) sz) U)) (va_Qv (fun _ => True) (fun (_ : Unit) t => va_P (dC, dI) vwCl (dw_X6 a ac r) t.heap ∧ va_K (dC, dI) vwCl (dk_X6 ac) t ∧ va_D (va_A (dw_X6 a ac s0) sz) (dw_X6 a ac r)) (va_A (dw_X6 a ac s0) sz)) 0 0 (va_A (dw_X6 a ac s0) sz) := by
  refine Met.ofW (cc := cX6_noteWrite) (maxL := 4) (ret := none) (by decide) rfl ?_
  intro p e s m args below meth c s₁ B hml hv
  obtain ⟨rfl, hsz, hP, hK, hD0, hN⟩ := hv
  have hx := B.exec
  have hb := B.bytes
  have hr := B.returns
  have hts := atoms_spec (ws := ow_dm_X6_noteWrite) B.pre
  have hown : s.vm.findClass RX6 = some m.cls := findClass_of_methodNamed B.named
  have hlocks := B.notSynchronized
  subst hsz
  have hD := hD0.self (sz := s.heap.size)
  generalize hAe : va_A (dw_X6 a ac s0) s.heap.size = A at hD hN ⊢
  have hA : ∀ q : Nat, s.heap.size ≤ q → A q := fun q h => by rw [← hAe]; exact Or.inr h
  have hl := lv_entry ([.ref (a 0), .int v0, .int v1, .int v2]) (n := 4) (Nat.le_of_ble_eq_true rfl)
  rw [lg_entry_eq]
  generalize (lg_sl ([.ref (a 0), .int v0, .int v1, .int v2]) ++ List.replicate (4 - (lg_sl ([.ref (a 0), .int v0, .int v1, .int v2])).length) Slot.unset).toArray = ls at hl ⊢
  have hl : lv_has ls 4 [(0, .ref (a 0)), (1, .int v0), (2, .int v1), (3, .int v2)] := hl
  exact db_X6_noteWrite_0 (dC := dC) (dI := dI) (a := a) (ac := ac) (n := n) (r := r) ⟨hlt, hx, hb, hml, hown, hts, hN, hA, hK⟩ (fun pc τ H locs ls d er hP hD hS => by subst er; exact W.vret hx hb hr (fun t ht hW => ⟨⟨(), rfl, trivial, by rw [ht]; exact hP, va_K.moved hW.alike hK, hD⟩, hS.F ht⟩) hS.2.2 d) v0 v1 v2 s0 _ _ _ h hP hD va_S.rf (lv_sub hl [0, 1, 2, 3] rfl)
def ow_dm_X4_store : List Cond := Cond.code yX4_store cX4_store 4 (some .int) :: ([Cond.fieldLink RX4 7 "TimeMachine$Hart" "machine" "LTimeMachine$Machine;", Cond.fieldLink RX4 20 "TimeMachine$Hart" "process" "I", Cond.methodLink RX4 30 yX6_may, Cond.instanceMethod yX6_may, Cond.selects RX6 yX6_may yX6_may, Cond.initialized RX6, Cond.methodLink RX4 100 yX6_own, Cond.instanceMethod yX6_own, Cond.selects RX6 yX6_own yX6_own, Cond.methodLink RX4 105 yX6_put, Cond.instanceMethod yX6_put, Cond.selects RX6 yX6_put yX6_put, Cond.methodLink RX4 109 yX6_noteWrite, Cond.instanceMethod yX6_noteWrite, Cond.selects RX6 yX6_noteWrite yX6_noteWrite, Cond.constant RX4 104 (65535)] ++ (u_ws RX4 TX4 6 ++ (ow_dm_X6_may ++ (ow_dm_X6_own ++ (ow_dm_X6_put ++ (ow_dm_X6_noteWrite ++ []))))))
theorem gd_dm_X4_store : ∀ w ∈ ow_dm_X4_store, (w.onTables && w.keeps) = true ∨ ∃ ty, w = Cond.arrayClass ty := List.forall_mem_cons.mpr ⟨good_of_word rfl, List.forall_mem_append.mpr ⟨fun w h => good_of_word (List.all_eq_true.mp (by decide +kernel) w h), List.forall_mem_append.mpr ⟨gu_X4, List.forall_mem_append.mpr ⟨gd_dm_X6_may, List.forall_mem_append.mpr ⟨gd_dm_X6_own, List.forall_mem_append.mpr ⟨gd_dm_X6_put, List.forall_mem_append.mpr ⟨gd_dm_X6_noteWrite, fun _ h => nomatch h⟩⟩⟩⟩⟩⟩⟩
theorem hi_dm_X4_store_X4 : ∀ w ∈ u_ws RX4 TX4 6, w ∈ ow_dm_X4_store := fun w h => List.mem_cons_of_mem _ (List.mem_append_right _ (List.mem_append_left _ h))
theorem gi_dm_X4_store_0 : GoodIn ow_dm_X4_store (wsV RX4 30 RX6 yX6_may ow_dm_X6_may) := goodIn_app (goodIn_of _ (by decide +kernel)) (fun w h => ⟨List.mem_cons_of_mem _ (List.mem_append_right _ (List.mem_append_right _ (List.mem_append_left _ h))), gd_dm_X6_may w h⟩)
theorem gi_dm_X4_store_1 : GoodIn ow_dm_X4_store (wsV RX4 100 RX6 yX6_own ow_dm_X6_own) := goodIn_app (goodIn_of _ (by decide +kernel)) (fun w h => ⟨List.mem_cons_of_mem _ (List.mem_append_right _ (List.mem_append_right _ (List.mem_append_right _ (List.mem_append_left _ h)))), gd_dm_X6_own w h⟩)
theorem gi_dm_X4_store_2 : GoodIn ow_dm_X4_store (wsV RX4 105 RX6 yX6_put ow_dm_X6_put) := goodIn_app (goodIn_of _ (by decide +kernel)) (fun w h => ⟨List.mem_cons_of_mem _ (List.mem_append_right _ (List.mem_append_right _ (List.mem_append_right _ (List.mem_append_right _ (List.mem_append_left _ h))))), gd_dm_X6_put w h⟩)
theorem gi_dm_X4_store_3 : GoodIn ow_dm_X4_store (wsV RX4 109 RX6 yX6_noteWrite ow_dm_X6_noteWrite) := goodIn_app (goodIn_of _ (by decide +kernel)) (fun w h => ⟨List.mem_cons_of_mem _ (List.mem_append_right _ (List.mem_append_right _ (List.mem_append_right _ (List.mem_append_right _ (List.mem_append_right _ (List.mem_append_left _ h)))))), gd_dm_X6_noteWrite w h⟩)
def dj_X4_store_87 (p : Program) (l : Launch) (e : Env) (s : State) (m : MethodId) (args : Array Value) (below : List Frame) (meth : Method) (c : Code) (Q : State → Prop) (A : Nat → Prop) (dC : Nat → ClassId) (dI : Nat → Nat → Nat) (a : Nat → Nat) (ac : Nat → ClassId) (g : Int32 → Int32 → Int32 → Int32 → Int32 → Int32 → (St × (St × (St))) → Option (Int32 × (St × (St × (St))))) (r : Int32 × (St × (St × (St)))) : Prop := ∀ (x1 : Int32) (x2 : Int32) (x3 : Int32) (y1 : Int32) (y2 : Int32) (y3 : Int32) (s0 : St × (St × (St))) (H : Heap) (locs : List Loc) (ls : Array Slot), g x1 x2 x3 y1 y2 y3 s0 = some r → va_P (dC, dI) vwCl (dw_X4 a ac s0) H → va_D A (dw_X4 a ac s0) → va_S A s.heap H locs → lv_has ls 4 [(0, .ref (a 0)), (1, .int x1), (2, .int x2), (3, .int x3)] → W p l e (headSpec ow_dm_X4_store ({ frames := 2, cells := 0, slots := 0, locals := 65 })).room s m args below meth c H locs 0 0 Q (F0 m 87 ls [.int y3, .int y2, .int y1, .ref (a 1)])
def dj_X4_store_0 (p : Program) (l : Launch) (e : Env) (s : State) (m : MethodId) (args : Array Value) (below : List Frame) (meth : Method) (c : Code) (Q : State → Prop) (A : Nat → Prop) (dC : Nat → ClassId) (dI : Nat → Nat → Nat) (a : Nat → Nat) (ac : Nat → ClassId) (g : Int32 → Int32 → Int32 → (St × (St × (St))) → Option (Int32 × (St × (St × (St))))) (r : Int32 × (St × (St × (St)))) : Prop := ∀ (v0 : Int32) (v1 : Int32) (v2 : Int32) (s0 : St × (St × (St))) (H : Heap) (locs : List Loc) (ls : Array Slot), g v0 v1 v2 s0 = some r → va_P (dC, dI) vwCl (dw_X4 a ac s0) H → va_D A (dw_X4 a ac s0) → va_S A s.heap H locs → lv_has ls 4 [(0, .ref (a 0)), (1, .int v0), (2, .int v1), (3, .int v2)] → W p l e (headSpec ow_dm_X4_store ({ frames := 2, cells := 0, slots := 0, locals := 65 })).room s m args below meth c H locs 0 0 Q (F0 m 0 ls [])
set_option maxHeartbeats 40000000 in
set_option maxRecDepth 100000 in
theorem db_X4_store_87 {p : Program} {l : Launch} {e : Env} {s : State} {m : MethodId} {args : Array Value} {below : List Frame} {meth : Method} {c : Code} {Q : State → Prop} {A : Nat → Prop} {dC : Nat → ClassId} {dI : Nat → Nat → Nat} {a : Nat → Nat} {ac : Nat → ClassId} {n : Nat} {r : Int32 × (St × (St × (St)))} (C : nd_C p l s m args c A (dC, dI) cX4_store 4 RX4 ow_dm_X4_store (dk_X4 ac)) (K : nd_Ki p l e (headSpec ow_dm_X4_store ({ frames := 2, cells := 0, slots := 0, locals := 65 })).room s m args below meth c Q A (dC, dI) cX4_store .int (St × (St × (St))) (dw_X4 a ac) r) : dj_X4_store_87 p l e s m args below meth c Q A dC dI a ac (df_X4_store_87 n) r := by
  obtain ⟨hlt, hx, hb, hml, hown, hts, hN, hA, hK⟩ := id C
  intro x1 x2 x3 y1 y2 y3 s0 H locs ls h hP hD hS hl
  unfold df_X4_store_87 at h
  refine lv_iload_n hx hb dX4_store_87 rfl (lv_at hl 3 rfl) ?_
  obtain ⟨s16, hq, h⟩ := nd_b1_e h
  have hPc := dp_X4_1 hP
  have hDc := dd_X4_1 hD
  have hKc := dy_X4_1 hK
  have hFc := nd_rs hDc hS hA
  have hzA : ∀ q : Nat, H.size ≤ q → A q := fun q h => hA q (Nat.le_trans hS.1 h)
  refine nd_cVv (As := [.int y1, .int y2, .int y3, .int x3]) (rest := []) (w' := dw_X6 (fun k => a (k + 1)) (fun k => ac (k + 1)) s16) ⟨hx, hb, hml, hown, hts⟩ (fun sz => dm_X6_put l hlt dC dI (fun k => a (k + 1)) (fun k => ac (k + 1)) n (y1) (y2) (y3) (x3) s0.2 hq sz) (cwV 4 hts gi_dm_X4_store_2 rfl rfl rfl (by decide +kernel) ⟨Nat.le_of_ble_eq_true rfl, Nat.le_of_ble_eq_true rfl⟩) hPc hDc hKc hS hA hN (va_recv hKc hPc (ci := 7) (q0 := 0) rfl rfl) rfl hl.1 rfl (Nat.le_of_ble_eq_true rfl) dX4_store_88 (fun H locs hP1 hD1 hk1 hS => ?_)
  obtain ⟨hP, hD⟩ := dn_X4_1 hP hD hzA hk1 hP1 hD1
  obtain ⟨s18, es18, h⟩ := nd_let_e h
  have hP : va_P (dC, dI) vwCl (dw_X4 a ac s18) H := by rw [es18]; exact hP
  have hD : va_D A (dw_X4 a ac s18) := by rw [es18]; exact hD
  refine lv_aload_n hx hb dX4_store_91 rfl (lv_at hl 0 rfl) ?_
  refine va_get (D := (dC, dI)) (ci := 5) (v := .ref (a 1)) (C := RX4) (T := TX4) (N := 6) hx hb hts hi_dm_X4_store_X4 hown hK hP 0 rfl rfl 0 (by decide) (hts (.fieldLink RX4 7 "TimeMachine$Hart" "machine" "LTimeMachine$Machine;") (List.mem_of_getElem? (i := 1) rfl)) (fun _ h9 => h9) rfl dX4_store_92 ?_
  refine lv_aload_n hx hb dX4_store_95 rfl (lv_at hl 0 rfl) ?_
  refine va_get (D := (dC, dI)) (ci := 5) (v := .int (sI s18.1 0)) (C := RX4) (T := TX4) (N := 6) hx hb hts hi_dm_X4_store_X4 hown hK hP 0 rfl rfl 2 (by decide) (hts (.fieldLink RX4 20 "TimeMachine$Hart" "process" "I") (List.mem_of_getElem? (i := 2) rfl)) (fun _ h9 => h9) rfl dX4_store_96 ?_
  refine lv_iload_n hx hb dX4_store_99 rfl (lv_at hl 2 rfl) ?_
  refine lv_iconst (v := 1) hx hb dX4_store_100 (by decide) ?_
  refine lv_iload_n hx hb dX4_store_101 rfl (lv_at hl 1 rfl) ?_
  refine lv_ishl hx hb dX4_store_102 ?_
  obtain ⟨s20, hq, h⟩ := nd_b1_e h
  have hPc := dp_X4_1 hP
  have hDc := dd_X4_1 hD
  have hKc := dy_X4_1 hK
  have hFc := nd_rs hDc hS hA
  have hzA : ∀ q : Nat, H.size ≤ q → A q := fun q h => hA q (Nat.le_trans hS.1 h)
  refine nd_cVv (As := [.int (sI s18.1 0), .int x2, .int ((1 : Int32) <<< ((x1 : Int32) &&& 31))]) (rest := []) (w' := dw_X6 (fun k => a (k + 1)) (fun k => ac (k + 1)) s20) ⟨hx, hb, hml, hown, hts⟩ (fun sz => dm_X6_noteWrite l hlt dC dI (fun k => a (k + 1)) (fun k => ac (k + 1)) n ((sI s18.1 0)) (x2) (((1 : Int32) <<< ((x1 : Int32) &&& 31))) s18.2 hq sz) (cwV 3 hts gi_dm_X4_store_3 rfl rfl rfl (by decide +kernel) ⟨Nat.le_of_ble_eq_true rfl, Nat.le_of_ble_eq_true rfl⟩) hPc hDc hKc hS hA hN (va_recv hKc hPc (ci := 7) (q0 := 0) rfl rfl) rfl hl.1 rfl (Nat.le_of_ble_eq_true rfl) dX4_store_103 (fun H locs hP1 hD1 hk1 hS => ?_)
  obtain ⟨hP, hD⟩ := dn_X4_1 hP hD hzA hk1 hP1 hD1
  obtain ⟨s22, es22, h⟩ := nd_let_e h
  have hP : va_P (dC, dI) vwCl (dw_X4 a ac s22) H := by rw [es22]; exact hP
  have hD : va_D A (dw_X4 a ac s22) := by rw [es22]; exact hD
  refine lv_iconst (v := 0) hx hb dX4_store_106 (by decide) ?_
  exact K _ _ _ _ _ _ dX4_store_107 rfl (Option.some.inj h).symm hP hD hS
set_option maxHeartbeats 40000000 in
set_option maxRecDepth 100000 in
theorem db_X4_store_0 {p : Program} {l : Launch} {e : Env} {s : State} {m : MethodId} {args : Array Value} {below : List Frame} {meth : Method} {c : Code} {Q : State → Prop} {A : Nat → Prop} {dC : Nat → ClassId} {dI : Nat → Nat → Nat} {a : Nat → Nat} {ac : Nat → ClassId} {n : Nat} {r : Int32 × (St × (St × (St)))} (C : nd_C p l s m args c A (dC, dI) cX4_store 4 RX4 ow_dm_X4_store (dk_X4 ac)) (K : nd_Ki p l e (headSpec ow_dm_X4_store ({ frames := 2, cells := 0, slots := 0, locals := 65 })).room s m args below meth c Q A (dC, dI) cX4_store .int (St × (St × (St))) (dw_X4 a ac) r) : dj_X4_store_0 p l e s m args below meth c Q A dC dI a ac (df_X4_store_0 n) r := by
  obtain ⟨hlt, hx, hb, hml, hown, hts, hN, hA, hK⟩ := id C
  intro v0 v1 v2 s0 H locs ls h hP hD hS hl
  unfold df_X4_store_0 at h
  refine lv_iload_n hx hb dX4_store_0 rfl (lv_at hl 1 rfl) ?_
  refine lv_iconst (v := 2) hx hb dX4_store_1 (by decide) ?_
  refine lv_icmp_le (tgt := 7) hx hb dX4_store_2 (by decide) (fun c1 => ?_) (fun c1 => ?_)
  · have h := nd_pos h c1
    refine lv_iload_n hx hb dX4_store_7 rfl (lv_at hl 2 rfl) ?_
    refine lv_iconst (v := 1) hx hb dX4_store_8 (by decide) ?_
    refine lv_iload_n hx hb dX4_store_9 rfl (lv_at hl 1 rfl) ?_
    refine lv_ishl hx hb dX4_store_10 ?_
    refine lv_iconst (v := 1) hx hb dX4_store_11 (by decide) ?_
    refine lv_isub hx hb dX4_store_12 ?_
    refine lv_iand hx hb dX4_store_13 ?_
    refine lv_if_eq (tgt := 20) hx hb dX4_store_14 (by decide) (fun c2 => ?_) (fun c2 => ?_)
    · have h := nd_pos h c2
      refine lv_aload_n hx hb dX4_store_20 rfl (lv_at hl 0 rfl) ?_
      refine va_get (D := (dC, dI)) (ci := 5) (v := .ref (a 1)) (C := RX4) (T := TX4) (N := 6) hx hb hts hi_dm_X4_store_X4 hown hK hP 0 rfl rfl 0 (by decide) (hts (.fieldLink RX4 7 "TimeMachine$Hart" "machine" "LTimeMachine$Machine;") (List.mem_of_getElem? (i := 1) rfl)) (fun _ h9 => h9) rfl dX4_store_21 ?_
      refine lv_aload_n hx hb dX4_store_24 rfl (lv_at hl 0 rfl) ?_
      refine va_get (D := (dC, dI)) (ci := 5) (v := .int (sI s0.1 0)) (C := RX4) (T := TX4) (N := 6) hx hb hts hi_dm_X4_store_X4 hown hK hP 0 rfl rfl 2 (by decide) (hts (.fieldLink RX4 20 "TimeMachine$Hart" "process" "I") (List.mem_of_getElem? (i := 2) rfl)) (fun _ h9 => h9) rfl dX4_store_25 ?_
      refine lv_iload_n hx hb dX4_store_28 rfl (lv_at hl 2 rfl) ?_
      refine lv_iconst (v := 2) hx hb dX4_store_29 (by decide) ?_
      obtain ⟨q3, s4, hq, h⟩ := nd_b2_e h
      have hPc := dp_X4_1 hP
      have hDc := dd_X4_1 hD
      have hKc := dy_X4_1 hK
      have hFc := nd_rs hDc hS hA
      have hzA : ∀ q : Nat, H.size ≤ q → A q := fun q h => hA q (Nat.le_trans hS.1 h)
      refine nd_cVi (As := [.int (sI s0.1 0), .int v1, .int 2]) (rest := []) (q := q3) (w' := dw_X6 (fun k => a (k + 1)) (fun k => ac (k + 1)) s4) ⟨hx, hb, hml, hown, hts⟩ (fun sz => dm_X6_may l hlt dC dI (fun k => a (k + 1)) (fun k => ac (k + 1)) n ((sI s0.1 0)) (v1) (2) s0.2 hq sz) (cwV 3 hts gi_dm_X4_store_0 rfl rfl rfl (by decide +kernel) ⟨Nat.le_of_ble_eq_true rfl, Nat.le_of_ble_eq_true rfl⟩) hPc hDc hKc hS hA hN (va_recv hKc hPc (ci := 7) (q0 := 0) rfl rfl) rfl hl.1 rfl (Nat.le_of_ble_eq_true rfl) dX4_store_30 (fun H locs hP1 hD1 hk1 hS => ?_)
      obtain ⟨hP, hD⟩ := dn_X4_1 hP hD hzA hk1 hP1 hD1
      obtain ⟨s6, es6, h⟩ := nd_let_e h
      have hP : va_P (dC, dI) vwCl (dw_X4 a ac s6) H := by rw [es6]; exact hP
      have hD : va_D A (dw_X4 a ac s6) := by rw [es6]; exact hD
      refine lv_if_ne (tgt := 39) hx hb dX4_store_33 (by decide) (fun c7 => ?_) (fun c7 => ?_)
      · have h := nd_neg h c7
        refine lv_aload_n hx hb dX4_store_39 rfl (lv_at hl 0 rfl) ?_
        refine va_get (D := (dC, dI)) (ci := 5) (v := .ref (a 1)) (C := RX4) (T := TX4) (N := 6) hx hb hts hi_dm_X4_store_X4 hown hK hP 0 rfl rfl 0 (by decide) (hts (.fieldLink RX4 7 "TimeMachine$Hart" "machine" "LTimeMachine$Machine;") (List.mem_of_getElem? (i := 1) rfl)) (fun _ h9 => h9) rfl dX4_store_40 ?_
        refine lv_aload_n hx hb dX4_store_43 rfl (lv_at hl 0 rfl) ?_
        refine va_get (D := (dC, dI)) (ci := 5) (v := .int (sI s6.1 0)) (C := RX4) (T := TX4) (N := 6) hx hb hts hi_dm_X4_store_X4 hown hK hP 0 rfl rfl 2 (by decide) (hts (.fieldLink RX4 20 "TimeMachine$Hart" "process" "I") (List.mem_of_getElem? (i := 2) rfl)) (fun _ h9 => h9) rfl dX4_store_44 ?_
        refine lv_iload_n hx hb dX4_store_47 rfl (lv_at hl 2 rfl) ?_
        obtain ⟨q8, s9, hq, h⟩ := nd_b2_e h
        have hPc := dp_X4_1 hP
        have hDc := dd_X4_1 hD
        have hKc := dy_X4_1 hK
        have hFc := nd_rs hDc hS hA
        have hzA : ∀ q : Nat, H.size ≤ q → A q := fun q h => hA q (Nat.le_trans hS.1 h)
        refine nd_cVi (As := [.int (sI s6.1 0), .int v1]) (rest := []) (q := q8) (w' := dw_X6 (fun k => a (k + 1)) (fun k => ac (k + 1)) s9) ⟨hx, hb, hml, hown, hts⟩ (fun sz => dm_X6_own l hlt dC dI (fun k => a (k + 1)) (fun k => ac (k + 1)) n ((sI s6.1 0)) (v1) s6.2 hq sz) (cwV 2 hts gi_dm_X4_store_1 rfl rfl rfl (by decide +kernel) ⟨Nat.le_of_ble_eq_true rfl, Nat.le_of_ble_eq_true rfl⟩) hPc hDc hKc hS hA hN (va_recv hKc hPc (ci := 7) (q0 := 0) rfl rfl) rfl hl.1 rfl (Nat.le_of_ble_eq_true rfl) dX4_store_48 (fun H locs hP1 hD1 hk1 hS => ?_)
        obtain ⟨hP, hD⟩ := dn_X4_1 hP hD hzA hk1 hP1 hD1
        obtain ⟨s11, es11, h⟩ := nd_let_e h
        have hP : va_P (dC, dI) vwCl (dw_X4 a ac s11) H := by rw [es11]; exact hP
        have hD : va_D A (dw_X4 a ac s11) := by rw [es11]; exact hD
        refine lv_if_ne (tgt := 57) hx hb dX4_store_51 (by decide) (fun c12 => ?_) (fun c12 => ?_)
        · have h := nd_neg h c12
          refine lv_aload_n hx hb dX4_store_57 rfl (lv_at hl 0 rfl) ?_
          refine va_get (D := (dC, dI)) (ci := 5) (v := .ref (a 1)) (C := RX4) (T := TX4) (N := 6) hx hb hts hi_dm_X4_store_X4 hown hK hP 0 rfl rfl 0 (by decide) (hts (.fieldLink RX4 7 "TimeMachine$Hart" "machine" "LTimeMachine$Machine;") (List.mem_of_getElem? (i := 1) rfl)) (fun _ h9 => h9) rfl dX4_store_58 ?_
          refine lv_aload_n hx hb dX4_store_61 rfl (lv_at hl 0 rfl) ?_
          refine va_get (D := (dC, dI)) (ci := 5) (v := .int (sI s11.1 0)) (C := RX4) (T := TX4) (N := 6) hx hb hts hi_dm_X4_store_X4 hown hK hP 0 rfl rfl 2 (by decide) (hts (.fieldLink RX4 20 "TimeMachine$Hart" "process" "I") (List.mem_of_getElem? (i := 2) rfl)) (fun _ h9 => h9) rfl dX4_store_62 ?_
          refine lv_iload_n hx hb dX4_store_65 rfl (lv_at hl 2 rfl) ?_
          refine lv_iload_n hx hb dX4_store_66 rfl (lv_at hl 1 rfl) ?_
          refine lv_if_ne (tgt := 76) hx hb dX4_store_67 (by decide) (fun c13 => ?_) (fun c13 => ?_)
          · have h := nd_neg h c13
            refine lv_iload_n hx hb dX4_store_76 rfl (lv_at hl 1 rfl) ?_
            refine lv_iconst (v := 1) hx hb dX4_store_77 (by decide) ?_
            refine lv_icmp_ne (tgt := 86) hx hb dX4_store_78 (by decide) (fun c14 => ?_) (fun c14 => ?_)
            · have h := nd_neg h c14
              refine lv_iconst (v := (-1)) hx hb dX4_store_86 (by decide) ?_
              exact (db_X4_store_87 C K) (v0) (v1) (v2) ((sI s11.1 0)) (v1) ((-1)) s11 _ _ _ h hP hD hS (lv_sub hl [0, 1, 2, 3] rfl)
            · have h := nd_pos h c14
              refine lv_ldc hx hb hown (hts (.constant RX4 104 (65535)) (List.mem_of_getElem? (i := 16) rfl)) dX4_store_81 ?_
              refine lv_goto (tgt := 87) hx hb dX4_store_83 (by decide) ?_
              exact (db_X4_store_87 C K) (v0) (v1) (v2) ((sI s11.1 0)) (v1) (65535) s11 _ _ _ h hP hD hS (lv_sub hl [0, 1, 2, 3] rfl)
          · have h := nd_pos h c13
            refine lv_sipush (v := 255) hx hb dX4_store_70 (by decide) ?_
            refine lv_goto (tgt := 87) hx hb dX4_store_73 (by decide) ?_
            exact (db_X4_store_87 C K) (v0) (v1) (v2) ((sI s11.1 0)) (v1) (255) s11 _ _ _ h hP hD hS (lv_sub hl [0, 1, 2, 3] rfl)
        · have h := nd_pos h c12
          refine lv_bipush (v := 7) hx hb dX4_store_54 (by decide) ?_
          exact K _ _ _ _ _ _ dX4_store_56 rfl (Option.some.inj h).symm hP hD hS
      · have h := nd_pos h c7
        refine lv_bipush (v := 11) hx hb dX4_store_36 (by decide) ?_
        exact K _ _ _ _ _ _ dX4_store_38 rfl (Option.some.inj h).symm hP hD hS
    · have h := nd_neg h c2
      refine lv_bipush (v := 7) hx hb dX4_store_17 (by decide) ?_
      exact K _ _ _ _ _ _ dX4_store_19 rfl (Option.some.inj h).symm hP hD hS
  · have h := nd_neg h c1
    refine lv_iconst (v := 4) hx hb dX4_store_5 (by decide) ?_
    exact K _ _ _ _ _ _ dX4_store_6 rfl (Option.some.inj h).symm hP hD hS
set_option maxHeartbeats 40000000 in
set_option maxRecDepth 100000 in
theorem dm_X4_store (l : Launch) (hlt : l.stackTraces = false) (dC : Nat → ClassId) (dI : Nat → Nat → Nat) (a : Nat → Nat) (ac : Nat → ClassId) (n : Nat) (v0 : Int32) (v1 : Int32) (v2 : Int32) (s0 : St × (St × (St))) {r : Int32 × (St × (St × (St)))} (h : df_X4_store n v0 v1 v2 s0 = some r) (sz : Nat) : Met l yX4_store ow_dm_X4_store ({ frames := 2, cells := 0, slots := 0, locals := 65 }) (va_Pc [.ref (a 0), .int v0, .int v1, .int v2] (fun U => U.heap.size = sz ∧ va_P (dC, dI) vwCl (dw_X4 a ac s0) U.heap ∧ va_K (dC, dI) vwCl (dk_X4 ac) U ∧ va_D (fun _ => True) (dw_X4 a ac s0) ∧ nv_E dI (va_A (dw_X4 a ac s0) sz) U)) (va_Qi (fun x _ => x = r.1) (fun (_ : Unit) t => va_P (dC, dI) vwCl (dw_X4 a ac r.2) t.heap ∧ va_K (dC, dI) vwCl (dk_X4 ac) t ∧ va_D (va_A (dw_X4 a ac s0) sz) (dw_X4 a ac r.2)) (va_A (dw_X4 a ac s0) sz)) 0 0 (va_A (dw_X4 a ac s0) sz) := by
  refine Met.ofW (cc := cX4_store) (maxL := 4) (ret := (some .int)) (by decide) rfl ?_
  intro p e s m args below meth c s₁ B hml hv
  obtain ⟨rfl, hsz, hP, hK, hD0, hN⟩ := hv
  have hx := B.exec
  have hb := B.bytes
  have hr := B.returns
  have hts := atoms_spec (ws := ow_dm_X4_store) B.pre
  have hown : s.vm.findClass RX4 = some m.cls := findClass_of_methodNamed B.named
  have hlocks := B.notSynchronized
  subst hsz
  have hD := hD0.self (sz := s.heap.size)
  generalize hAe : va_A (dw_X4 a ac s0) s.heap.size = A at hD hN ⊢
  have hA : ∀ q : Nat, s.heap.size ≤ q → A q := fun q h => by rw [← hAe]; exact Or.inr h
  have hl := lv_entry ([.ref (a 0), .int v0, .int v1, .int v2]) (n := 4) (Nat.le_of_ble_eq_true rfl)
  rw [lg_entry_eq]
  generalize (lg_sl ([.ref (a 0), .int v0, .int v1, .int v2]) ++ List.replicate (4 - (lg_sl ([.ref (a 0), .int v0, .int v1, .int v2])).length) Slot.unset).toArray = ls at hl ⊢
  have hl : lv_has ls 4 [(0, .ref (a 0)), (1, .int v0), (2, .int v1), (3, .int v2)] := hl
  exact db_X4_store_0 (dC := dC) (dI := dI) (a := a) (ac := ac) (n := n) (r := r) ⟨hlt, hx, hb, hml, hown, hts, hN, hA, hK⟩ (fun pc v τ H locs ls d z er hP hD hS => by subst er; exact W.zret (v := v) hx hb hr z (fun t ht hW => ⟨⟨v, (), rfl, rfl, by rw [ht]; exact hP, va_K.moved hW.alike hK, hD⟩, hS.F ht⟩) hS.2.2 d) v0 v1 v2 s0 _ _ _ h hP hD va_S.rf (lv_sub hl [0, 1, 2, 3] rfl)
def ow_dm_X4_isAtomic : List Cond := Cond.code yX4_isAtomic cX4_isAtomic 1 (some .boolean) :: ([] ++ [])
theorem gd_dm_X4_isAtomic : ∀ w ∈ ow_dm_X4_isAtomic, (w.onTables && w.keeps) = true ∨ ∃ ty, w = Cond.arrayClass ty := List.forall_mem_cons.mpr ⟨good_of_word rfl, List.forall_mem_append.mpr ⟨fun w h => good_of_word (List.all_eq_true.mp (by decide +kernel) w h), fun _ h => nomatch h⟩⟩
def dj_X4_isAtomic_16 (p : Program) (l : Launch) (e : Env) (s : State) (m : MethodId) (args : Array Value) (below : List Frame) (meth : Method) (c : Code) (Q : State → Prop) (A : Nat → Prop) (dC : Nat → ClassId) (dI : Nat → Nat → Nat) (a : Nat → Nat) (ac : Nat → ClassId) (g : Int32 → (Unit) → Option (Int32 × (Unit))) (r : Int32 × (Unit)) : Prop := ∀ (y0 : Int32) (s0 : Unit) (H : Heap) (locs : List Loc) (ls : Array Slot), g y0 s0 = some r → va_P (dC, dI) vwCl (dw_P a ac s0) H → va_D A (dw_P a ac s0) → va_S A s.heap H locs → lv_has ls 1 [] → W p l e (headSpec ow_dm_X4_isAtomic ({ frames := 0, cells := 0, slots := 0, locals := 0 })).room s m args below meth c H locs 0 0 Q (F0 m 16 ls [.int y0])
def dj_X4_isAtomic_11 (p : Program) (l : Launch) (e : Env) (s : State) (m : MethodId) (args : Array Value) (below : List Frame) (meth : Method) (c : Code) (Q : State → Prop) (A : Nat → Prop) (dC : Nat → ClassId) (dI : Nat → Nat → Nat) (a : Nat → Nat) (ac : Nat → ClassId) (g : (Unit) → Option (Int32 × (Unit))) (r : Int32 × (Unit)) : Prop := ∀ (s0 : Unit) (H : Heap) (locs : List Loc) (ls : Array Slot), g s0 = some r → va_P (dC, dI) vwCl (dw_P a ac s0) H → va_D A (dw_P a ac s0) → va_S A s.heap H locs → lv_has ls 1 [] → W p l e (headSpec ow_dm_X4_isAtomic ({ frames := 0, cells := 0, slots := 0, locals := 0 })).room s m args below meth c H locs 0 0 Q (F0 m 11 ls [])
def dj_X4_isAtomic_0 (p : Program) (l : Launch) (e : Env) (s : State) (m : MethodId) (args : Array Value) (below : List Frame) (meth : Method) (c : Code) (Q : State → Prop) (A : Nat → Prop) (dC : Nat → ClassId) (dI : Nat → Nat → Nat) (a : Nat → Nat) (ac : Nat → ClassId) (g : Int32 → (Unit) → Option (Int32 × (Unit))) (r : Int32 × (Unit)) : Prop := ∀ (v0 : Int32) (s0 : Unit) (H : Heap) (locs : List Loc) (ls : Array Slot), g v0 s0 = some r → va_P (dC, dI) vwCl (dw_P a ac s0) H → va_D A (dw_P a ac s0) → va_S A s.heap H locs → lv_has ls 1 [(0, .int v0)] → W p l e (headSpec ow_dm_X4_isAtomic ({ frames := 0, cells := 0, slots := 0, locals := 0 })).room s m args below meth c H locs 0 0 Q (F0 m 0 ls [])
set_option maxHeartbeats 40000000 in
set_option maxRecDepth 100000 in
theorem db_X4_isAtomic_16 {p : Program} {l : Launch} {e : Env} {s : State} {m : MethodId} {args : Array Value} {below : List Frame} {meth : Method} {c : Code} {Q : State → Prop} {A : Nat → Prop} {dC : Nat → ClassId} {dI : Nat → Nat → Nat} {a : Nat → Nat} {ac : Nat → ClassId} {n : Nat} {r : Int32 × (Unit)} (C : nd_C p l s m args c A (dC, dI) cX4_isAtomic 1 RX4 ow_dm_X4_isAtomic (dk_P ac)) (K : nd_Ki p l e (headSpec ow_dm_X4_isAtomic ({ frames := 0, cells := 0, slots := 0, locals := 0 })).room s m args below meth c Q A (dC, dI) cX4_isAtomic .boolean (Unit) (dw_P a ac) r) : dj_X4_isAtomic_16 p l e s m args below meth c Q A dC dI a ac (df_X4_isAtomic_16 n) r := by
  obtain ⟨hlt, hx, hb, hml, hown, hts, hN, hA, hK⟩ := id C
  intro y0 s0 H locs ls h hP hD hS hl
  unfold df_X4_isAtomic_16 at h
  obtain ⟨n2, h⟩ := nd_z_e ⟨_, rfl⟩ h
  exact K _ _ _ _ _ _ dX4_isAtomic_16 n2 (Option.some.inj h).symm hP hD hS
set_option maxHeartbeats 40000000 in
set_option maxRecDepth 100000 in
theorem db_X4_isAtomic_11 {p : Program} {l : Launch} {e : Env} {s : State} {m : MethodId} {args : Array Value} {below : List Frame} {meth : Method} {c : Code} {Q : State → Prop} {A : Nat → Prop} {dC : Nat → ClassId} {dI : Nat → Nat → Nat} {a : Nat → Nat} {ac : Nat → ClassId} {n : Nat} {r : Int32 × (Unit)} (C : nd_C p l s m args c A (dC, dI) cX4_isAtomic 1 RX4 ow_dm_X4_isAtomic (dk_P ac)) (K : nd_Ki p l e (headSpec ow_dm_X4_isAtomic ({ frames := 0, cells := 0, slots := 0, locals := 0 })).room s m args below meth c Q A (dC, dI) cX4_isAtomic .boolean (Unit) (dw_P a ac) r) : dj_X4_isAtomic_11 p l e s m args below meth c Q A dC dI a ac (df_X4_isAtomic_11 n) r := by
  obtain ⟨hlt, hx, hb, hml, hown, hts, hN, hA, hK⟩ := id C
  intro s0 H locs ls h hP hD hS hl
  unfold df_X4_isAtomic_11 at h
  refine lv_iconst (v := 1) hx hb dX4_isAtomic_11 (by decide) ?_
  refine lv_goto (tgt := 16) hx hb dX4_isAtomic_12 (by decide) ?_
  exact (db_X4_isAtomic_16 C K) (1) s0 _ _ _ h hP hD hS (lv_sub hl [] rfl)
set_option maxHeartbeats 40000000 in
set_option maxRecDepth 100000 in
theorem db_X4_isAtomic_0 {p : Program} {l : Launch} {e : Env} {s : State} {m : MethodId} {args : Array Value} {below : List Frame} {meth : Method} {c : Code} {Q : State → Prop} {A : Nat → Prop} {dC : Nat → ClassId} {dI : Nat → Nat → Nat} {a : Nat → Nat} {ac : Nat → ClassId} {n : Nat} {r : Int32 × (Unit)} (C : nd_C p l s m args c A (dC, dI) cX4_isAtomic 1 RX4 ow_dm_X4_isAtomic (dk_P ac)) (K : nd_Ki p l e (headSpec ow_dm_X4_isAtomic ({ frames := 0, cells := 0, slots := 0, locals := 0 })).room s m args below meth c Q A (dC, dI) cX4_isAtomic .boolean (Unit) (dw_P a ac) r) : dj_X4_isAtomic_0 p l e s m args below meth c Q A dC dI a ac (df_X4_isAtomic_0 n) r := by
  obtain ⟨hlt, hx, hb, hml, hown, hts, hN, hA, hK⟩ := id C
  intro v0 s0 H locs ls h hP hD hS hl
  unfold df_X4_isAtomic_0 at h
  refine lv_iload_n hx hb dX4_isAtomic_0 rfl (lv_at hl 0 rfl) ?_
  refine lv_iconst (v := 4) hx hb dX4_isAtomic_1 (by decide) ?_
  refine lv_icmp_le (tgt := 11) hx hb dX4_isAtomic_2 (by decide) (fun c1 => ?_) (fun c1 => ?_)
  · have h := nd_pos h c1
    exact (db_X4_isAtomic_11 C K)  s0 _ _ _ h hP hD hS (lv_sub hl [] rfl)
  · have h := nd_neg h c1
    refine lv_iload_n hx hb dX4_isAtomic_5 rfl (lv_at hl 0 rfl) ?_
    refine lv_iconst (v := 3) hx hb dX4_isAtomic_6 (by decide) ?_
    refine lv_iand hx hb dX4_isAtomic_7 ?_
    refine lv_if_ne (tgt := 15) hx hb dX4_isAtomic_8 (by decide) (fun c3 => ?_) (fun c3 => ?_)
    · have h := nd_neg h c3
      refine lv_iconst (v := 0) hx hb dX4_isAtomic_15 (by decide) ?_
      exact (db_X4_isAtomic_16 C K) (0) s0 _ _ _ h hP hD hS (lv_sub hl [] rfl)
    · have h := nd_pos h c3
      exact (db_X4_isAtomic_11 C K)  s0 _ _ _ h hP hD hS (lv_sub hl [] rfl)
set_option maxHeartbeats 40000000 in
set_option maxRecDepth 100000 in
theorem dm_X4_isAtomic (l : Launch) (hlt : l.stackTraces = false) (dC : Nat → ClassId) (dI : Nat → Nat → Nat) (a : Nat → Nat) (ac : Nat → ClassId) (n : Nat) (v0 : Int32) (s0 : Unit) {r : Int32 × (Unit)} (h : df_X4_isAtomic n v0 s0 = some r) (sz : Nat) : Met l yX4_isAtomic ow_dm_X4_isAtomic ({ frames := 0, cells := 0, slots := 0, locals := 0 }) (va_Pc [.int v0] (fun U => U.heap.size = sz ∧ va_P (dC, dI) vwCl (dw_P a ac s0) U.heap ∧ va_K (dC, dI) vwCl (dk_P ac) U ∧ va_D (fun _ => True) (dw_P a ac s0) ∧ nv_E dI (va_A (dw_P a ac s0) sz) U)) (va_Qi (fun x _ => x = r.1) (fun (_ : Unit) t => va_P (dC, dI) vwCl (dw_P a ac r.2) t.heap ∧ va_K (dC, dI) vwCl (dk_P ac) t ∧ va_D (va_A (dw_P a ac s0) sz) (dw_P a ac r.2)) (va_A (dw_P a ac s0) sz)) 0 0 (va_A (dw_P a ac s0) sz) := by
  refine Met.ofW (cc := cX4_isAtomic) (maxL := 1) (ret := (some .boolean)) (by decide) rfl ?_
  intro p e s m args below meth c s₁ B hml hv
  obtain ⟨rfl, hsz, hP, hK, hD0, hN⟩ := hv
  have hx := B.exec
  have hb := B.bytes
  have hr := B.returns
  have hts := atoms_spec (ws := ow_dm_X4_isAtomic) B.pre
  have hown : s.vm.findClass RX4 = some m.cls := findClass_of_methodNamed B.named
  have hlocks := B.notSynchronized
  subst hsz
  have hD := hD0.self (sz := s.heap.size)
  generalize hAe : va_A (dw_P a ac s0) s.heap.size = A at hD hN ⊢
  have hA : ∀ q : Nat, s.heap.size ≤ q → A q := fun q h => by rw [← hAe]; exact Or.inr h
  have hl := lv_entry ([.int v0]) (n := 1) (Nat.le_of_ble_eq_true rfl)
  rw [lg_entry_eq]
  generalize (lg_sl ([.int v0]) ++ List.replicate (1 - (lg_sl ([.int v0])).length) Slot.unset).toArray = ls at hl ⊢
  have hl : lv_has ls 1 [(0, .int v0)] := hl
  exact db_X4_isAtomic_0 (dC := dC) (dI := dI) (a := a) (ac := ac) (n := n) (r := r) ⟨hlt, hx, hb, hml, hown, hts, hN, hA, hK⟩ (fun pc v τ H locs ls d z er hP hD hS => by subst er; exact W.zret (v := v) hx hb hr z (fun t ht hW => ⟨⟨v, (), rfl, rfl, by rw [ht]; exact hP, va_K.moved hW.alike hK, hD⟩, hS.F ht⟩) hS.2.2 d) v0 s0 _ _ _ h hP hD va_S.rf (lv_sub hl [0] rfl)
def ow_dm_X4_changed : List Cond := Cond.code yX4_changed cX4_changed 3 (some .int) :: ([Cond.methodLink RX4 89 yJ6_compareUnsigned_7cf53, Cond.static yJ6_compareUnsigned_7cf53, Cond.initialized RJ6, Cond.methodLink RX4 128 Lib.Math.min.name, Cond.static Lib.Math.min.name, Cond.initialized "java/lang/Math", Cond.code Lib.Math.min.name Lib.Math.min.code 2 (some .int), Cond.methodLink RX4 133 Lib.Math.max.name, Cond.static Lib.Math.max.name, Cond.code Lib.Math.max.name Lib.Math.max.code 2 (some .int)] ++ (ow_dm_J6_compareUnsigned_7cf53 ++ []))
theorem gd_dm_X4_changed : ∀ w ∈ ow_dm_X4_changed, (w.onTables && w.keeps) = true ∨ ∃ ty, w = Cond.arrayClass ty := List.forall_mem_cons.mpr ⟨good_of_word rfl, List.forall_mem_append.mpr ⟨fun w h => good_of_word (List.all_eq_true.mp (by decide +kernel) w h), List.forall_mem_append.mpr ⟨gd_dm_J6_compareUnsigned_7cf53, fun _ h => nomatch h⟩⟩⟩
theorem gi_dm_X4_changed_0 : GoodIn ow_dm_X4_changed (va_wsS RX4 89 yJ6_compareUnsigned_7cf53 ow_dm_J6_compareUnsigned_7cf53) := goodIn_app (goodIn_of _ (by decide +kernel)) (fun w h => ⟨List.mem_cons_of_mem _ (List.mem_append_right _ (List.mem_append_left _ h)), gd_dm_J6_compareUnsigned_7cf53 w h⟩)
def dj_X4_changed_173 (p : Program) (l : Launch) (e : Env) (s : State) (m : MethodId) (args : Array Value) (below : List Frame) (meth : Method) (c : Code) (Q : State → Prop) (A : Nat → Prop) (dC : Nat → ClassId) (dI : Nat → Nat → Nat) (a : Nat → Nat) (ac : Nat → ClassId) (g : Int32 → (Unit) → Option (Int32 × (Unit))) (r : Int32 × (Unit)) : Prop := ∀ (y0 : Int32) (s0 : Unit) (H : Heap) (locs : List Loc) (ls : Array Slot), g y0 s0 = some r → va_P (dC, dI) vwCl (dw_P a ac s0) H → va_D A (dw_P a ac s0) → va_S A s.heap H locs → lv_has ls 3 [] → W p l e (headSpec ow_dm_X4_changed ({ frames := 2, cells := 0, slots := 0, locals := 42 })).room s m args below meth c H locs 0 0 Q (F0 m 173 ls [.int y0])
def dj_X4_changed_160 (p : Program) (l : Launch) (e : Env) (s : State) (m : MethodId) (args : Array Value) (below : List Frame) (meth : Method) (c : Code) (Q : State → Prop) (A : Nat → Prop) (dC : Nat → ClassId) (dI : Nat → Nat → Nat) (a : Nat → Nat) (ac : Nat → ClassId) (g : Int32 → Int32 → (Unit) → Option (Int32 × (Unit))) (r : Int32 × (Unit)) : Prop := ∀ (x1 : Int32) (x2 : Int32) (s0 : Unit) (H : Heap) (locs : List Loc) (ls : Array Slot), g x1 x2 s0 = some r → va_P (dC, dI) vwCl (dw_P a ac s0) H → va_D A (dw_P a ac s0) → va_S A s.heap H locs → lv_has ls 3 [(1, .int x1), (2, .int x2)] → W p l e (headSpec ow_dm_X4_changed ({ frames := 2, cells := 0, slots := 0, locals := 42 })).room s m args below meth c H locs 0 0 Q (F0 m 160 ls [])
def dj_X4_changed_159 (p : Program) (l : Launch) (e : Env) (s : State) (m : MethodId) (args : Array Value) (below : List Frame) (meth : Method) (c : Code) (Q : State → Prop) (A : Nat → Prop) (dC : Nat → ClassId) (dI : Nat → Nat → Nat) (a : Nat → Nat) (ac : Nat → ClassId) (g : Int32 → (Unit) → Option (Int32 × (Unit))) (r : Int32 × (Unit)) : Prop := ∀ (y0 : Int32) (s0 : Unit) (H : Heap) (locs : List Loc) (ls : Array Slot), g y0 s0 = some r → va_P (dC, dI) vwCl (dw_P a ac s0) H → va_D A (dw_P a ac s0) → va_S A s.heap H locs → lv_has ls 3 [] → W p l e (headSpec ow_dm_X4_changed ({ frames := 2, cells := 0, slots := 0, locals := 42 })).room s m args below meth c H locs 0 0 Q (F0 m 159 ls [.int y0])
def dj_X4_changed_0 (p : Program) (l : Launch) (e : Env) (s : State) (m : MethodId) (args : Array Value) (below : List Frame) (meth : Method) (c : Code) (Q : State → Prop) (A : Nat → Prop) (dC : Nat → ClassId) (dI : Nat → Nat → Nat) (a : Nat → Nat) (ac : Nat → ClassId) (g : Int32 → Int32 → Int32 → (Unit) → Option (Int32 × (Unit))) (r : Int32 × (Unit)) : Prop := ∀ (v0 : Int32) (v1 : Int32) (v2 : Int32) (s0 : Unit) (H : Heap) (locs : List Loc) (ls : Array Slot), g v0 v1 v2 s0 = some r → va_P (dC, dI) vwCl (dw_P a ac s0) H → va_D A (dw_P a ac s0) → va_S A s.heap H locs → lv_has ls 3 [(0, .int v0), (1, .int v1), (2, .int v2)] → W p l e (headSpec ow_dm_X4_changed ({ frames := 2, cells := 0, slots := 0, locals := 42 })).room s m args below meth c H locs 0 0 Q (F0 m 0 ls [])
set_option maxHeartbeats 40000000 in
set_option maxRecDepth 100000 in
theorem db_X4_changed_173 {p : Program} {l : Launch} {e : Env} {s : State} {m : MethodId} {args : Array Value} {below : List Frame} {meth : Method} {c : Code} {Q : State → Prop} {A : Nat → Prop} {dC : Nat → ClassId} {dI : Nat → Nat → Nat} {a : Nat → Nat} {ac : Nat → ClassId} {n : Nat} {r : Int32 × (Unit)} (C : nd_C p l s m args c A (dC, dI) cX4_changed 3 RX4 ow_dm_X4_changed (dk_P ac)) (K : nd_Ki p l e (headSpec ow_dm_X4_changed ({ frames := 2, cells := 0, slots := 0, locals := 42 })).room s m args below meth c Q A (dC, dI) cX4_changed .int (Unit) (dw_P a ac) r) : dj_X4_changed_173 p l e s m args below meth c Q A dC dI a ac (df_X4_changed_173 n) r := by
  obtain ⟨hlt, hx, hb, hml, hown, hts, hN, hA, hK⟩ := id C
  intro y0 s0 H locs ls h hP hD hS hl
  unfold df_X4_changed_173 at h
  exact K _ _ _ _ _ _ dX4_changed_173 rfl (Option.some.inj h).symm hP hD hS
set_option maxHeartbeats 40000000 in
set_option maxRecDepth 100000 in
theorem db_X4_changed_160 {p : Program} {l : Launch} {e : Env} {s : State} {m : MethodId} {args : Array Value} {below : List Frame} {meth : Method} {c : Code} {Q : State → Prop} {A : Nat → Prop} {dC : Nat → ClassId} {dI : Nat → Nat → Nat} {a : Nat → Nat} {ac : Nat → ClassId} {n : Nat} {r : Int32 × (Unit)} (C : nd_C p l s m args c A (dC, dI) cX4_changed 3 RX4 ow_dm_X4_changed (dk_P ac)) (K : nd_Ki p l e (headSpec ow_dm_X4_changed ({ frames := 2, cells := 0, slots := 0, locals := 42 })).room s m args below meth c Q A (dC, dI) cX4_changed .int (Unit) (dw_P a ac) r) : dj_X4_changed_160 p l e s m args below meth c Q A dC dI a ac (df_X4_changed_160 n) r := by
  obtain ⟨hlt, hx, hb, hml, hown, hts, hN, hA, hK⟩ := id C
  intro x1 x2 s0 H locs ls h hP hD hS hl
  unfold df_X4_changed_160 at h
  refine lv_iload_n hx hb dX4_changed_160 rfl (lv_at hl 0 rfl) ?_
  refine lv_iload_n hx hb dX4_changed_161 rfl (lv_at hl 1 rfl) ?_
  obtain ⟨q4, s5, hq, h⟩ := nd_b2_e h
  have hPc : va_P (dC, dI) vwCl (dw_P a ac ()) H := nd_p0
  have hDc : va_D A (dw_P a ac ()) := nd_d0
  have hKc : va_K (dC, dI) vwCl (dk_P ac) s := nd_y0 hK
  have hFc : ∀ q, va_A (dw_P a ac ()) H.size q → A q := nd_r0 hS hA
  refine nd_cSi (As := [.int x1, .int x2]) (rest := []) (q := q4) (w' := dw_P a ac s5) ⟨hx, hb, hml, hown, hts⟩ (fun sz => dm_J6_compareUnsigned_7cf53 l hlt dC dI a ac n (x1) (x2) () hq sz) (va_cwS 2 hts gi_dm_X4_changed_0 rfl rfl rfl (by decide +kernel) ⟨Nat.le_of_ble_eq_true rfl, Nat.le_of_ble_eq_true rfl⟩) hPc hDc hKc hS hA hN rfl hl.1 rfl (Nat.le_of_ble_eq_true rfl) dX4_changed_162 (fun H locs hP1 hD1 hk1 hS => ?_)
  have hP := nd_n0 hP hk1
  refine lv_if_le (tgt := 172) hx hb dX4_changed_165 (by decide) (fun c7 => ?_) (fun c7 => ?_)
  · have h := nd_pos h c7
    refine lv_iload_n hx hb dX4_changed_172 rfl (lv_at hl 1 rfl) ?_
    exact (db_X4_changed_173 C K) (x2) s0 _ _ _ h hP hD hS (lv_sub hl [] rfl)
  · have h := nd_neg h c7
    refine lv_iload_n hx hb dX4_changed_168 rfl (lv_at hl 0 rfl) ?_
    refine lv_goto (tgt := 173) hx hb dX4_changed_169 (by decide) ?_
    exact (db_X4_changed_173 C K) (x1) s0 _ _ _ h hP hD hS (lv_sub hl [] rfl)
set_option maxHeartbeats 40000000 in
set_option maxRecDepth 100000 in
theorem db_X4_changed_159 {p : Program} {l : Launch} {e : Env} {s : State} {m : MethodId} {args : Array Value} {below : List Frame} {meth : Method} {c : Code} {Q : State → Prop} {A : Nat → Prop} {dC : Nat → ClassId} {dI : Nat → Nat → Nat} {a : Nat → Nat} {ac : Nat → ClassId} {n : Nat} {r : Int32 × (Unit)} (C : nd_C p l s m args c A (dC, dI) cX4_changed 3 RX4 ow_dm_X4_changed (dk_P ac)) (K : nd_Ki p l e (headSpec ow_dm_X4_changed ({ frames := 2, cells := 0, slots := 0, locals := 42 })).room s m args below meth c Q A (dC, dI) cX4_changed .int (Unit) (dw_P a ac) r) : dj_X4_changed_159 p l e s m args below meth c Q A dC dI a ac (df_X4_changed_159 n) r := by
  obtain ⟨hlt, hx, hb, hml, hown, hts, hN, hA, hK⟩ := id C
  intro y0 s0 H locs ls h hP hD hS hl
  unfold df_X4_changed_159 at h
  exact K _ _ _ _ _ _ dX4_changed_159 rfl (Option.some.inj h).symm hP hD hS
set_option maxHeartbeats 40000000 in
set_option maxRecDepth 100000 in
theorem db_X4_changed_0 {p : Program} {l : Launch} {e : Env} {s : State} {m : MethodId} {args : Array Value} {below : List Frame} {meth : Method} {c : Code} {Q : State → Prop} {A : Nat → Prop} {dC : Nat → ClassId} {dI : Nat → Nat → Nat} {a : Nat → Nat} {ac : Nat → ClassId} {n : Nat} {r : Int32 × (Unit)} (C : nd_C p l s m args c A (dC, dI) cX4_changed 3 RX4 ow_dm_X4_changed (dk_P ac)) (K : nd_Ki p l e (headSpec ow_dm_X4_changed ({ frames := 2, cells := 0, slots := 0, locals := 42 })).room s m args below meth c Q A (dC, dI) cX4_changed .int (Unit) (dw_P a ac) r) : dj_X4_changed_0 p l e s m args below meth c Q A dC dI a ac (df_X4_changed_0 n) r := by
  obtain ⟨hlt, hx, hb, hml, hown, hts, hN, hA, hK⟩ := id C
  intro v0 v1 v2 s0 H locs ls h hP hD hS hl
  unfold df_X4_changed_0 at h
  refine lv_iload_n hx hb dX4_changed_0 rfl (lv_at hl 0 rfl) ?_
  by_cases c1 : v0 = 0
  · have h := nd_pos h c1
    refine lv_tableIn (off := 115) (tgt := 116) hx hb dX4_changed_1 (by rw [c1]; decide) (by rw [c1]; decide) (by rw [c1]; decide) (by decide) ?_
    refine lv_iload_n hx hb dX4_changed_116 rfl (lv_at hl 1 rfl) ?_
    refine lv_iload_n hx hb dX4_changed_117 rfl (lv_at hl 2 rfl) ?_
    refine lv_iadd hx hb dX4_changed_118 ?_
    exact K _ _ _ _ _ _ dX4_changed_119 rfl (Option.some.inj h).symm hP hD hS
  have h := nd_neg h c1
  by_cases c2 : v0 = 1
  · have h := nd_pos h c2
    refine lv_tableIn (off := 119) (tgt := 120) hx hb dX4_changed_1 (by rw [c2]; decide) (by rw [c2]; decide) (by rw [c2]; decide) (by decide) ?_
    refine lv_iload_n hx hb dX4_changed_120 rfl (lv_at hl 2 rfl) ?_
    exact K _ _ _ _ _ _ dX4_changed_121 rfl (Option.some.inj h).symm hP hD hS
  have h := nd_neg h c2
  by_cases c3 : v0 = 2
  · have h := nd_pos h c3
    refine lv_tableIn (off := 159) (tgt := 160) hx hb dX4_changed_1 (by rw [c3]; decide) (by rw [c3]; decide) (by rw [c3]; decide) (by decide) ?_
    exact (db_X4_changed_160 C K) (v1) (v2) s0 _ _ _ h hP hD hS (lv_sub hl [1, 2] rfl)
  have h := nd_neg h c3
  by_cases c8 : v0 = 3
  · have h := nd_pos h c8
    refine lv_tableIn (off := 159) (tgt := 160) hx hb dX4_changed_1 (by rw [c8]; decide) (by rw [c8]; decide) (by rw [c8]; decide) (by decide) ?_
    exact (db_X4_changed_160 C K) (v1) (v2) s0 _ _ _ h hP hD hS (lv_sub hl [1, 2] rfl)
  have h := nd_neg h c8
  by_cases c9 : v0 = 4
  · have h := nd_pos h c9
    refine lv_tableIn (off := 121) (tgt := 122) hx hb dX4_changed_1 (by rw [c9]; decide) (by rw [c9]; decide) (by rw [c9]; decide) (by decide) ?_
    refine lv_iload_n hx hb dX4_changed_122 rfl (lv_at hl 1 rfl) ?_
    refine lv_iload_n hx hb dX4_changed_123 rfl (lv_at hl 2 rfl) ?_
    refine lv_ixor hx hb dX4_changed_124 ?_
    exact K _ _ _ _ _ _ dX4_changed_125 rfl (Option.some.inj h).symm hP hD hS
  have h := nd_neg h c9
  by_cases c10 : v0 = 5
  · have h := nd_pos h c10
    refine lv_tableIn (off := 159) (tgt := 160) hx hb dX4_changed_1 (by rw [c10]; decide) (by rw [c10]; decide) (by rw [c10]; decide) (by decide) ?_
    exact (db_X4_changed_160 C K) (v1) (v2) s0 _ _ _ h hP hD hS (lv_sub hl [1, 2] rfl)
  have h := nd_neg h c10
  by_cases c11 : v0 = 6
  · have h := nd_pos h c11
    refine lv_tableIn (off := 159) (tgt := 160) hx hb dX4_changed_1 (by rw [c11]; decide) (by rw [c11]; decide) (by rw [c11]; decide) (by decide) ?_
    exact (db_X4_changed_160 C K) (v1) (v2) s0 _ _ _ h hP hD hS (lv_sub hl [1, 2] rfl)
  have h := nd_neg h c11
  by_cases c12 : v0 = 7
  · have h := nd_pos h c12
    refine lv_tableIn (off := 159) (tgt := 160) hx hb dX4_changed_1 (by rw [c12]; decide) (by rw [c12]; decide) (by rw [c12]; decide) (by decide) ?_
    exact (db_X4_changed_160 C K) (v1) (v2) s0 _ _ _ h hP hD hS (lv_sub hl [1, 2] rfl)
  have h := nd_neg h c12
  by_cases c13 : v0 = 8
  · have h := nd_pos h c13
    refine lv_tableIn (off := 125) (tgt := 126) hx hb dX4_changed_1 (by rw [c13]; decide) (by rw [c13]; decide) (by rw [c13]; decide) (by decide) ?_
    refine lv_iload_n hx hb dX4_changed_126 rfl (lv_at hl 1 rfl) ?_
    refine lv_iload_n hx hb dX4_changed_127 rfl (lv_at hl 2 rfl) ?_
    refine lv_ior hx hb dX4_changed_128 ?_
    exact K _ _ _ _ _ _ dX4_changed_129 rfl (Option.some.inj h).symm hP hD hS
  have h := nd_neg h c13
  by_cases c14 : v0 = 9
  · have h := nd_pos h c14
    refine lv_tableIn (off := 159) (tgt := 160) hx hb dX4_changed_1 (by rw [c14]; decide) (by rw [c14]; decide) (by rw [c14]; decide) (by decide) ?_
    exact (db_X4_changed_160 C K) (v1) (v2) s0 _ _ _ h hP hD hS (lv_sub hl [1, 2] rfl)
  have h := nd_neg h c14
  by_cases c15 : v0 = 10
  · have h := nd_pos h c15
    refine lv_tableIn (off := 159) (tgt := 160) hx hb dX4_changed_1 (by rw [c15]; decide) (by rw [c15]; decide) (by rw [c15]; decide) (by decide) ?_
    exact (db_X4_changed_160 C K) (v1) (v2) s0 _ _ _ h hP hD hS (lv_sub hl [1, 2] rfl)
  have h := nd_neg h c15
  by_cases c16 : v0 = 11
  · have h := nd_pos h c16
    refine lv_tableIn (off := 159) (tgt := 160) hx hb dX4_changed_1 (by rw [c16]; decide) (by rw [c16]; decide) (by rw [c16]; decide) (by decide) ?_
    exact (db_X4_changed_160 C K) (v1) (v2) s0 _ _ _ h hP hD hS (lv_sub hl [1, 2] rfl)
  have h := nd_neg h c16
  by_cases c17 : v0 = 12
  · have h := nd_pos h c17
    refine lv_tableIn (off := 129) (tgt := 130) hx hb dX4_changed_1 (by rw [c17]; decide) (by rw [c17]; decide) (by rw [c17]; decide) (by decide) ?_
    refine lv_iload_n hx hb dX4_changed_130 rfl (lv_at hl 1 rfl) ?_
    refine lv_iload_n hx hb dX4_changed_131 rfl (lv_at hl 2 rfl) ?_
    refine lv_iand hx hb dX4_changed_132 ?_
    exact K _ _ _ _ _ _ dX4_changed_133 rfl (Option.some.inj h).symm hP hD hS
  have h := nd_neg h c17
  by_cases c18 : v0 = 13
  · have h := nd_pos h c18
    refine lv_tableIn (off := 159) (tgt := 160) hx hb dX4_changed_1 (by rw [c18]; decide) (by rw [c18]; decide) (by rw [c18]; decide) (by decide) ?_
    exact (db_X4_changed_160 C K) (v1) (v2) s0 _ _ _ h hP hD hS (lv_sub hl [1, 2] rfl)
  have h := nd_neg h c18
  by_cases c19 : v0 = 14
  · have h := nd_pos h c19
    refine lv_tableIn (off := 159) (tgt := 160) hx hb dX4_changed_1 (by rw [c19]; decide) (by rw [c19]; decide) (by rw [c19]; decide) (by decide) ?_
    exact (db_X4_changed_160 C K) (v1) (v2) s0 _ _ _ h hP hD hS (lv_sub hl [1, 2] rfl)
  have h := nd_neg h c19
  by_cases c20 : v0 = 15
  · have h := nd_pos h c20
    refine lv_tableIn (off := 159) (tgt := 160) hx hb dX4_changed_1 (by rw [c20]; decide) (by rw [c20]; decide) (by rw [c20]; decide) (by decide) ?_
    exact (db_X4_changed_160 C K) (v1) (v2) s0 _ _ _ h hP hD hS (lv_sub hl [1, 2] rfl)
  have h := nd_neg h c20
  by_cases c21 : v0 = 16
  · have h := nd_pos h c21
    refine lv_tableIn (off := 133) (tgt := 134) hx hb dX4_changed_1 (by rw [c21]; decide) (by rw [c21]; decide) (by rw [c21]; decide) (by decide) ?_
    refine lv_iload_n hx hb dX4_changed_134 rfl (lv_at hl 1 rfl) ?_
    refine lv_iload_n hx hb dX4_changed_135 rfl (lv_at hl 2 rfl) ?_
    refine va_mmin hx hb (by rw [hml]; exact hl.1.symm) hown (hts (.methodLink RX4 128 Lib.Math.min.name) (List.mem_of_getElem? (i := 4) rfl)) (hts (.static Lib.Math.min.name) (List.mem_of_getElem? (i := 5) rfl)) (hts (.initialized "java/lang/Math") (List.mem_of_getElem? (i := 6) rfl)) (hts (.code Lib.Math.min.name Lib.Math.min.code 2 (some .int)) (List.mem_of_getElem? (i := 7) rfl)) (Nat.le_of_ble_eq_true rfl) (Nat.le_of_ble_eq_true rfl) (by decide +kernel) (by decide +kernel) dX4_changed_136 ?_
    exact K _ _ _ _ _ _ dX4_changed_139 rfl (Option.some.inj h).symm hP hD hS
  have h := nd_neg h c21
  by_cases c22 : v0 = 17
  · have h := nd_pos h c22
    refine lv_tableIn (off := 159) (tgt := 160) hx hb dX4_changed_1 (by rw [c22]; decide) (by rw [c22]; decide) (by rw [c22]; decide) (by decide) ?_
    exact (db_X4_changed_160 C K) (v1) (v2) s0 _ _ _ h hP hD hS (lv_sub hl [1, 2] rfl)
  have h := nd_neg h c22
  by_cases c23 : v0 = 18
  · have h := nd_pos h c23
    refine lv_tableIn (off := 159) (tgt := 160) hx hb dX4_changed_1 (by rw [c23]; decide) (by rw [c23]; decide) (by rw [c23]; decide) (by decide) ?_
    exact (db_X4_changed_160 C K) (v1) (v2) s0 _ _ _ h hP hD hS (lv_sub hl [1, 2] rfl)
  have h := nd_neg h c23
  by_cases c24 : v0 = 19
  · have h := nd_pos h c24
    refine lv_tableIn (off := 159) (tgt := 160) hx hb dX4_changed_1 (by rw [c24]; decide) (by rw [c24]; decide) (by rw [c24]; decide) (by decide) ?_
    exact (db_X4_changed_160 C K) (v1) (v2) s0 _ _ _ h hP hD hS (lv_sub hl [1, 2] rfl)
  have h := nd_neg h c24
  by_cases c25 : v0 = 20
  · have h := nd_pos h c25
    refine lv_tableIn (off := 139) (tgt := 140) hx hb dX4_changed_1 (by rw [c25]; decide) (by rw [c25]; decide) (by rw [c25]; decide) (by decide) ?_
    refine lv_iload_n hx hb dX4_changed_140 rfl (lv_at hl 1 rfl) ?_
    refine lv_iload_n hx hb dX4_changed_141 rfl (lv_at hl 2 rfl) ?_
    refine va_mmax hx hb (by rw [hml]; exact hl.1.symm) hown (hts (.methodLink RX4 133 Lib.Math.max.name) (List.mem_of_getElem? (i := 8) rfl)) (hts (.static Lib.Math.max.name) (List.mem_of_getElem? (i := 9) rfl)) (hts (.initialized "java/lang/Math") (List.mem_of_getElem? (i := 6) rfl)) (hts (.code Lib.Math.max.name Lib.Math.max.code 2 (some .int)) (List.mem_of_getElem? (i := 10) rfl)) (Nat.le_of_ble_eq_true rfl) (Nat.le_of_ble_eq_true rfl) (by decide +kernel) (by decide +kernel) dX4_changed_142 ?_
    exact K _ _ _ _ _ _ dX4_changed_145 rfl (Option.some.inj h).symm hP hD hS
  have h := nd_neg h c25
  by_cases c26 : v0 = 21
  · have h := nd_pos h c26
    refine lv_tableIn (off := 159) (tgt := 160) hx hb dX4_changed_1 (by rw [c26]; decide) (by rw [c26]; decide) (by rw [c26]; decide) (by decide) ?_
    exact (db_X4_changed_160 C K) (v1) (v2) s0 _ _ _ h hP hD hS (lv_sub hl [1, 2] rfl)
  have h := nd_neg h c26
  by_cases c27 : v0 = 22
  · have h := nd_pos h c27
    refine lv_tableIn (off := 159) (tgt := 160) hx hb dX4_changed_1 (by rw [c27]; decide) (by rw [c27]; decide) (by rw [c27]; decide) (by decide) ?_
    exact (db_X4_changed_160 C K) (v1) (v2) s0 _ _ _ h hP hD hS (lv_sub hl [1, 2] rfl)
  have h := nd_neg h c27
  by_cases c28 : v0 = 23
  · have h := nd_pos h c28
    refine lv_tableIn (off := 159) (tgt := 160) hx hb dX4_changed_1 (by rw [c28]; decide) (by rw [c28]; decide) (by rw [c28]; decide) (by decide) ?_
    exact (db_X4_changed_160 C K) (v1) (v2) s0 _ _ _ h hP hD hS (lv_sub hl [1, 2] rfl)
  have h := nd_neg h c28
  by_cases c29 : v0 = 24
  · have h := nd_pos h c29
    refine lv_tableIn (off := 145) (tgt := 146) hx hb dX4_changed_1 (by rw [c29]; decide) (by rw [c29]; decide) (by rw [c29]; decide) (by decide) ?_
    refine lv_iload_n hx hb dX4_changed_146 rfl (lv_at hl 1 rfl) ?_
    refine lv_iload_n hx hb dX4_changed_147 rfl (lv_at hl 2 rfl) ?_
    obtain ⟨q30, s31, hq, h⟩ := nd_b2_e h
    have hPc : va_P (dC, dI) vwCl (dw_P a ac ()) H := nd_p0
    have hDc : va_D A (dw_P a ac ()) := nd_d0
    have hKc : va_K (dC, dI) vwCl (dk_P ac) s := nd_y0 hK
    have hFc : ∀ q, va_A (dw_P a ac ()) H.size q → A q := nd_r0 hS hA
    refine nd_cSi (As := [.int v1, .int v2]) (rest := []) (q := q30) (w' := dw_P a ac s31) ⟨hx, hb, hml, hown, hts⟩ (fun sz => dm_J6_compareUnsigned_7cf53 l hlt dC dI a ac n (v1) (v2) () hq sz) (va_cwS 2 hts gi_dm_X4_changed_0 rfl rfl rfl (by decide +kernel) ⟨Nat.le_of_ble_eq_true rfl, Nat.le_of_ble_eq_true rfl⟩) hPc hDc hKc hS hA hN rfl hl.1 rfl (Nat.le_of_ble_eq_true rfl) dX4_changed_148 (fun H locs hP1 hD1 hk1 hS => ?_)
    have hP := nd_n0 hP hk1
    refine lv_if_ge (tgt := 158) hx hb dX4_changed_151 (by decide) (fun c33 => ?_) (fun c33 => ?_)
    · have h := nd_pos h c33
      refine lv_iload_n hx hb dX4_changed_158 rfl (lv_at hl 2 rfl) ?_
      exact (db_X4_changed_159 C K) (v2) s0 _ _ _ h hP hD hS (lv_sub hl [] rfl)
    · have h := nd_neg h c33
      refine lv_iload_n hx hb dX4_changed_154 rfl (lv_at hl 1 rfl) ?_
      refine lv_goto (tgt := 159) hx hb dX4_changed_155 (by decide) ?_
      exact (db_X4_changed_159 C K) (v1) s0 _ _ _ h hP hD hS (lv_sub hl [] rfl)
  have h := nd_neg h c29
  refine lv_tableOut (tgt := 160) hx hb dX4_changed_1 (by have g0 := nv_nei c1 (k := 0) (by decide); have g1 := nv_nei c2 (k := 1) (by decide); have g2 := nv_nei c3 (k := 2) (by decide); have g3 := nv_nei c8 (k := 3) (by decide); have g4 := nv_nei c9 (k := 4) (by decide); have g5 := nv_nei c10 (k := 5) (by decide); have g6 := nv_nei c11 (k := 6) (by decide); have g7 := nv_nei c12 (k := 7) (by decide); have g8 := nv_nei c13 (k := 8) (by decide); have g9 := nv_nei c14 (k := 9) (by decide); have g10 := nv_nei c15 (k := 10) (by decide); have g11 := nv_nei c16 (k := 11) (by decide); have g12 := nv_nei c17 (k := 12) (by decide); have g13 := nv_nei c18 (k := 13) (by decide); have g14 := nv_nei c19 (k := 14) (by decide); have g15 := nv_nei c20 (k := 15) (by decide); have g16 := nv_nei c21 (k := 16) (by decide); have g17 := nv_nei c22 (k := 17) (by decide); have g18 := nv_nei c23 (k := 18) (by decide); have g19 := nv_nei c24 (k := 19) (by decide); have g20 := nv_nei c25 (k := 20) (by decide); have g21 := nv_nei c26 (k := 21) (by decide); have g22 := nv_nei c27 (k := 22) (by decide); have g23 := nv_nei c28 (k := 23) (by decide); have g24 := nv_nei c29 (k := 24) (by decide); omega) (by decide) ?_
  exact (db_X4_changed_160 C K) (v1) (v2) s0 _ _ _ h hP hD hS (lv_sub hl [1, 2] rfl)
set_option maxHeartbeats 40000000 in
set_option maxRecDepth 100000 in
theorem dm_X4_changed (l : Launch) (hlt : l.stackTraces = false) (dC : Nat → ClassId) (dI : Nat → Nat → Nat) (a : Nat → Nat) (ac : Nat → ClassId) (n : Nat) (v0 : Int32) (v1 : Int32) (v2 : Int32) (s0 : Unit) {r : Int32 × (Unit)} (h : df_X4_changed n v0 v1 v2 s0 = some r) (sz : Nat) : Met l yX4_changed ow_dm_X4_changed ({ frames := 2, cells := 0, slots := 0, locals := 42 }) (va_Pc [.int v0, .int v1, .int v2] (fun U => U.heap.size = sz ∧ va_P (dC, dI) vwCl (dw_P a ac s0) U.heap ∧ va_K (dC, dI) vwCl (dk_P ac) U ∧ va_D (fun _ => True) (dw_P a ac s0) ∧ nv_E dI (va_A (dw_P a ac s0) sz) U)) (va_Qi (fun x _ => x = r.1) (fun (_ : Unit) t => va_P (dC, dI) vwCl (dw_P a ac r.2) t.heap ∧ va_K (dC, dI) vwCl (dk_P ac) t ∧ va_D (va_A (dw_P a ac s0) sz) (dw_P a ac r.2)) (va_A (dw_P a ac s0) sz)) 0 0 (va_A (dw_P a ac s0) sz) := by
  refine Met.ofW (cc := cX4_changed) (maxL := 3) (ret := (some .int)) (by decide) rfl ?_
  intro p e s m args below meth c s₁ B hml hv
  obtain ⟨rfl, hsz, hP, hK, hD0, hN⟩ := hv
  have hx := B.exec
  have hb := B.bytes
  have hr := B.returns
  have hts := atoms_spec (ws := ow_dm_X4_changed) B.pre
  have hown : s.vm.findClass RX4 = some m.cls := findClass_of_methodNamed B.named
  have hlocks := B.notSynchronized
  subst hsz
  have hD := hD0.self (sz := s.heap.size)
  generalize hAe : va_A (dw_P a ac s0) s.heap.size = A at hD hN ⊢
  have hA : ∀ q : Nat, s.heap.size ≤ q → A q := fun q h => by rw [← hAe]; exact Or.inr h
  have hl := lv_entry ([.int v0, .int v1, .int v2]) (n := 3) (Nat.le_of_ble_eq_true rfl)
  rw [lg_entry_eq]
  generalize (lg_sl ([.int v0, .int v1, .int v2]) ++ List.replicate (3 - (lg_sl ([.int v0, .int v1, .int v2])).length) Slot.unset).toArray = ls at hl ⊢
  have hl : lv_has ls 3 [(0, .int v0), (1, .int v1), (2, .int v2)] := hl
  exact db_X4_changed_0 (dC := dC) (dI := dI) (a := a) (ac := ac) (n := n) (r := r) ⟨hlt, hx, hb, hml, hown, hts, hN, hA, hK⟩ (fun pc v τ H locs ls d z er hP hD hS => by subst er; exact W.zret (v := v) hx hb hr z (fun t ht hW => ⟨⟨v, (), rfl, rfl, by rw [ht]; exact hP, va_K.moved hW.alike hK, hD⟩, hS.F ht⟩) hS.2.2 d) v0 v1 v2 s0 _ _ _ h hP hD va_S.rf (lv_sub hl [0, 1, 2] rfl)
def ow_dm_X4_atomic : List Cond := Cond.code yX4_atomic cX4_atomic 8 (some .int) :: ([Cond.methodLink RX4 118 yX4_isAtomic, Cond.static yX4_isAtomic, Cond.initialized RX4, Cond.fieldLink RX4 7 "TimeMachine$Hart" "machine" "LTimeMachine$Machine;", Cond.fieldLink RX4 20 "TimeMachine$Hart" "process" "I", Cond.methodLink RX4 30 yX6_may, Cond.instanceMethod yX6_may, Cond.selects RX6 yX6_may yX6_may, Cond.initialized RX6, Cond.methodLink RX4 100 yX6_own, Cond.instanceMethod yX6_own, Cond.selects RX6 yX6_own yX6_own, Cond.methodLink RX4 97 yX6_wordAt, Cond.instanceMethod yX6_wordAt, Cond.selects RX6 yX6_wordAt yX6_wordAt, Cond.methodLink RX4 125 yX4_changed, Cond.static yX4_changed, Cond.methodLink RX4 105 yX6_put, Cond.instanceMethod yX6_put, Cond.selects RX6 yX6_put yX6_put, Cond.methodLink RX4 109 yX6_noteWrite, Cond.instanceMethod yX6_noteWrite, Cond.selects RX6 yX6_noteWrite yX6_noteWrite, Cond.methodLink RX4 52 yX4_set, Cond.instanceMethod yX4_set, Cond.selects RX4 yX4_set yX4_set, Cond.fieldLink RX4 122 "TimeMachine$Machine" "reserved" "I"] ++ (u_ws RX4 TX4 6 ++ (u_ws RX6 TX6 20 ++ (ow_dm_X4_isAtomic ++ (ow_dm_X6_may ++ (ow_dm_X6_own ++ (ow_dm_X6_wordAt ++ (ow_dm_X4_changed ++ (ow_dm_X6_put ++ (ow_dm_X6_noteWrite ++ (ow_dm_X4_set ++ [])))))))))))
theorem gd_dm_X4_atomic : ∀ w ∈ ow_dm_X4_atomic, (w.onTables && w.keeps) = true ∨ ∃ ty, w = Cond.arrayClass ty := List.forall_mem_cons.mpr ⟨good_of_word rfl, List.forall_mem_append.mpr ⟨fun w h => good_of_word (List.all_eq_true.mp (by decide +kernel) w h), List.forall_mem_append.mpr ⟨gu_X4, List.forall_mem_append.mpr ⟨gu_X6, List.forall_mem_append.mpr ⟨gd_dm_X4_isAtomic, List.forall_mem_append.mpr ⟨gd_dm_X6_may, List.forall_mem_append.mpr ⟨gd_dm_X6_own, List.forall_mem_append.mpr ⟨gd_dm_X6_wordAt, List.forall_mem_append.mpr ⟨gd_dm_X4_changed, List.forall_mem_append.mpr ⟨gd_dm_X6_put, List.forall_mem_append.mpr ⟨gd_dm_X6_noteWrite, List.forall_mem_append.mpr ⟨gd_dm_X4_set, fun _ h => nomatch h⟩⟩⟩⟩⟩⟩⟩⟩⟩⟩⟩⟩
theorem hi_dm_X4_atomic_X4 : ∀ w ∈ u_ws RX4 TX4 6, w ∈ ow_dm_X4_atomic := fun w h => List.mem_cons_of_mem _ (List.mem_append_right _ (List.mem_append_left _ h))
theorem hi_dm_X4_atomic_X6 : ∀ w ∈ u_ws RX6 TX6 20, w ∈ ow_dm_X4_atomic := fun w h => List.mem_cons_of_mem _ (List.mem_append_right _ (List.mem_append_right _ (List.mem_append_left _ h)))
theorem gi_dm_X4_atomic_0 : GoodIn ow_dm_X4_atomic (wsS RX4 118 yX4_isAtomic ow_dm_X4_isAtomic) := goodIn_app (goodIn_of _ (by decide +kernel)) (fun w h => ⟨List.mem_cons_of_mem _ (List.mem_append_right _ (List.mem_append_right _ (List.mem_append_right _ (List.mem_append_left _ h)))), gd_dm_X4_isAtomic w h⟩)
theorem gi_dm_X4_atomic_1 : GoodIn ow_dm_X4_atomic (wsV RX4 30 RX6 yX6_may ow_dm_X6_may) := goodIn_app (goodIn_of _ (by decide +kernel)) (fun w h => ⟨List.mem_cons_of_mem _ (List.mem_append_right _ (List.mem_append_right _ (List.mem_append_right _ (List.mem_append_right _ (List.mem_append_left _ h))))), gd_dm_X6_may w h⟩)
theorem gi_dm_X4_atomic_2 : GoodIn ow_dm_X4_atomic (wsV RX4 100 RX6 yX6_own ow_dm_X6_own) := goodIn_app (goodIn_of _ (by decide +kernel)) (fun w h => ⟨List.mem_cons_of_mem _ (List.mem_append_right _ (List.mem_append_right _ (List.mem_append_right _ (List.mem_append_right _ (List.mem_append_right _ (List.mem_append_left _ h)))))), gd_dm_X6_own w h⟩)
theorem gi_dm_X4_atomic_3 : GoodIn ow_dm_X4_atomic (wsV RX4 97 RX6 yX6_wordAt ow_dm_X6_wordAt) := goodIn_app (goodIn_of _ (by decide +kernel)) (fun w h => ⟨List.mem_cons_of_mem _ (List.mem_append_right _ (List.mem_append_right _ (List.mem_append_right _ (List.mem_append_right _ (List.mem_append_right _ (List.mem_append_right _ (List.mem_append_left _ h))))))), gd_dm_X6_wordAt w h⟩)
theorem gi_dm_X4_atomic_4 : GoodIn ow_dm_X4_atomic (wsS RX4 125 yX4_changed ow_dm_X4_changed) := goodIn_app (goodIn_of _ (by decide +kernel)) (fun w h => ⟨List.mem_cons_of_mem _ (List.mem_append_right _ (List.mem_append_right _ (List.mem_append_right _ (List.mem_append_right _ (List.mem_append_right _ (List.mem_append_right _ (List.mem_append_right _ (List.mem_append_left _ h)))))))), gd_dm_X4_changed w h⟩)
theorem gi_dm_X4_atomic_5 : GoodIn ow_dm_X4_atomic (wsV RX4 105 RX6 yX6_put ow_dm_X6_put) := goodIn_app (goodIn_of _ (by decide +kernel)) (fun w h => ⟨List.mem_cons_of_mem _ (List.mem_append_right _ (List.mem_append_right _ (List.mem_append_right _ (List.mem_append_right _ (List.mem_append_right _ (List.mem_append_right _ (List.mem_append_right _ (List.mem_append_right _ (List.mem_append_left _ h))))))))), gd_dm_X6_put w h⟩)
theorem gi_dm_X4_atomic_6 : GoodIn ow_dm_X4_atomic (wsV RX4 109 RX6 yX6_noteWrite ow_dm_X6_noteWrite) := goodIn_app (goodIn_of _ (by decide +kernel)) (fun w h => ⟨List.mem_cons_of_mem _ (List.mem_append_right _ (List.mem_append_right _ (List.mem_append_right _ (List.mem_append_right _ (List.mem_append_right _ (List.mem_append_right _ (List.mem_append_right _ (List.mem_append_right _ (List.mem_append_right _ (List.mem_append_left _ h)))))))))), gd_dm_X6_noteWrite w h⟩)
theorem gi_dm_X4_atomic_7 : GoodIn ow_dm_X4_atomic (wsV RX4 52 RX4 yX4_set ow_dm_X4_set) := goodIn_app (goodIn_of _ (by decide +kernel)) (fun w h => ⟨List.mem_cons_of_mem _ (List.mem_append_right _ (List.mem_append_right _ (List.mem_append_right _ (List.mem_append_right _ (List.mem_append_right _ (List.mem_append_right _ (List.mem_append_right _ (List.mem_append_right _ (List.mem_append_right _ (List.mem_append_right _ (List.mem_append_left _ h))))))))))), gd_dm_X4_set w h⟩)
def dj_X4_atomic_258 (p : Program) (l : Launch) (e : Env) (s : State) (m : MethodId) (args : Array Value) (below : List Frame) (meth : Method) (c : Code) (Q : State → Prop) (A : Nat → Prop) (dC : Nat → ClassId) (dI : Nat → Nat → Nat) (a : Nat → Nat) (ac : Nat → ClassId) (g : Int32 → Int32 → (St × (St × (St))) → Option (Int32 × (St × (St × (St))))) (r : Int32 × (St × (St × (St)))) : Prop := ∀ (y1 : Int32) (y2 : Int32) (s0 : St × (St × (St))) (H : Heap) (locs : List Loc) (ls : Array Slot), g y1 y2 s0 = some r → va_P (dC, dI) vwCl (dw_X4 a ac s0) H → va_D A (dw_X4 a ac s0) → va_S A s.heap H locs → lv_has ls 8 [] → W p l e (headSpec ow_dm_X4_atomic ({ frames := 3, cells := 0, slots := 0, locals := 65 })).room s m args below meth c H locs 0 0 Q (F0 m 258 ls [.int y2, .int y1, .ref (a 0)])
def dj_X4_atomic_229 (p : Program) (l : Launch) (e : Env) (s : State) (m : MethodId) (args : Array Value) (below : List Frame) (meth : Method) (c : Code) (Q : State → Prop) (A : Nat → Prop) (dC : Nat → ClassId) (dI : Nat → Nat → Nat) (a : Nat → Nat) (ac : Nat → ClassId) (g : Int32 → Int32 → Int32 → Int32 → Int32 → Int32 → Int32 → Int32 → (St × (St × (St))) → Option (Int32 × (St × (St × (St))))) (r : Int32 × (St × (St × (St)))) : Prop := ∀ (x1 : Int32) (x2 : Int32) (x6 : Int32) (x7 : Int32) (y1 : Int32) (y2 : Int32) (y3 : Int32) (y4 : Int32) (s0 : St × (St × (St))) (H : Heap) (locs : List Loc) (ls : Array Slot), g x1 x2 x6 x7 y1 y2 y3 y4 s0 = some r → va_P (dC, dI) vwCl (dw_X4 a ac s0) H → va_D A (dw_X4 a ac s0) → va_S A s.heap H locs → lv_has ls 8 [(0, .ref (a 0)), (1, .int x1), (2, .int x2), (6, .int x6), (7, .int x7)] → W p l e (headSpec ow_dm_X4_atomic ({ frames := 3, cells := 0, slots := 0, locals := 65 })).room s m args below meth c H locs 0 0 Q (F0 m 229 ls [.int y4, .int y3, .int y2, .int y1, .ref (a 1)])
def dj_X4_atomic_170 (p : Program) (l : Launch) (e : Env) (s : State) (m : MethodId) (args : Array Value) (below : List Frame) (meth : Method) (c : Code) (Q : State → Prop) (A : Nat → Prop) (dC : Nat → ClassId) (dI : Nat → Nat → Nat) (a : Nat → Nat) (ac : Nat → ClassId) (g : Int32 → Int32 → Int32 → Int32 → Int32 → (St × (St × (St))) → Option (Int32 × (St × (St × (St))))) (r : Int32 × (St × (St × (St)))) : Prop := ∀ (x1 : Int32) (x2 : Int32) (x3 : Int32) (x4 : Int32) (x6 : Int32) (s0 : St × (St × (St))) (H : Heap) (locs : List Loc) (ls : Array Slot), g x1 x2 x3 x4 x6 s0 = some r → va_P (dC, dI) vwCl (dw_X4 a ac s0) H → va_D A (dw_X4 a ac s0) → va_S A s.heap H locs → lv_has ls 8 [(0, .ref (a 0)), (1, .int x1), (2, .int x2), (3, .int x3), (4, .int x4), (6, .int x6)] → W p l e (headSpec ow_dm_X4_atomic ({ frames := 3, cells := 0, slots := 0, locals := 65 })).room s m args below meth c H locs 0 0 Q (F0 m 170 ls [])
def dj_X4_atomic_136 (p : Program) (l : Launch) (e : Env) (s : State) (m : MethodId) (args : Array Value) (below : List Frame) (meth : Method) (c : Code) (Q : State → Prop) (A : Nat → Prop) (dC : Nat → ClassId) (dI : Nat → Nat → Nat) (a : Nat → Nat) (ac : Nat → ClassId) (g : Int32 → Int32 → Int32 → Int32 → Int32 → (St × (St × (St))) → Option (Int32 × (St × (St × (St))))) (r : Int32 × (St × (St × (St)))) : Prop := ∀ (x1 : Int32) (x2 : Int32) (x3 : Int32) (x4 : Int32) (y0 : Int32) (s0 : St × (St × (St))) (H : Heap) (locs : List Loc) (ls : Array Slot), g x1 x2 x3 x4 y0 s0 = some r → va_P (dC, dI) vwCl (dw_X4 a ac s0) H → va_D A (dw_X4 a ac s0) → va_S A s.heap H locs → lv_has ls 8 [(0, .ref (a 0)), (1, .int x1), (2, .int x2), (3, .int x3), (4, .int x4)] → W p l e (headSpec ow_dm_X4_atomic ({ frames := 3, cells := 0, slots := 0, locals := 65 })).room s m args below meth c H locs 0 0 Q (F0 m 136 ls [.int y0])
def dj_X4_atomic_90 (p : Program) (l : Launch) (e : Env) (s : State) (m : MethodId) (args : Array Value) (below : List Frame) (meth : Method) (c : Code) (Q : State → Prop) (A : Nat → Prop) (dC : Nat → ClassId) (dI : Nat → Nat → Nat) (a : Nat → Nat) (ac : Nat → ClassId) (g : (St × (St × (St))) → Option (Int32 × (St × (St × (St))))) (r : Int32 × (St × (St × (St)))) : Prop := ∀ (s0 : St × (St × (St))) (H : Heap) (locs : List Loc) (ls : Array Slot), g s0 = some r → va_P (dC, dI) vwCl (dw_X4 a ac s0) H → va_D A (dw_X4 a ac s0) → va_S A s.heap H locs → lv_has ls 8 [] → W p l e (headSpec ow_dm_X4_atomic ({ frames := 3, cells := 0, slots := 0, locals := 65 })).room s m args below meth c H locs 0 0 Q (F0 m 90 ls [])
def dj_X4_atomic_74 (p : Program) (l : Launch) (e : Env) (s : State) (m : MethodId) (args : Array Value) (below : List Frame) (meth : Method) (c : Code) (Q : State → Prop) (A : Nat → Prop) (dC : Nat → ClassId) (dI : Nat → Nat → Nat) (a : Nat → Nat) (ac : Nat → ClassId) (g : Int32 → Int32 → Int32 → Int32 → Int32 → (St × (St × (St))) → Option (Int32 × (St × (St × (St))))) (r : Int32 × (St × (St × (St)))) : Prop := ∀ (x1 : Int32) (x2 : Int32) (x3 : Int32) (x4 : Int32) (x5 : Int32) (s0 : St × (St × (St))) (H : Heap) (locs : List Loc) (ls : Array Slot), g x1 x2 x3 x4 x5 s0 = some r → va_P (dC, dI) vwCl (dw_X4 a ac s0) H → va_D A (dw_X4 a ac s0) → va_S A s.heap H locs → lv_has ls 8 [(0, .ref (a 0)), (1, .int x1), (2, .int x2), (3, .int x3), (4, .int x4), (5, .int x5)] → W p l e (headSpec ow_dm_X4_atomic ({ frames := 3, cells := 0, slots := 0, locals := 65 })).room s m args below meth c H locs 0 0 Q (F0 m 74 ls [])
def dj_X4_atomic_42 (p : Program) (l : Launch) (e : Env) (s : State) (m : MethodId) (args : Array Value) (below : List Frame) (meth : Method) (c : Code) (Q : State → Prop) (A : Nat → Prop) (dC : Nat → ClassId) (dI : Nat → Nat → Nat) (a : Nat → Nat) (ac : Nat → ClassId) (g : (St × (St × (St))) → Option (Int32 × (St × (St × (St))))) (r : Int32 × (St × (St × (St)))) : Prop := ∀ (s0 : St × (St × (St))) (H : Heap) (locs : List Loc) (ls : Array Slot), g s0 = some r → va_P (dC, dI) vwCl (dw_X4 a ac s0) H → va_D A (dw_X4 a ac s0) → va_S A s.heap H locs → lv_has ls 8 [] → W p l e (headSpec ow_dm_X4_atomic ({ frames := 3, cells := 0, slots := 0, locals := 65 })).room s m args below meth c H locs 0 0 Q (F0 m 42 ls [])
def dj_X4_atomic_34 (p : Program) (l : Launch) (e : Env) (s : State) (m : MethodId) (args : Array Value) (below : List Frame) (meth : Method) (c : Code) (Q : State → Prop) (A : Nat → Prop) (dC : Nat → ClassId) (dI : Nat → Nat → Nat) (a : Nat → Nat) (ac : Nat → ClassId) (g : Int32 → Int32 → Int32 → Int32 → Int32 → (St × (St × (St))) → Option (Int32 × (St × (St × (St))))) (r : Int32 × (St × (St × (St)))) : Prop := ∀ (x1 : Int32) (x2 : Int32) (x3 : Int32) (x4 : Int32) (x5 : Int32) (s0 : St × (St × (St))) (H : Heap) (locs : List Loc) (ls : Array Slot), g x1 x2 x3 x4 x5 s0 = some r → va_P (dC, dI) vwCl (dw_X4 a ac s0) H → va_D A (dw_X4 a ac s0) → va_S A s.heap H locs → lv_has ls 8 [(0, .ref (a 0)), (1, .int x1), (2, .int x2), (3, .int x3), (4, .int x4), (5, .int x5)] → W p l e (headSpec ow_dm_X4_atomic ({ frames := 3, cells := 0, slots := 0, locals := 65 })).room s m args below meth c H locs 0 0 Q (F0 m 34 ls [])
def dj_X4_atomic_17 (p : Program) (l : Launch) (e : Env) (s : State) (m : MethodId) (args : Array Value) (below : List Frame) (meth : Method) (c : Code) (Q : State → Prop) (A : Nat → Prop) (dC : Nat → ClassId) (dI : Nat → Nat → Nat) (a : Nat → Nat) (ac : Nat → ClassId) (g : Int32 → Int32 → Int32 → Int32 → Int32 → (St × (St × (St))) → Option (Int32 × (St × (St × (St))))) (r : Int32 × (St × (St × (St)))) : Prop := ∀ (x1 : Int32) (x2 : Int32) (x3 : Int32) (x4 : Int32) (y0 : Int32) (s0 : St × (St × (St))) (H : Heap) (locs : List Loc) (ls : Array Slot), g x1 x2 x3 x4 y0 s0 = some r → va_P (dC, dI) vwCl (dw_X4 a ac s0) H → va_D A (dw_X4 a ac s0) → va_S A s.heap H locs → lv_has ls 8 [(0, .ref (a 0)), (1, .int x1), (2, .int x2), (3, .int x3), (4, .int x4)] → W p l e (headSpec ow_dm_X4_atomic ({ frames := 3, cells := 0, slots := 0, locals := 65 })).room s m args below meth c H locs 0 0 Q (F0 m 17 ls [.int y0])
def dj_X4_atomic_0 (p : Program) (l : Launch) (e : Env) (s : State) (m : MethodId) (args : Array Value) (below : List Frame) (meth : Method) (c : Code) (Q : State → Prop) (A : Nat → Prop) (dC : Nat → ClassId) (dI : Nat → Nat → Nat) (a : Nat → Nat) (ac : Nat → ClassId) (g : Int32 → Int32 → Int32 → (St × (St × (St))) → Option (Int32 × (St × (St × (St))))) (r : Int32 × (St × (St × (St)))) : Prop := ∀ (v0 : Int32) (v1 : Int32) (v2 : Int32) (s0 : St × (St × (St))) (H : Heap) (locs : List Loc) (ls : Array Slot), g v0 v1 v2 s0 = some r → va_P (dC, dI) vwCl (dw_X4 a ac s0) H → va_D A (dw_X4 a ac s0) → va_S A s.heap H locs → lv_has ls 8 [(0, .ref (a 0)), (1, .int v0), (2, .int v1), (3, .int v2)] → W p l e (headSpec ow_dm_X4_atomic ({ frames := 3, cells := 0, slots := 0, locals := 65 })).room s m args below meth c H locs 0 0 Q (F0 m 0 ls [])
set_option maxHeartbeats 40000000 in
set_option maxRecDepth 100000 in
theorem db_X4_atomic_258 {p : Program} {l : Launch} {e : Env} {s : State} {m : MethodId} {args : Array Value} {below : List Frame} {meth : Method} {c : Code} {Q : State → Prop} {A : Nat → Prop} {dC : Nat → ClassId} {dI : Nat → Nat → Nat} {a : Nat → Nat} {ac : Nat → ClassId} {n : Nat} {r : Int32 × (St × (St × (St)))} (C : nd_C p l s m args c A (dC, dI) cX4_atomic 8 RX4 ow_dm_X4_atomic (dk_X4 ac)) (K : nd_Ki p l e (headSpec ow_dm_X4_atomic ({ frames := 3, cells := 0, slots := 0, locals := 65 })).room s m args below meth c Q A (dC, dI) cX4_atomic .int (St × (St × (St))) (dw_X4 a ac) r) : dj_X4_atomic_258 p l e s m args below meth c Q A dC dI a ac (df_X4_atomic_258 n) r := by
  obtain ⟨hlt, hx, hb, hml, hown, hts, hN, hA, hK⟩ := id C
  intro y1 y2 s0 H locs ls h hP hD hS hl
  unfold df_X4_atomic_258 at h
  obtain ⟨s41, hq, h⟩ := nd_b1_e h
  have hPc := hP
  have hDc := hD
  have hKc := hK
  have hFc := nd_rs hD hS hA
  refine nd_cVv (As := [.int y1, .int y2]) (rest := []) (w' := dw_X4 a ac s41) ⟨hx, hb, hml, hown, hts⟩ (fun sz => dm_X4_set l hlt dC dI a ac n (y1) (y2) s0 hq sz) (cwV 2 hts gi_dm_X4_atomic_7 rfl rfl rfl (by decide +kernel) ⟨Nat.le_of_ble_eq_true rfl, Nat.le_of_ble_eq_true rfl⟩) hPc hDc hKc hS hA hN (va_recv hKc hPc (ci := 5) (q0 := 0) rfl rfl) rfl hl.1 rfl (Nat.le_of_ble_eq_true rfl) dX4_atomic_258 (fun H locs hP1 hD1 hk1 hS => ?_)
  have hP := hP1
  have hD := hD1.weaken (fun k q _ h => hFc q.1 h)
  refine lv_iconst (v := 0) hx hb dX4_atomic_261 (by decide) ?_
  exact K _ _ _ _ _ _ dX4_atomic_262 rfl (Option.some.inj h).symm hP hD hS
set_option maxHeartbeats 40000000 in
set_option maxRecDepth 100000 in
theorem db_X4_atomic_229 {p : Program} {l : Launch} {e : Env} {s : State} {m : MethodId} {args : Array Value} {below : List Frame} {meth : Method} {c : Code} {Q : State → Prop} {A : Nat → Prop} {dC : Nat → ClassId} {dI : Nat → Nat → Nat} {a : Nat → Nat} {ac : Nat → ClassId} {n : Nat} {r : Int32 × (St × (St × (St)))} (C : nd_C p l s m args c A (dC, dI) cX4_atomic 8 RX4 ow_dm_X4_atomic (dk_X4 ac)) (K : nd_Ki p l e (headSpec ow_dm_X4_atomic ({ frames := 3, cells := 0, slots := 0, locals := 65 })).room s m args below meth c Q A (dC, dI) cX4_atomic .int (St × (St × (St))) (dw_X4 a ac) r) : dj_X4_atomic_229 p l e s m args below meth c Q A dC dI a ac (df_X4_atomic_229 n) r := by
  obtain ⟨hlt, hx, hb, hml, hown, hts, hN, hA, hK⟩ := id C
  intro x1 x2 x6 x7 y1 y2 y3 y4 s0 H locs ls h hP hD hS hl
  unfold df_X4_atomic_229 at h
  obtain ⟨s32, hq, h⟩ := nd_b1_e h
  have hPc := dp_X4_1 hP
  have hDc := dd_X4_1 hD
  have hKc := dy_X4_1 hK
  have hFc := nd_rs hDc hS hA
  have hzA : ∀ q : Nat, H.size ≤ q → A q := fun q h => hA q (Nat.le_trans hS.1 h)
  refine nd_cVv (As := [.int y1, .int y2, .int y3, .int y4]) (rest := []) (w' := dw_X6 (fun k => a (k + 1)) (fun k => ac (k + 1)) s32) ⟨hx, hb, hml, hown, hts⟩ (fun sz => dm_X6_put l hlt dC dI (fun k => a (k + 1)) (fun k => ac (k + 1)) n (y1) (y2) (y3) (y4) s0.2 hq sz) (cwV 4 hts gi_dm_X4_atomic_5 rfl rfl rfl (by decide +kernel) ⟨Nat.le_of_ble_eq_true rfl, Nat.le_of_ble_eq_true rfl⟩) hPc hDc hKc hS hA hN (va_recv hKc hPc (ci := 7) (q0 := 0) rfl rfl) rfl hl.1 rfl (Nat.le_of_ble_eq_true rfl) dX4_atomic_229 (fun H locs hP1 hD1 hk1 hS => ?_)
  obtain ⟨hP, hD⟩ := dn_X4_1 hP hD hzA hk1 hP1 hD1
  obtain ⟨s34, es34, h⟩ := nd_let_e h
  have hP : va_P (dC, dI) vwCl (dw_X4 a ac s34) H := by rw [es34]; exact hP
  have hD : va_D A (dw_X4 a ac s34) := by rw [es34]; exact hD
  refine lv_aload_n hx hb dX4_atomic_232 rfl (lv_at hl 0 rfl) ?_
  refine va_get (D := (dC, dI)) (ci := 5) (v := .ref (a 1)) (C := RX4) (T := TX4) (N := 6) hx hb hts hi_dm_X4_atomic_X4 hown hK hP 0 rfl rfl 0 (by decide) (hts (.fieldLink RX4 7 "TimeMachine$Hart" "machine" "LTimeMachine$Machine;") (List.mem_of_getElem? (i := 4) rfl)) (fun _ h9 => h9) rfl dX4_atomic_233 ?_
  refine lv_aload_n hx hb dX4_atomic_236 rfl (lv_at hl 0 rfl) ?_
  refine va_get (D := (dC, dI)) (ci := 5) (v := .int (sI s34.1 0)) (C := RX4) (T := TX4) (N := 6) hx hb hts hi_dm_X4_atomic_X4 hown hK hP 0 rfl rfl 2 (by decide) (hts (.fieldLink RX4 20 "TimeMachine$Hart" "process" "I") (List.mem_of_getElem? (i := 5) rfl)) (fun _ h9 => h9) rfl dX4_atomic_237 ?_
  refine lv_iload_n hx hb dX4_atomic_240 rfl (lv_at hl 2 rfl) ?_
  refine lv_iconst (v := 4) hx hb dX4_atomic_241 (by decide) ?_
  obtain ⟨s36, hq, h⟩ := nd_b1_e h
  have hPc := dp_X4_1 hP
  have hDc := dd_X4_1 hD
  have hKc := dy_X4_1 hK
  have hFc := nd_rs hDc hS hA
  have hzA : ∀ q : Nat, H.size ≤ q → A q := fun q h => hA q (Nat.le_trans hS.1 h)
  refine nd_cVv (As := [.int (sI s34.1 0), .int x2, .int 4]) (rest := []) (w' := dw_X6 (fun k => a (k + 1)) (fun k => ac (k + 1)) s36) ⟨hx, hb, hml, hown, hts⟩ (fun sz => dm_X6_noteWrite l hlt dC dI (fun k => a (k + 1)) (fun k => ac (k + 1)) n ((sI s34.1 0)) (x2) (4) s34.2 hq sz) (cwV 3 hts gi_dm_X4_atomic_6 rfl rfl rfl (by decide +kernel) ⟨Nat.le_of_ble_eq_true rfl, Nat.le_of_ble_eq_true rfl⟩) hPc hDc hKc hS hA hN (va_recv hKc hPc (ci := 7) (q0 := 0) rfl rfl) rfl hl.1 rfl (Nat.le_of_ble_eq_true rfl) dX4_atomic_242 (fun H locs hP1 hD1 hk1 hS => ?_)
  obtain ⟨hP, hD⟩ := dn_X4_1 hP hD hzA hk1 hP1 hD1
  obtain ⟨s38, es38, h⟩ := nd_let_e h
  have hP : va_P (dC, dI) vwCl (dw_X4 a ac s38) H := by rw [es38]; exact hP
  have hD : va_D A (dw_X4 a ac s38) := by rw [es38]; exact hD
  refine lv_aload_n hx hb dX4_atomic_245 rfl (lv_at hl 0 rfl) ?_
  refine lv_iload_n hx hb dX4_atomic_246 rfl (lv_at hl 1 rfl) ?_
  refine lv_iload hx hb dX4_atomic_247 (lv_at hl 3 rfl) ?_
  refine lv_if_eq (tgt := 256) hx hb dX4_atomic_249 (by decide) (fun c39 => ?_) (fun c39 => ?_)
  · have h := nd_pos h c39
    refine lv_iload hx hb dX4_atomic_256 (lv_at hl 4 rfl) ?_
    exact (db_X4_atomic_258 C K) (x1) (x7) s38 _ _ _ h hP hD hS (lv_sub hl [] rfl)
  · have h := nd_neg h c39
    refine lv_iconst (v := 0) hx hb dX4_atomic_252 (by decide) ?_
    refine lv_goto (tgt := 258) hx hb dX4_atomic_253 (by decide) ?_
    exact (db_X4_atomic_258 C K) (x1) (0) s38 _ _ _ h hP hD hS (lv_sub hl [] rfl)
set_option maxHeartbeats 40000000 in
set_option maxRecDepth 100000 in
theorem db_X4_atomic_170 {p : Program} {l : Launch} {e : Env} {s : State} {m : MethodId} {args : Array Value} {below : List Frame} {meth : Method} {c : Code} {Q : State → Prop} {A : Nat → Prop} {dC : Nat → ClassId} {dI : Nat → Nat → Nat} {a : Nat → Nat} {ac : Nat → ClassId} {n : Nat} {r : Int32 × (St × (St × (St)))} (C : nd_C p l s m args c A (dC, dI) cX4_atomic 8 RX4 ow_dm_X4_atomic (dk_X4 ac)) (K : nd_Ki p l e (headSpec ow_dm_X4_atomic ({ frames := 3, cells := 0, slots := 0, locals := 65 })).room s m args below meth c Q A (dC, dI) cX4_atomic .int (St × (St × (St))) (dw_X4 a ac) r) : dj_X4_atomic_170 p l e s m args below meth c Q A dC dI a ac (df_X4_atomic_170 n) r := by
  obtain ⟨hlt, hx, hb, hml, hown, hts, hN, hA, hK⟩ := id C
  intro x1 x2 x3 x4 x6 s0 H locs ls h hP hD hS hl
  unfold df_X4_atomic_170 at h
  refine lv_aload_n hx hb dX4_atomic_170 rfl (lv_at hl 0 rfl) ?_
  refine va_get (D := (dC, dI)) (ci := 5) (v := .ref (a 1)) (C := RX4) (T := TX4) (N := 6) hx hb hts hi_dm_X4_atomic_X4 hown hK hP 0 rfl rfl 0 (by decide) (hts (.fieldLink RX4 7 "TimeMachine$Hart" "machine" "LTimeMachine$Machine;") (List.mem_of_getElem? (i := 4) rfl)) (fun _ h9 => h9) rfl dX4_atomic_171 ?_
  refine lv_aload_n hx hb dX4_atomic_174 rfl (lv_at hl 0 rfl) ?_
  refine va_get (D := (dC, dI)) (ci := 5) (v := .int (sI s0.1 0)) (C := RX4) (T := TX4) (N := 6) hx hb hts hi_dm_X4_atomic_X4 hown hK hP 0 rfl rfl 2 (by decide) (hts (.fieldLink RX4 20 "TimeMachine$Hart" "process" "I") (List.mem_of_getElem? (i := 5) rfl)) (fun _ h9 => h9) rfl dX4_atomic_175 ?_
  refine lv_iload_n hx hb dX4_atomic_178 rfl (lv_at hl 2 rfl) ?_
  obtain ⟨q18, s19, hq, h⟩ := nd_b2_e h
  have hPc := dp_X4_1 hP
  have hDc := dd_X4_1 hD
  have hKc := dy_X4_1 hK
  have hFc := nd_rs hDc hS hA
  have hzA : ∀ q : Nat, H.size ≤ q → A q := fun q h => hA q (Nat.le_trans hS.1 h)
  refine nd_cVi (As := [.int (sI s0.1 0), .int x2]) (rest := []) (q := q18) (w' := dw_X6 (fun k => a (k + 1)) (fun k => ac (k + 1)) s19) ⟨hx, hb, hml, hown, hts⟩ (fun sz => dm_X6_own l hlt dC dI (fun k => a (k + 1)) (fun k => ac (k + 1)) n ((sI s0.1 0)) (x2) s0.2 hq sz) (cwV 2 hts gi_dm_X4_atomic_2 rfl rfl rfl (by decide +kernel) ⟨Nat.le_of_ble_eq_true rfl, Nat.le_of_ble_eq_true rfl⟩) hPc hDc hKc hS hA hN (va_recv hKc hPc (ci := 7) (q0 := 0) rfl rfl) rfl hl.1 rfl (Nat.le_of_ble_eq_true rfl) dX4_atomic_179 (fun H locs hP1 hD1 hk1 hS => ?_)
  obtain ⟨hP, hD⟩ := dn_X4_1 hP hD hzA hk1 hP1 hD1
  obtain ⟨s21, es21, h⟩ := nd_let_e h
  have hP : va_P (dC, dI) vwCl (dw_X4 a ac s21) H := by rw [es21]; exact hP
  have hD : va_D A (dw_X4 a ac s21) := by rw [es21]; exact hD
  refine lv_if_ne (tgt := 188) hx hb dX4_atomic_182 (by decide) (fun c22 => ?_) (fun c22 => ?_)
  · have h := nd_neg h c22
    refine lv_aload_n hx hb dX4_atomic_188 rfl (lv_at hl 0 rfl) ?_
    refine va_get (D := (dC, dI)) (ci := 5) (v := .ref (a 1)) (C := RX4) (T := TX4) (N := 6) hx hb hts hi_dm_X4_atomic_X4 hown hK hP 0 rfl rfl 0 (by decide) (hts (.fieldLink RX4 7 "TimeMachine$Hart" "machine" "LTimeMachine$Machine;") (List.mem_of_getElem? (i := 4) rfl)) (fun _ h9 => h9) rfl dX4_atomic_189 ?_
    refine lv_aload_n hx hb dX4_atomic_192 rfl (lv_at hl 0 rfl) ?_
    refine va_get (D := (dC, dI)) (ci := 5) (v := .int (sI s21.1 0)) (C := RX4) (T := TX4) (N := 6) hx hb hts hi_dm_X4_atomic_X4 hown hK hP 0 rfl rfl 2 (by decide) (hts (.fieldLink RX4 20 "TimeMachine$Hart" "process" "I") (List.mem_of_getElem? (i := 5) rfl)) (fun _ h9 => h9) rfl dX4_atomic_193 ?_
    refine lv_iload_n hx hb dX4_atomic_196 rfl (lv_at hl 2 rfl) ?_
    obtain ⟨q23, s24, hq, h⟩ := nd_b2_e h
    have hPc := dp_X4_1 hP
    have hDc := dd_X4_1 hD
    have hKc := dy_X4_1 hK
    have hFc := nd_rs hDc hS hA
    have hzA : ∀ q : Nat, H.size ≤ q → A q := fun q h => hA q (Nat.le_trans hS.1 h)
    refine nd_cVi (As := [.int (sI s21.1 0), .int x2]) (rest := []) (q := q23) (w' := dw_X6 (fun k => a (k + 1)) (fun k => ac (k + 1)) s24) ⟨hx, hb, hml, hown, hts⟩ (fun sz => dm_X6_wordAt l hlt dC dI (fun k => a (k + 1)) (fun k => ac (k + 1)) n ((sI s21.1 0)) (x2) s21.2 hq sz) (cwV 2 hts gi_dm_X4_atomic_3 rfl rfl rfl (by decide +kernel) ⟨Nat.le_of_ble_eq_true rfl, Nat.le_of_ble_eq_true rfl⟩) hPc hDc hKc hS hA hN (va_recv hKc hPc (ci := 7) (q0 := 0) rfl rfl) rfl hl.1 rfl (Nat.le_of_ble_eq_true rfl) dX4_atomic_197 (fun H locs hP1 hD1 hk1 hS => ?_)
    obtain ⟨hP, hD⟩ := dn_X4_1 hP hD hzA hk1 hP1 hD1
    obtain ⟨s26, es26, h⟩ := nd_let_e h
    have hP : va_P (dC, dI) vwCl (dw_X4 a ac s26) H := by rw [es26]; exact hP
    have hD : va_D A (dw_X4 a ac s26) := by rw [es26]; exact hD
    refine lv_istore (lv' := [(7, .int q23), (0, .ref (a 0)), (1, .int x1), (2, .int x2), (3, .int x3), (4, .int x4), (6, .int x6)]) hx hb dX4_atomic_200 hl (by decide) rfl (fun ls hl => ?_)
    refine lv_aload_n hx hb dX4_atomic_202 rfl (lv_at hl 1 rfl) ?_
    refine va_get (D := (dC, dI)) (ci := 5) (v := .ref (a 1)) (C := RX4) (T := TX4) (N := 6) hx hb hts hi_dm_X4_atomic_X4 hown hK hP 0 rfl rfl 0 (by decide) (hts (.fieldLink RX4 7 "TimeMachine$Hart" "machine" "LTimeMachine$Machine;") (List.mem_of_getElem? (i := 4) rfl)) (fun _ h9 => h9) rfl dX4_atomic_203 ?_
    refine lv_aload_n hx hb dX4_atomic_206 rfl (lv_at hl 1 rfl) ?_
    refine va_get (D := (dC, dI)) (ci := 5) (v := .int (sI s26.1 0)) (C := RX4) (T := TX4) (N := 6) hx hb hts hi_dm_X4_atomic_X4 hown hK hP 0 rfl rfl 2 (by decide) (hts (.fieldLink RX4 20 "TimeMachine$Hart" "process" "I") (List.mem_of_getElem? (i := 5) rfl)) (fun _ h9 => h9) rfl dX4_atomic_207 ?_
    refine lv_iload_n hx hb dX4_atomic_210 rfl (lv_at hl 3 rfl) ?_
    refine lv_iconst (v := (-1)) hx hb dX4_atomic_211 (by decide) ?_
    refine lv_iload hx hb dX4_atomic_212 (lv_at hl 6 rfl) ?_
    refine lv_if_eq (tgt := 221) hx hb dX4_atomic_214 (by decide) (fun c27 => ?_) (fun c27 => ?_)
    · have h := nd_pos h c27
      refine lv_iload hx hb dX4_atomic_221 (lv_at hl 5 rfl) ?_
      refine lv_iload hx hb dX4_atomic_223 (lv_at hl 0 rfl) ?_
      refine lv_iload_n hx hb dX4_atomic_225 rfl (lv_at hl 4 rfl) ?_
      obtain ⟨q28, s29, hq, h⟩ := nd_b2_e h
      have hPc : va_P (dC, dI) vwCl (dw_P a ac ()) H := nd_p0
      have hDc : va_D A (dw_P a ac ()) := nd_d0
      have hKc : va_K (dC, dI) vwCl (dk_P ac) s := nd_y0 hK
      have hFc : ∀ q, va_A (dw_P a ac ()) H.size q → A q := nd_r0 hS hA
      refine nd_cSi (As := [.int x4, .int q23, .int x3]) (rest := [.int (-1), .int x2, .int (sI s26.1 0), .ref (a 1)]) (q := q28) (w' := dw_P a ac s29) ⟨hx, hb, hml, hown, hts⟩ (fun sz => dm_X4_changed l hlt dC dI a ac n (x4) (q23) (x3) () hq sz) (cwS 3 hts gi_dm_X4_atomic_4 rfl rfl rfl (by decide +kernel) ⟨Nat.le_of_ble_eq_true rfl, Nat.le_of_ble_eq_true rfl⟩) hPc hDc hKc hS hA hN rfl hl.1 rfl (Nat.le_of_ble_eq_true rfl) dX4_atomic_226 (fun H locs hP1 hD1 hk1 hS => ?_)
      have hP := nd_n0 hP hk1
      exact (db_X4_atomic_229 C K) (x1) (x2) (x6) (q23) ((sI s26.1 0)) (x2) ((-1)) (q28) s26 _ _ _ h hP hD hS (lv_sub hl [1, 2, 3, 6, 0] rfl)
    · have h := nd_neg h c27
      refine lv_iload_n hx hb dX4_atomic_217 rfl (lv_at hl 4 rfl) ?_
      refine lv_goto (tgt := 229) hx hb dX4_atomic_218 (by decide) ?_
      exact (db_X4_atomic_229 C K) (x1) (x2) (x6) (q23) ((sI s26.1 0)) (x2) ((-1)) (x3) s26 _ _ _ h hP hD hS (lv_sub hl [1, 2, 3, 6, 0] rfl)
  · have h := nd_pos h c22
    refine lv_bipush (v := 7) hx hb dX4_atomic_185 (by decide) ?_
    exact K _ _ _ _ _ _ dX4_atomic_187 rfl (Option.some.inj h).symm hP hD hS
set_option maxHeartbeats 40000000 in
set_option maxRecDepth 100000 in
theorem db_X4_atomic_136 {p : Program} {l : Launch} {e : Env} {s : State} {m : MethodId} {args : Array Value} {below : List Frame} {meth : Method} {c : Code} {Q : State → Prop} {A : Nat → Prop} {dC : Nat → ClassId} {dI : Nat → Nat → Nat} {a : Nat → Nat} {ac : Nat → ClassId} {n : Nat} {r : Int32 × (St × (St × (St)))} (C : nd_C p l s m args c A (dC, dI) cX4_atomic 8 RX4 ow_dm_X4_atomic (dk_X4 ac)) (K : nd_Ki p l e (headSpec ow_dm_X4_atomic ({ frames := 3, cells := 0, slots := 0, locals := 65 })).room s m args below meth c Q A (dC, dI) cX4_atomic .int (St × (St × (St))) (dw_X4 a ac) r) : dj_X4_atomic_136 p l e s m args below meth c Q A dC dI a ac (df_X4_atomic_136 n) r := by
  obtain ⟨hlt, hx, hb, hml, hown, hts, hN, hA, hK⟩ := id C
  intro x1 x2 x3 x4 y0 s0 H locs ls h hP hD hS hl
  unfold df_X4_atomic_136 at h
  refine lv_istore (lv' := [(6, .int y0), (0, .ref (a 0)), (1, .int x1), (2, .int x2), (3, .int x3), (4, .int x4)]) hx hb dX4_atomic_136 hl (by decide) rfl (fun ls hl => ?_)
  refine lv_iload hx hb dX4_atomic_138 (lv_at hl 0 rfl) ?_
  refine lv_if_eq (tgt := 170) hx hb dX4_atomic_140 (by decide) (fun c17 => ?_) (fun c17 => ?_)
  · have h := nd_pos h c17
    exact (db_X4_atomic_170 C K) (x1) (x2) (x3) (x4) (y0) s0 _ _ _ h hP hD hS (lv_sub hl [1, 2, 3, 4, 5, 0] rfl)
  · have h := nd_neg h c17
    refine lv_aload_n hx hb dX4_atomic_143 rfl (lv_at hl 1 rfl) ?_
    refine va_get (D := (dC, dI)) (ci := 5) (v := .ref (a 1)) (C := RX4) (T := TX4) (N := 6) hx hb hts hi_dm_X4_atomic_X4 hown hK hP 0 rfl rfl 0 (by decide) (hts (.fieldLink RX4 7 "TimeMachine$Hart" "machine" "LTimeMachine$Machine;") (List.mem_of_getElem? (i := 4) rfl)) (fun _ h9 => h9) rfl dX4_atomic_144 ?_
    refine va_get (D := (dC, dI)) (ci := 7) (v := .int (sI s0.2.1 6)) (C := RX6) (T := TX6) (N := 20) hx hb hts hi_dm_X4_atomic_X6 hown hK hP 1 rfl rfl 16 (by decide) (hts (.fieldLink RX4 122 "TimeMachine$Machine" "reserved" "I") (List.mem_of_getElem? (i := 27) rfl)) (fun _ h9 => h9) rfl dX4_atomic_147 ?_
    refine lv_iload_n hx hb dX4_atomic_150 rfl (lv_at hl 3 rfl) ?_
    refine lv_icmp_eq (tgt := 170) hx hb dX4_atomic_151 (by decide) (fun c43 => ?_) (fun c43 => ?_)
    · have h := nd_pos h c43
      exact (db_X4_atomic_170 C K) (x1) (x2) (x3) (x4) (y0) s0 _ _ _ h hP hD hS (lv_sub hl [1, 2, 3, 4, 5, 0] rfl)
    · have h := nd_neg h c43
      refine lv_aload_n hx hb dX4_atomic_154 rfl (lv_at hl 1 rfl) ?_
      refine lv_iload_n hx hb dX4_atomic_155 rfl (lv_at hl 2 rfl) ?_
      refine lv_iconst (v := 1) hx hb dX4_atomic_156 (by decide) ?_
      obtain ⟨s45, hq, h⟩ := nd_b1_e h
      have hPc := hP
      have hDc := hD
      have hKc := hK
      have hFc := nd_rs hD hS hA
      refine nd_cVv (As := [.int x1, .int 1]) (rest := []) (w' := dw_X4 a ac s45) ⟨hx, hb, hml, hown, hts⟩ (fun sz => dm_X4_set l hlt dC dI a ac n (x1) (1) s0 hq sz) (cwV 2 hts gi_dm_X4_atomic_7 rfl rfl rfl (by decide +kernel) ⟨Nat.le_of_ble_eq_true rfl, Nat.le_of_ble_eq_true rfl⟩) hPc hDc hKc hS hA hN (va_recv hKc hPc (ci := 5) (q0 := 0) rfl rfl) rfl hl.1 rfl (Nat.le_of_ble_eq_true rfl) dX4_atomic_157 (fun H locs hP1 hD1 hk1 hS => ?_)
      have hP := hP1
      have hD := hD1.weaken (fun k q _ h => hFc q.1 h)
      refine lv_aload_n hx hb dX4_atomic_160 rfl (lv_at hl 1 rfl) ?_
      refine va_get (D := (dC, dI)) (ci := 5) (v := .ref (a 1)) (C := RX4) (T := TX4) (N := 6) hx hb hts hi_dm_X4_atomic_X4 hown hK hP 0 rfl rfl 0 (by decide) (hts (.fieldLink RX4 7 "TimeMachine$Hart" "machine" "LTimeMachine$Machine;") (List.mem_of_getElem? (i := 4) rfl)) (fun _ h9 => h9) rfl dX4_atomic_161 ?_
      refine lv_iconst (v := (-1)) hx hb dX4_atomic_164 (by decide) ?_
      refine va_put (D := (dC, dI)) (ci := 7) (v := .int (-1)) (ty := .int) (C := RX6) (T := TX6) (N := 20) hx hb hts hi_dm_X4_atomic_X6 tyX6 tyX6_ok nmX6 hown hK hP hD hS 1 rfl rfl 16 (by decide) (hts (.fieldLink RX4 122 "TimeMachine$Machine" "reserved" "I") (List.mem_of_getElem? (i := 27) rfl)) (fun _ h9 => h9) rfl (by decide +kernel) rfl rfl (Nat.le_of_ble_eq_true rfl) dX4_atomic_165 (fun H locs hP hD hS => ?_)
      obtain ⟨s47, es47, h⟩ := nd_let_e h
      have hP : va_P (dC, dI) vwCl (dw_X4 a ac s47) H := by rw [es47]; exact hP
      have hD : va_D A (dw_X4 a ac s47) := by rw [es47]; exact hD
      refine lv_iconst (v := 0) hx hb dX4_atomic_168 (by decide) ?_
      exact K _ _ _ _ _ _ dX4_atomic_169 rfl (Option.some.inj h).symm hP hD hS
set_option maxHeartbeats 40000000 in
set_option maxRecDepth 100000 in
theorem db_X4_atomic_90 {p : Program} {l : Launch} {e : Env} {s : State} {m : MethodId} {args : Array Value} {below : List Frame} {meth : Method} {c : Code} {Q : State → Prop} {A : Nat → Prop} {dC : Nat → ClassId} {dI : Nat → Nat → Nat} {a : Nat → Nat} {ac : Nat → ClassId} {n : Nat} {r : Int32 × (St × (St × (St)))} (C : nd_C p l s m args c A (dC, dI) cX4_atomic 8 RX4 ow_dm_X4_atomic (dk_X4 ac)) (K : nd_Ki p l e (headSpec ow_dm_X4_atomic ({ frames := 3, cells := 0, slots := 0, locals := 65 })).room s m args below meth c Q A (dC, dI) cX4_atomic .int (St × (St × (St))) (dw_X4 a ac) r) : dj_X4_atomic_90 p l e s m args below meth c Q A dC dI a ac (df_X4_atomic_90 n) r := by
  obtain ⟨hlt, hx, hb, hml, hown, hts, hN, hA, hK⟩ := id C
  intro s0 H locs ls h hP hD hS hl
  unfold df_X4_atomic_90 at h
  refine lv_bipush (v := 11) hx hb dX4_atomic_90 (by decide) ?_
  exact K _ _ _ _ _ _ dX4_atomic_92 rfl (Option.some.inj h).symm hP hD hS
set_option maxHeartbeats 40000000 in
set_option maxRecDepth 100000 in
theorem db_X4_atomic_74 {p : Program} {l : Launch} {e : Env} {s : State} {m : MethodId} {args : Array Value} {below : List Frame} {meth : Method} {c : Code} {Q : State → Prop} {A : Nat → Prop} {dC : Nat → ClassId} {dI : Nat → Nat → Nat} {a : Nat → Nat} {ac : Nat → ClassId} {n : Nat} {r : Int32 × (St × (St × (St)))} (C : nd_C p l s m args c A (dC, dI) cX4_atomic 8 RX4 ow_dm_X4_atomic (dk_X4 ac)) (K : nd_Ki p l e (headSpec ow_dm_X4_atomic ({ frames := 3, cells := 0, slots := 0, locals := 65 })).room s m args below meth c Q A (dC, dI) cX4_atomic .int (St × (St × (St))) (dw_X4 a ac) r) : dj_X4_atomic_74 p l e s m args below meth c Q A dC dI a ac (df_X4_atomic_74 n) r := by
  obtain ⟨hlt, hx, hb, hml, hown, hts, hN, hA, hK⟩ := id C
  intro x1 x2 x3 x4 x5 s0 H locs ls h hP hD hS hl
  unfold df_X4_atomic_74 at h
  refine lv_aload_n hx hb dX4_atomic_74 rfl (lv_at hl 0 rfl) ?_
  refine va_get (D := (dC, dI)) (ci := 5) (v := .ref (a 1)) (C := RX4) (T := TX4) (N := 6) hx hb hts hi_dm_X4_atomic_X4 hown hK hP 0 rfl rfl 0 (by decide) (hts (.fieldLink RX4 7 "TimeMachine$Hart" "machine" "LTimeMachine$Machine;") (List.mem_of_getElem? (i := 4) rfl)) (fun _ h9 => h9) rfl dX4_atomic_75 ?_
  refine lv_aload_n hx hb dX4_atomic_78 rfl (lv_at hl 0 rfl) ?_
  refine va_get (D := (dC, dI)) (ci := 5) (v := .int (sI s0.1 0)) (C := RX4) (T := TX4) (N := 6) hx hb hts hi_dm_X4_atomic_X4 hown hK hP 0 rfl rfl 2 (by decide) (hts (.fieldLink RX4 20 "TimeMachine$Hart" "process" "I") (List.mem_of_getElem? (i := 5) rfl)) (fun _ h9 => h9) rfl dX4_atomic_79 ?_
  refine lv_iload_n hx hb dX4_atomic_82 rfl (lv_at hl 2 rfl) ?_
  refine lv_iconst (v := 1) hx hb dX4_atomic_83 (by decide) ?_
  obtain ⟨q10, s11, hq, h⟩ := nd_b2_e h
  have hPc := dp_X4_1 hP
  have hDc := dd_X4_1 hD
  have hKc := dy_X4_1 hK
  have hFc := nd_rs hDc hS hA
  have hzA : ∀ q : Nat, H.size ≤ q → A q := fun q h => hA q (Nat.le_trans hS.1 h)
  refine nd_cVi (As := [.int (sI s0.1 0), .int x2, .int 1]) (rest := []) (q := q10) (w' := dw_X6 (fun k => a (k + 1)) (fun k => ac (k + 1)) s11) ⟨hx, hb, hml, hown, hts⟩ (fun sz => dm_X6_may l hlt dC dI (fun k => a (k + 1)) (fun k => ac (k + 1)) n ((sI s0.1 0)) (x2) (1) s0.2 hq sz) (cwV 3 hts gi_dm_X4_atomic_1 rfl rfl rfl (by decide +kernel) ⟨Nat.le_of_ble_eq_true rfl, Nat.le_of_ble_eq_true rfl⟩) hPc hDc hKc hS hA hN (va_recv hKc hPc (ci := 7) (q0 := 0) rfl rfl) rfl hl.1 rfl (Nat.le_of_ble_eq_true rfl) dX4_atomic_84 (fun H locs hP1 hD1 hk1 hS => ?_)
  obtain ⟨hP, hD⟩ := dn_X4_1 hP hD hzA hk1 hP1 hD1
  obtain ⟨s13, es13, h⟩ := nd_let_e h
  have hP : va_P (dC, dI) vwCl (dw_X4 a ac s13) H := by rw [es13]; exact hP
  have hD : va_D A (dw_X4 a ac s13) := by rw [es13]; exact hD
  refine lv_if_ne (tgt := 93) hx hb dX4_atomic_87 (by decide) (fun c14 => ?_) (fun c14 => ?_)
  · have h := nd_neg h c14
    refine lv_iload hx hb dX4_atomic_93 (lv_at hl 5 rfl) ?_
    refine lv_if_eq (tgt := 125) hx hb dX4_atomic_95 (by decide) (fun c15 => ?_) (fun c15 => ?_)
    · have h := nd_pos h c15
      refine lv_iload hx hb dX4_atomic_125 (lv_at hl 4 rfl) ?_
      refine lv_iconst (v := 3) hx hb dX4_atomic_127 (by decide) ?_
      refine lv_icmp_ne (tgt := 135) hx hb dX4_atomic_128 (by decide) (fun c16 => ?_) (fun c16 => ?_)
      · have h := nd_neg h c16
        refine lv_iconst (v := 0) hx hb dX4_atomic_135 (by decide) ?_
        exact (db_X4_atomic_136 C K) (x1) (x2) (x3) (x4) (0) s13 _ _ _ h hP hD hS (lv_sub hl [0, 1, 2, 3, 4] rfl)
      · have h := nd_pos h c16
        refine lv_iconst (v := 1) hx hb dX4_atomic_131 (by decide) ?_
        refine lv_goto (tgt := 136) hx hb dX4_atomic_132 (by decide) ?_
        exact (db_X4_atomic_136 C K) (x1) (x2) (x3) (x4) (1) s13 _ _ _ h hP hD hS (lv_sub hl [0, 1, 2, 3, 4] rfl)
    · have h := nd_neg h c15
      refine lv_aload_n hx hb dX4_atomic_98 rfl (lv_at hl 0 rfl) ?_
      refine lv_iload_n hx hb dX4_atomic_99 rfl (lv_at hl 1 rfl) ?_
      refine lv_aload_n hx hb dX4_atomic_100 rfl (lv_at hl 0 rfl) ?_
      refine va_get (D := (dC, dI)) (ci := 5) (v := .ref (a 1)) (C := RX4) (T := TX4) (N := 6) hx hb hts hi_dm_X4_atomic_X4 hown hK hP 0 rfl rfl 0 (by decide) (hts (.fieldLink RX4 7 "TimeMachine$Hart" "machine" "LTimeMachine$Machine;") (List.mem_of_getElem? (i := 4) rfl)) (fun _ h9 => h9) rfl dX4_atomic_101 ?_
      refine lv_aload_n hx hb dX4_atomic_104 rfl (lv_at hl 0 rfl) ?_
      refine va_get (D := (dC, dI)) (ci := 5) (v := .int (sI s13.1 0)) (C := RX4) (T := TX4) (N := 6) hx hb hts hi_dm_X4_atomic_X4 hown hK hP 0 rfl rfl 2 (by decide) (hts (.fieldLink RX4 20 "TimeMachine$Hart" "process" "I") (List.mem_of_getElem? (i := 5) rfl)) (fun _ h9 => h9) rfl dX4_atomic_105 ?_
      refine lv_iload_n hx hb dX4_atomic_108 rfl (lv_at hl 2 rfl) ?_
      obtain ⟨q48, s49, hq, h⟩ := nd_b2_e h
      have hPc := dp_X4_1 hP
      have hDc := dd_X4_1 hD
      have hKc := dy_X4_1 hK
      have hFc := nd_rs hDc hS hA
      have hzA : ∀ q : Nat, H.size ≤ q → A q := fun q h => hA q (Nat.le_trans hS.1 h)
      refine nd_cVi (As := [.int (sI s13.1 0), .int x2]) (rest := [.int x1, .ref (a 0)]) (q := q48) (w' := dw_X6 (fun k => a (k + 1)) (fun k => ac (k + 1)) s49) ⟨hx, hb, hml, hown, hts⟩ (fun sz => dm_X6_wordAt l hlt dC dI (fun k => a (k + 1)) (fun k => ac (k + 1)) n ((sI s13.1 0)) (x2) s13.2 hq sz) (cwV 2 hts gi_dm_X4_atomic_3 rfl rfl rfl (by decide +kernel) ⟨Nat.le_of_ble_eq_true rfl, Nat.le_of_ble_eq_true rfl⟩) hPc hDc hKc hS hA hN (va_recv hKc hPc (ci := 7) (q0 := 0) rfl rfl) rfl hl.1 rfl (Nat.le_of_ble_eq_true rfl) dX4_atomic_109 (fun H locs hP1 hD1 hk1 hS => ?_)
      obtain ⟨hP, hD⟩ := dn_X4_1 hP hD hzA hk1 hP1 hD1
      obtain ⟨s51, es51, h⟩ := nd_let_e h
      have hP : va_P (dC, dI) vwCl (dw_X4 a ac s51) H := by rw [es51]; exact hP
      have hD : va_D A (dw_X4 a ac s51) := by rw [es51]; exact hD
      obtain ⟨s53, hq, h⟩ := nd_b1_e h
      have hPc := hP
      have hDc := hD
      have hKc := hK
      have hFc := nd_rs hD hS hA
      refine nd_cVv (As := [.int x1, .int q48]) (rest := []) (w' := dw_X4 a ac s53) ⟨hx, hb, hml, hown, hts⟩ (fun sz => dm_X4_set l hlt dC dI a ac n (x1) (q48) s51 hq sz) (cwV 2 hts gi_dm_X4_atomic_7 rfl rfl rfl (by decide +kernel) ⟨Nat.le_of_ble_eq_true rfl, Nat.le_of_ble_eq_true rfl⟩) hPc hDc hKc hS hA hN (va_recv hKc hPc (ci := 5) (q0 := 0) rfl rfl) rfl hl.1 rfl (Nat.le_of_ble_eq_true rfl) dX4_atomic_112 (fun H locs hP1 hD1 hk1 hS => ?_)
      have hP := hP1
      have hD := hD1.weaken (fun k q _ h => hFc q.1 h)
      refine lv_aload_n hx hb dX4_atomic_115 rfl (lv_at hl 0 rfl) ?_
      refine va_get (D := (dC, dI)) (ci := 5) (v := .ref (a 1)) (C := RX4) (T := TX4) (N := 6) hx hb hts hi_dm_X4_atomic_X4 hown hK hP 0 rfl rfl 0 (by decide) (hts (.fieldLink RX4 7 "TimeMachine$Hart" "machine" "LTimeMachine$Machine;") (List.mem_of_getElem? (i := 4) rfl)) (fun _ h9 => h9) rfl dX4_atomic_116 ?_
      refine lv_iload_n hx hb dX4_atomic_119 rfl (lv_at hl 2 rfl) ?_
      refine va_put (D := (dC, dI)) (ci := 7) (v := .int x2) (ty := .int) (C := RX6) (T := TX6) (N := 20) hx hb hts hi_dm_X4_atomic_X6 tyX6 tyX6_ok nmX6 hown hK hP hD hS 1 rfl rfl 16 (by decide) (hts (.fieldLink RX4 122 "TimeMachine$Machine" "reserved" "I") (List.mem_of_getElem? (i := 27) rfl)) (fun _ h9 => h9) rfl (by decide +kernel) rfl rfl (Nat.le_of_ble_eq_true rfl) dX4_atomic_120 (fun H locs hP hD hS => ?_)
      obtain ⟨s55, es55, h⟩ := nd_let_e h
      have hP : va_P (dC, dI) vwCl (dw_X4 a ac s55) H := by rw [es55]; exact hP
      have hD : va_D A (dw_X4 a ac s55) := by rw [es55]; exact hD
      refine lv_iconst (v := 0) hx hb dX4_atomic_123 (by decide) ?_
      exact K _ _ _ _ _ _ dX4_atomic_124 rfl (Option.some.inj h).symm hP hD hS
  · have h := nd_pos h c14
    exact (db_X4_atomic_90 C K)  s13 _ _ _ h hP hD hS (lv_sub hl [] rfl)
set_option maxHeartbeats 40000000 in
set_option maxRecDepth 100000 in
theorem db_X4_atomic_42 {p : Program} {l : Launch} {e : Env} {s : State} {m : MethodId} {args : Array Value} {below : List Frame} {meth : Method} {c : Code} {Q : State → Prop} {A : Nat → Prop} {dC : Nat → ClassId} {dI : Nat → Nat → Nat} {a : Nat → Nat} {ac : Nat → ClassId} {n : Nat} {r : Int32 × (St × (St × (St)))} (C : nd_C p l s m args c A (dC, dI) cX4_atomic 8 RX4 ow_dm_X4_atomic (dk_X4 ac)) (K : nd_Ki p l e (headSpec ow_dm_X4_atomic ({ frames := 3, cells := 0, slots := 0, locals := 65 })).room s m args below meth c Q A (dC, dI) cX4_atomic .int (St × (St × (St))) (dw_X4 a ac) r) : dj_X4_atomic_42 p l e s m args below meth c Q A dC dI a ac (df_X4_atomic_42 n) r := by
  obtain ⟨hlt, hx, hb, hml, hown, hts, hN, hA, hK⟩ := id C
  intro s0 H locs ls h hP hD hS hl
  unfold df_X4_atomic_42 at h
  refine lv_iconst (v := 4) hx hb dX4_atomic_42 (by decide) ?_
  exact K _ _ _ _ _ _ dX4_atomic_43 rfl (Option.some.inj h).symm hP hD hS
set_option maxHeartbeats 40000000 in
set_option maxRecDepth 100000 in
theorem db_X4_atomic_34 {p : Program} {l : Launch} {e : Env} {s : State} {m : MethodId} {args : Array Value} {below : List Frame} {meth : Method} {c : Code} {Q : State → Prop} {A : Nat → Prop} {dC : Nat → ClassId} {dI : Nat → Nat → Nat} {a : Nat → Nat} {ac : Nat → ClassId} {n : Nat} {r : Int32 × (St × (St × (St)))} (C : nd_C p l s m args c A (dC, dI) cX4_atomic 8 RX4 ow_dm_X4_atomic (dk_X4 ac)) (K : nd_Ki p l e (headSpec ow_dm_X4_atomic ({ frames := 3, cells := 0, slots := 0, locals := 65 })).room s m args below meth c Q A (dC, dI) cX4_atomic .int (St × (St × (St))) (dw_X4 a ac) r) : dj_X4_atomic_34 p l e s m args below meth c Q A dC dI a ac (df_X4_atomic_34 n) r := by
  obtain ⟨hlt, hx, hb, hml, hown, hts, hN, hA, hK⟩ := id C
  intro x1 x2 x3 x4 x5 s0 H locs ls h hP hD hS hl
  unfold df_X4_atomic_34 at h
  refine lv_iload hx hb dX4_atomic_34 (lv_at hl 4 rfl) ?_
  obtain ⟨q4, s5, hq, h⟩ := nd_b2_e h
  have hPc : va_P (dC, dI) vwCl (dw_P a ac ()) H := nd_p0
  have hDc : va_D A (dw_P a ac ()) := nd_d0
  have hKc : va_K (dC, dI) vwCl (dk_P ac) s := nd_y0 hK
  have hFc : ∀ q, va_A (dw_P a ac ()) H.size q → A q := nd_r0 hS hA
  refine nd_cSi (As := [.int x4]) (rest := []) (q := q4) (w' := dw_P a ac s5) ⟨hx, hb, hml, hown, hts⟩ (fun sz => dm_X4_isAtomic l hlt dC dI a ac n (x4) () hq sz) (cwS 1 hts gi_dm_X4_atomic_0 rfl rfl rfl (by decide +kernel) ⟨Nat.le_of_ble_eq_true rfl, Nat.le_of_ble_eq_true rfl⟩) hPc hDc hKc hS hA hN rfl hl.1 rfl (Nat.le_of_ble_eq_true rfl) dX4_atomic_36 (fun H locs hP1 hD1 hk1 hS => ?_)
  have hP := nd_n0 hP hk1
  refine lv_if_ne (tgt := 44) hx hb dX4_atomic_39 (by decide) (fun c7 => ?_) (fun c7 => ?_)
  · have h := nd_neg h c7
    refine lv_iload_n hx hb dX4_atomic_44 rfl (lv_at hl 2 rfl) ?_
    refine lv_iconst (v := 3) hx hb dX4_atomic_45 (by decide) ?_
    refine lv_iand hx hb dX4_atomic_46 ?_
    refine lv_if_eq (tgt := 53) hx hb dX4_atomic_47 (by decide) (fun c8 => ?_) (fun c8 => ?_)
    · have h := nd_pos h c8
      refine lv_iload hx hb dX4_atomic_53 (lv_at hl 5 rfl) ?_
      refine lv_if_ne (tgt := 74) hx hb dX4_atomic_55 (by decide) (fun c9 => ?_) (fun c9 => ?_)
      · have h := nd_neg h c9
        exact (db_X4_atomic_74 C K) (x1) (x2) (x3) (x4) (x5) s0 _ _ _ h hP hD hS (lv_sub hl [0, 1, 2, 3, 4, 5] rfl)
      · have h := nd_pos h c9
        refine lv_aload_n hx hb dX4_atomic_58 rfl (lv_at hl 0 rfl) ?_
        refine va_get (D := (dC, dI)) (ci := 5) (v := .ref (a 1)) (C := RX4) (T := TX4) (N := 6) hx hb hts hi_dm_X4_atomic_X4 hown hK hP 0 rfl rfl 0 (by decide) (hts (.fieldLink RX4 7 "TimeMachine$Hart" "machine" "LTimeMachine$Machine;") (List.mem_of_getElem? (i := 4) rfl)) (fun _ h9 => h9) rfl dX4_atomic_59 ?_
        refine lv_aload_n hx hb dX4_atomic_62 rfl (lv_at hl 0 rfl) ?_
        refine va_get (D := (dC, dI)) (ci := 5) (v := .int (sI s0.1 0)) (C := RX4) (T := TX4) (N := 6) hx hb hts hi_dm_X4_atomic_X4 hown hK hP 0 rfl rfl 2 (by decide) (hts (.fieldLink RX4 20 "TimeMachine$Hart" "process" "I") (List.mem_of_getElem? (i := 5) rfl)) (fun _ h9 => h9) rfl dX4_atomic_63 ?_
        refine lv_iload_n hx hb dX4_atomic_66 rfl (lv_at hl 2 rfl) ?_
        refine lv_iconst (v := 2) hx hb dX4_atomic_67 (by decide) ?_
        obtain ⟨q56, s57, hq, h⟩ := nd_b2_e h
        have hPc := dp_X4_1 hP
        have hDc := dd_X4_1 hD
        have hKc := dy_X4_1 hK
        have hFc := nd_rs hDc hS hA
        have hzA : ∀ q : Nat, H.size ≤ q → A q := fun q h => hA q (Nat.le_trans hS.1 h)
        refine nd_cVi (As := [.int (sI s0.1 0), .int x2, .int 2]) (rest := []) (q := q56) (w' := dw_X6 (fun k => a (k + 1)) (fun k => ac (k + 1)) s57) ⟨hx, hb, hml, hown, hts⟩ (fun sz => dm_X6_may l hlt dC dI (fun k => a (k + 1)) (fun k => ac (k + 1)) n ((sI s0.1 0)) (x2) (2) s0.2 hq sz) (cwV 3 hts gi_dm_X4_atomic_1 rfl rfl rfl (by decide +kernel) ⟨Nat.le_of_ble_eq_true rfl, Nat.le_of_ble_eq_true rfl⟩) hPc hDc hKc hS hA hN (va_recv hKc hPc (ci := 7) (q0 := 0) rfl rfl) rfl hl.1 rfl (Nat.le_of_ble_eq_true rfl) dX4_atomic_68 (fun H locs hP1 hD1 hk1 hS => ?_)
        obtain ⟨hP, hD⟩ := dn_X4_1 hP hD hzA hk1 hP1 hD1
        obtain ⟨s59, es59, h⟩ := nd_let_e h
        have hP : va_P (dC, dI) vwCl (dw_X4 a ac s59) H := by rw [es59]; exact hP
        have hD : va_D A (dw_X4 a ac s59) := by rw [es59]; exact hD
        refine lv_if_eq (tgt := 90) hx hb dX4_atomic_71 (by decide) (fun c60 => ?_) (fun c60 => ?_)
        · have h := nd_pos h c60
          exact (db_X4_atomic_90 C K)  s59 _ _ _ h hP hD hS (lv_sub hl [] rfl)
        · have h := nd_neg h c60
          exact (db_X4_atomic_74 C K) (x1) (x2) (x3) (x4) (x5) s59 _ _ _ h hP hD hS (lv_sub hl [0, 1, 2, 3, 4, 5] rfl)
    · have h := nd_neg h c8
      refine lv_bipush (v := 7) hx hb dX4_atomic_50 (by decide) ?_
      exact K _ _ _ _ _ _ dX4_atomic_52 rfl (Option.some.inj h).symm hP hD hS
  · have h := nd_pos h c7
    exact (db_X4_atomic_42 C K)  s0 _ _ _ h hP hD hS (lv_sub hl [] rfl)
set_option maxHeartbeats 40000000 in
set_option maxRecDepth 100000 in
theorem db_X4_atomic_17 {p : Program} {l : Launch} {e : Env} {s : State} {m : MethodId} {args : Array Value} {below : List Frame} {meth : Method} {c : Code} {Q : State → Prop} {A : Nat → Prop} {dC : Nat → ClassId} {dI : Nat → Nat → Nat} {a : Nat → Nat} {ac : Nat → ClassId} {n : Nat} {r : Int32 × (St × (St × (St)))} (C : nd_C p l s m args c A (dC, dI) cX4_atomic 8 RX4 ow_dm_X4_atomic (dk_X4 ac)) (K : nd_Ki p l e (headSpec ow_dm_X4_atomic ({ frames := 3, cells := 0, slots := 0, locals := 65 })).room s m args below meth c Q A (dC, dI) cX4_atomic .int (St × (St × (St))) (dw_X4 a ac) r) : dj_X4_atomic_17 p l e s m args below meth c Q A dC dI a ac (df_X4_atomic_17 n) r := by
  obtain ⟨hlt, hx, hb, hml, hown, hts, hN, hA, hK⟩ := id C
  intro x1 x2 x3 x4 y0 s0 H locs ls h hP hD hS hl
  unfold df_X4_atomic_17 at h
  refine lv_istore (lv' := [(5, .int y0), (0, .ref (a 0)), (1, .int x1), (2, .int x2), (3, .int x3), (4, .int x4)]) hx hb dX4_atomic_17 hl (by decide) rfl (fun ls hl => ?_)
  refine lv_iload hx hb dX4_atomic_19 (lv_at hl 0 rfl) ?_
  refine lv_if_eq (tgt := 34) hx hb dX4_atomic_21 (by decide) (fun c3 => ?_) (fun c3 => ?_)
  · have h := nd_pos h c3
    exact (db_X4_atomic_34 C K) (x1) (x2) (x3) (x4) (y0) s0 _ _ _ h hP hD hS (lv_sub hl [1, 2, 3, 4, 5, 0] rfl)
  · have h := nd_neg h c3
    refine lv_iload_n hx hb dX4_atomic_24 rfl (lv_at hl 2 rfl) ?_
    refine lv_bipush (v := 20) hx hb dX4_atomic_25 (by decide) ?_
    refine lv_ishr hx hb dX4_atomic_27 ?_
    refine lv_bipush (v := 31) hx hb dX4_atomic_28 (by decide) ?_
    refine lv_iand hx hb dX4_atomic_30 ?_
    refine lv_if_ne (tgt := 42) hx hb dX4_atomic_31 (by decide) (fun c61 => ?_) (fun c61 => ?_)
    · have h := nd_neg h c61
      exact (db_X4_atomic_42 C K)  s0 _ _ _ h hP hD hS (lv_sub hl [] rfl)
    · have h := nd_pos h c61
      exact (db_X4_atomic_34 C K) (x1) (x2) (x3) (x4) (y0) s0 _ _ _ h hP hD hS (lv_sub hl [1, 2, 3, 4, 5, 0] rfl)
set_option maxHeartbeats 40000000 in
set_option maxRecDepth 100000 in
theorem db_X4_atomic_0 {p : Program} {l : Launch} {e : Env} {s : State} {m : MethodId} {args : Array Value} {below : List Frame} {meth : Method} {c : Code} {Q : State → Prop} {A : Nat → Prop} {dC : Nat → ClassId} {dI : Nat → Nat → Nat} {a : Nat → Nat} {ac : Nat → ClassId} {n : Nat} {r : Int32 × (St × (St × (St)))} (C : nd_C p l s m args c A (dC, dI) cX4_atomic 8 RX4 ow_dm_X4_atomic (dk_X4 ac)) (K : nd_Ki p l e (headSpec ow_dm_X4_atomic ({ frames := 3, cells := 0, slots := 0, locals := 65 })).room s m args below meth c Q A (dC, dI) cX4_atomic .int (St × (St × (St))) (dw_X4 a ac) r) : dj_X4_atomic_0 p l e s m args below meth c Q A dC dI a ac (df_X4_atomic_0 n) r := by
  obtain ⟨hlt, hx, hb, hml, hown, hts, hN, hA, hK⟩ := id C
  intro v0 v1 v2 s0 H locs ls h hP hD hS hl
  unfold df_X4_atomic_0 at h
  refine lv_iload_n hx hb dX4_atomic_0 rfl (lv_at hl 1 rfl) ?_
  refine lv_bipush (v := 27) hx hb dX4_atomic_1 (by decide) ?_
  refine lv_iushr hx hb dX4_atomic_3 rfl ?_
  refine lv_topi (fun z1 ez1 => ?_)
  have h := nd_at h ez1
  refine lv_istore (lv' := [(4, .int z1), (0, .ref (a 0)), (1, .int v0), (2, .int v1), (3, .int v2)]) hx hb dX4_atomic_4 hl (by decide) rfl (fun ls hl => ?_)
  refine lv_iload hx hb dX4_atomic_6 (lv_at hl 0 rfl) ?_
  refine lv_iconst (v := 2) hx hb dX4_atomic_8 (by decide) ?_
  refine lv_icmp_ne (tgt := 16) hx hb dX4_atomic_9 (by decide) (fun c2 => ?_) (fun c2 => ?_)
  · have h := nd_neg h c2
    refine lv_iconst (v := 0) hx hb dX4_atomic_16 (by decide) ?_
    exact (db_X4_atomic_17 C K) (v0) (v1) (v2) (z1) (0) s0 _ _ _ h hP hD hS (lv_sub hl [1, 2, 3, 4, 0] rfl)
  · have h := nd_pos h c2
    refine lv_iconst (v := 1) hx hb dX4_atomic_12 (by decide) ?_
    refine lv_goto (tgt := 17) hx hb dX4_atomic_13 (by decide) ?_
    exact (db_X4_atomic_17 C K) (v0) (v1) (v2) (z1) (1) s0 _ _ _ h hP hD hS (lv_sub hl [1, 2, 3, 4, 0] rfl)
set_option maxHeartbeats 40000000 in
set_option maxRecDepth 100000 in
theorem dm_X4_atomic (l : Launch) (hlt : l.stackTraces = false) (dC : Nat → ClassId) (dI : Nat → Nat → Nat) (a : Nat → Nat) (ac : Nat → ClassId) (n : Nat) (v0 : Int32) (v1 : Int32) (v2 : Int32) (s0 : St × (St × (St))) {r : Int32 × (St × (St × (St)))} (h : df_X4_atomic n v0 v1 v2 s0 = some r) (sz : Nat) : Met l yX4_atomic ow_dm_X4_atomic ({ frames := 3, cells := 0, slots := 0, locals := 65 }) (va_Pc [.ref (a 0), .int v0, .int v1, .int v2] (fun U => U.heap.size = sz ∧ va_P (dC, dI) vwCl (dw_X4 a ac s0) U.heap ∧ va_K (dC, dI) vwCl (dk_X4 ac) U ∧ va_D (fun _ => True) (dw_X4 a ac s0) ∧ nv_E dI (va_A (dw_X4 a ac s0) sz) U)) (va_Qi (fun x _ => x = r.1) (fun (_ : Unit) t => va_P (dC, dI) vwCl (dw_X4 a ac r.2) t.heap ∧ va_K (dC, dI) vwCl (dk_X4 ac) t ∧ va_D (va_A (dw_X4 a ac s0) sz) (dw_X4 a ac r.2)) (va_A (dw_X4 a ac s0) sz)) 0 0 (va_A (dw_X4 a ac s0) sz) := by
  refine Met.ofW (cc := cX4_atomic) (maxL := 8) (ret := (some .int)) (by decide) rfl ?_
  intro p e s m args below meth c s₁ B hml hv
  obtain ⟨rfl, hsz, hP, hK, hD0, hN⟩ := hv
  have hx := B.exec
  have hb := B.bytes
  have hr := B.returns
  have hts := atoms_spec (ws := ow_dm_X4_atomic) B.pre
  have hown : s.vm.findClass RX4 = some m.cls := findClass_of_methodNamed B.named
  have hlocks := B.notSynchronized
  subst hsz
  have hD := hD0.self (sz := s.heap.size)
  generalize hAe : va_A (dw_X4 a ac s0) s.heap.size = A at hD hN ⊢
  have hA : ∀ q : Nat, s.heap.size ≤ q → A q := fun q h => by rw [← hAe]; exact Or.inr h
  have hl := lv_entry ([.ref (a 0), .int v0, .int v1, .int v2]) (n := 8) (Nat.le_of_ble_eq_true rfl)
  rw [lg_entry_eq]
  generalize (lg_sl ([.ref (a 0), .int v0, .int v1, .int v2]) ++ List.replicate (8 - (lg_sl ([.ref (a 0), .int v0, .int v1, .int v2])).length) Slot.unset).toArray = ls at hl ⊢
  have hl : lv_has ls 8 [(0, .ref (a 0)), (1, .int v0), (2, .int v1), (3, .int v2)] := hl
  exact db_X4_atomic_0 (dC := dC) (dI := dI) (a := a) (ac := ac) (n := n) (r := r) ⟨hlt, hx, hb, hml, hown, hts, hN, hA, hK⟩ (fun pc v τ H locs ls d z er hP hD hS => by subst er; exact W.zret (v := v) hx hb hr z (fun t ht hW => ⟨⟨v, (), rfl, rfl, by rw [ht]; exact hP, va_K.moved hW.alike hK, hD⟩, hS.F ht⟩) hS.2.2 d) v0 v1 v2 s0 _ _ _ h hP hD va_S.rf (lv_sub hl [0, 1, 2, 3] rfl)

