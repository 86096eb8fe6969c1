def ow_dm_X3_bringsSame : List Cond := .code yX3_bringsSame cX3_bringsSame 3 (some .boolean) :: ([.fieldLink RX3 9 "TimeMachine$Events" "kind" "[I", .fieldLink RX3 17 "TimeMachine$Events" "a" "[J", .fieldLink RX3 20 "TimeMachine$Events" "b" "[I"] ++ (u_ws RX3 TX3 11 ++ []))
theorem gd_dm_X3_bringsSame : ∀ w ∈ ow_dm_X3_bringsSame, (w.onTables && w.keeps) = true ∨ ∃ ty, w = Cond.arrayClass ty := List.forall_mem_cons.mpr ⟨good_of_word rfl, List.forall_mem_append.mpr ⟨fun w h => good_of_word (List.all_eq_true.mp (by decide +kernel) w h), List.forall_mem_append.mpr ⟨gu_X3, fun _ h => nomatch h⟩⟩⟩
theorem hi_dm_X3_bringsSame_X3 : ∀ w ∈ u_ws RX3 TX3 11, w ∈ ow_dm_X3_bringsSame := fun w h => List.mem_cons_of_mem _ (List.mem_append_right _ (List.mem_append_left _ h))
def dj_X3_bringsSame_51 (p : Program) (l : Launch) (e : Env) (s : State) (m : MethodId) (args : Array Value) (below : List Frame) (meth : Method) (c : Code) (Q : State → Prop) (A : Nat → Prop) (dC : Nat → ClassId) (dI : Nat → Nat → Nat) (a : Nat → Nat) (ac : Nat → ClassId) (g : Int32 → (St) → Option (Int32 × (St))) (r : Int32 × (St)) : Prop := ∀ (y0 : Int32) (s0 : St) (H : Heap) (locs : List Loc) (ls : Array Slot), g y0 s0 = some r → va_P (dC, dI) vwCl (dw_X3c a ac s0) H → va_D A (dw_X3c a ac s0) → va_S A s.heap H locs → lv_has ls 3 [] → W p l e (headSpec ow_dm_X3_bringsSame ({ frames := 0, cells := 0, slots := 0, locals := 0 })).room s m args below meth c H locs 0 0 Q (F0 m 51 ls [.int y0])
def dj_X3_bringsSame_50 (p : Program) (l : Launch) (e : Env) (s : State) (m : MethodId) (args : Array Value) (below : List Frame) (meth : Method) (c : Code) (Q : State → Prop) (A : Nat → Prop) (dC : Nat → ClassId) (dI : Nat → Nat → Nat) (a : Nat → Nat) (ac : Nat → ClassId) (g : (St) → Option (Int32 × (St))) (r : Int32 × (St)) : Prop := ∀ (s0 : St) (H : Heap) (locs : List Loc) (ls : Array Slot), g s0 = some r → va_P (dC, dI) vwCl (dw_X3c a ac s0) H → va_D A (dw_X3c a ac s0) → va_S A s.heap H locs → lv_has ls 3 [] → W p l e (headSpec ow_dm_X3_bringsSame ({ frames := 0, cells := 0, slots := 0, locals := 0 })).room s m args below meth c H locs 0 0 Q (F0 m 50 ls [])
def dj_X3_bringsSame_0 (p : Program) (l : Launch) (e : Env) (s : State) (m : MethodId) (args : Array Value) (below : List Frame) (meth : Method) (c : Code) (Q : State → Prop) (A : Nat → Prop) (dC : Nat → ClassId) (dI : Nat → Nat → Nat) (a : Nat → Nat) (ac : Nat → ClassId) (g : Int32 → Int32 → (St) → Option (Int32 × (St))) (r : Int32 × (St)) : Prop := ∀ (v0 : Int32) (v1 : Int32) (s0 : St) (H : Heap) (locs : List Loc) (ls : Array Slot), g v0 v1 s0 = some r → va_P (dC, dI) vwCl (dw_X3c a ac s0) H → va_D A (dw_X3c a ac s0) → va_S A s.heap H locs → lv_has ls 3 [(0, .ref (a 0)), (1, .int v0), (2, .int v1)] → W p l e (headSpec ow_dm_X3_bringsSame ({ frames := 0, cells := 0, slots := 0, locals := 0 })).room s m args below meth c H locs 0 0 Q (F0 m 0 ls [])
set_option maxHeartbeats 40000000 in
set_option maxRecDepth 100000 in
theorem db_X3_bringsSame_51 {p : Program} {l : Launch} {e : Env} {s : State} {m : MethodId} {args : Array Value} {below : List Frame} {meth : Method} {c : Code} {Q : State → Prop} {A : Nat → Prop} {dC : Nat → ClassId} {dI : Nat → Nat → Nat} {a : Nat → Nat} {ac : Nat → ClassId} {n : Nat} {r : Int32 × (St)} (C : nd_C p l s m args c A (dC, dI) cX3_bringsSame 3 RX3 ow_dm_X3_bringsSame (dk_X3c ac)) (K : nd_Ki p l e (headSpec ow_dm_X3_bringsSame ({ frames := 0, cells := 0, slots := 0, locals := 0 })).room s m args below meth c Q A (dC, dI) cX3_bringsSame .boolean (St) (dw_X3c a ac) r) : dj_X3_bringsSame_51 p l e s m args below meth c Q A dC dI a ac (df_X3_bringsSame_51 n) r := by
  obtain ⟨hlt, hx, hb, hml, hown, hts, hN, hA, hK⟩ := id C
  intro y0 s0 H locs ls h hP hD hS hl
  unfold df_X3_bringsSame_51 at h
  obtain ⟨n4, h⟩ := nd_z_e ⟨_, rfl⟩ h
  exact K _ _ _ _ _ _ dX3_bringsSame_51 n4 (Option.some.inj h).symm hP hD hS
set_option maxHeartbeats 40000000 in
set_option maxRecDepth 100000 in
theorem db_X3_bringsSame_50 {p : Program} {l : Launch} {e : Env} {s : State} {m : MethodId} {args : Array Value} {below : List Frame} {meth : Method} {c : Code} {Q : State → Prop} {A : Nat → Prop} {dC : Nat → ClassId} {dI : Nat → Nat → Nat} {a : Nat → Nat} {ac : Nat → ClassId} {n : Nat} {r : Int32 × (St)} (C : nd_C p l s m args c A (dC, dI) cX3_bringsSame 3 RX3 ow_dm_X3_bringsSame (dk_X3c ac)) (K : nd_Ki p l e (headSpec ow_dm_X3_bringsSame ({ frames := 0, cells := 0, slots := 0, locals := 0 })).room s m args below meth c Q A (dC, dI) cX3_bringsSame .boolean (St) (dw_X3c a ac) r) : dj_X3_bringsSame_50 p l e s m args below meth c Q A dC dI a ac (df_X3_bringsSame_50 n) r := by
  obtain ⟨hlt, hx, hb, hml, hown, hts, hN, hA, hK⟩ := id C
  intro s0 H locs ls h hP hD hS hl
  unfold df_X3_bringsSame_50 at h
  refine lv_iconst (v := 0) hx hb dX3_bringsSame_50 (by decide) ?_
  exact (db_X3_bringsSame_51 C K) (0) s0 _ _ _ h hP hD hS (lv_sub hl [] rfl)
set_option maxHeartbeats 40000000 in
set_option maxRecDepth 100000 in
theorem db_X3_bringsSame_0 {p : Program} {l : Launch} {e : Env} {s : State} {m : MethodId} {args : Array Value} {below : List Frame} {meth : Method} {c : Code} {Q : State → Prop} {A : Nat → Prop} {dC : Nat → ClassId} {dI : Nat → Nat → Nat} {a : Nat → Nat} {ac : Nat → ClassId} {n : Nat} {r : Int32 × (St)} (C : nd_C p l s m args c A (dC, dI) cX3_bringsSame 3 RX3 ow_dm_X3_bringsSame (dk_X3c ac)) (K : nd_Ki p l e (headSpec ow_dm_X3_bringsSame ({ frames := 0, cells := 0, slots := 0, locals := 0 })).room s m args below meth c Q A (dC, dI) cX3_bringsSame .boolean (St) (dw_X3c a ac) r) : dj_X3_bringsSame_0 p l e s m args below meth c Q A dC dI a ac (df_X3_bringsSame_0 n) r := by
  obtain ⟨hlt, hx, hb, hml, hown, hts, hN, hA, hK⟩ := id C
  intro v0 v1 s0 H locs ls h hP hD hS hl
  unfold df_X3_bringsSame_0 at h
  refine lv_aload_n hx hb dX3_bringsSame_0 rfl (lv_at hl 0 rfl) ?_
  refine va_get (D := (dC, dI)) (ci := 4) (v := .ref (a 1)) (C := RX3) (T := TX3) (N := 11) hx hb hts hi_dm_X3_bringsSame_X3 hown hK hP 0 rfl rfl 0 (by decide) (hts (.fieldLink RX3 9 "TimeMachine$Events" "kind" "[I") (List.mem_of_getElem? (i := 1) rfl)) (fun _ h9 => h9) rfl dX3_bringsSame_1 ?_
  refine lv_iload_n hx hb dX3_bringsSame_4 rfl (lv_at hl 1 rfl) ?_
  obtain ⟨i1, h⟩ := nd_ck_e h
  refine va_iald (i := v0) hx hb hK hP 1 0 rfl rfl i1 dX3_bringsSame_5 ?_
  refine lv_aload_n hx hb dX3_bringsSame_6 rfl (lv_at hl 0 rfl) ?_
  refine va_get (D := (dC, dI)) (ci := 4) (v := .ref (a 1)) (C := RX3) (T := TX3) (N := 11) hx hb hts hi_dm_X3_bringsSame_X3 hown hK hP 0 rfl rfl 0 (by decide) (hts (.fieldLink RX3 9 "TimeMachine$Events" "kind" "[I") (List.mem_of_getElem? (i := 1) rfl)) (fun _ h9 => h9) rfl dX3_bringsSame_7 ?_
  refine lv_iload_n hx hb dX3_bringsSame_10 rfl (lv_at hl 2 rfl) ?_
  obtain ⟨i2, h⟩ := nd_ck_e h
  refine va_iald (i := v1) hx hb hK hP 1 0 rfl rfl i2 dX3_bringsSame_11 ?_
  refine lv_icmp_ne (tgt := 50) hx hb dX3_bringsSame_12 (by decide) (fun c3 => ?_) (fun c3 => ?_)
  · have h := nd_neg h c3
    exact (db_X3_bringsSame_50 C K)  s0 _ _ _ h hP hD hS (lv_sub hl [] rfl)
  · have h := nd_pos h c3
    refine lv_aload_n hx hb dX3_bringsSame_15 rfl (lv_at hl 0 rfl) ?_
    refine va_get (D := (dC, dI)) (ci := 4) (v := .ref (a 3)) (C := RX3) (T := TX3) (N := 11) hx hb hts hi_dm_X3_bringsSame_X3 hown hK hP 0 rfl rfl 2 (by decide) (hts (.fieldLink RX3 17 "TimeMachine$Events" "a" "[J") (List.mem_of_getElem? (i := 2) rfl)) (fun _ h9 => h9) rfl dX3_bringsSame_16 ?_
    refine lv_iload_n hx hb dX3_bringsSame_19 rfl (lv_at hl 1 rfl) ?_
    obtain ⟨i5, h⟩ := nd_ck_e h
    refine va_lald (i := v0) hx hb hK hP 3 2 rfl rfl i5 dX3_bringsSame_20 ?_
    refine lv_aload_n hx hb dX3_bringsSame_21 rfl (lv_at hl 0 rfl) ?_
    refine va_get (D := (dC, dI)) (ci := 4) (v := .ref (a 3)) (C := RX3) (T := TX3) (N := 11) hx hb hts hi_dm_X3_bringsSame_X3 hown hK hP 0 rfl rfl 2 (by decide) (hts (.fieldLink RX3 17 "TimeMachine$Events" "a" "[J") (List.mem_of_getElem? (i := 2) rfl)) (fun _ h9 => h9) rfl dX3_bringsSame_22 ?_
    refine lv_iload_n hx hb dX3_bringsSame_25 rfl (lv_at hl 2 rfl) ?_
    obtain ⟨i6, h⟩ := nd_ck_e h
    refine va_lald (i := v1) hx hb hK hP 3 2 rfl rfl i6 dX3_bringsSame_26 ?_
    refine W.lcmp hx hb dX3_bringsSame_27 ?_
    refine lv_if_ne (tgt := 50) hx hb dX3_bringsSame_28 (by decide) (fun c7 => ?_) (fun c7 => ?_)
    · have h := nd_neg h c7
      exact (db_X3_bringsSame_50 C K)  s0 _ _ _ h hP hD hS (lv_sub hl [] rfl)
    · have h := nd_pos h c7
      refine lv_aload_n hx hb dX3_bringsSame_31 rfl (lv_at hl 0 rfl) ?_
      refine va_get (D := (dC, dI)) (ci := 4) (v := .ref (a 4)) (C := RX3) (T := TX3) (N := 11) hx hb hts hi_dm_X3_bringsSame_X3 hown hK hP 0 rfl rfl 3 (by decide) (hts (.fieldLink RX3 20 "TimeMachine$Events" "b" "[I") (List.mem_of_getElem? (i := 3) rfl)) (fun _ h9 => h9) rfl dX3_bringsSame_32 ?_
      refine lv_iload_n hx hb dX3_bringsSame_35 rfl (lv_at hl 1 rfl) ?_
      obtain ⟨i8, h⟩ := nd_ck_e h
      refine va_iald (i := v0) hx hb hK hP 4 3 rfl rfl i8 dX3_bringsSame_36 ?_
      refine lv_aload_n hx hb dX3_bringsSame_37 rfl (lv_at hl 0 rfl) ?_
      refine va_get (D := (dC, dI)) (ci := 4) (v := .ref (a 4)) (C := RX3) (T := TX3) (N := 11) hx hb hts hi_dm_X3_bringsSame_X3 hown hK hP 0 rfl rfl 3 (by decide) (hts (.fieldLink RX3 20 "TimeMachine$Events" "b" "[I") (List.mem_of_getElem? (i := 3) rfl)) (fun _ h9 => h9) rfl dX3_bringsSame_38 ?_
      refine lv_iload_n hx hb dX3_bringsSame_41 rfl (lv_at hl 2 rfl) ?_
      obtain ⟨i9, h⟩ := nd_ck_e h
      refine va_iald (i := v1) hx hb hK hP 4 3 rfl rfl i9 dX3_bringsSame_42 ?_
      refine lv_icmp_ne (tgt := 50) hx hb dX3_bringsSame_43 (by decide) (fun c10 => ?_) (fun c10 => ?_)
      · have h := nd_neg h c10
        exact (db_X3_bringsSame_50 C K)  s0 _ _ _ h hP hD hS (lv_sub hl [] rfl)
      · have h := nd_pos h c10
        refine lv_iconst (v := 1) hx hb dX3_bringsSame_46 (by decide) ?_
        refine lv_goto (tgt := 51) hx hb dX3_bringsSame_47 (by decide) ?_
        exact (db_X3_bringsSame_51 C K) (1) s0 _ _ _ h hP hD hS (lv_sub hl [] rfl)
set_option maxHeartbeats 40000000 in
set_option maxRecDepth 100000 in
theorem dm_X3_bringsSame (l : Launch) (hlt : l.stackTraces = false) (dC : Nat → ClassId) (dI : Nat → Nat → Nat) (a : Nat → Nat) (ac : Nat → ClassId) (n : Nat) (v0 : Int32) (v1 : Int32) (s0 : St) {r : Int32 × (St)} (h : df_X3_bringsSame n v0 v1 s0 = some r) (sz : Nat) : Met l yX3_bringsSame ow_dm_X3_bringsSame ({ frames := 0, cells := 0, slots := 0, locals := 0 }) (va_Pc [.ref (a 0), .int v0, .int v1] (fun U => U.heap.size = sz ∧ va_P (dC, dI) vwCl (dw_X3c a ac s0) U.heap ∧ va_K (dC, dI) vwCl (dk_X3c ac) U ∧ va_D (fun _ => True) (dw_X3c a ac s0) ∧ nv_E (va_A (dw_X3c a ac s0) sz) U)) (va_Qi (fun x _ => x = r.1) (fun (_ : Unit) t => va_P (dC, dI) vwCl (dw_X3c a ac r.2) t.heap ∧ va_K (dC, dI) vwCl (dk_X3c ac) t ∧ va_D (va_A (dw_X3c a ac s0) sz) (dw_X3c a ac r.2)) (va_A (dw_X3c a ac s0) sz)) 0 0 (va_A (dw_X3c a ac s0) sz) := by
  refine Met.ofW (cc := cX3_bringsSame) (maxL := 3) (ret := (some .boolean)) (by decide) rfl ?_
  intro p e s m args below meth c s₁ B hml hv
  obtain ⟨rfl, hsz, hP, hK, hD0, hN⟩ := hv
  have hx := B.exec
  have hb := B.bytes
  have hr := B.returns
  have hts := atoms_spec (ws := ow_dm_X3_bringsSame) B.pre
  have hown : s.vm.findClass RX3 = some m.cls := findClass_of_methodNamed B.named
  have hlocks := B.notSynchronized
  subst hsz
  have hD := hD0.self (sz := s.heap.size)
  generalize hAe : va_A (dw_X3c a ac s0) s.heap.size = A at hD hN ⊢
  have hA : ∀ q : Nat, s.heap.size ≤ q → A q := fun q h => by rw [← hAe]; exact Or.inr h
  have hl := lv_entry ([.ref (a 0), .int v0, .int v1]) (n := 3) (Nat.le_of_ble_eq_true rfl)
  rw [lg_entry_eq]
  generalize (lg_sl ([.ref (a 0), .int v0, .int v1]) ++ List.replicate (3 - (lg_sl ([.ref (a 0), .int v0, .int v1])).length) Slot.unset).toArray = ls at hl ⊢
  have hl : lv_has ls 3 [(0, .ref (a 0)), (1, .int v0), (2, .int v1)] := hl
  exact db_X3_bringsSame_0 (dC := dC) (dI := dI) (a := a) (ac := ac) (n := n) (r := r) ⟨hlt, hx, hb, hml, hown, hts, hN, hA, hK⟩ (fun pc v τ H locs ls d z er hP hD hS => by subst er; exact W.zret (v := v) hx hb hr z (fun t ht hW => ⟨⟨v, (), rfl, rfl, by rw [ht]; exact hP, va_K.moved hW.alike hK, hD⟩, hS.F ht⟩) hS.2.2 d) v0 v1 s0 _ _ _ h hP hD va_S.rf (lv_sub hl [0, 1, 2] rfl)
def ow_dm_X3_putByte : List Cond := .code yX3_putByte cX3_putByte 2 none :: ([.fieldLink RX3 44 "TimeMachine$Events" "place" "I", .fieldLink RX3 23 "TimeMachine$Events" "row" "[B"] ++ (u_ws RX3 TX3 11 ++ []))
theorem gd_dm_X3_putByte : ∀ w ∈ ow_dm_X3_putByte, (w.onTables && w.keeps) = true ∨ ∃ ty, w = Cond.arrayClass ty := List.forall_mem_cons.mpr ⟨good_of_word rfl, List.forall_mem_append.mpr ⟨fun w h => good_of_word (List.all_eq_true.mp (by decide +kernel) w h), List.forall_mem_append.mpr ⟨gu_X3, fun _ h => nomatch h⟩⟩⟩
theorem hi_dm_X3_putByte_X3 : ∀ w ∈ u_ws RX3 TX3 11, w ∈ ow_dm_X3_putByte := fun w h => List.mem_cons_of_mem _ (List.mem_append_right _ (List.mem_append_left _ h))
def dj_X3_putByte_33 (p : Program) (l : Launch) (e : Env) (s : State) (m : MethodId) (args : Array Value) (below : List Frame) (meth : Method) (c : Code) (Q : State → Prop) (A : Nat → Prop) (dC : Nat → ClassId) (dI : Nat → Nat → Nat) (a : Nat → Nat) (ac : Nat → ClassId) (g : (St × (St)) → Option (St × (St))) (r : St × (St)) : Prop := ∀ (s0 : St × (St)) (H : Heap) (locs : List Loc) (ls : Array Slot), g s0 = some r → va_P (dC, dI) vwCl (dw_X3s a ac s0) H → va_D A (dw_X3s a ac s0) → va_S A s.heap H locs → lv_has ls 2 [] → W p l e (headSpec ow_dm_X3_putByte ({ frames := 0, cells := 0, slots := 0, locals := 0 })).room s m args below meth c H locs 0 0 Q (F0 m 33 ls [])
def dj_X3_putByte_0 (p : Program) (l : Launch) (e : Env) (s : State) (m : MethodId) (args : Array Value) (below : List Frame) (meth : Method) (c : Code) (Q : State → Prop) (A : Nat → Prop) (dC : Nat → ClassId) (dI : Nat → Nat → Nat) (a : Nat → Nat) (ac : Nat → ClassId) (g : Int32 → (St × (St)) → Option (St × (St))) (r : St × (St)) : Prop := ∀ (v0 : Int32) (s0 : St × (St)) (H : Heap) (locs : List Loc) (ls : Array Slot), g v0 s0 = some r → va_P (dC, dI) vwCl (dw_X3s a ac s0) H → va_D A (dw_X3s a ac s0) → va_S A s.heap H locs → lv_has ls 2 [(0, .ref (a 1)), (1, .int v0)] → W p l e (headSpec ow_dm_X3_putByte ({ frames := 0, cells := 0, slots := 0, locals := 0 })).room s m args below meth c H locs 0 0 Q (F0 m 0 ls [])
set_option maxHeartbeats 40000000 in
set_option maxRecDepth 100000 in
theorem db_X3_putByte_33 {p : Program} {l : Launch} {e : Env} {s : State} {m : MethodId} {args : Array Value} {below : List Frame} {meth : Method} {c : Code} {Q : State → Prop} {A : Nat → Prop} {dC : Nat → ClassId} {dI : Nat → Nat → Nat} {a : Nat → Nat} {ac : Nat → ClassId} {n : Nat} {r : St × (St)} (C : nd_C p l s m args c A (dC, dI) cX3_putByte 2 RX3 ow_dm_X3_putByte (dk_X3s ac)) (K : nd_Kv p l e (headSpec ow_dm_X3_putByte ({ frames := 0, cells := 0, slots := 0, locals := 0 })).room s m args below meth c Q A (dC, dI) cX3_putByte (St × (St)) (dw_X3s a ac) r) : dj_X3_putByte_33 p l e s m args below meth c Q A dC dI a ac (df_X3_putByte_33 n (a 0)) r := by
  obtain ⟨hlt, hx, hb, hml, hown, hts, hN, hA, hK⟩ := id C
  intro s0 H locs ls h hP hD hS hl
  unfold df_X3_putByte_33 at h
  exact K _ _ _ _ _ dX3_putByte_33 (Option.some.inj h).symm hP hD hS
set_option maxHeartbeats 40000000 in
set_option maxRecDepth 100000 in
theorem db_X3_putByte_0 {p : Program} {l : Launch} {e : Env} {s : State} {m : MethodId} {args : Array Value} {below : List Frame} {meth : Method} {c : Code} {Q : State → Prop} {A : Nat → Prop} {dC : Nat → ClassId} {dI : Nat → Nat → Nat} {a : Nat → Nat} {ac : Nat → ClassId} {n : Nat} {r : St × (St)} (C : nd_C p l s m args c A (dC, dI) cX3_putByte 2 RX3 ow_dm_X3_putByte (dk_X3s ac)) (K : nd_Kv p l e (headSpec ow_dm_X3_putByte ({ frames := 0, cells := 0, slots := 0, locals := 0 })).room s m args below meth c Q A (dC, dI) cX3_putByte (St × (St)) (dw_X3s a ac) r) : dj_X3_putByte_0 p l e s m args below meth c Q A dC dI a ac (df_X3_putByte_0 n (a 0)) r := by
  obtain ⟨hlt, hx, hb, hml, hown, hts, hN, hA, hK⟩ := id C
  intro v0 s0 H locs ls h hP hD hS hl
  unfold df_X3_putByte_0 at h
  refine lv_aload_n hx hb dX3_putByte_0 rfl (lv_at hl 0 rfl) ?_
  refine va_get (D := (dC, dI)) (ci := 4) (v := .int (sI s0.2 2)) (C := RX3) (T := TX3) (N := 11) hx hb hts hi_dm_X3_putByte_X3 hown hK hP 1 rfl rfl 7 (by decide) (hts (.fieldLink RX3 44 "TimeMachine$Events" "place" "I") (List.mem_of_getElem? (i := 1) rfl)) (fun _ h9 => h9) rfl dX3_putByte_1 ?_
  refine lv_aload_n hx hb dX3_putByte_4 rfl (lv_at hl 0 rfl) ?_
  obtain ⟨o1, h⟩ := nd_o_e h
  refine va_get (D := (dC, dI)) (ci := 4) (v := .ref (a 0)) (C := RX3) (T := TX3) (N := 11) hx hb hts hi_dm_X3_putByte_X3 hown hK hP 1 rfl rfl 6 (by decide) (hts (.fieldLink RX3 23 "TimeMachine$Events" "row" "[B") (List.mem_of_getElem? (i := 2) rfl)) (fun _ h9 => h9) (congrArg (fun z => some (va_rf z)) o1) dX3_putByte_5 ?_
  refine va_alen (v := 32768) hx hb hK hP 0 0 rfl rfl (show Int32.ofNat 32768 = 32768 by decide) dX3_putByte_8 ?_
  refine lv_icmp_ge (tgt := 33) hx hb dX3_putByte_9 (by decide) (fun c2 => ?_) (fun c2 => ?_)
  · have h := nd_pos h c2
    exact (db_X3_putByte_33 C K)  s0 _ _ _ h hP hD hS (lv_sub hl [] rfl)
  · have h := nd_neg h c2
    refine lv_aload_n hx hb dX3_putByte_12 rfl (lv_at hl 0 rfl) ?_
    obtain ⟨o3, h⟩ := nd_o_e h
    refine va_get (D := (dC, dI)) (ci := 4) (v := .ref (a 0)) (C := RX3) (T := TX3) (N := 11) hx hb hts hi_dm_X3_putByte_X3 hown hK hP 1 rfl rfl 6 (by decide) (hts (.fieldLink RX3 23 "TimeMachine$Events" "row" "[B") (List.mem_of_getElem? (i := 2) rfl)) (fun _ h9 => h9) (congrArg (fun z => some (va_rf z)) o3) dX3_putByte_13 ?_
    refine lv_aload_n hx hb dX3_putByte_16 rfl (lv_at hl 0 rfl) ?_
    refine va_get (D := (dC, dI)) (ci := 4) (v := .int (sI s0.2 2)) (C := RX3) (T := TX3) (N := 11) hx hb hts hi_dm_X3_putByte_X3 hown hK hP 1 rfl rfl 7 (by decide) (hts (.fieldLink RX3 44 "TimeMachine$Events" "place" "I") (List.mem_of_getElem? (i := 1) rfl)) (fun _ h9 => h9) rfl dX3_putByte_17 ?_
    refine lv_iload_n hx hb dX3_putByte_20 rfl (lv_at hl 1 rfl) ?_
    refine lv_i2b hx hb dX3_putByte_21 rfl ?_
    obtain ⟨i4, h⟩ := nd_ck_e h
    refine va_bast (i := (sI s0.2 2)) (x := (v0.toInt8.toInt32)) hx hb hK hP hD hS 0 0 rfl rfl i4 dX3_putByte_22 (fun H locs hP hD hS => ?_)
    obtain ⟨s5, es5, h⟩ := nd_let_e h
    have hP : va_P (dC, dI) vwCl (dw_X3s a ac s5) H := by rw [es5]; exact hP
    have hD : va_D A (dw_X3s a ac s5) := by rw [es5]; exact hD
    refine lv_aload_n hx hb dX3_putByte_23 rfl (lv_at hl 0 rfl) ?_
    refine lv_dup hx hb dX3_putByte_24 rfl ?_
    refine va_get (D := (dC, dI)) (ci := 4) (v := .int (sI s5.2 2)) (C := RX3) (T := TX3) (N := 11) hx hb hts hi_dm_X3_putByte_X3 hown hK hP 1 rfl rfl 7 (by decide) (hts (.fieldLink RX3 44 "TimeMachine$Events" "place" "I") (List.mem_of_getElem? (i := 1) rfl)) (fun _ h9 => h9) rfl dX3_putByte_25 ?_
    refine lv_iconst (v := 1) hx hb dX3_putByte_28 (by decide) ?_
    refine lv_iadd hx hb dX3_putByte_29 ?_
    refine va_put (D := (dC, dI)) (ci := 4) (v := .int ((sI s5.2 2) + 1)) (ty := .int) (C := RX3) (T := TX3) (N := 11) hx hb hts hi_dm_X3_putByte_X3 tyX3 tyX3_ok nmX3 hown hK hP hD hS 1 rfl rfl 7 (by decide) (hts (.fieldLink RX3 44 "TimeMachine$Events" "place" "I") (List.mem_of_getElem? (i := 1) rfl)) (fun _ h9 => h9) rfl (by decide +kernel) rfl rfl (Nat.le_of_ble_eq_true rfl) dX3_putByte_30 (fun H locs hP hD hS => ?_)
    obtain ⟨s6, es6, h⟩ := nd_let_e h
    have hP : va_P (dC, dI) vwCl (dw_X3s a ac s6) H := by rw [es6]; exact hP
    have hD : va_D A (dw_X3s a ac s6) := by rw [es6]; exact hD
    exact (db_X3_putByte_33 C K)  s6 _ _ _ h hP hD hS (lv_sub hl [] rfl)
set_option maxHeartbeats 40000000 in
set_option maxRecDepth 100000 in
theorem dm_X3_putByte (l : Launch) (hlt : l.stackTraces = false) (dC : Nat → ClassId) (dI : Nat → Nat → Nat) (a : Nat → Nat) (ac : Nat → ClassId) (n : Nat) (v0 : Int32) (s0 : St × (St)) {r : St × (St)} (h : df_X3_putByte n (a 0) v0 s0 = some r) (sz : Nat) : Met l yX3_putByte ow_dm_X3_putByte ({ frames := 0, cells := 0, slots := 0, locals := 0 }) (va_Pc [.ref (a 1), .int v0] (fun U => U.heap.size = sz ∧ va_P (dC, dI) vwCl (dw_X3s a ac s0) U.heap ∧ va_K (dC, dI) vwCl (dk_X3s ac) U ∧ va_D (fun _ => True) (dw_X3s a ac s0) ∧ nv_E (va_A (dw_X3s a ac s0) sz) U)) (va_Qv (fun _ => True) (fun (_ : Unit) t => va_P (dC, dI) vwCl (dw_X3s a ac r) t.heap ∧ va_K (dC, dI) vwCl (dk_X3s ac) t ∧ va_D (va_A (dw_X3s a ac s0) sz) (dw_X3s a ac r)) (va_A (dw_X3s a ac s0) sz)) 0 0 (va_A (dw_X3s a ac s0) sz) := by
  refine Met.ofW (cc := cX3_putByte) (maxL := 2) (ret := none) (by decide) rfl ?_
  intro p e s m args below meth c s₁ B hml hv
  obtain ⟨rfl, hsz, hP, hK, hD0, hN⟩ := hv
  have hx := B.exec
  have hb := B.bytes
  have hr := B.returns
  have hts := atoms_spec (ws := ow_dm_X3_putByte) B.pre
  have hown : s.vm.findClass RX3 = some m.cls := findClass_of_methodNamed B.named
  have hlocks := B.notSynchronized
  subst hsz
  have hD := hD0.self (sz := s.heap.size)
  generalize hAe : va_A (dw_X3s a ac s0) s.heap.size = A at hD hN ⊢
  have hA : ∀ q : Nat, s.heap.size ≤ q → A q := fun q h => by rw [← hAe]; exact Or.inr h
  have hl := lv_entry ([.ref (a 1), .int v0]) (n := 2) (Nat.le_of_ble_eq_true rfl)
  rw [lg_entry_eq]
  generalize (lg_sl ([.ref (a 1), .int v0]) ++ List.replicate (2 - (lg_sl ([.ref (a 1), .int v0])).length) Slot.unset).toArray = ls at hl ⊢
  have hl : lv_has ls 2 [(0, .ref (a 1)), (1, .int v0)] := hl
  exact db_X3_putByte_0 (dC := dC) (dI := dI) (a := a) (ac := ac) (n := n) (r := r) ⟨hlt, hx, hb, hml, hown, hts, hN, hA, hK⟩ (fun pc τ H locs ls d er hP hD hS => by subst er; exact W.vret hx hb hr (fun t ht hW => ⟨⟨(), rfl, trivial, by rw [ht]; exact hP, va_K.moved hW.alike hK, hD⟩, hS.F ht⟩) hS.2.2 d) v0 s0 _ _ _ h hP hD va_S.rf (lv_sub hl [0, 1] rfl)
def ow_dm_X3_putVarint : List Cond := .code yX3_putVarint cX3_putVarint 6 none :: ([.methodLink RX3 59 yX3_putByte, .instanceMethod yX3_putByte, .selects RX3 yX3_putByte yX3_putByte, .initialized RX3, .constantLong RX3 84 (127)] ++ (ow_dm_X3_putByte ++ []))
theorem gd_dm_X3_putVarint : ∀ w ∈ ow_dm_X3_putVarint, (w.onTables && w.keeps) = true ∨ ∃ ty, w = Cond.arrayClass ty := List.forall_mem_cons.mpr ⟨good_of_word rfl, List.forall_mem_append.mpr ⟨fun w h => good_of_word (List.all_eq_true.mp (by decide +kernel) w h), List.forall_mem_append.mpr ⟨gd_dm_X3_putByte, fun _ h => nomatch h⟩⟩⟩
theorem gi_dm_X3_putVarint_0 : GoodIn ow_dm_X3_putVarint (wsV RX3 59 RX3 yX3_putByte ow_dm_X3_putByte) := goodIn_app (goodIn_of _ (by decide +kernel)) (fun w h => ⟨List.mem_cons_of_mem _ (List.mem_append_right _ (List.mem_append_left _ h)), gd_dm_X3_putByte w h⟩)
def dj_X3_putVarint_45 (p : Program) (l : Launch) (e : Env) (s : State) (m : MethodId) (args : Array Value) (below : List Frame) (meth : Method) (c : Code) (Q : State → Prop) (A : Nat → Prop) (dC : Nat → ClassId) (dI : Nat → Nat → Nat) (a : Nat → Nat) (ac : Nat → ClassId) (g : Int64 → (St × (St)) → Option (St × (St))) (r : St × (St)) : Prop := ∀ (x3 : Int64) (s0 : St × (St)) (H : Heap) (locs : List Loc) (ls : Array Slot), g x3 s0 = some r → va_P (dC, dI) vwCl (dw_X3s a ac s0) H → va_D A (dw_X3s a ac s0) → va_S A s.heap H locs → lv_has ls 6 [(0, .ref (a 1)), (3, .long x3)] → W p l e (headSpec ow_dm_X3_putVarint ({ frames := 1, cells := 0, slots := 0, locals := 21 })).room s m args below meth c H locs 0 0 Q (F0 m 45 ls [])
def dj_X3_putVarint_5 (p : Program) (l : Launch) (e : Env) (s : State) (m : MethodId) (args : Array Value) (below : List Frame) (meth : Method) (c : Code) (Q : State → Prop) (A : Nat → Prop) (dC : Nat → ClassId) (dI : Nat → Nat → Nat) (a : Nat → Nat) (ac : Nat → ClassId) (g : Int64 → Int32 → (St × (St)) → Option (St × (St))) (r : St × (St)) : Prop := ∀ (x3 : Int64) (x5 : Int32) (s0 : St × (St)) (H : Heap) (locs : List Loc) (ls : Array Slot), g x3 x5 s0 = some r → va_P (dC, dI) vwCl (dw_X3s a ac s0) H → va_D A (dw_X3s a ac s0) → va_S A s.heap H locs → lv_has ls 6 [(0, .ref (a 1)), (3, .long x3), (5, .int x5)] → W p l e (headSpec ow_dm_X3_putVarint ({ frames := 1, cells := 0, slots := 0, locals := 21 })).room s m args below meth c H locs 0 0 Q (F0 m 5 ls [])
def dj_X3_putVarint_0 (p : Program) (l : Launch) (e : Env) (s : State) (m : MethodId) (args : Array Value) (below : List Frame) (meth : Method) (c : Code) (Q : State → Prop) (A : Nat → Prop) (dC : Nat → ClassId) (dI : Nat → Nat → Nat) (a : Nat → Nat) (ac : Nat → ClassId) (g : Int64 → (St × (St)) → Option (St × (St))) (r : St × (St)) : Prop := ∀ (v0 : Int64) (s0 : St × (St)) (H : Heap) (locs : List Loc) (ls : Array Slot), g v0 s0 = some r → va_P (dC, dI) vwCl (dw_X3s a ac s0) H → va_D A (dw_X3s a ac s0) → va_S A s.heap H locs → lv_has ls 6 [(0, .ref (a 1)), (1, .long v0)] → W p l e (headSpec ow_dm_X3_putVarint ({ frames := 1, cells := 0, slots := 0, locals := 21 })).room s m args below meth c H locs 0 0 Q (F0 m 0 ls [])
set_option maxHeartbeats 40000000 in
set_option maxRecDepth 100000 in
theorem db_X3_putVarint_45 {p : Program} {l : Launch} {e : Env} {s : State} {m : MethodId} {args : Array Value} {below : List Frame} {meth : Method} {c : Code} {Q : State → Prop} {A : Nat → Prop} {dC : Nat → ClassId} {dI : Nat → Nat → Nat} {a : Nat → Nat} {ac : Nat → ClassId} {n : Nat} {r : St × (St)} (C : nd_C p l s m args c A (dC, dI) cX3_putVarint 6 RX3 ow_dm_X3_putVarint (dk_X3s ac)) (K : nd_Kv p l e (headSpec ow_dm_X3_putVarint ({ frames := 1, cells := 0, slots := 0, locals := 21 })).room s m args below meth c Q A (dC, dI) cX3_putVarint (St × (St)) (dw_X3s a ac) r) : dj_X3_putVarint_45 p l e s m args below meth c Q A dC dI a ac (df_X3_putVarint_45 n (a 0)) r := by
  obtain ⟨hlt, hx, hb, hml, hown, hts, hN, hA, hK⟩ := id C
  intro x3 s0 H locs ls h hP hD hS hl
  unfold df_X3_putVarint_45 at h
  refine lv_aload_n hx hb dX3_putVarint_45 rfl (lv_at hl 0 rfl) ?_
  refine lv_lload_n hx hb dX3_putVarint_46 rfl (lv_at hl 1 rfl) ?_
  refine lv_l2i hx hb dX3_putVarint_47 rfl ?_
  obtain ⟨s3, hq, h⟩ := nd_b1_e h
  have hPc := hP
  have hDc := hD
  have hKc := hK
  have hFc := nd_rs hD hS hA
  refine nd_cVv (As := [.int (x3.toInt32)]) (rest := []) (w' := dw_X3s a ac s3) ⟨hx, hb, hml, hown, hts⟩ (fun sz => dm_X3_putByte l hlt dC dI a ac n ((x3.toInt32)) s0 hq sz) (cwV 1 hts gi_dm_X3_putVarint_0 rfl rfl rfl (by decide +kernel) ⟨Nat.le_of_ble_eq_true rfl, Nat.le_of_ble_eq_true rfl⟩) hPc hDc hKc hS hA hN (va_recv hKc hPc (ci := 4) (q0 := 1) rfl rfl) rfl hl.1 rfl (Nat.le_of_ble_eq_true rfl) dX3_putVarint_48 (fun H locs hP1 hD1 hk1 hS => ?_)
  have hP := hP1
  have hD := hD1.weaken (fun k q _ h => hFc q.1 h)
  exact K _ _ _ _ _ dX3_putVarint_51 (Option.some.inj h).symm hP hD hS
set_option maxHeartbeats 40000000 in
set_option maxRecDepth 100000 in
theorem dB_X3_putVarint_5 {p : Program} {l : Launch} {e : Env} {s : State} {m : MethodId} {args : Array Value} {below : List Frame} {meth : Method} {c : Code} {Q : State → Prop} {A : Nat → Prop} {dC : Nat → ClassId} {dI : Nat → Nat → Nat} {a : Nat → Nat} {ac : Nat → ClassId} {n : Nat} {r : St × (St)} (C : nd_C p l s m args c A (dC, dI) cX3_putVarint 6 RX3 ow_dm_X3_putVarint (dk_X3s ac)) (K : nd_Kv p l e (headSpec ow_dm_X3_putVarint ({ frames := 1, cells := 0, slots := 0, locals := 21 })).room s m args below meth c Q A (dC, dI) cX3_putVarint (St × (St)) (dw_X3s a ac) r) {g5 : Int64 → Int32 → (St × (St)) → Option (St × (St))} (J5 : dj_X3_putVarint_5 p l e s m args below meth c Q A dC dI a ac g5 r) : dj_X3_putVarint_5 p l e s m args below meth c Q A dC dI a ac (dF_X3_putVarint_5 n (a 0) g5) r := by
  obtain ⟨hlt, hx, hb, hml, hown, hts, hN, hA, hK⟩ := id C
  intro x3 x5 s0 H locs ls h hP hD hS hl
  unfold dF_X3_putVarint_5 at h
  refine lv_iload hx hb dX3_putVarint_5 (lv_at hl 2 rfl) ?_
  refine lv_bipush (v := 7) hx hb dX3_putVarint_7 (by decide) ?_
  refine lv_icmp_ge (tgt := 45) hx hb dX3_putVarint_9 (by decide) (fun c1 => ?_) (fun c1 => ?_)
  · have h := nd_pos h c1
    exact (db_X3_putVarint_45 C K) (x3) s0 _ _ _ h hP hD hS (lv_sub hl [0, 1] rfl)
  · have h := nd_neg h c1
    refine lv_lload_n hx hb dX3_putVarint_12 rfl (lv_at hl 1 rfl) ?_
    refine lv_ldc2 hx hb hown (hts (.constantLong RX3 84 (127)) (List.mem_of_getElem? (i := 5) rfl)) dX3_putVarint_13 ?_
    refine W.lcmp hx hb dX3_putVarint_16 ?_
    refine lv_if_le (tgt := 45) hx hb dX3_putVarint_17 (by decide) (fun c5 => ?_) (fun c5 => ?_)
    · have h := nd_pos h c5
      exact (db_X3_putVarint_45 C K) (x3) s0 _ _ _ h hP hD hS (lv_sub hl [0, 1] rfl)
    · have h := nd_neg h c5
      refine lv_aload_n hx hb dX3_putVarint_20 rfl (lv_at hl 0 rfl) ?_
      refine lv_lload_n hx hb dX3_putVarint_21 rfl (lv_at hl 1 rfl) ?_
      refine lv_ldc2 hx hb hown (hts (.constantLong RX3 84 (127)) (List.mem_of_getElem? (i := 5) rfl)) dX3_putVarint_22 ?_
      refine lv_land hx hb dX3_putVarint_25 ?_
      refine lv_l2i hx hb dX3_putVarint_26 rfl ?_
      refine lv_sipush (v := 128) hx hb dX3_putVarint_27 (by decide) ?_
      refine lv_ior hx hb dX3_putVarint_30 ?_
      obtain ⟨s7, hq, h⟩ := nd_b1_e h
      have hPc := hP
      have hDc := hD
      have hKc := hK
      have hFc := nd_rs hD hS hA
      refine nd_cVv (As := [.int ((((x3 : Int64) &&& 127).toInt32) ||| 128)]) (rest := []) (w' := dw_X3s a ac s7) ⟨hx, hb, hml, hown, hts⟩ (fun sz => dm_X3_putByte l hlt dC dI a ac n (((((x3 : Int64) &&& 127).toInt32) ||| 128)) s0 hq sz) (cwV 1 hts gi_dm_X3_putVarint_0 rfl rfl rfl (by decide +kernel) ⟨Nat.le_of_ble_eq_true rfl, Nat.le_of_ble_eq_true rfl⟩) hPc hDc hKc hS hA hN (va_recv hKc hPc (ci := 4) (q0 := 1) rfl rfl) rfl hl.1 rfl (Nat.le_of_ble_eq_true rfl) dX3_putVarint_31 (fun H locs hP1 hD1 hk1 hS => ?_)
      have hP := hP1
      have hD := hD1.weaken (fun k q _ h => hFc q.1 h)
      refine lv_lload_n hx hb dX3_putVarint_34 rfl (lv_at hl 1 rfl) ?_
      refine lv_bipush (v := 7) hx hb dX3_putVarint_35 (by decide) ?_
      refine lv_lshr hx hb dX3_putVarint_37 rfl ?_
      refine lv_topl (fun z9 ez9 => ?_)
      have h := nd_at h ez9
      refine lv_lstore_n (lv' := [(3, .long z9), (0, .ref (a 1)), (5, .int x5)]) hx hb dX3_putVarint_38 rfl hl (by decide) rfl (fun ls hl => ?_)
      obtain ⟨z10, ez10, h⟩ := nd_let_e h
      refine lv_iinc (v := z10) (lv' := [(5, .int z10), (3, .long z9), (0, .ref (a 1))]) hx hb dX3_putVarint_39 hl (k := 2) rfl (by rw [ez10]) (by decide) rfl (fun ls hl => ?_)
      refine lv_goto (tgt := 5) hx hb dX3_putVarint_42 (by decide) ?_
      exact (J5) (z9) (z10) s7 _ _ _ h hP hD hS (lv_sub hl [2, 1, 0] rfl)
set_option maxHeartbeats 40000000 in
set_option maxRecDepth 100000 in
theorem db_X3_putVarint_5 {p : Program} {l : Launch} {e : Env} {s : State} {m : MethodId} {args : Array Value} {below : List Frame} {meth : Method} {c : Code} {Q : State → Prop} {A : Nat → Prop} {dC : Nat → ClassId} {dI : Nat → Nat → Nat} {a : Nat → Nat} {ac : Nat → ClassId} {n : Nat} {r : St × (St)} (C : nd_C p l s m args c A (dC, dI) cX3_putVarint 6 RX3 ow_dm_X3_putVarint (dk_X3s ac)) (K : nd_Kv p l e (headSpec ow_dm_X3_putVarint ({ frames := 1, cells := 0, slots := 0, locals := 21 })).room s m args below meth c Q A (dC, dI) cX3_putVarint (St × (St)) (dw_X3s a ac) r) (k : Nat) : dj_X3_putVarint_5 p l e s m args below meth c Q A dC dI a ac (df_X3_putVarint_5 n (a 0) k) r := by
  induction k with
  | zero => intro x3 x5 s0 H locs ls h; exact nomatch (show (none : Option (St × (St))) = some r from h)
  | succ k ih => exact dB_X3_putVarint_5 C K ih
set_option maxHeartbeats 40000000 in
set_option maxRecDepth 100000 in
theorem db_X3_putVarint_0 {p : Program} {l : Launch} {e : Env} {s : State} {m : MethodId} {args : Array Value} {below : List Frame} {meth : Method} {c : Code} {Q : State → Prop} {A : Nat → Prop} {dC : Nat → ClassId} {dI : Nat → Nat → Nat} {a : Nat → Nat} {ac : Nat → ClassId} {n : Nat} {r : St × (St)} (C : nd_C p l s m args c A (dC, dI) cX3_putVarint 6 RX3 ow_dm_X3_putVarint (dk_X3s ac)) (K : nd_Kv p l e (headSpec ow_dm_X3_putVarint ({ frames := 1, cells := 0, slots := 0, locals := 21 })).room s m args below meth c Q A (dC, dI) cX3_putVarint (St × (St)) (dw_X3s a ac) r) : dj_X3_putVarint_0 p l e s m args below meth c Q A dC dI a ac (df_X3_putVarint_0 n (a 0)) r := by
  obtain ⟨hlt, hx, hb, hml, hown, hts, hN, hA, hK⟩ := id C
  intro v0 s0 H locs ls h hP hD hS hl
  unfold df_X3_putVarint_0 at h
  refine lv_lload_n hx hb dX3_putVarint_0 rfl (lv_at hl 1 rfl) ?_
  refine lv_lstore_n (lv' := [(3, .long v0), (0, .ref (a 1)), (1, .long v0)]) hx hb dX3_putVarint_1 rfl hl (by decide) rfl (fun ls hl => ?_)
  refine lv_iconst (v := 0) hx hb dX3_putVarint_2 (by decide) ?_
  refine lv_istore (lv' := [(5, .int 0), (3, .long v0), (0, .ref (a 1)), (1, .long v0)]) hx hb dX3_putVarint_3 hl (by decide) rfl (fun ls hl => ?_)
  exact (db_X3_putVarint_5 C K n) (v0) (0) s0 _ _ _ h hP hD hS (lv_sub hl [2, 1, 0] rfl)
set_option maxHeartbeats 40000000 in
set_option maxRecDepth 100000 in
theorem dm_X3_putVarint (l : Launch) (hlt : l.stackTraces = false) (dC : Nat → ClassId) (dI : Nat → Nat → Nat) (a : Nat → Nat) (ac : Nat → ClassId) (n : Nat) (v0 : Int64) (s0 : St × (St)) {r : St × (St)} (h : df_X3_putVarint n (a 0) v0 s0 = some r) (sz : Nat) : Met l yX3_putVarint ow_dm_X3_putVarint ({ frames := 1, cells := 0, slots := 0, locals := 21 }) (va_Pc [.ref (a 1), .long v0] (fun U => U.heap.size = sz ∧ va_P (dC, dI) vwCl (dw_X3s a ac s0) U.heap ∧ va_K (dC, dI) vwCl (dk_X3s ac) U ∧ va_D (fun _ => True) (dw_X3s a ac s0) ∧ nv_E (va_A (dw_X3s a ac s0) sz) U)) (va_Qv (fun _ => True) (fun (_ : Unit) t => va_P (dC, dI) vwCl (dw_X3s a ac r) t.heap ∧ va_K (dC, dI) vwCl (dk_X3s ac) t ∧ va_D (va_A (dw_X3s a ac s0) sz) (dw_X3s a ac r)) (va_A (dw_X3s a ac s0) sz)) 0 0 (va_A (dw_X3s a ac s0) sz) := by
  refine Met.ofW (cc := cX3_putVarint) (maxL := 6) (ret := none) (by decide) rfl ?_
  intro p e s m args below meth c s₁ B hml hv
  obtain ⟨rfl, hsz, hP, hK, hD0, hN⟩ := hv
  have hx := B.exec
  have hb := B.bytes
  have hr := B.returns
  have hts := atoms_spec (ws := ow_dm_X3_putVarint) B.pre
  have hown : s.vm.findClass RX3 = some m.cls := findClass_of_methodNamed B.named
  have hlocks := B.notSynchronized
  subst hsz
  have hD := hD0.self (sz := s.heap.size)
  generalize hAe : va_A (dw_X3s a ac s0) s.heap.size = A at hD hN ⊢
  have hA : ∀ q : Nat, s.heap.size ≤ q → A q := fun q h => by rw [← hAe]; exact Or.inr h
  have hl := lv_entry ([.ref (a 1), .long v0]) (n := 6) (Nat.le_of_ble_eq_true rfl)
  rw [lg_entry_eq]
  generalize (lg_sl ([.ref (a 1), .long v0]) ++ List.replicate (6 - (lg_sl ([.ref (a 1), .long v0])).length) Slot.unset).toArray = ls at hl ⊢
  have hl : lv_has ls 6 [(0, .ref (a 1)), (1, .long v0)] := hl
  exact db_X3_putVarint_0 (dC := dC) (dI := dI) (a := a) (ac := ac) (n := n) (r := r) ⟨hlt, hx, hb, hml, hown, hts, hN, hA, hK⟩ (fun pc τ H locs ls d er hP hD hS => by subst er; exact W.vret hx hb hr (fun t ht hW => ⟨⟨(), rfl, trivial, by rw [ht]; exact hP, va_K.moved hW.alike hK, hD⟩, hS.F ht⟩) hS.2.2 d) v0 s0 _ _ _ h hP hD va_S.rf (lv_sub hl [0, 1] rfl)
def ow_dm_X3_likeBefore : List Cond := .code yX3_likeBefore cX3_likeBefore 3 (some .int) :: ([.fieldLink RX3 35 "TimeMachine$Events" "recorded" "I", .methodLink RX3 62 yX3_bringsSame, .instanceMethod yX3_bringsSame, .selects RX3 yX3_bringsSame yX3_bringsSame, .initialized RX3, .methodLink RX3 66 yX3_difference, .instanceMethod yX3_difference, .selects RX3 yX3_difference yX3_difference] ++ (u_ws RX3 TX3 11 ++ (ow_dm_X3_bringsSame ++ (ow_dm_X3_difference ++ []))))
theorem gd_dm_X3_likeBefore : ∀ w ∈ ow_dm_X3_likeBefore, (w.onTables && w.keeps) = true ∨ ∃ ty, w = Cond.arrayClass ty := List.forall_mem_cons.mpr ⟨good_of_word rfl, List.forall_mem_append.mpr ⟨fun w h => good_of_word (List.all_eq_true.mp (by decide +kernel) w h), List.forall_mem_append.mpr ⟨gu_X3, List.forall_mem_append.mpr ⟨gd_dm_X3_bringsSame, List.forall_mem_append.mpr ⟨gd_dm_X3_difference, fun _ h => nomatch h⟩⟩⟩⟩⟩
theorem hi_dm_X3_likeBefore_X3 : ∀ w ∈ u_ws RX3 TX3 11, w ∈ ow_dm_X3_likeBefore := fun w h => List.mem_cons_of_mem _ (List.mem_append_right _ (List.mem_append_left _ h))
theorem gi_dm_X3_likeBefore_0 : GoodIn ow_dm_X3_likeBefore (wsV RX3 62 RX3 yX3_bringsSame ow_dm_X3_bringsSame) := goodIn_app (goodIn_of _ (by decide +kernel)) (fun w h => ⟨List.mem_cons_of_mem _ (List.mem_append_right _ (List.mem_append_right _ (List.mem_append_left _ h))), gd_dm_X3_bringsSame w h⟩)
theorem gi_dm_X3_likeBefore_1 : GoodIn ow_dm_X3_likeBefore (wsV RX3 66 RX3 yX3_difference ow_dm_X3_difference) := goodIn_app (goodIn_of _ (by decide +kernel)) (fun w h => ⟨List.mem_cons_of_mem _ (List.mem_append_right _ (List.mem_append_right _ (List.mem_append_right _ (List.mem_append_left _ h)))), gd_dm_X3_difference w h⟩)
def dj_X3_likeBefore_53 (p : Program) (l : Launch) (e : Env) (s : State) (m : MethodId) (args : Array Value) (below : List Frame) (meth : Method) (c : Code) (Q : State → Prop) (A : Nat → Prop) (dC : Nat → ClassId) (dI : Nat → Nat → Nat) (a : Nat → Nat) (ac : Nat → ClassId) (g : Int32 → (St) → Option (Int32 × (St))) (r : Int32 × (St)) : Prop := ∀ (x2 : Int32) (s0 : St) (H : Heap) (locs : List Loc) (ls : Array Slot), g x2 s0 = some r → va_P (dC, dI) vwCl (dw_X3c a ac s0) H → va_D A (dw_X3c a ac s0) → va_S A s.heap H locs → lv_has ls 3 [(2, .int x2)] → W p l e (headSpec ow_dm_X3_likeBefore ({ frames := 1, cells := 0, slots := 0, locals := 22 })).room s m args below meth c H locs 0 0 Q (F0 m 53 ls [])
def dj_X3_likeBefore_2 (p : Program) (l : Launch) (e : Env) (s : State) (m : MethodId) (args : Array Value) (below : List Frame) (meth : Method) (c : Code) (Q : State → Prop) (A : Nat → Prop) (dC : Nat → ClassId) (dI : Nat → Nat → Nat) (a : Nat → Nat) (ac : Nat → ClassId) (g : Int32 → Int32 → (St) → Option (Int32 × (St))) (r : Int32 × (St)) : Prop := ∀ (x1 : Int32) (x2 : Int32) (s0 : St) (H : Heap) (locs : List Loc) (ls : Array Slot), g x1 x2 s0 = some r → va_P (dC, dI) vwCl (dw_X3c a ac s0) H → va_D A (dw_X3c a ac s0) → va_S A s.heap H locs → lv_has ls 3 [(0, .ref (a 0)), (1, .int x1), (2, .int x2)] → W p l e (headSpec ow_dm_X3_likeBefore ({ frames := 1, cells := 0, slots := 0, locals := 22 })).room s m args below meth c H locs 0 0 Q (F0 m 2 ls [])
def dj_X3_likeBefore_0 (p : Program) (l : Launch) (e : Env) (s : State) (m : MethodId) (args : Array Value) (below : List Frame) (meth : Method) (c : Code) (Q : State → Prop) (A : Nat → Prop) (dC : Nat → ClassId) (dI : Nat → Nat → Nat) (a : Nat → Nat) (ac : Nat → ClassId) (g : Int32 → (St) → Option (Int32 × (St))) (r : Int32 × (St)) : Prop := ∀ (v0 : Int32) (s0 : St) (H : Heap) (locs : List Loc) (ls : Array Slot), g v0 s0 = some r → va_P (dC, dI) vwCl (dw_X3c a ac s0) H → va_D A (dw_X3c a ac s0) → va_S A s.heap H locs → lv_has ls 3 [(0, .ref (a 0)), (1, .int v0)] → W p l e (headSpec ow_dm_X3_likeBefore ({ frames := 1, cells := 0, slots := 0, locals := 22 })).room s m args below meth c H locs 0 0 Q (F0 m 0 ls [])
set_option maxHeartbeats 40000000 in
set_option maxRecDepth 100000 in
theorem db_X3_likeBefore_53 {p : Program} {l : Launch} {e : Env} {s : State} {m : MethodId} {args : Array Value} {below : List Frame} {meth : Method} {c : Code} {Q : State → Prop} {A : Nat → Prop} {dC : Nat → ClassId} {dI : Nat → Nat → Nat} {a : Nat → Nat} {ac : Nat → ClassId} {n : Nat} {r : Int32 × (St)} (C : nd_C p l s m args c A (dC, dI) cX3_likeBefore 3 RX3 ow_dm_X3_likeBefore (dk_X3c ac)) (K : nd_Ki p l e (headSpec ow_dm_X3_likeBefore ({ frames := 1, cells := 0, slots := 0, locals := 22 })).room s m args below meth c Q A (dC, dI) cX3_likeBefore .int (St) (dw_X3c a ac) r) : dj_X3_likeBefore_53 p l e s m args below meth c Q A dC dI a ac (df_X3_likeBefore_53 n) r := by
  obtain ⟨hlt, hx, hb, hml, hown, hts, hN, hA, hK⟩ := id C
  intro x2 s0 H locs ls h hP hD hS hl
  unfold df_X3_likeBefore_53 at h
  refine lv_iload_n hx hb dX3_likeBefore_53 rfl (lv_at hl 0 rfl) ?_
  exact K _ _ _ _ _ _ dX3_likeBefore_54 rfl (Option.some.inj h).symm hP hD hS
set_option maxHeartbeats 40000000 in
set_option maxRecDepth 100000 in
theorem dB_X3_likeBefore_2 {p : Program} {l : Launch} {e : Env} {s : State} {m : MethodId} {args : Array Value} {below : List Frame} {meth : Method} {c : Code} {Q : State → Prop} {A : Nat → Prop} {dC : Nat → ClassId} {dI : Nat → Nat → Nat} {a : Nat → Nat} {ac : Nat → ClassId} {n : Nat} {r : Int32 × (St)} (C : nd_C p l s m args c A (dC, dI) cX3_likeBefore 3 RX3 ow_dm_X3_likeBefore (dk_X3c ac)) (K : nd_Ki p l e (headSpec ow_dm_X3_likeBefore ({ frames := 1, cells := 0, slots := 0, locals := 22 })).room s m args below meth c Q A (dC, dI) cX3_likeBefore .int (St) (dw_X3c a ac) r) {g2 : Int32 → Int32 → (St) → Option (Int32 × (St))} (J2 : dj_X3_likeBefore_2 p l e s m args below meth c Q A dC dI a ac g2 r) : dj_X3_likeBefore_2 p l e s m args below meth c Q A dC dI a ac (dF_X3_likeBefore_2 n g2) r := by
  obtain ⟨hlt, hx, hb, hml, hown, hts, hN, hA, hK⟩ := id C
  intro x1 x2 s0 H locs ls h hP hD hS hl
  unfold dF_X3_likeBefore_2 at h
  refine lv_iload_n hx hb dX3_likeBefore_2 rfl (lv_at hl 1 rfl) ?_
  refine lv_if_le (tgt := 53) hx hb dX3_likeBefore_3 (by decide) (fun c1 => ?_) (fun c1 => ?_)
  · have h := nd_pos h c1
    exact (db_X3_likeBefore_53 C K) (x2) s0 _ _ _ h hP hD hS (lv_sub hl [2] rfl)
  · have h := nd_neg h c1
    refine lv_iload_n hx hb dX3_likeBefore_6 rfl (lv_at hl 1 rfl) ?_
    refine lv_iload_n hx hb dX3_likeBefore_7 rfl (lv_at hl 2 rfl) ?_
    refine lv_iadd hx hb dX3_likeBefore_8 ?_
    refine lv_aload_n hx hb dX3_likeBefore_9 rfl (lv_at hl 0 rfl) ?_
    refine va_get (D := (dC, dI)) (ci := 4) (v := .int (sI s0 0)) (C := RX3) (T := TX3) (N := 11) hx hb hts hi_dm_X3_likeBefore_X3 hown hK hP 0 rfl rfl 4 (by decide) (hts (.fieldLink RX3 35 "TimeMachine$Events" "recorded" "I") (List.mem_of_getElem? (i := 1) rfl)) (fun _ h9 => h9) rfl dX3_likeBefore_10 ?_
    refine lv_icmp_ge (tgt := 53) hx hb dX3_likeBefore_13 (by decide) (fun c2 => ?_) (fun c2 => ?_)
    · have h := nd_pos h c2
      exact (db_X3_likeBefore_53 C K) (x2) s0 _ _ _ h hP hD hS (lv_sub hl [2] rfl)
    · have h := nd_neg h c2
      refine lv_aload_n hx hb dX3_likeBefore_16 rfl (lv_at hl 0 rfl) ?_
      refine lv_iload_n hx hb dX3_likeBefore_17 rfl (lv_at hl 1 rfl) ?_
      refine lv_iload_n hx hb dX3_likeBefore_18 rfl (lv_at hl 2 rfl) ?_
      refine lv_iadd hx hb dX3_likeBefore_19 ?_
      refine lv_iload_n hx hb dX3_likeBefore_20 rfl (lv_at hl 1 rfl) ?_
      refine lv_iconst (v := 1) hx hb dX3_likeBefore_21 (by decide) ?_
      refine lv_isub hx hb dX3_likeBefore_22 ?_
      obtain ⟨q3, s4, hq, h⟩ := nd_b2_e h
      have hPc := hP
      have hDc := hD
      have hKc := hK
      have hFc := nd_rs hD hS hA
      refine nd_cVi (As := [.int (x1 + x2), .int (x1 - 1)]) (rest := []) (q := q3) (w' := dw_X3c a ac s4) ⟨hx, hb, hml, hown, hts⟩ (fun sz => dm_X3_bringsSame l hlt dC dI a ac n ((x1 + x2)) ((x1 - 1)) s0 hq sz) (cwV 2 hts gi_dm_X3_likeBefore_0 rfl rfl rfl (by decide +kernel) ⟨Nat.le_of_ble_eq_true rfl, Nat.le_of_ble_eq_true rfl⟩) hPc hDc hKc hS hA hN (va_recv hKc hPc (ci := 4) (q0 := 0) rfl rfl) rfl hl.1 rfl (Nat.le_of_ble_eq_true rfl) dX3_likeBefore_23 (fun H locs hP1 hD1 hk1 hS => ?_)
      have hP := hP1
      have hD := hD1.weaken (fun k q _ h => hFc q.1 h)
      refine lv_if_eq (tgt := 53) hx hb dX3_likeBefore_26 (by decide) (fun c6 => ?_) (fun c6 => ?_)
      · have h := nd_pos h c6
        exact (db_X3_likeBefore_53 C K) (x2) s4 _ _ _ h hP hD hS (lv_sub hl [2] rfl)
      · have h := nd_neg h c6
        refine lv_aload_n hx hb dX3_likeBefore_29 rfl (lv_at hl 0 rfl) ?_
        refine lv_iload_n hx hb dX3_likeBefore_30 rfl (lv_at hl 1 rfl) ?_
        refine lv_iload_n hx hb dX3_likeBefore_31 rfl (lv_at hl 2 rfl) ?_
        refine lv_iadd hx hb dX3_likeBefore_32 ?_
        obtain ⟨q7, s8, hq, h⟩ := nd_b2_e h
        have hPc := hP
        have hDc := hD
        have hKc := hK
        have hFc := nd_rs hD hS hA
        refine nd_cVl (As := [.int (x1 + x2)]) (rest := []) (q := q7) (w' := dw_X3c a ac s8) ⟨hx, hb, hml, hown, hts⟩ (fun sz => dm_X3_difference l hlt dC dI a ac n ((x1 + x2)) s4 hq sz) (cwV 1 hts gi_dm_X3_likeBefore_1 rfl rfl rfl (by decide +kernel) ⟨Nat.le_of_ble_eq_true rfl, Nat.le_of_ble_eq_true rfl⟩) hPc hDc hKc hS hA hN (va_recv hKc hPc (ci := 4) (q0 := 0) rfl rfl) rfl hl.1 rfl (Nat.le_of_ble_eq_true rfl) dX3_likeBefore_33 (fun H locs hP1 hD1 hk1 hS => ?_)
        have hP := hP1
        have hD := hD1.weaken (fun k q _ h => hFc q.1 h)
        refine lv_aload_n hx hb dX3_likeBefore_36 rfl (lv_at hl 0 rfl) ?_
        refine lv_iload_n hx hb dX3_likeBefore_37 rfl (lv_at hl 1 rfl) ?_
        refine lv_iconst (v := 1) hx hb dX3_likeBefore_38 (by decide) ?_
        refine lv_isub hx hb dX3_likeBefore_39 ?_
        obtain ⟨q10, s11, hq, h⟩ := nd_b2_e h
        have hPc := hP
        have hDc := hD
        have hKc := hK
        have hFc := nd_rs hD hS hA
        refine nd_cVl (As := [.int (x1 - 1)]) (rest := [.long q7]) (q := q10) (w' := dw_X3c a ac s11) ⟨hx, hb, hml, hown, hts⟩ (fun sz => dm_X3_difference l hlt dC dI a ac n ((x1 - 1)) s8 hq sz) (cwV 1 hts gi_dm_X3_likeBefore_1 rfl rfl rfl (by decide +kernel) ⟨Nat.le_of_ble_eq_true rfl, Nat.le_of_ble_eq_true rfl⟩) hPc hDc hKc hS hA hN (va_recv hKc hPc (ci := 4) (q0 := 0) rfl rfl) rfl hl.1 rfl (Nat.le_of_ble_eq_true rfl) dX3_likeBefore_40 (fun H locs hP1 hD1 hk1 hS => ?_)
        have hP := hP1
        have hD := hD1.weaken (fun k q _ h => hFc q.1 h)
        refine W.lcmp hx hb dX3_likeBefore_43 ?_
        refine lv_if_ne (tgt := 53) hx hb dX3_likeBefore_44 (by decide) (fun c13 => ?_) (fun c13 => ?_)
        · have h := nd_neg h c13
          exact (db_X3_likeBefore_53 C K) (x2) s11 _ _ _ h hP hD hS (lv_sub hl [2] rfl)
        · have h := nd_pos h c13
          obtain ⟨z14, ez14, h⟩ := nd_let_e h
          refine lv_iinc (v := z14) (lv' := [(2, .int z14), (0, .ref (a 0)), (1, .int x1)]) hx hb dX3_likeBefore_47 hl (k := 2) rfl (by rw [ez14]) (by decide) rfl (fun ls hl => ?_)
          refine lv_goto (tgt := 2) hx hb dX3_likeBefore_50 (by decide) ?_
          exact (J2) (x1) (z14) s11 _ _ _ h hP hD hS (lv_sub hl [1, 2, 0] rfl)
set_option maxHeartbeats 40000000 in
set_option maxRecDepth 100000 in
theorem db_X3_likeBefore_2 {p : Program} {l : Launch} {e : Env} {s : State} {m : MethodId} {args : Array Value} {below : List Frame} {meth : Method} {c : Code} {Q : State → Prop} {A : Nat → Prop} {dC : Nat → ClassId} {dI : Nat → Nat → Nat} {a : Nat → Nat} {ac : Nat → ClassId} {n : Nat} {r : Int32 × (St)} (C : nd_C p l s m args c A (dC, dI) cX3_likeBefore 3 RX3 ow_dm_X3_likeBefore (dk_X3c ac)) (K : nd_Ki p l e (headSpec ow_dm_X3_likeBefore ({ frames := 1, cells := 0, slots := 0, locals := 22 })).room s m args below meth c Q A (dC, dI) cX3_likeBefore .int (St) (dw_X3c a ac) r) (k : Nat) : dj_X3_likeBefore_2 p l e s m args below meth c Q A dC dI a ac (df_X3_likeBefore_2 n k) r := by
  induction k with
  | zero => intro x1 x2 s0 H locs ls h; exact nomatch (show (none : Option (Int32 × (St))) = some r from h)
  | succ k ih => exact dB_X3_likeBefore_2 C K ih
set_option maxHeartbeats 40000000 in
set_option maxRecDepth 100000 in
theorem db_X3_likeBefore_0 {p : Program} {l : Launch} {e : Env} {s : State} {m : MethodId} {args : Array Value} {below : List Frame} {meth : Method} {c : Code} {Q : State → Prop} {A : Nat → Prop} {dC : Nat → ClassId} {dI : Nat → Nat → Nat} {a : Nat → Nat} {ac : Nat → ClassId} {n : Nat} {r : Int32 × (St)} (C : nd_C p l s m args c A (dC, dI) cX3_likeBefore 3 RX3 ow_dm_X3_likeBefore (dk_X3c ac)) (K : nd_Ki p l e (headSpec ow_dm_X3_likeBefore ({ frames := 1, cells := 0, slots := 0, locals := 22 })).room s m args below meth c Q A (dC, dI) cX3_likeBefore .int (St) (dw_X3c a ac) r) : dj_X3_likeBefore_0 p l e s m args below meth c Q A dC dI a ac (df_X3_likeBefore_0 n) r := by
  obtain ⟨hlt, hx, hb, hml, hown, hts, hN, hA, hK⟩ := id C
  intro v0 s0 H locs ls h hP hD hS hl
  unfold df_X3_likeBefore_0 at h
  refine lv_iconst (v := 0) hx hb dX3_likeBefore_0 (by decide) ?_
  refine lv_istore_n (lv' := [(2, .int 0), (0, .ref (a 0)), (1, .int v0)]) hx hb dX3_likeBefore_1 rfl hl (by decide) rfl (fun ls hl => ?_)
  exact (db_X3_likeBefore_2 C K n) (v0) (0) s0 _ _ _ h hP hD hS (lv_sub hl [1, 2, 0] rfl)
set_option maxHeartbeats 40000000 in
set_option maxRecDepth 100000 in
theorem dm_X3_likeBefore (l : Launch) (hlt : l.stackTraces = false) (dC : Nat → ClassId) (dI : Nat → Nat → Nat) (a : Nat → Nat) (ac : Nat → ClassId) (n : Nat) (v0 : Int32) (s0 : St) {r : Int32 × (St)} (h : df_X3_likeBefore n v0 s0 = some r) (sz : Nat) : Met l yX3_likeBefore ow_dm_X3_likeBefore ({ frames := 1, cells := 0, slots := 0, locals := 22 }) (va_Pc [.ref (a 0), .int v0] (fun U => U.heap.size = sz ∧ va_P (dC, dI) vwCl (dw_X3c a ac s0) U.heap ∧ va_K (dC, dI) vwCl (dk_X3c ac) U ∧ va_D (fun _ => True) (dw_X3c a ac s0) ∧ nv_E (va_A (dw_X3c a ac s0) sz) U)) (va_Qi (fun x _ => x = r.1) (fun (_ : Unit) t => va_P (dC, dI) vwCl (dw_X3c a ac r.2) t.heap ∧ va_K (dC, dI) vwCl (dk_X3c ac) t ∧ va_D (va_A (dw_X3c a ac s0) sz) (dw_X3c a ac r.2)) (va_A (dw_X3c a ac s0) sz)) 0 0 (va_A (dw_X3c a ac s0) sz) := by
  refine Met.ofW (cc := cX3_likeBefore) (maxL := 3) (ret := (some .int)) (by decide) rfl ?_
  intro p e s m args below meth c s₁ B hml hv
  obtain ⟨rfl, hsz, hP, hK, hD0, hN⟩ := hv
  have hx := B.exec
  have hb := B.bytes
  have hr := B.returns
  have hts := atoms_spec (ws := ow_dm_X3_likeBefore) B.pre
  have hown : s.vm.findClass RX3 = some m.cls := findClass_of_methodNamed B.named
  have hlocks := B.notSynchronized
  subst hsz
  have hD := hD0.self (sz := s.heap.size)
  generalize hAe : va_A (dw_X3c a ac s0) s.heap.size = A at hD hN ⊢
  have hA : ∀ q : Nat, s.heap.size ≤ q → A q := fun q h => by rw [← hAe]; exact Or.inr h
  have hl := lv_entry ([.ref (a 0), .int v0]) (n := 3) (Nat.le_of_ble_eq_true rfl)
  rw [lg_entry_eq]
  generalize (lg_sl ([.ref (a 0), .int v0]) ++ List.replicate (3 - (lg_sl ([.ref (a 0), .int v0])).length) Slot.unset).toArray = ls at hl ⊢
  have hl : lv_has ls 3 [(0, .ref (a 0)), (1, .int v0)] := hl
  exact db_X3_likeBefore_0 (dC := dC) (dI := dI) (a := a) (ac := ac) (n := n) (r := r) ⟨hlt, hx, hb, hml, hown, hts, hN, hA, hK⟩ (fun pc v τ H locs ls d z er hP hD hS => by subst er; exact W.zret (v := v) hx hb hr z (fun t ht hW => ⟨⟨v, (), rfl, rfl, by rw [ht]; exact hP, va_K.moved hW.alike hK, hD⟩, hS.F ht⟩) hS.2.2 d) v0 s0 _ _ _ h hP hD va_S.rf (lv_sub hl [0, 1] rfl)
def ow_dm_X3_putBytes : List Cond := .code yX3_putBytes cX3_putBytes 5 none :: ([.methodLink RX3 59 yX3_putByte, .instanceMethod yX3_putByte, .selects RX3 yX3_putByte yX3_putByte, .initialized RX3] ++ (ow_dm_X3_putByte ++ []))
theorem gd_dm_X3_putBytes : ∀ w ∈ ow_dm_X3_putBytes, (w.onTables && w.keeps) = true ∨ ∃ ty, w = Cond.arrayClass ty := List.forall_mem_cons.mpr ⟨good_of_word rfl, List.forall_mem_append.mpr ⟨fun w h => good_of_word (List.all_eq_true.mp (by decide +kernel) w h), List.forall_mem_append.mpr ⟨gd_dm_X3_putByte, fun _ h => nomatch h⟩⟩⟩
theorem gi_dm_X3_putBytes_0 : GoodIn ow_dm_X3_putBytes (wsV RX3 59 RX3 yX3_putByte ow_dm_X3_putByte) := goodIn_app (goodIn_of _ (by decide +kernel)) (fun w h => ⟨List.mem_cons_of_mem _ (List.mem_append_right _ (List.mem_append_left _ h)), gd_dm_X3_putByte w h⟩)
def dj_X3_putBytes_5 (p : Program) (l : Launch) (e : Env) (s : State) (m : MethodId) (args : Array Value) (below : List Frame) (meth : Method) (c : Code) (Q : State → Prop) (A : Nat → Prop) (dC : Nat → ClassId) (dI : Nat → Nat → Nat) (a : Nat → Nat) (ac : Nat → ClassId) (g : Int64 → Int32 → (St × (St)) → Option (St × (St))) (r : St × (St)) : Prop := ∀ (x1 : Int64) (x4 : Int32) (s0 : St × (St)) (H : Heap) (locs : List Loc) (ls : Array Slot), g x1 x4 s0 = some r → va_P (dC, dI) vwCl (dw_X3s a ac s0) H → va_D A (dw_X3s a ac s0) → va_S A s.heap H locs → lv_has ls 5 [(0, .ref (a 1)), (1, .long x1), (4, .int x4)] → W p l e (headSpec ow_dm_X3_putBytes ({ frames := 1, cells := 0, slots := 0, locals := 21 })).room s m args below meth c H locs 0 0 Q (F0 m 5 ls [])
def dj_X3_putBytes_0 (p : Program) (l : Launch) (e : Env) (s : State) (m : MethodId) (args : Array Value) (below : List Frame) (meth : Method) (c : Code) (Q : State → Prop) (A : Nat → Prop) (dC : Nat → ClassId) (dI : Nat → Nat → Nat) (a : Nat → Nat) (ac : Nat → ClassId) (g : Int64 → Int32 → (St × (St)) → Option (St × (St))) (r : St × (St)) : Prop := ∀ (v0 : Int64) (v1 : Int32) (s0 : St × (St)) (H : Heap) (locs : List Loc) (ls : Array Slot), g v0 v1 s0 = some r → va_P (dC, dI) vwCl (dw_X3s a ac s0) H → va_D A (dw_X3s a ac s0) → va_S A s.heap H locs → lv_has ls 5 [(0, .ref (a 1)), (1, .long v0), (3, .int v1)] → W p l e (headSpec ow_dm_X3_putBytes ({ frames := 1, cells := 0, slots := 0, locals := 21 })).room s m args below meth c H locs 0 0 Q (F0 m 0 ls [])
set_option maxHeartbeats 40000000 in
set_option maxRecDepth 100000 in
theorem dB_X3_putBytes_5 {p : Program} {l : Launch} {e : Env} {s : State} {m : MethodId} {args : Array Value} {below : List Frame} {meth : Method} {c : Code} {Q : State → Prop} {A : Nat → Prop} {dC : Nat → ClassId} {dI : Nat → Nat → Nat} {a : Nat → Nat} {ac : Nat → ClassId} {n : Nat} {r : St × (St)} (C : nd_C p l s m args c A (dC, dI) cX3_putBytes 5 RX3 ow_dm_X3_putBytes (dk_X3s ac)) (K : nd_Kv p l e (headSpec ow_dm_X3_putBytes ({ frames := 1, cells := 0, slots := 0, locals := 21 })).room s m args below meth c Q A (dC, dI) cX3_putBytes (St × (St)) (dw_X3s a ac) r) {g5 : Int64 → Int32 → (St × (St)) → Option (St × (St))} (J5 : dj_X3_putBytes_5 p l e s m args below meth c Q A dC dI a ac g5 r) : dj_X3_putBytes_5 p l e s m args below meth c Q A dC dI a ac (dF_X3_putBytes_5 n (a 0) g5) r := by
  obtain ⟨hlt, hx, hb, hml, hown, hts, hN, hA, hK⟩ := id C
  intro x1 x4 s0 H locs ls h hP hD hS hl
  unfold dF_X3_putBytes_5 at h
  refine lv_iload hx hb dX3_putBytes_5 (lv_at hl 2 rfl) ?_
  refine lv_if_lt (tgt := 28) hx hb dX3_putBytes_7 (by decide) (fun c2 => ?_) (fun c2 => ?_)
  · have h := nd_pos h c2
    exact K _ _ _ _ _ dX3_putBytes_28 (Option.some.inj h).symm hP hD hS
  · have h := nd_neg h c2
    refine lv_aload_n hx hb dX3_putBytes_10 rfl (lv_at hl 0 rfl) ?_
    refine lv_lload_n hx hb dX3_putBytes_11 rfl (lv_at hl 1 rfl) ?_
    refine lv_bipush (v := 8) hx hb dX3_putBytes_12 (by decide) ?_
    refine lv_iload hx hb dX3_putBytes_14 (lv_at hl 2 rfl) ?_
    refine lv_imul hx hb dX3_putBytes_16 ?_
    refine lv_lshr hx hb dX3_putBytes_17 rfl ?_
    refine lv_l2i hx hb dX3_putBytes_18 rfl ?_
    obtain ⟨s4, hq, h⟩ := nd_b1_e h
    have hPc := hP
    have hDc := hD
    have hKc := hK
    have hFc := nd_rs hD hS hA
    refine nd_cVv (As := [.int (((x1 : Int64) >>> (((8 * x4) : Int32).toInt64 &&& 63)).toInt32)]) (rest := []) (w' := dw_X3s a ac s4) ⟨hx, hb, hml, hown, hts⟩ (fun sz => dm_X3_putByte l hlt dC dI a ac n ((((x1 : Int64) >>> (((8 * x4) : Int32).toInt64 &&& 63)).toInt32)) s0 hq sz) (cwV 1 hts gi_dm_X3_putBytes_0 rfl rfl rfl (by decide +kernel) ⟨Nat.le_of_ble_eq_true rfl, Nat.le_of_ble_eq_true rfl⟩) hPc hDc hKc hS hA hN (va_recv hKc hPc (ci := 4) (q0 := 1) rfl rfl) rfl hl.1 rfl (Nat.le_of_ble_eq_true rfl) dX3_putBytes_19 (fun H locs hP1 hD1 hk1 hS => ?_)
    have hP := hP1
    have hD := hD1.weaken (fun k q _ h => hFc q.1 h)
    obtain ⟨z6, ez6, h⟩ := nd_let_e h
    refine lv_iinc (v := z6) (lv' := [(4, .int z6), (0, .ref (a 1)), (1, .long x1)]) hx hb dX3_putBytes_22 hl (k := 2) rfl (by rw [ez6]) (by decide) rfl (fun ls hl => ?_)
    refine lv_goto (tgt := 5) hx hb dX3_putBytes_25 (by decide) ?_
    exact (J5) (x1) (z6) s4 _ _ _ h hP hD hS (lv_sub hl [1, 2, 0] rfl)
set_option maxHeartbeats 40000000 in
set_option maxRecDepth 100000 in
theorem db_X3_putBytes_5 {p : Program} {l : Launch} {e : Env} {s : State} {m : MethodId} {args : Array Value} {below : List Frame} {meth : Method} {c : Code} {Q : State → Prop} {A : Nat → Prop} {dC : Nat → ClassId} {dI : Nat → Nat → Nat} {a : Nat → Nat} {ac : Nat → ClassId} {n : Nat} {r : St × (St)} (C : nd_C p l s m args c A (dC, dI) cX3_putBytes 5 RX3 ow_dm_X3_putBytes (dk_X3s ac)) (K : nd_Kv p l e (headSpec ow_dm_X3_putBytes ({ frames := 1, cells := 0, slots := 0, locals := 21 })).room s m args below meth c Q A (dC, dI) cX3_putBytes (St × (St)) (dw_X3s a ac) r) (k : Nat) : dj_X3_putBytes_5 p l e s m args below meth c Q A dC dI a ac (df_X3_putBytes_5 n (a 0) k) r := by
  induction k with
  | zero => intro x1 x4 s0 H locs ls h; exact nomatch (show (none : Option (St × (St))) = some r from h)
  | succ k ih => exact dB_X3_putBytes_5 C K ih
set_option maxHeartbeats 40000000 in
set_option maxRecDepth 100000 in
theorem db_X3_putBytes_0 {p : Program} {l : Launch} {e : Env} {s : State} {m : MethodId} {args : Array Value} {below : List Frame} {meth : Method} {c : Code} {Q : State → Prop} {A : Nat → Prop} {dC : Nat → ClassId} {dI : Nat → Nat → Nat} {a : Nat → Nat} {ac : Nat → ClassId} {n : Nat} {r : St × (St)} (C : nd_C p l s m args c A (dC, dI) cX3_putBytes 5 RX3 ow_dm_X3_putBytes (dk_X3s ac)) (K : nd_Kv p l e (headSpec ow_dm_X3_putBytes ({ frames := 1, cells := 0, slots := 0, locals := 21 })).room s m args below meth c Q A (dC, dI) cX3_putBytes (St × (St)) (dw_X3s a ac) r) : dj_X3_putBytes_0 p l e s m args below meth c Q A dC dI a ac (df_X3_putBytes_0 n (a 0)) r := by
  obtain ⟨hlt, hx, hb, hml, hown, hts, hN, hA, hK⟩ := id C
  intro v0 v1 s0 H locs ls h hP hD hS hl
  unfold df_X3_putBytes_0 at h
  refine lv_iload_n hx hb dX3_putBytes_0 rfl (lv_at hl 2 rfl) ?_
  refine lv_iconst (v := 1) hx hb dX3_putBytes_1 (by decide) ?_
  refine lv_isub hx hb dX3_putBytes_2 ?_
  refine lv_topi (fun z1 ez1 => ?_)
  have h := nd_at h ez1
  refine lv_istore (lv' := [(4, .int z1), (0, .ref (a 1)), (1, .long v0), (3, .int v1)]) hx hb dX3_putBytes_3 hl (by decide) rfl (fun ls hl => ?_)
  exact (db_X3_putBytes_5 C K n) (v0) (z1) s0 _ _ _ h hP hD hS (lv_sub hl [1, 2, 0] rfl)
set_option maxHeartbeats 40000000 in
set_option maxRecDepth 100000 in
theorem dm_X3_putBytes (l : Launch) (hlt : l.stackTraces = false) (dC : Nat → ClassId) (dI : Nat → Nat → Nat) (a : Nat → Nat) (ac : Nat → ClassId) (n : Nat) (v0 : Int64) (v1 : Int32) (s0 : St × (St)) {r : St × (St)} (h : df_X3_putBytes n (a 0) v0 v1 s0 = some r) (sz : Nat) : Met l yX3_putBytes ow_dm_X3_putBytes ({ frames := 1, cells := 0, slots := 0, locals := 21 }) (va_Pc [.ref (a 1), .long v0, .int v1] (fun U => U.heap.size = sz ∧ va_P (dC, dI) vwCl (dw_X3s a ac s0) U.heap ∧ va_K (dC, dI) vwCl (dk_X3s ac) U ∧ va_D (fun _ => True) (dw_X3s a ac s0) ∧ nv_E (va_A (dw_X3s a ac s0) sz) U)) (va_Qv (fun _ => True) (fun (_ : Unit) t => va_P (dC, dI) vwCl (dw_X3s a ac r) t.heap ∧ va_K (dC, dI) vwCl (dk_X3s ac) t ∧ va_D (va_A (dw_X3s a ac s0) sz) (dw_X3s a ac r)) (va_A (dw_X3s a ac s0) sz)) 0 0 (va_A (dw_X3s a ac s0) sz) := by
  refine Met.ofW (cc := cX3_putBytes) (maxL := 5) (ret := none) (by decide) rfl ?_
  intro p e s m args below meth c s₁ B hml hv
  obtain ⟨rfl, hsz, hP, hK, hD0, hN⟩ := hv
  have hx := B.exec
  have hb := B.bytes
  have hr := B.returns
  have hts := atoms_spec (ws := ow_dm_X3_putBytes) B.pre
  have hown : s.vm.findClass RX3 = some m.cls := findClass_of_methodNamed B.named
  have hlocks := B.notSynchronized
  subst hsz
  have hD := hD0.self (sz := s.heap.size)
  generalize hAe : va_A (dw_X3s a ac s0) s.heap.size = A at hD hN ⊢
  have hA : ∀ q : Nat, s.heap.size ≤ q → A q := fun q h => by rw [← hAe]; exact Or.inr h
  have hl := lv_entry ([.ref (a 1), .long v0, .int v1]) (n := 5) (Nat.le_of_ble_eq_true rfl)
  rw [lg_entry_eq]
  generalize (lg_sl ([.ref (a 1), .long v0, .int v1]) ++ List.replicate (5 - (lg_sl ([.ref (a 1), .long v0, .int v1])).length) Slot.unset).toArray = ls at hl ⊢
  have hl : lv_has ls 5 [(0, .ref (a 1)), (1, .long v0), (3, .int v1)] := hl
  exact db_X3_putBytes_0 (dC := dC) (dI := dI) (a := a) (ac := ac) (n := n) (r := r) ⟨hlt, hx, hb, hml, hown, hts, hN, hA, hK⟩ (fun pc τ H locs ls d er hP hD hS => by subst er; exact W.vret hx hb hr (fun t ht hW => ⟨⟨(), rfl, trivial, by rw [ht]; exact hP, va_K.moved hW.alike hK, hD⟩, hS.F ht⟩) hS.2.2 d) v0 v1 s0 _ _ _ h hP hD va_S.rf (lv_sub hl [0, 1, 2] rfl)
def ow_dm_X3_latest : List Cond := .code yX3_latest cX3_latest 8 (some .int) :: ([.fieldLink RX3 9 "TimeMachine$Events" "kind" "[I"] ++ (u_ws RX3 TX3 11 ++ []))
theorem gd_dm_X3_latest : ∀ w ∈ ow_dm_X3_latest, (w.onTables && w.keeps) = true ∨ ∃ ty, w = Cond.arrayClass ty := List.forall_mem_cons.mpr ⟨good_of_word rfl, List.forall_mem_append.mpr ⟨fun w h => good_of_word (List.all_eq_true.mp (by decide +kernel) w h), List.forall_mem_append.mpr ⟨gu_X3, fun _ h => nomatch h⟩⟩⟩
theorem hi_dm_X3_latest_X3 : ∀ w ∈ u_ws RX3 TX3 11, w ∈ ow_dm_X3_latest := fun w h => List.mem_cons_of_mem _ (List.mem_append_right _ (List.mem_append_left _ h))
def dj_X3_latest_41 (p : Program) (l : Launch) (e : Env) (s : State) (m : MethodId) (args : Array Value) (below : List Frame) (meth : Method) (c : Code) (Q : State → Prop) (A : Nat → Prop) (dC : Nat → ClassId) (dI : Nat → Nat → Nat) (a : Nat → Nat) (ac : Nat → ClassId) (g : Int32 → Int64 → Int32 → (St) → Option (Int32 × (St))) (r : Int32 × (St)) : Prop := ∀ (x1 : Int32) (x5 : Int64) (x7 : Int32) (s0 : St) (H : Heap) (locs : List Loc) (ls : Array Slot), g x1 x5 x7 s0 = some r → va_P (dC, dI) vwCl (dw_X3c a ac s0) H → va_D A (dw_X3c a ac s0) → va_S A s.heap H locs → lv_has ls 8 [(0, .ref (a 0)), (1, .int x1), (5, .long x5), (7, .int x7)] → W p l e (headSpec ow_dm_X3_latest ({ frames := 0, cells := 0, slots := 0, locals := 0 })).room s m args below meth c H locs 0 0 Q (F0 m 41 ls [])
def dj_X3_latest_9 (p : Program) (l : Launch) (e : Env) (s : State) (m : MethodId) (args : Array Value) (below : List Frame) (meth : Method) (c : Code) (Q : State → Prop) (A : Nat → Prop) (dC : Nat → ClassId) (dI : Nat → Nat → Nat) (a : Nat → Nat) (ac : Nat → ClassId) (g : Int32 → Int64 → Int32 → (St) → Option (Int32 × (St))) (r : Int32 × (St)) : Prop := ∀ (x1 : Int32) (x5 : Int64) (x7 : Int32) (s0 : St) (H : Heap) (locs : List Loc) (ls : Array Slot), g x1 x5 x7 s0 = some r → va_P (dC, dI) vwCl (dw_X3c a ac s0) H → va_D A (dw_X3c a ac s0) → va_S A s.heap H locs → lv_has ls 8 [(0, .ref (a 0)), (1, .int x1), (5, .long x5), (7, .int x7)] → W p l e (headSpec ow_dm_X3_latest ({ frames := 0, cells := 0, slots := 0, locals := 0 })).room s m args below meth c H locs 0 0 Q (F0 m 9 ls [])
def dj_X3_latest_0 (p : Program) (l : Launch) (e : Env) (s : State) (m : MethodId) (args : Array Value) (below : List Frame) (meth : Method) (c : Code) (Q : State → Prop) (A : Nat → Prop) (dC : Nat → ClassId) (dI : Nat → Nat → Nat) (a : Nat → Nat) (ac : Nat → ClassId) (g : Int32 → Int64 → Int32 → (St) → Option (Int32 × (St))) (r : Int32 × (St)) : Prop := ∀ (v0 : Int32) (v1 : Int64) (v2 : Int32) (s0 : St) (H : Heap) (locs : List Loc) (ls : Array Slot), g v0 v1 v2 s0 = some r → va_P (dC, dI) vwCl (dw_X3c a ac s0) H → va_D A (dw_X3c a ac s0) → va_S A s.heap H locs → lv_has ls 8 [(0, .ref (a 0)), (1, .int v0), (2, .long v1), (4, .int v2)] → W p l e (headSpec ow_dm_X3_latest ({ frames := 0, cells := 0, slots := 0, locals := 0 })).room s m args below meth c H locs 0 0 Q (F0 m 0 ls [])
set_option maxHeartbeats 40000000 in
set_option maxRecDepth 100000 in
theorem db_X3_latest_41 {p : Program} {l : Launch} {e : Env} {s : State} {m : MethodId} {args : Array Value} {below : List Frame} {meth : Method} {c : Code} {Q : State → Prop} {A : Nat → Prop} {dC : Nat → ClassId} {dI : Nat → Nat → Nat} {a : Nat → Nat} {ac : Nat → ClassId} {n : Nat} {r : Int32 × (St)} (C : nd_C p l s m args c A (dC, dI) cX3_latest 8 RX3 ow_dm_X3_latest (dk_X3c ac)) (K : nd_Ki p l e (headSpec ow_dm_X3_latest ({ frames := 0, cells := 0, slots := 0, locals := 0 })).room s m args below meth c Q A (dC, dI) cX3_latest .int (St) (dw_X3c a ac) r) {g9 : Int32 → Int64 → Int32 → (St) → Option (Int32 × (St))} (J9 : dj_X3_latest_9 p l e s m args below meth c Q A dC dI a ac g9 r) : dj_X3_latest_41 p l e s m args below meth c Q A dC dI a ac (df_X3_latest_41 n g9) r := by
  obtain ⟨hlt, hx, hb, hml, hown, hts, hN, hA, hK⟩ := id C
  intro x1 x5 x7 s0 H locs ls h hP hD hS hl
  unfold df_X3_latest_41 at h
  obtain ⟨z5, ez5, h⟩ := nd_let_e h
  refine lv_iinc (v := z5) (lv' := [(7, .int z5), (0, .ref (a 0)), (1, .int x1), (5, .long x5)]) hx hb dX3_latest_41 hl (k := 3) rfl (by rw [ez5]) (by decide) rfl (fun ls hl => ?_)
  refine lv_goto (tgt := 9) hx hb dX3_latest_44 (by decide) ?_
  exact (J9) (x1) (x5) (z5) s0 _ _ _ h hP hD hS (lv_sub hl [1, 2, 3, 0] rfl)
set_option maxHeartbeats 40000000 in
set_option maxRecDepth 100000 in
theorem dB_X3_latest_9 {p : Program} {l : Launch} {e : Env} {s : State} {m : MethodId} {args : Array Value} {below : List Frame} {meth : Method} {c : Code} {Q : State → Prop} {A : Nat → Prop} {dC : Nat → ClassId} {dI : Nat → Nat → Nat} {a : Nat → Nat} {ac : Nat → ClassId} {n : Nat} {r : Int32 × (St)} (C : nd_C p l s m args c A (dC, dI) cX3_latest 8 RX3 ow_dm_X3_latest (dk_X3c ac)) (K : nd_Ki p l e (headSpec ow_dm_X3_latest ({ frames := 0, cells := 0, slots := 0, locals := 0 })).room s m args below meth c Q A (dC, dI) cX3_latest .int (St) (dw_X3c a ac) r) {g9 : Int32 → Int64 → Int32 → (St) → Option (Int32 × (St))} (J9 : dj_X3_latest_9 p l e s m args below meth c Q A dC dI a ac g9 r) : dj_X3_latest_9 p l e s m args below meth c Q A dC dI a ac (dF_X3_latest_9 n g9) r := by
  obtain ⟨hlt, hx, hb, hml, hown, hts, hN, hA, hK⟩ := id C
  intro x1 x5 x7 s0 H locs ls h hP hD hS hl
  unfold dF_X3_latest_9 at h
  refine lv_iload hx hb dX3_latest_9 (lv_at hl 3 rfl) ?_
  refine lv_if_lt (tgt := 47) hx hb dX3_latest_11 (by decide) (fun c2 => ?_) (fun c2 => ?_)
  · have h := nd_pos h c2
    refine lv_iconst (v := (-1)) hx hb dX3_latest_47 (by decide) ?_
    exact K _ _ _ _ _ _ dX3_latest_48 rfl (Option.some.inj h).symm hP hD hS
  · have h := nd_neg h c2
    refine lv_aload_n hx hb dX3_latest_14 rfl (lv_at hl 0 rfl) ?_
    refine va_get (D := (dC, dI)) (ci := 4) (v := .ref (a 1)) (C := RX3) (T := TX3) (N := 11) hx hb hts hi_dm_X3_latest_X3 hown hK hP 0 rfl rfl 0 (by decide) (hts (.fieldLink RX3 9 "TimeMachine$Events" "kind" "[I") (List.mem_of_getElem? (i := 1) rfl)) (fun _ h9 => h9) rfl dX3_latest_15 ?_
    refine lv_iload hx hb dX3_latest_18 (lv_at hl 3 rfl) ?_
    obtain ⟨i3, h⟩ := nd_ck_e h
    refine va_iald (i := x7) hx hb hK hP 1 0 rfl rfl i3 dX3_latest_20 ?_
    refine lv_iload_n hx hb dX3_latest_21 rfl (lv_at hl 1 rfl) ?_
    refine lv_icmp_ne (tgt := 41) hx hb dX3_latest_22 (by decide) (fun c4 => ?_) (fun c4 => ?_)
    · have h := nd_neg h c4
      exact (db_X3_latest_41 C K J9) (x1) (x5) (x7) s0 _ _ _ h hP hD hS (lv_sub hl [0, 1, 2, 3] rfl)
    · have h := nd_pos h c4
      refine lv_lload hx hb dX3_latest_25 (lv_at hl 2 rfl) ?_
      refine lv_lconst (v := 1) hx hb dX3_latest_27 (by decide) ?_
      refine lv_lsub hx hb dX3_latest_28 ?_
      refine lv_topl (fun z6 ez6 => ?_)
      have h := nd_at h ez6
      refine lv_lstore (lv' := [(5, .long z6), (0, .ref (a 0)), (1, .int x1), (7, .int x7)]) hx hb dX3_latest_29 hl (by decide) rfl (fun ls hl => ?_)
      refine lv_lload hx hb dX3_latest_31 (lv_at hl 0 rfl) ?_
      refine lv_lconst (v := 0) hx hb dX3_latest_33 (by decide) ?_
      refine W.lcmp hx hb dX3_latest_34 ?_
      refine lv_if_ne (tgt := 41) hx hb dX3_latest_35 (by decide) (fun c7 => ?_) (fun c7 => ?_)
      · have h := nd_neg h c7
        exact (db_X3_latest_41 C K J9) (x1) (z6) (x7) s0 _ _ _ h hP hD hS (lv_sub hl [1, 2, 0, 3] rfl)
      · have h := nd_pos h c7
        refine lv_iload hx hb dX3_latest_38 (lv_at hl 3 rfl) ?_
        exact K _ _ _ _ _ _ dX3_latest_40 rfl (Option.some.inj h).symm hP hD hS
set_option maxHeartbeats 40000000 in
set_option maxRecDepth 100000 in
theorem db_X3_latest_9 {p : Program} {l : Launch} {e : Env} {s : State} {m : MethodId} {args : Array Value} {below : List Frame} {meth : Method} {c : Code} {Q : State → Prop} {A : Nat → Prop} {dC : Nat → ClassId} {dI : Nat → Nat → Nat} {a : Nat → Nat} {ac : Nat → ClassId} {n : Nat} {r : Int32 × (St)} (C : nd_C p l s m args c A (dC, dI) cX3_latest 8 RX3 ow_dm_X3_latest (dk_X3c ac)) (K : nd_Ki p l e (headSpec ow_dm_X3_latest ({ frames := 0, cells := 0, slots := 0, locals := 0 })).room s m args below meth c Q A (dC, dI) cX3_latest .int (St) (dw_X3c a ac) r) (k : Nat) : dj_X3_latest_9 p l e s m args below meth c Q A dC dI a ac (df_X3_latest_9 n k) r := by
  induction k with
  | zero => intro x1 x5 x7 s0 H locs ls h; exact nomatch (show (none : Option (Int32 × (St))) = some r from h)
  | succ k ih => exact dB_X3_latest_9 C K ih
set_option maxHeartbeats 40000000 in
set_option maxRecDepth 100000 in
theorem db_X3_latest_0 {p : Program} {l : Launch} {e : Env} {s : State} {m : MethodId} {args : Array Value} {below : List Frame} {meth : Method} {c : Code} {Q : State → Prop} {A : Nat → Prop} {dC : Nat → ClassId} {dI : Nat → Nat → Nat} {a : Nat → Nat} {ac : Nat → ClassId} {n : Nat} {r : Int32 × (St)} (C : nd_C p l s m args c A (dC, dI) cX3_latest 8 RX3 ow_dm_X3_latest (dk_X3c ac)) (K : nd_Ki p l e (headSpec ow_dm_X3_latest ({ frames := 0, cells := 0, slots := 0, locals := 0 })).room s m args below meth c Q A (dC, dI) cX3_latest .int (St) (dw_X3c a ac) r) : dj_X3_latest_0 p l e s m args below meth c Q A dC dI a ac (df_X3_latest_0 n) r := by
  obtain ⟨hlt, hx, hb, hml, hown, hts, hN, hA, hK⟩ := id C
  intro v0 v1 v2 s0 H locs ls h hP hD hS hl
  unfold df_X3_latest_0 at h
  refine lv_lload_n hx hb dX3_latest_0 rfl (lv_at hl 2 rfl) ?_
  refine lv_lstore (lv' := [(5, .long v1), (0, .ref (a 0)), (1, .int v0), (2, .long v1), (4, .int v2)]) hx hb dX3_latest_1 hl (by decide) rfl (fun ls hl => ?_)
  refine lv_iload hx hb dX3_latest_3 (lv_at hl 4 rfl) ?_
  refine lv_iconst (v := 1) hx hb dX3_latest_5 (by decide) ?_
  refine lv_isub hx hb dX3_latest_6 ?_
  refine lv_topi (fun z1 ez1 => ?_)
  have h := nd_at h ez1
  refine lv_istore (lv' := [(7, .int z1), (5, .long v1), (0, .ref (a 0)), (1, .int v0), (2, .long v1), (4, .int v2)]) hx hb dX3_latest_7 hl (by decide) rfl (fun ls hl => ?_)
  exact (db_X3_latest_9 C K n) (v0) (v1) (z1) s0 _ _ _ h hP hD hS (lv_sub hl [2, 3, 1, 0] rfl)
set_option maxHeartbeats 40000000 in
set_option maxRecDepth 100000 in
theorem dm_X3_latest (l : Launch) (hlt : l.stackTraces = false) (dC : Nat → ClassId) (dI : Nat → Nat → Nat) (a : Nat → Nat) (ac : Nat → ClassId) (n : Nat) (v0 : Int32) (v1 : Int64) (v2 : Int32) (s0 : St) {r : Int32 × (St)} (h : df_X3_latest n v0 v1 v2 s0 = some r) (sz : Nat) : Met l yX3_latest ow_dm_X3_latest ({ frames := 0, cells := 0, slots := 0, locals := 0 }) (va_Pc [.ref (a 0), .int v0, .long v1, .int v2] (fun U => U.heap.size = sz ∧ va_P (dC, dI) vwCl (dw_X3c a ac s0) U.heap ∧ va_K (dC, dI) vwCl (dk_X3c ac) U ∧ va_D (fun _ => True) (dw_X3c a ac s0) ∧ nv_E (va_A (dw_X3c a ac s0) sz) U)) (va_Qi (fun x _ => x = r.1) (fun (_ : Unit) t => va_P (dC, dI) vwCl (dw_X3c a ac r.2) t.heap ∧ va_K (dC, dI) vwCl (dk_X3c ac) t ∧ va_D (va_A (dw_X3c a ac s0) sz) (dw_X3c a ac r.2)) (va_A (dw_X3c a ac s0) sz)) 0 0 (va_A (dw_X3c a ac s0) sz) := by
  refine Met.ofW (cc := cX3_latest) (maxL := 8) (ret := (some .int)) (by decide) rfl ?_
  intro p e s m args below meth c s₁ B hml hv
  obtain ⟨rfl, hsz, hP, hK, hD0, hN⟩ := hv
  have hx := B.exec
  have hb := B.bytes
  have hr := B.returns
  have hts := atoms_spec (ws := ow_dm_X3_latest) B.pre
  have hown : s.vm.findClass RX3 = some m.cls := findClass_of_methodNamed B.named
  have hlocks := B.notSynchronized
  subst hsz
  have hD := hD0.self (sz := s.heap.size)
  generalize hAe : va_A (dw_X3c a ac s0) s.heap.size = A at hD hN ⊢
  have hA : ∀ q : Nat, s.heap.size ≤ q → A q := fun q h => by rw [← hAe]; exact Or.inr h
  have hl := lv_entry ([.ref (a 0), .int v0, .long v1, .int v2]) (n := 8) (Nat.le_of_ble_eq_true rfl)
  rw [lg_entry_eq]
  generalize (lg_sl ([.ref (a 0), .int v0, .long v1, .int v2]) ++ List.replicate (8 - (lg_sl ([.ref (a 0), .int v0, .long v1, .int v2])).length) Slot.unset).toArray = ls at hl ⊢
  have hl : lv_has ls 8 [(0, .ref (a 0)), (1, .int v0), (2, .long v1), (4, .int v2)] := hl
  exact db_X3_latest_0 (dC := dC) (dI := dI) (a := a) (ac := ac) (n := n) (r := r) ⟨hlt, hx, hb, hml, hown, hts, hN, hA, hK⟩ (fun pc v τ H locs ls d z er hP hD hS => by subst er; exact W.zret (v := v) hx hb hr z (fun t ht hW => ⟨⟨v, (), rfl, rfl, by rw [ht]; exact hP, va_K.moved hW.alike hK, hD⟩, hS.F ht⟩) hS.2.2 d) v0 v1 v2 s0 _ _ _ h hP hD va_S.rf (lv_sub hl [0, 1, 2, 3] rfl)
def ow_dm_X3_sameClock : List Cond := .code yX3_sameClock cX3_sameClock 3 (some .int) :: ([.methodLink RX3 80 yX3_latest, .instanceMethod yX3_latest, .selects RX3 yX3_latest yX3_latest, .initialized RX3, .fieldLink RX3 17 "TimeMachine$Events" "a" "[J"] ++ (u_ws RX3 TX3 11 ++ (ow_dm_X3_latest ++ [])))
theorem gd_dm_X3_sameClock : ∀ w ∈ ow_dm_X3_sameClock, (w.onTables && w.keeps) = true ∨ ∃ ty, w = Cond.arrayClass ty := List.forall_mem_cons.mpr ⟨good_of_word rfl, List.forall_mem_append.mpr ⟨fun w h => good_of_word (List.all_eq_true.mp (by decide +kernel) w h), List.forall_mem_append.mpr ⟨gu_X3, List.forall_mem_append.mpr ⟨gd_dm_X3_latest, fun _ h => nomatch h⟩⟩⟩⟩
theorem hi_dm_X3_sameClock_X3 : ∀ w ∈ u_ws RX3 TX3 11, w ∈ ow_dm_X3_sameClock := fun w h => List.mem_cons_of_mem _ (List.mem_append_right _ (List.mem_append_left _ h))
theorem gi_dm_X3_sameClock_0 : GoodIn ow_dm_X3_sameClock (wsV RX3 80 RX3 yX3_latest ow_dm_X3_latest) := goodIn_app (goodIn_of _ (by decide +kernel)) (fun w h => ⟨List.mem_cons_of_mem _ (List.mem_append_right _ (List.mem_append_right _ (List.mem_append_left _ h))), gd_dm_X3_latest w h⟩)
def dj_X3_sameClock_33 (p : Program) (l : Launch) (e : Env) (s : State) (m : MethodId) (args : Array Value) (below : List Frame) (meth : Method) (c : Code) (Q : State → Prop) (A : Nat → Prop) (dC : Nat → ClassId) (dI : Nat → Nat → Nat) (a : Nat → Nat) (ac : Nat → ClassId) (g : Int32 → (St) → Option (Int32 × (St))) (r : Int32 × (St)) : Prop := ∀ (y0 : Int32) (s0 : St) (H : Heap) (locs : List Loc) (ls : Array Slot), g y0 s0 = some r → va_P (dC, dI) vwCl (dw_X3c a ac s0) H → va_D A (dw_X3c a ac s0) → va_S A s.heap H locs → lv_has ls 3 [] → W p l e (headSpec ow_dm_X3_sameClock ({ frames := 1, cells := 0, slots := 0, locals := 27 })).room s m args below meth c H locs 0 0 Q (F0 m 33 ls [.int y0])
def dj_X3_sameClock_32 (p : Program) (l : Launch) (e : Env) (s : State) (m : MethodId) (args : Array Value) (below : List Frame) (meth : Method) (c : Code) (Q : State → Prop) (A : Nat → Prop) (dC : Nat → ClassId) (dI : Nat → Nat → Nat) (a : Nat → Nat) (ac : Nat → ClassId) (g : (St) → Option (Int32 × (St))) (r : Int32 × (St)) : Prop := ∀ (s0 : St) (H : Heap) (locs : List Loc) (ls : Array Slot), g s0 = some r → va_P (dC, dI) vwCl (dw_X3c a ac s0) H → va_D A (dw_X3c a ac s0) → va_S A s.heap H locs → lv_has ls 3 [] → W p l e (headSpec ow_dm_X3_sameClock ({ frames := 1, cells := 0, slots := 0, locals := 27 })).room s m args below meth c H locs 0 0 Q (F0 m 32 ls [])
def dj_X3_sameClock_0 (p : Program) (l : Launch) (e : Env) (s : State) (m : MethodId) (args : Array Value) (below : List Frame) (meth : Method) (c : Code) (Q : State → Prop) (A : Nat → Prop) (dC : Nat → ClassId) (dI : Nat → Nat → Nat) (a : Nat → Nat) (ac : Nat → ClassId) (g : Int32 → (St) → Option (Int32 × (St))) (r : Int32 × (St)) : Prop := ∀ (v0 : Int32) (s0 : St) (H : Heap) (locs : List Loc) (ls : Array Slot), g v0 s0 = some r → va_P (dC, dI) vwCl (dw_X3c a ac s0) H → va_D A (dw_X3c a ac s0) → va_S A s.heap H locs → lv_has ls 3 [(0, .ref (a 0)), (1, .int v0)] → W p l e (headSpec ow_dm_X3_sameClock ({ frames := 1, cells := 0, slots := 0, locals := 27 })).room s m args below meth c H locs 0 0 Q (F0 m 0 ls [])
set_option maxHeartbeats 40000000 in
set_option maxRecDepth 100000 in
theorem db_X3_sameClock_33 {p : Program} {l : Launch} {e : Env} {s : State} {m : MethodId} {args : Array Value} {below : List Frame} {meth : Method} {c : Code} {Q : State → Prop} {A : Nat → Prop} {dC : Nat → ClassId} {dI : Nat → Nat → Nat} {a : Nat → Nat} {ac : Nat → ClassId} {n : Nat} {r : Int32 × (St)} (C : nd_C p l s m args c A (dC, dI) cX3_sameClock 3 RX3 ow_dm_X3_sameClock (dk_X3c ac)) (K : nd_Ki p l e (headSpec ow_dm_X3_sameClock ({ frames := 1, cells := 0, slots := 0, locals := 27 })).room s m args below meth c Q A (dC, dI) cX3_sameClock .int (St) (dw_X3c a ac) r) : dj_X3_sameClock_33 p l e s m args below meth c Q A dC dI a ac (df_X3_sameClock_33 n) r := by
  obtain ⟨hlt, hx, hb, hml, hown, hts, hN, hA, hK⟩ := id C
  intro y0 s0 H locs ls h hP hD hS hl
  unfold df_X3_sameClock_33 at h
  exact K _ _ _ _ _ _ dX3_sameClock_33 rfl (Option.some.inj h).symm hP hD hS
set_option maxHeartbeats 40000000 in
set_option maxRecDepth 100000 in
theorem db_X3_sameClock_32 {p : Program} {l : Launch} {e : Env} {s : State} {m : MethodId} {args : Array Value} {below : List Frame} {meth : Method} {c : Code} {Q : State → Prop} {A : Nat → Prop} {dC : Nat → ClassId} {dI : Nat → Nat → Nat} {a : Nat → Nat} {ac : Nat → ClassId} {n : Nat} {r : Int32 × (St)} (C : nd_C p l s m args c A (dC, dI) cX3_sameClock 3 RX3 ow_dm_X3_sameClock (dk_X3c ac)) (K : nd_Ki p l e (headSpec ow_dm_X3_sameClock ({ frames := 1, cells := 0, slots := 0, locals := 27 })).room s m args below meth c Q A (dC, dI) cX3_sameClock .int (St) (dw_X3c a ac) r) : dj_X3_sameClock_32 p l e s m args below meth c Q A dC dI a ac (df_X3_sameClock_32 n) r := by
  obtain ⟨hlt, hx, hb, hml, hown, hts, hN, hA, hK⟩ := id C
  intro s0 H locs ls h hP hD hS hl
  unfold df_X3_sameClock_32 at h
  refine lv_iconst (v := 0) hx hb dX3_sameClock_32 (by decide) ?_
  exact (db_X3_sameClock_33 C K) (0) s0 _ _ _ h hP hD hS (lv_sub hl [] rfl)
set_option maxHeartbeats 40000000 in
set_option maxRecDepth 100000 in
theorem db_X3_sameClock_0 {p : Program} {l : Launch} {e : Env} {s : State} {m : MethodId} {args : Array Value} {below : List Frame} {meth : Method} {c : Code} {Q : State → Prop} {A : Nat → Prop} {dC : Nat → ClassId} {dI : Nat → Nat → Nat} {a : Nat → Nat} {ac : Nat → ClassId} {n : Nat} {r : Int32 × (St)} (C : nd_C p l s m args c A (dC, dI) cX3_sameClock 3 RX3 ow_dm_X3_sameClock (dk_X3c ac)) (K : nd_Ki p l e (headSpec ow_dm_X3_sameClock ({ frames := 1, cells := 0, slots := 0, locals := 27 })).room s m args below meth c Q A (dC, dI) cX3_sameClock .int (St) (dw_X3c a ac) r) : dj_X3_sameClock_0 p l e s m args below meth c Q A dC dI a ac (df_X3_sameClock_0 n) r := by
  obtain ⟨hlt, hx, hb, hml, hown, hts, hN, hA, hK⟩ := id C
  intro v0 s0 H locs ls h hP hD hS hl
  unfold df_X3_sameClock_0 at h
  refine lv_aload_n hx hb dX3_sameClock_0 rfl (lv_at hl 0 rfl) ?_
  refine lv_iconst (v := 3) hx hb dX3_sameClock_1 (by decide) ?_
  refine lv_lconst (v := 1) hx hb dX3_sameClock_2 (by decide) ?_
  refine lv_iload_n hx hb dX3_sameClock_3 rfl (lv_at hl 1 rfl) ?_
  obtain ⟨q1, s2, hq, h⟩ := nd_b2_e h
  have hPc := hP
  have hDc := hD
  have hKc := hK
  have hFc := nd_rs hD hS hA
  refine nd_cVi (As := [.int 3, .long 1, .int v0]) (rest := []) (q := q1) (w' := dw_X3c a ac s2) ⟨hx, hb, hml, hown, hts⟩ (fun sz => dm_X3_latest l hlt dC dI a ac n (3) (1) (v0) s0 hq sz) (cwV 3 hts gi_dm_X3_sameClock_0 rfl rfl rfl (by decide +kernel) ⟨Nat.le_of_ble_eq_true rfl, Nat.le_of_ble_eq_true rfl⟩) hPc hDc hKc hS hA hN (va_recv hKc hPc (ci := 4) (q0 := 0) rfl rfl) rfl hl.1 rfl (Nat.le_of_ble_eq_true rfl) dX3_sameClock_4 (fun H locs hP1 hD1 hk1 hS => ?_)
  have hP := hP1
  have hD := hD1.weaken (fun k q _ h => hFc q.1 h)
  refine lv_istore_n (lv' := [(2, .int q1), (0, .ref (a 0)), (1, .int v0)]) hx hb dX3_sameClock_7 rfl hl (by decide) rfl (fun ls hl => ?_)
  refine lv_iload_n hx hb dX3_sameClock_8 rfl (lv_at hl 0 rfl) ?_
  refine lv_if_lt (tgt := 32) hx hb dX3_sameClock_9 (by decide) (fun c4 => ?_) (fun c4 => ?_)
  · have h := nd_pos h c4
    exact (db_X3_sameClock_32 C K)  s2 _ _ _ h hP hD hS (lv_sub hl [] rfl)
  · have h := nd_neg h c4
    refine lv_aload_n hx hb dX3_sameClock_12 rfl (lv_at hl 1 rfl) ?_
    refine va_get (D := (dC, dI)) (ci := 4) (v := .ref (a 3)) (C := RX3) (T := TX3) (N := 11) hx hb hts hi_dm_X3_sameClock_X3 hown hK hP 0 rfl rfl 2 (by decide) (hts (.fieldLink RX3 17 "TimeMachine$Events" "a" "[J") (List.mem_of_getElem? (i := 5) rfl)) (fun _ h9 => h9) rfl dX3_sameClock_13 ?_
    refine lv_iload_n hx hb dX3_sameClock_16 rfl (lv_at hl 0 rfl) ?_
    obtain ⟨i5, h⟩ := nd_ck_e h
    refine va_lald (i := q1) hx hb hK hP 3 2 rfl rfl i5 dX3_sameClock_17 ?_
    refine lv_aload_n hx hb dX3_sameClock_18 rfl (lv_at hl 1 rfl) ?_
    refine va_get (D := (dC, dI)) (ci := 4) (v := .ref (a 3)) (C := RX3) (T := TX3) (N := 11) hx hb hts hi_dm_X3_sameClock_X3 hown hK hP 0 rfl rfl 2 (by decide) (hts (.fieldLink RX3 17 "TimeMachine$Events" "a" "[J") (List.mem_of_getElem? (i := 5) rfl)) (fun _ h9 => h9) rfl dX3_sameClock_19 ?_
    refine lv_iload_n hx hb dX3_sameClock_22 rfl (lv_at hl 2 rfl) ?_
    obtain ⟨i6, h⟩ := nd_ck_e h
    refine va_lald (i := v0) hx hb hK hP 3 2 rfl rfl i6 dX3_sameClock_23 ?_
    refine W.lcmp hx hb dX3_sameClock_24 ?_
    refine lv_if_ne (tgt := 32) hx hb dX3_sameClock_25 (by decide) (fun c7 => ?_) (fun c7 => ?_)
    · have h := nd_neg h c7
      exact (db_X3_sameClock_32 C K)  s2 _ _ _ h hP hD hS (lv_sub hl [] rfl)
    · have h := nd_pos h c7
      refine lv_iconst (v := 1) hx hb dX3_sameClock_28 (by decide) ?_
      refine lv_goto (tgt := 33) hx hb dX3_sameClock_29 (by decide) ?_
      exact (db_X3_sameClock_33 C K) (1) s2 _ _ _ h hP hD hS (lv_sub hl [] rfl)
set_option maxHeartbeats 40000000 in
set_option maxRecDepth 100000 in
theorem dm_X3_sameClock (l : Launch) (hlt : l.stackTraces = false) (dC : Nat → ClassId) (dI : Nat → Nat → Nat) (a : Nat → Nat) (ac : Nat → ClassId) (n : Nat) (v0 : Int32) (s0 : St) {r : Int32 × (St)} (h : df_X3_sameClock n v0 s0 = some r) (sz : Nat) : Met l yX3_sameClock ow_dm_X3_sameClock ({ frames := 1, cells := 0, slots := 0, locals := 27 }) (va_Pc [.ref (a 0), .int v0] (fun U => U.heap.size = sz ∧ va_P (dC, dI) vwCl (dw_X3c a ac s0) U.heap ∧ va_K (dC, dI) vwCl (dk_X3c ac) U ∧ va_D (fun _ => True) (dw_X3c a ac s0) ∧ nv_E (va_A (dw_X3c a ac s0) sz) U)) (va_Qi (fun x _ => x = r.1) (fun (_ : Unit) t => va_P (dC, dI) vwCl (dw_X3c a ac r.2) t.heap ∧ va_K (dC, dI) vwCl (dk_X3c ac) t ∧ va_D (va_A (dw_X3c a ac s0) sz) (dw_X3c a ac r.2)) (va_A (dw_X3c a ac s0) sz)) 0 0 (va_A (dw_X3c a ac s0) sz) := by
  refine Met.ofW (cc := cX3_sameClock) (maxL := 3) (ret := (some .int)) (by decide) rfl ?_
  intro p e s m args below meth c s₁ B hml hv
  obtain ⟨rfl, hsz, hP, hK, hD0, hN⟩ := hv
  have hx := B.exec
  have hb := B.bytes
  have hr := B.returns
  have hts := atoms_spec (ws := ow_dm_X3_sameClock) B.pre
  have hown : s.vm.findClass RX3 = some m.cls := findClass_of_methodNamed B.named
  have hlocks := B.notSynchronized
  subst hsz
  have hD := hD0.self (sz := s.heap.size)
  generalize hAe : va_A (dw_X3c a ac s0) s.heap.size = A at hD hN ⊢
  have hA : ∀ q : Nat, s.heap.size ≤ q → A q := fun q h => by rw [← hAe]; exact Or.inr h
  have hl := lv_entry ([.ref (a 0), .int v0]) (n := 3) (Nat.le_of_ble_eq_true rfl)
  rw [lg_entry_eq]
  generalize (lg_sl ([.ref (a 0), .int v0]) ++ List.replicate (3 - (lg_sl ([.ref (a 0), .int v0])).length) Slot.unset).toArray = ls at hl ⊢
  have hl : lv_has ls 3 [(0, .ref (a 0)), (1, .int v0)] := hl
  exact db_X3_sameClock_0 (dC := dC) (dI := dI) (a := a) (ac := ac) (n := n) (r := r) ⟨hlt, hx, hb, hml, hown, hts, hN, hA, hK⟩ (fun pc v τ H locs ls d z er hP hD hS => by subst er; exact W.zret (v := v) hx hb hr z (fun t ht hW => ⟨⟨v, (), rfl, rfl, by rw [ht]; exact hP, va_K.moved hW.alike hK, hD⟩, hS.F ht⟩) hS.2.2 d) v0 s0 _ _ _ h hP hD va_S.rf (lv_sub hl [0, 1] rfl)
def ow_dm_X3_sameTyped : List Cond := .code yX3_sameTyped cX3_sameTyped 4 (some .int) :: ([.fieldLink RX3 20 "TimeMachine$Events" "b" "[I", .fieldLink RX3 9 "TimeMachine$Events" "kind" "[I", .methodLink RX3 62 yX3_bringsSame, .instanceMethod yX3_bringsSame, .selects RX3 yX3_bringsSame yX3_bringsSame, .initialized RX3] ++ (u_ws RX3 TX3 11 ++ (ow_dm_X3_bringsSame ++ [])))
theorem gd_dm_X3_sameTyped : ∀ w ∈ ow_dm_X3_sameTyped, (w.onTables && w.keeps) = true ∨ ∃ ty, w = Cond.arrayClass ty := List.forall_mem_cons.mpr ⟨good_of_word rfl, List.forall_mem_append.mpr ⟨fun w h => good_of_word (List.all_eq_true.mp (by decide +kernel) w h), List.forall_mem_append.mpr ⟨gu_X3, List.forall_mem_append.mpr ⟨gd_dm_X3_bringsSame, fun _ h => nomatch h⟩⟩⟩⟩
theorem hi_dm_X3_sameTyped_X3 : ∀ w ∈ u_ws RX3 TX3 11, w ∈ ow_dm_X3_sameTyped := fun w h => List.mem_cons_of_mem _ (List.mem_append_right _ (List.mem_append_left _ h))
theorem gi_dm_X3_sameTyped_0 : GoodIn ow_dm_X3_sameTyped (wsV RX3 62 RX3 yX3_bringsSame ow_dm_X3_bringsSame) := goodIn_app (goodIn_of _ (by decide +kernel)) (fun w h => ⟨List.mem_cons_of_mem _ (List.mem_append_right _ (List.mem_append_right _ (List.mem_append_left _ h))), gd_dm_X3_bringsSame w h⟩)
def dj_X3_sameTyped_56 (p : Program) (l : Launch) (e : Env) (s : State) (m : MethodId) (args : Array Value) (below : List Frame) (meth : Method) (c : Code) (Q : State → Prop) (A : Nat → Prop) (dC : Nat → ClassId) (dI : Nat → Nat → Nat) (a : Nat → Nat) (ac : Nat → ClassId) (g : (St) → Option (Int32 × (St))) (r : Int32 × (St)) : Prop := ∀ (s0 : St) (H : Heap) (locs : List Loc) (ls : Array Slot), g s0 = some r → va_P (dC, dI) vwCl (dw_X3c a ac s0) H → va_D A (dw_X3c a ac s0) → va_S A s.heap H locs → lv_has ls 4 [] → W p l e (headSpec ow_dm_X3_sameTyped ({ frames := 1, cells := 0, slots := 0, locals := 22 })).room s m args below meth c H locs 0 0 Q (F0 m 56 ls [])
def dj_X3_sameTyped_50 (p : Program) (l : Launch) (e : Env) (s : State) (m : MethodId) (args : Array Value) (below : List Frame) (meth : Method) (c : Code) (Q : State → Prop) (A : Nat → Prop) (dC : Nat → ClassId) (dI : Nat → Nat → Nat) (a : Nat → Nat) (ac : Nat → ClassId) (g : Int32 → Int32 → Int32 → (St) → Option (Int32 × (St))) (r : Int32 × (St)) : Prop := ∀ (x1 : Int32) (x2 : Int32) (x3 : Int32) (s0 : St) (H : Heap) (locs : List Loc) (ls : Array Slot), g x1 x2 x3 s0 = some r → va_P (dC, dI) vwCl (dw_X3c a ac s0) H → va_D A (dw_X3c a ac s0) → va_S A s.heap H locs → lv_has ls 4 [(0, .ref (a 0)), (1, .int x1), (2, .int x2), (3, .int x3)] → W p l e (headSpec ow_dm_X3_sameTyped ({ frames := 1, cells := 0, slots := 0, locals := 22 })).room s m args below meth c H locs 0 0 Q (F0 m 50 ls [])
def dj_X3_sameTyped_6 (p : Program) (l : Launch) (e : Env) (s : State) (m : MethodId) (args : Array Value) (below : List Frame) (meth : Method) (c : Code) (Q : State → Prop) (A : Nat → Prop) (dC : Nat → ClassId) (dI : Nat → Nat → Nat) (a : Nat → Nat) (ac : Nat → ClassId) (g : Int32 → Int32 → Int32 → (St) → Option (Int32 × (St))) (r : Int32 × (St)) : Prop := ∀ (x1 : Int32) (x2 : Int32) (x3 : Int32) (s0 : St) (H : Heap) (locs : List Loc) (ls : Array Slot), g x1 x2 x3 s0 = some r → va_P (dC, dI) vwCl (dw_X3c a ac s0) H → va_D A (dw_X3c a ac s0) → va_S A s.heap H locs → lv_has ls 4 [(0, .ref (a 0)), (1, .int x1), (2, .int x2), (3, .int x3)] → W p l e (headSpec ow_dm_X3_sameTyped ({ frames := 1, cells := 0, slots := 0, locals := 22 })).room s m args below meth c H locs 0 0 Q (F0 m 6 ls [])
def dj_X3_sameTyped_0 (p : Program) (l : Launch) (e : Env) (s : State) (m : MethodId) (args : Array Value) (below : List Frame) (meth : Method) (c : Code) (Q : State → Prop) (A : Nat → Prop) (dC : Nat → ClassId) (dI : Nat → Nat → Nat) (a : Nat → Nat) (ac : Nat → ClassId) (g : Int32 → (St) → Option (Int32 × (St))) (r : Int32 × (St)) : Prop := ∀ (v0 : Int32) (s0 : St) (H : Heap) (locs : List Loc) (ls : Array Slot), g v0 s0 = some r → va_P (dC, dI) vwCl (dw_X3c a ac s0) H → va_D A (dw_X3c a ac s0) → va_S A s.heap H locs → lv_has ls 4 [(0, .ref (a 0)), (1, .int v0)] → W p l e (headSpec ow_dm_X3_sameTyped ({ frames := 1, cells := 0, slots := 0, locals := 22 })).room s m args below meth c H locs 0 0 Q (F0 m 0 ls [])
set_option maxHeartbeats 40000000 in
set_option maxRecDepth 100000 in
theorem db_X3_sameTyped_56 {p : Program} {l : Launch} {e : Env} {s : State} {m : MethodId} {args : Array Value} {below : List Frame} {meth : Method} {c : Code} {Q : State → Prop} {A : Nat → Prop} {dC : Nat → ClassId} {dI : Nat → Nat → Nat} {a : Nat → Nat} {ac : Nat → ClassId} {n : Nat} {r : Int32 × (St)} (C : nd_C p l s m args c A (dC, dI) cX3_sameTyped 4 RX3 ow_dm_X3_sameTyped (dk_X3c ac)) (K : nd_Ki p l e (headSpec ow_dm_X3_sameTyped ({ frames := 1, cells := 0, slots := 0, locals := 22 })).room s m args below meth c Q A (dC, dI) cX3_sameTyped .int (St) (dw_X3c a ac) r) : dj_X3_sameTyped_56 p l e s m args below meth c Q A dC dI a ac (df_X3_sameTyped_56 n) r := by
  obtain ⟨hlt, hx, hb, hml, hown, hts, hN, hA, hK⟩ := id C
  intro s0 H locs ls h hP hD hS hl
  unfold df_X3_sameTyped_56 at h
  refine lv_iconst (v := 0) hx hb dX3_sameTyped_56 (by decide) ?_
  exact K _ _ _ _ _ _ dX3_sameTyped_57 rfl (Option.some.inj h).symm hP hD hS
set_option maxHeartbeats 40000000 in
set_option maxRecDepth 100000 in
theorem db_X3_sameTyped_50 {p : Program} {l : Launch} {e : Env} {s : State} {m : MethodId} {args : Array Value} {below : List Frame} {meth : Method} {c : Code} {Q : State → Prop} {A : Nat → Prop} {dC : Nat → ClassId} {dI : Nat → Nat → Nat} {a : Nat → Nat} {ac : Nat → ClassId} {n : Nat} {r : Int32 × (St)} (C : nd_C p l s m args c A (dC, dI) cX3_sameTyped 4 RX3 ow_dm_X3_sameTyped (dk_X3c ac)) (K : nd_Ki p l e (headSpec ow_dm_X3_sameTyped ({ frames := 1, cells := 0, slots := 0, locals := 22 })).room s m args below meth c Q A (dC, dI) cX3_sameTyped .int (St) (dw_X3c a ac) r) {g6 : Int32 → Int32 → Int32 → (St) → Option (Int32 × (St))} (J6 : dj_X3_sameTyped_6 p l e s m args below meth c Q A dC dI a ac g6 r) : dj_X3_sameTyped_50 p l e s m args below meth c Q A dC dI a ac (df_X3_sameTyped_50 n g6) r := by
  obtain ⟨hlt, hx, hb, hml, hown, hts, hN, hA, hK⟩ := id C
  intro x1 x2 x3 s0 H locs ls h hP hD hS hl
  unfold df_X3_sameTyped_50 at h
  obtain ⟨z8, ez8, h⟩ := nd_let_e h
  refine lv_iinc (v := z8) (lv' := [(3, .int z8), (0, .ref (a 0)), (1, .int x1), (2, .int x2)]) hx hb dX3_sameTyped_50 hl (k := 3) rfl (by rw [ez8]) (by decide) rfl (fun ls hl => ?_)
  refine lv_goto (tgt := 6) hx hb dX3_sameTyped_53 (by decide) ?_
  exact (J6) (x1) (x2) (z8) s0 _ _ _ h hP hD hS (lv_sub hl [1, 2, 3, 0] rfl)
set_option maxHeartbeats 40000000 in
set_option maxRecDepth 100000 in
theorem dB_X3_sameTyped_6 {p : Program} {l : Launch} {e : Env} {s : State} {m : MethodId} {args : Array Value} {below : List Frame} {meth : Method} {c : Code} {Q : State → Prop} {A : Nat → Prop} {dC : Nat → ClassId} {dI : Nat → Nat → Nat} {a : Nat → Nat} {ac : Nat → ClassId} {n : Nat} {r : Int32 × (St)} (C : nd_C p l s m args c A (dC, dI) cX3_sameTyped 4 RX3 ow_dm_X3_sameTyped (dk_X3c ac)) (K : nd_Ki p l e (headSpec ow_dm_X3_sameTyped ({ frames := 1, cells := 0, slots := 0, locals := 22 })).room s m args below meth c Q A (dC, dI) cX3_sameTyped .int (St) (dw_X3c a ac) r) {g6 : Int32 → Int32 → Int32 → (St) → Option (Int32 × (St))} (J6 : dj_X3_sameTyped_6 p l e s m args below meth c Q A dC dI a ac g6 r) : dj_X3_sameTyped_6 p l e s m args below meth c Q A dC dI a ac (dF_X3_sameTyped_6 n g6) r := by
  obtain ⟨hlt, hx, hb, hml, hown, hts, hN, hA, hK⟩ := id C
  intro x1 x2 x3 s0 H locs ls h hP hD hS hl
  unfold dF_X3_sameTyped_6 at h
  refine lv_iload_n hx hb dX3_sameTyped_6 rfl (lv_at hl 3 rfl) ?_
  refine lv_if_lt (tgt := 56) hx hb dX3_sameTyped_7 (by decide) (fun c2 => ?_) (fun c2 => ?_)
  · have h := nd_pos h c2
    exact (db_X3_sameTyped_56 C K)  s0 _ _ _ h hP hD hS (lv_sub hl [] rfl)
  · have h := nd_neg h c2
    refine lv_iload_n hx hb dX3_sameTyped_10 rfl (lv_at hl 2 rfl) ?_
    refine lv_bipush (v := 20) hx hb dX3_sameTyped_11 (by decide) ?_
    refine lv_icmp_ge (tgt := 56) hx hb dX3_sameTyped_13 (by decide) (fun c3 => ?_) (fun c3 => ?_)
    · have h := nd_pos h c3
      exact (db_X3_sameTyped_56 C K)  s0 _ _ _ h hP hD hS (lv_sub hl [] rfl)
    · have h := nd_neg h c3
      refine lv_aload_n hx hb dX3_sameTyped_16 rfl (lv_at hl 0 rfl) ?_
      refine va_get (D := (dC, dI)) (ci := 4) (v := .ref (a 4)) (C := RX3) (T := TX3) (N := 11) hx hb hts hi_dm_X3_sameTyped_X3 hown hK hP 0 rfl rfl 3 (by decide) (hts (.fieldLink RX3 20 "TimeMachine$Events" "b" "[I") (List.mem_of_getElem? (i := 1) rfl)) (fun _ h9 => h9) rfl dX3_sameTyped_17 ?_
      refine lv_iload_n hx hb dX3_sameTyped_20 rfl (lv_at hl 1 rfl) ?_
      obtain ⟨i4, h⟩ := nd_ck_e h
      refine va_iald (i := x1) hx hb hK hP 4 3 rfl rfl i4 dX3_sameTyped_21 ?_
      refine lv_iconst (v := 1) hx hb dX3_sameTyped_22 (by decide) ?_
      refine lv_icmp_le (tgt := 56) hx hb dX3_sameTyped_23 (by decide) (fun c5 => ?_) (fun c5 => ?_)
      · have h := nd_pos h c5
        exact (db_X3_sameTyped_56 C K)  s0 _ _ _ h hP hD hS (lv_sub hl [] rfl)
      · have h := nd_neg h c5
        refine lv_aload_n hx hb dX3_sameTyped_26 rfl (lv_at hl 0 rfl) ?_
        refine va_get (D := (dC, dI)) (ci := 4) (v := .ref (a 1)) (C := RX3) (T := TX3) (N := 11) hx hb hts hi_dm_X3_sameTyped_X3 hown hK hP 0 rfl rfl 0 (by decide) (hts (.fieldLink RX3 9 "TimeMachine$Events" "kind" "[I") (List.mem_of_getElem? (i := 2) rfl)) (fun _ h9 => h9) rfl dX3_sameTyped_27 ?_
        refine lv_iload_n hx hb dX3_sameTyped_30 rfl (lv_at hl 3 rfl) ?_
        obtain ⟨i6, h⟩ := nd_ck_e h
        refine va_iald (i := x3) hx hb hK hP 1 0 rfl rfl i6 dX3_sameTyped_31 ?_
        refine lv_iconst (v := 1) hx hb dX3_sameTyped_32 (by decide) ?_
        refine lv_icmp_ne (tgt := 50) hx hb dX3_sameTyped_33 (by decide) (fun c7 => ?_) (fun c7 => ?_)
        · have h := nd_neg h c7
          exact (db_X3_sameTyped_50 C K J6) (x1) (x2) (x3) s0 _ _ _ h hP hD hS (lv_sub hl [0, 1, 2, 3] rfl)
        · have h := nd_pos h c7
          obtain ⟨z9, ez9, h⟩ := nd_let_e h
          refine lv_iinc (v := z9) (lv' := [(2, .int z9), (0, .ref (a 0)), (1, .int x1), (3, .int x3)]) hx hb dX3_sameTyped_36 hl (k := 2) rfl (by rw [ez9]) (by decide) rfl (fun ls hl => ?_)
          refine lv_aload_n hx hb dX3_sameTyped_39 rfl (lv_at hl 1 rfl) ?_
          refine lv_iload_n hx hb dX3_sameTyped_40 rfl (lv_at hl 2 rfl) ?_
          refine lv_iload_n hx hb dX3_sameTyped_41 rfl (lv_at hl 3 rfl) ?_
          obtain ⟨q10, s11, hq, h⟩ := nd_b2_e h
          have hPc := hP
          have hDc := hD
          have hKc := hK
          have hFc := nd_rs hD hS hA
          refine nd_cVi (As := [.int x1, .int x3]) (rest := []) (q := q10) (w' := dw_X3c a ac s11) ⟨hx, hb, hml, hown, hts⟩ (fun sz => dm_X3_bringsSame l hlt dC dI a ac n (x1) (x3) s0 hq sz) (cwV 2 hts gi_dm_X3_sameTyped_0 rfl rfl rfl (by decide +kernel) ⟨Nat.le_of_ble_eq_true rfl, Nat.le_of_ble_eq_true rfl⟩) hPc hDc hKc hS hA hN (va_recv hKc hPc (ci := 4) (q0 := 0) rfl rfl) rfl hl.1 rfl (Nat.le_of_ble_eq_true rfl) dX3_sameTyped_42 (fun H locs hP1 hD1 hk1 hS => ?_)
          have hP := hP1
          have hD := hD1.weaken (fun k q _ h => hFc q.1 h)
          refine lv_if_eq (tgt := 50) hx hb dX3_sameTyped_45 (by decide) (fun c13 => ?_) (fun c13 => ?_)
          · have h := nd_pos h c13
            exact (db_X3_sameTyped_50 C K J6) (x1) (z9) (x3) s11 _ _ _ h hP hD hS (lv_sub hl [1, 2, 0, 3] rfl)
          · have h := nd_neg h c13
            refine lv_iload_n hx hb dX3_sameTyped_48 rfl (lv_at hl 0 rfl) ?_
            exact K _ _ _ _ _ _ dX3_sameTyped_49 rfl (Option.some.inj h).symm hP hD hS
set_option maxHeartbeats 40000000 in
set_option maxRecDepth 100000 in
theorem db_X3_sameTyped_6 {p : Program} {l : Launch} {e : Env} {s : State} {m : MethodId} {args : Array Value} {below : List Frame} {meth : Method} {c : Code} {Q : State → Prop} {A : Nat → Prop} {dC : Nat → ClassId} {dI : Nat → Nat → Nat} {a : Nat → Nat} {ac : Nat → ClassId} {n : Nat} {r : Int32 × (St)} (C : nd_C p l s m args c A (dC, dI) cX3_sameTyped 4 RX3 ow_dm_X3_sameTyped (dk_X3c ac)) (K : nd_Ki p l e (headSpec ow_dm_X3_sameTyped ({ frames := 1, cells := 0, slots := 0, locals := 22 })).room s m args below meth c Q A (dC, dI) cX3_sameTyped .int (St) (dw_X3c a ac) r) (k : Nat) : dj_X3_sameTyped_6 p l e s m args below meth c Q A dC dI a ac (df_X3_sameTyped_6 n k) r := by
  induction k with
  | zero => intro x1 x2 x3 s0 H locs ls h; exact nomatch (show (none : Option (Int32 × (St))) = some r from h)
  | succ k ih => exact dB_X3_sameTyped_6 C K ih
set_option maxHeartbeats 40000000 in
set_option maxRecDepth 100000 in
theorem db_X3_sameTyped_0 {p : Program} {l : Launch} {e : Env} {s : State} {m : MethodId} {args : Array Value} {below : List Frame} {meth : Method} {c : Code} {Q : State → Prop} {A : Nat → Prop} {dC : Nat → ClassId} {dI : Nat → Nat → Nat} {a : Nat → Nat} {ac : Nat → ClassId} {n : Nat} {r : Int32 × (St)} (C : nd_C p l s m args c A (dC, dI) cX3_sameTyped 4 RX3 ow_dm_X3_sameTyped (dk_X3c ac)) (K : nd_Ki p l e (headSpec ow_dm_X3_sameTyped ({ frames := 1, cells := 0, slots := 0, locals := 22 })).room s m args below meth c Q A (dC, dI) cX3_sameTyped .int (St) (dw_X3c a ac) r) : dj_X3_sameTyped_0 p l e s m args below meth c Q A dC dI a ac (df_X3_sameTyped_0 n) r := by
  obtain ⟨hlt, hx, hb, hml, hown, hts, hN, hA, hK⟩ := id C
  intro v0 s0 H locs ls h hP hD hS hl
  unfold df_X3_sameTyped_0 at h
  refine lv_iconst (v := 0) hx hb dX3_sameTyped_0 (by decide) ?_
  refine lv_istore_n (lv' := [(2, .int 0), (0, .ref (a 0)), (1, .int v0)]) hx hb dX3_sameTyped_1 rfl hl (by decide) rfl (fun ls hl => ?_)
  refine lv_iload_n hx hb dX3_sameTyped_2 rfl (lv_at hl 2 rfl) ?_
  refine lv_iconst (v := 1) hx hb dX3_sameTyped_3 (by decide) ?_
  refine lv_isub hx hb dX3_sameTyped_4 ?_
  refine lv_topi (fun z1 ez1 => ?_)
  have h := nd_at h ez1
  refine lv_istore_n (lv' := [(3, .int z1), (2, .int 0), (0, .ref (a 0)), (1, .int v0)]) hx hb dX3_sameTyped_5 rfl hl (by decide) rfl (fun ls hl => ?_)
  exact (db_X3_sameTyped_6 C K n) (v0) (0) (z1) s0 _ _ _ h hP hD hS (lv_sub hl [2, 3, 1, 0] rfl)
set_option maxHeartbeats 40000000 in
set_option maxRecDepth 100000 in
theorem dm_X3_sameTyped (l : Launch) (hlt : l.stackTraces = false) (dC : Nat → ClassId) (dI : Nat → Nat → Nat) (a : Nat → Nat) (ac : Nat → ClassId) (n : Nat) (v0 : Int32) (s0 : St) {r : Int32 × (St)} (h : df_X3_sameTyped n v0 s0 = some r) (sz : Nat) : Met l yX3_sameTyped ow_dm_X3_sameTyped ({ frames := 1, cells := 0, slots := 0, locals := 22 }) (va_Pc [.ref (a 0), .int v0] (fun U => U.heap.size = sz ∧ va_P (dC, dI) vwCl (dw_X3c a ac s0) U.heap ∧ va_K (dC, dI) vwCl (dk_X3c ac) U ∧ va_D (fun _ => True) (dw_X3c a ac s0) ∧ nv_E (va_A (dw_X3c a ac s0) sz) U)) (va_Qi (fun x _ => x = r.1) (fun (_ : Unit) t => va_P (dC, dI) vwCl (dw_X3c a ac r.2) t.heap ∧ va_K (dC, dI) vwCl (dk_X3c ac) t ∧ va_D (va_A (dw_X3c a ac s0) sz) (dw_X3c a ac r.2)) (va_A (dw_X3c a ac s0) sz)) 0 0 (va_A (dw_X3c a ac s0) sz) := by
  refine Met.ofW (cc := cX3_sameTyped) (maxL := 4) (ret := (some .int)) (by decide) rfl ?_
  intro p e s m args below meth c s₁ B hml hv
  obtain ⟨rfl, hsz, hP, hK, hD0, hN⟩ := hv
  have hx := B.exec
  have hb := B.bytes
  have hr := B.returns
  have hts := atoms_spec (ws := ow_dm_X3_sameTyped) B.pre
  have hown : s.vm.findClass RX3 = some m.cls := findClass_of_methodNamed B.named
  have hlocks := B.notSynchronized
  subst hsz
  have hD := hD0.self (sz := s.heap.size)
  generalize hAe : va_A (dw_X3c a ac s0) s.heap.size = A at hD hN ⊢
  have hA : ∀ q : Nat, s.heap.size ≤ q → A q := fun q h => by rw [← hAe]; exact Or.inr h
  have hl := lv_entry ([.ref (a 0), .int v0]) (n := 4) (Nat.le_of_ble_eq_true rfl)
  rw [lg_entry_eq]
  generalize (lg_sl ([.ref (a 0), .int v0]) ++ List.replicate (4 - (lg_sl ([.ref (a 0), .int v0])).length) Slot.unset).toArray = ls at hl ⊢
  have hl : lv_has ls 4 [(0, .ref (a 0)), (1, .int v0)] := hl
  exact db_X3_sameTyped_0 (dC := dC) (dI := dI) (a := a) (ac := ac) (n := n) (r := r) ⟨hlt, hx, hb, hml, hown, hts, hN, hA, hK⟩ (fun pc v τ H locs ls d z er hP hD hS => by subst er; exact W.zret (v := v) hx hb hr z (fun t ht hW => ⟨⟨v, (), rfl, rfl, by rw [ht]; exact hP, va_K.moved hW.alike hK, hD⟩, hS.F ht⟩) hS.2.2 d) v0 s0 _ _ _ h hP hD va_S.rf (lv_sub hl [0, 1] rfl)
def ow_dm_X3_putEntry : List Cond := .code yX3_putEntry cX3_putEntry 5 none :: ([.methodLink RX3 66 yX3_difference, .instanceMethod yX3_difference, .selects RX3 yX3_difference yX3_difference, .initialized RX3, .fieldLink RX3 9 "TimeMachine$Events" "kind" "[I", .fieldLink RX3 17 "TimeMachine$Events" "a" "[J", .methodLink RX3 59 yX3_putByte, .instanceMethod yX3_putByte, .selects RX3 yX3_putByte yX3_putByte, .methodLink RX3 76 yX3_putBytes, .instanceMethod yX3_putBytes, .selects RX3 yX3_putBytes yX3_putBytes, .methodLink RX3 47 yX3_putVarint, .instanceMethod yX3_putVarint, .selects RX3 yX3_putVarint yX3_putVarint, .fieldLink RX3 20 "TimeMachine$Events" "b" "[I", .methodLink RX3 73 yX3_sameClock, .instanceMethod yX3_sameClock, .selects RX3 yX3_sameClock yX3_sameClock, .methodLink RX3 70 yX3_sameTyped, .instanceMethod yX3_sameTyped, .selects RX3 yX3_sameTyped yX3_sameTyped] ++ (u_ws RX3 TX3 11 ++ (ow_dm_X3_difference ++ (ow_dm_X3_putByte ++ (ow_dm_X3_putBytes ++ (ow_dm_X3_putVarint ++ (ow_dm_X3_sameClock ++ (ow_dm_X3_sameTyped ++ []))))))))
theorem gd_dm_X3_putEntry : ∀ w ∈ ow_dm_X3_putEntry, (w.onTables && w.keeps) = true ∨ ∃ ty, w = Cond.arrayClass ty := List.forall_mem_cons.mpr ⟨good_of_word rfl, List.forall_mem_append.mpr ⟨fun w h => good_of_word (List.all_eq_true.mp (by decide +kernel) w h), List.forall_mem_append.mpr ⟨gu_X3, List.forall_mem_append.mpr ⟨gd_dm_X3_difference, List.forall_mem_append.mpr ⟨gd_dm_X3_putByte, List.forall_mem_append.mpr ⟨gd_dm_X3_putBytes, List.forall_mem_append.mpr ⟨gd_dm_X3_putVarint, List.forall_mem_append.mpr ⟨gd_dm_X3_sameClock, List.forall_mem_append.mpr ⟨gd_dm_X3_sameTyped, fun _ h => nomatch h⟩⟩⟩⟩⟩⟩⟩⟩⟩
theorem hi_dm_X3_putEntry_X3 : ∀ w ∈ u_ws RX3 TX3 11, w ∈ ow_dm_X3_putEntry := fun w h => List.mem_cons_of_mem _ (List.mem_append_right _ (List.mem_append_left _ h))
theorem gi_dm_X3_putEntry_0 : GoodIn ow_dm_X3_putEntry (wsV RX3 66 RX3 yX3_difference ow_dm_X3_difference) := goodIn_app (goodIn_of _ (by decide +kernel)) (fun w h => ⟨List.mem_cons_of_mem _ (List.mem_append_right _ (List.mem_append_right _ (List.mem_append_left _ h))), gd_dm_X3_difference w h⟩)
theorem gi_dm_X3_putEntry_1 : GoodIn ow_dm_X3_putEntry (wsV RX3 59 RX3 yX3_putByte ow_dm_X3_putByte) := goodIn_app (goodIn_of _ (by decide +kernel)) (fun w h => ⟨List.mem_cons_of_mem _ (List.mem_append_right _ (List.mem_append_right _ (List.mem_append_right _ (List.mem_append_left _ h)))), gd_dm_X3_putByte w h⟩)
theorem gi_dm_X3_putEntry_2 : GoodIn ow_dm_X3_putEntry (wsV RX3 76 RX3 yX3_putBytes ow_dm_X3_putBytes) := goodIn_app (goodIn_of _ (by decide +kernel)) (fun w h => ⟨List.mem_cons_of_mem _ (List.mem_append_right _ (List.mem_append_right _ (List.mem_append_right _ (List.mem_append_right _ (List.mem_append_left _ h))))), gd_dm_X3_putBytes w h⟩)
theorem gi_dm_X3_putEntry_3 : GoodIn ow_dm_X3_putEntry (wsV RX3 47 RX3 yX3_putVarint ow_dm_X3_putVarint) := goodIn_app (goodIn_of _ (by decide +kernel)) (fun w h => ⟨List.mem_cons_of_mem _ (List.mem_append_right _ (List.mem_append_right _ (List.mem_append_right _ (List.mem_append_right _ (List.mem_append_right _ (List.mem_append_left _ h)))))), gd_dm_X3_putVarint w h⟩)
theorem gi_dm_X3_putEntry_4 : GoodIn ow_dm_X3_putEntry (wsV RX3 73 RX3 yX3_sameClock ow_dm_X3_sameClock) := goodIn_app (goodIn_of _ (by decide +kernel)) (fun w h => ⟨List.mem_cons_of_mem _ (List.mem_append_right _ (List.mem_append_right _ (List.mem_append_right _ (List.mem_append_right _ (List.mem_append_right _ (List.mem_append_right _ (List.mem_append_left _ h))))))), gd_dm_X3_sameClock w h⟩)
theorem gi_dm_X3_putEntry_5 : GoodIn ow_dm_X3_putEntry (wsV RX3 70 RX3 yX3_sameTyped ow_dm_X3_sameTyped) := goodIn_app (goodIn_of _ (by decide +kernel)) (fun w h => ⟨List.mem_cons_of_mem _ (List.mem_append_right _ (List.mem_append_right _ (List.mem_append_right _ (List.mem_append_right _ (List.mem_append_right _ (List.mem_append_right _ (List.mem_append_right _ (List.mem_append_left _ h)))))))), gd_dm_X3_sameTyped w h⟩)
def dj_X3_putEntry_306 (p : Program) (l : Launch) (e : Env) (s : State) (m : MethodId) (args : Array Value) (below : List Frame) (meth : Method) (c : Code) (Q : State → Prop) (A : Nat → Prop) (dC : Nat → ClassId) (dI : Nat → Nat → Nat) (a : Nat → Nat) (ac : Nat → ClassId) (g : (St × (St)) → Option (St × (St))) (r : St × (St)) : Prop := ∀ (s0 : St × (St)) (H : Heap) (locs : List Loc) (ls : Array Slot), g s0 = some r → va_P (dC, dI) vwCl (dw_X3s a ac s0) H → va_D A (dw_X3s a ac s0) → va_S A s.heap H locs → lv_has ls 5 [] → W p l e (headSpec ow_dm_X3_putEntry ({ frames := 2, cells := 0, slots := 0, locals := 49 })).room s m args below meth c H locs 0 0 Q (F0 m 306 ls [])
def dj_X3_putEntry_285 (p : Program) (l : Launch) (e : Env) (s : State) (m : MethodId) (args : Array Value) (below : List Frame) (meth : Method) (c : Code) (Q : State → Prop) (A : Nat → Prop) (dC : Nat → ClassId) (dI : Nat → Nat → Nat) (a : Nat → Nat) (ac : Nat → ClassId) (g : Int32 → (St × (St)) → Option (St × (St))) (r : St × (St)) : Prop := ∀ (x1 : Int32) (s0 : St × (St)) (H : Heap) (locs : List Loc) (ls : Array Slot), g x1 s0 = some r → va_P (dC, dI) vwCl (dw_X3s a ac s0) H → va_D A (dw_X3s a ac s0) → va_S A s.heap H locs → lv_has ls 5 [(0, .ref (a 1)), (1, .int x1)] → W p l e (headSpec ow_dm_X3_putEntry ({ frames := 2, cells := 0, slots := 0, locals := 49 })).room s m args below meth c H locs 0 0 Q (F0 m 285 ls [])
def dj_X3_putEntry_206 (p : Program) (l : Launch) (e : Env) (s : State) (m : MethodId) (args : Array Value) (below : List Frame) (meth : Method) (c : Code) (Q : State → Prop) (A : Nat → Prop) (dC : Nat → ClassId) (dI : Nat → Nat → Nat) (a : Nat → Nat) (ac : Nat → ClassId) (g : Int32 → Int32 → (St × (St)) → Option (St × (St))) (r : St × (St)) : Prop := ∀ (x1 : Int32) (x3 : Int32) (s0 : St × (St)) (H : Heap) (locs : List Loc) (ls : Array Slot), g x1 x3 s0 = some r → va_P (dC, dI) vwCl (dw_X3s a ac s0) H → va_D A (dw_X3s a ac s0) → va_S A s.heap H locs → lv_has ls 5 [(0, .ref (a 1)), (1, .int x1), (3, .int x3)] → W p l e (headSpec ow_dm_X3_putEntry ({ frames := 2, cells := 0, slots := 0, locals := 49 })).room s m args below meth c H locs 0 0 Q (F0 m 206 ls [])
def dj_X3_putEntry_183 (p : Program) (l : Launch) (e : Env) (s : State) (m : MethodId) (args : Array Value) (below : List Frame) (meth : Method) (c : Code) (Q : State → Prop) (A : Nat → Prop) (dC : Nat → ClassId) (dI : Nat → Nat → Nat) (a : Nat → Nat) (ac : Nat → ClassId) (g : Int32 → Int32 → (St × (St)) → Option (St × (St))) (r : St × (St)) : Prop := ∀ (x1 : Int32) (x3 : Int32) (s0 : St × (St)) (H : Heap) (locs : List Loc) (ls : Array Slot), g x1 x3 s0 = some r → va_P (dC, dI) vwCl (dw_X3s a ac s0) H → va_D A (dw_X3s a ac s0) → va_S A s.heap H locs → lv_has ls 5 [(0, .ref (a 1)), (1, .int x1), (3, .int x3)] → W p l e (headSpec ow_dm_X3_putEntry ({ frames := 2, cells := 0, slots := 0, locals := 49 })).room s m args below meth c H locs 0 0 Q (F0 m 183 ls [])
def dj_X3_putEntry_161 (p : Program) (l : Launch) (e : Env) (s : State) (m : MethodId) (args : Array Value) (below : List Frame) (meth : Method) (c : Code) (Q : State → Prop) (A : Nat → Prop) (dC : Nat → ClassId) (dI : Nat → Nat → Nat) (a : Nat → Nat) (ac : Nat → ClassId) (g : Int32 → Int32 → Int32 → Int32 → Int32 → Int32 → (St × (St)) → Option (St × (St))) (r : St × (St)) : Prop := ∀ (x1 : Int32) (x2 : Int32) (x3 : Int32) (x4 : Int32) (y1 : Int32) (y2 : Int32) (s0 : St × (St)) (H : Heap) (locs : List Loc) (ls : Array Slot), g x1 x2 x3 x4 y1 y2 s0 = some r → va_P (dC, dI) vwCl (dw_X3s a ac s0) H → va_D A (dw_X3s a ac s0) → va_S A s.heap H locs → lv_has ls 5 [(0, .ref (a 1)), (1, .int x1), (2, .int x2), (3, .int x3), (4, .int x4)] → W p l e (headSpec ow_dm_X3_putEntry ({ frames := 2, cells := 0, slots := 0, locals := 49 })).room s m args below meth c H locs 0 0 Q (F0 m 161 ls [.int y2, .int y1, .ref (a 1)])
def dj_X3_putEntry_144 (p : Program) (l : Launch) (e : Env) (s : State) (m : MethodId) (args : Array Value) (below : List Frame) (meth : Method) (c : Code) (Q : State → Prop) (A : Nat → Prop) (dC : Nat → ClassId) (dI : Nat → Nat → Nat) (a : Nat → Nat) (ac : Nat → ClassId) (g : Int32 → Int32 → Int32 → Int32 → (St × (St)) → Option (St × (St))) (r : St × (St)) : Prop := ∀ (x1 : Int32) (x2 : Int32) (x3 : Int32) (x4 : Int32) (s0 : St × (St)) (H : Heap) (locs : List Loc) (ls : Array Slot), g x1 x2 x3 x4 s0 = some r → va_P (dC, dI) vwCl (dw_X3s a ac s0) H → va_D A (dw_X3s a ac s0) → va_S A s.heap H locs → lv_has ls 5 [(0, .ref (a 1)), (1, .int x1), (2, .int x2), (3, .int x3), (4, .int x4)] → W p l e (headSpec ow_dm_X3_putEntry ({ frames := 2, cells := 0, slots := 0, locals := 49 })).room s m args below meth c H locs 0 0 Q (F0 m 144 ls [])
def dj_X3_putEntry_90 (p : Program) (l : Launch) (e : Env) (s : State) (m : MethodId) (args : Array Value) (below : List Frame) (meth : Method) (c : Code) (Q : State → Prop) (A : Nat → Prop) (dC : Nat → ClassId) (dI : Nat → Nat → Nat) (a : Nat → Nat) (ac : Nat → ClassId) (g : Int32 → Int32 → Int32 → (St × (St)) → Option (St × (St))) (r : St × (St)) : Prop := ∀ (x1 : Int32) (x2 : Int32) (x3 : Int32) (s0 : St × (St)) (H : Heap) (locs : List Loc) (ls : Array Slot), g x1 x2 x3 s0 = some r → va_P (dC, dI) vwCl (dw_X3s a ac s0) H → va_D A (dw_X3s a ac s0) → va_S A s.heap H locs → lv_has ls 5 [(0, .ref (a 1)), (1, .int x1), (2, .int x2), (3, .int x3)] → W p l e (headSpec ow_dm_X3_putEntry ({ frames := 2, cells := 0, slots := 0, locals := 49 })).room s m args below meth c H locs 0 0 Q (F0 m 90 ls [])
def dj_X3_putEntry_126 (p : Program) (l : Launch) (e : Env) (s : State) (m : MethodId) (args : Array Value) (below : List Frame) (meth : Method) (c : Code) (Q : State → Prop) (A : Nat → Prop) (dC : Nat → ClassId) (dI : Nat → Nat → Nat) (a : Nat → Nat) (ac : Nat → ClassId) (g : Int32 → Int32 → Int32 → Int32 → (St × (St)) → Option (St × (St))) (r : St × (St)) : Prop := ∀ (x1 : Int32) (x2 : Int32) (x3 : Int32) (y0 : Int32) (s0 : St × (St)) (H : Heap) (locs : List Loc) (ls : Array Slot), g x1 x2 x3 y0 s0 = some r → va_P (dC, dI) vwCl (dw_X3s a ac s0) H → va_D A (dw_X3s a ac s0) → va_S A s.heap H locs → lv_has ls 5 [(0, .ref (a 1)), (1, .int x1), (2, .int x2), (3, .int x3)] → W p l e (headSpec ow_dm_X3_putEntry ({ frames := 2, cells := 0, slots := 0, locals := 49 })).room s m args below meth c H locs 0 0 Q (F0 m 126 ls [.int y0])
def dj_X3_putEntry_67 (p : Program) (l : Launch) (e : Env) (s : State) (m : MethodId) (args : Array Value) (below : List Frame) (meth : Method) (c : Code) (Q : State → Prop) (A : Nat → Prop) (dC : Nat → ClassId) (dI : Nat → Nat → Nat) (a : Nat → Nat) (ac : Nat → ClassId) (g : Int32 → Int32 → Int32 → (St × (St)) → Option (St × (St))) (r : St × (St)) : Prop := ∀ (x1 : Int32) (x2 : Int32) (y0 : Int32) (s0 : St × (St)) (H : Heap) (locs : List Loc) (ls : Array Slot), g x1 x2 y0 s0 = some r → va_P (dC, dI) vwCl (dw_X3s a ac s0) H → va_D A (dw_X3s a ac s0) → va_S A s.heap H locs → lv_has ls 5 [(0, .ref (a 1)), (1, .int x1), (2, .int x2)] → W p l e (headSpec ow_dm_X3_putEntry ({ frames := 2, cells := 0, slots := 0, locals := 49 })).room s m args below meth c H locs 0 0 Q (F0 m 67 ls [.int y0])
def dj_X3_putEntry_29 (p : Program) (l : Launch) (e : Env) (s : State) (m : MethodId) (args : Array Value) (below : List Frame) (meth : Method) (c : Code) (Q : State → Prop) (A : Nat → Prop) (dC : Nat → ClassId) (dI : Nat → Nat → Nat) (a : Nat → Nat) (ac : Nat → ClassId) (g : Int32 → Int32 → (St × (St)) → Option (St × (St))) (r : St × (St)) : Prop := ∀ (x1 : Int32) (y0 : Int32) (s0 : St × (St)) (H : Heap) (locs : List Loc) (ls : Array Slot), g x1 y0 s0 = some r → va_P (dC, dI) vwCl (dw_X3s a ac s0) H → va_D A (dw_X3s a ac s0) → va_S A s.heap H locs → lv_has ls 5 [(0, .ref (a 1)), (1, .int x1)] → W p l e (headSpec ow_dm_X3_putEntry ({ frames := 2, cells := 0, slots := 0, locals := 49 })).room s m args below meth c H locs 0 0 Q (F0 m 29 ls [.int y0])
def dj_X3_putEntry_20 (p : Program) (l : Launch) (e : Env) (s : State) (m : MethodId) (args : Array Value) (below : List Frame) (meth : Method) (c : Code) (Q : State → Prop) (A : Nat → Prop) (dC : Nat → ClassId) (dI : Nat → Nat → Nat) (a : Nat → Nat) (ac : Nat → ClassId) (g : Int32 → Int64 → Int64 → (St × (St)) → Option (St × (St))) (r : St × (St)) : Prop := ∀ (x1 : Int32) (y0 : Int64) (y1 : Int64) (s0 : St × (St)) (H : Heap) (locs : List Loc) (ls : Array Slot), g x1 y0 y1 s0 = some r → va_P (dC, dI) vwCl (dw_X3s a ac s0) H → va_D A (dw_X3s a ac s0) → va_S A s.heap H locs → lv_has ls 5 [(0, .ref (a 1)), (1, .int x1)] → W p l e (headSpec ow_dm_X3_putEntry ({ frames := 2, cells := 0, slots := 0, locals := 49 })).room s m args below meth c H locs 0 0 Q (F0 m 20 ls [.long y1, .long y0])
def dj_X3_putEntry_0 (p : Program) (l : Launch) (e : Env) (s : State) (m : MethodId) (args : Array Value) (below : List Frame) (meth : Method) (c : Code) (Q : State → Prop) (A : Nat → Prop) (dC : Nat → ClassId) (dI : Nat → Nat → Nat) (a : Nat → Nat) (ac : Nat → ClassId) (g : Int32 → (St × (St)) → Option (St × (St))) (r : St × (St)) : Prop := ∀ (v0 : Int32) (s0 : St × (St)) (H : Heap) (locs : List Loc) (ls : Array Slot), g v0 s0 = some r → va_P (dC, dI) vwCl (dw_X3s a ac s0) H → va_D A (dw_X3s a ac s0) → va_S A s.heap H locs → lv_has ls 5 [(0, .ref (a 1)), (1, .int v0)] → W p l e (headSpec ow_dm_X3_putEntry ({ frames := 2, cells := 0, slots := 0, locals := 49 })).room s m args below meth c H locs 0 0 Q (F0 m 0 ls [])
set_option maxHeartbeats 40000000 in
set_option maxRecDepth 100000 in
theorem db_X3_putEntry_306 {p : Program} {l : Launch} {e : Env} {s : State} {m : MethodId} {args : Array Value} {below : List Frame} {meth : Method} {c : Code} {Q : State → Prop} {A : Nat → Prop} {dC : Nat → ClassId} {dI : Nat → Nat → Nat} {a : Nat → Nat} {ac : Nat → ClassId} {n : Nat} {r : St × (St)} (C : nd_C p l s m args c A (dC, dI) cX3_putEntry 5 RX3 ow_dm_X3_putEntry (dk_X3s ac)) (K : nd_Kv p l e (headSpec ow_dm_X3_putEntry ({ frames := 2, cells := 0, slots := 0, locals := 49 })).room s m args below meth c Q A (dC, dI) cX3_putEntry (St × (St)) (dw_X3s a ac) r) : dj_X3_putEntry_306 p l e s m args below meth c Q A dC dI a ac (df_X3_putEntry_306 n (a 0)) r := by
  obtain ⟨hlt, hx, hb, hml, hown, hts, hN, hA, hK⟩ := id C
  intro s0 H locs ls h hP hD hS hl
  unfold df_X3_putEntry_306 at h
  exact K _ _ _ _ _ dX3_putEntry_306 (Option.some.inj h).symm hP hD hS
set_option maxHeartbeats 40000000 in
set_option maxRecDepth 100000 in
theorem db_X3_putEntry_285 {p : Program} {l : Launch} {e : Env} {s : State} {m : MethodId} {args : Array Value} {below : List Frame} {meth : Method} {c : Code} {Q : State → Prop} {A : Nat → Prop} {dC : Nat → ClassId} {dI : Nat → Nat → Nat} {a : Nat → Nat} {ac : Nat → ClassId} {n : Nat} {r : St × (St)} (C : nd_C p l s m args c A (dC, dI) cX3_putEntry 5 RX3 ow_dm_X3_putEntry (dk_X3s ac)) (K : nd_Kv p l e (headSpec ow_dm_X3_putEntry ({ frames := 2, cells := 0, slots := 0, locals := 49 })).room s m args below meth c Q A (dC, dI) cX3_putEntry (St × (St)) (dw_X3s a ac) r) : dj_X3_putEntry_285 p l e s m args below meth c Q A dC dI a ac (df_X3_putEntry_285 n (a 0)) r := by
  obtain ⟨hlt, hx, hb, hml, hown, hts, hN, hA, hK⟩ := id C
  intro x1 s0 H locs ls h hP hD hS hl
  unfold df_X3_putEntry_285 at h
  refine lv_aload_n hx hb dX3_putEntry_285 rfl (lv_at hl 0 rfl) ?_
  refine va_get (D := (dC, dI)) (ci := 4) (v := .ref (a 2)) (C := RX3) (T := TX3) (N := 11) hx hb hts hi_dm_X3_putEntry_X3 hown hK hP 1 rfl rfl 0 (by decide) (hts (.fieldLink RX3 9 "TimeMachine$Events" "kind" "[I") (List.mem_of_getElem? (i := 5) rfl)) (fun _ h9 => h9) rfl dX3_putEntry_286 ?_
  refine lv_iload_n hx hb dX3_putEntry_289 rfl (lv_at hl 1 rfl) ?_
  obtain ⟨i33, h⟩ := nd_ck_e h
  refine va_iald (i := x1) hx hb hK hP 2 1 rfl rfl i33 dX3_putEntry_290 ?_
  refine lv_iconst (v := 4) hx hb dX3_putEntry_291 (by decide) ?_
  refine lv_icmp_ne (tgt := 306) hx hb dX3_putEntry_292 (by decide) (fun c34 => ?_) (fun c34 => ?_)
  · have h := nd_neg h c34
    exact (db_X3_putEntry_306 C K)  s0 _ _ _ h hP hD hS (lv_sub hl [] rfl)
  · have h := nd_pos h c34
    refine lv_aload_n hx hb dX3_putEntry_295 rfl (lv_at hl 0 rfl) ?_
    refine lv_aload_n hx hb dX3_putEntry_296 rfl (lv_at hl 0 rfl) ?_
    refine va_get (D := (dC, dI)) (ci := 4) (v := .ref (a 4)) (C := RX3) (T := TX3) (N := 11) hx hb hts hi_dm_X3_putEntry_X3 hown hK hP 1 rfl rfl 2 (by decide) (hts (.fieldLink RX3 17 "TimeMachine$Events" "a" "[J") (List.mem_of_getElem? (i := 6) rfl)) (fun _ h9 => h9) rfl dX3_putEntry_297 ?_
    refine lv_iload_n hx hb dX3_putEntry_300 rfl (lv_at hl 1 rfl) ?_
    obtain ⟨i35, h⟩ := nd_ck_e h
    refine va_lald (i := x1) hx hb hK hP 4 3 rfl rfl i35 dX3_putEntry_301 ?_
    refine lv_iconst (v := 4) hx hb dX3_putEntry_302 (by decide) ?_
    obtain ⟨s37, hq, h⟩ := nd_b1_e h
    have hPc := hP
    have hDc := hD
    have hKc := hK
    have hFc := nd_rs hD hS hA
    refine nd_cVv (As := [.long (sQ s0.2 1 (Int32.toNatClampNeg x1)), .int 4]) (rest := []) (w' := dw_X3s a ac s37) ⟨hx, hb, hml, hown, hts⟩ (fun sz => dm_X3_putBytes l hlt dC dI a ac n ((sQ s0.2 1 (Int32.toNatClampNeg x1))) (4) s0 hq sz) (cwV 2 hts gi_dm_X3_putEntry_2 rfl rfl rfl (by decide +kernel) ⟨Nat.le_of_ble_eq_true rfl, Nat.le_of_ble_eq_true rfl⟩) hPc hDc hKc hS hA hN (va_recv hKc hPc (ci := 4) (q0 := 1) rfl rfl) rfl hl.1 rfl (Nat.le_of_ble_eq_true rfl) dX3_putEntry_303 (fun H locs hP1 hD1 hk1 hS => ?_)
    have hP := hP1
    have hD := hD1.weaken (fun k q _ h => hFc q.1 h)
    exact (db_X3_putEntry_306 C K)  s37 _ _ _ h hP hD hS (lv_sub hl [] rfl)
set_option maxHeartbeats 40000000 in
set_option maxRecDepth 100000 in
theorem db_X3_putEntry_206 {p : Program} {l : Launch} {e : Env} {s : State} {m : MethodId} {args : Array Value} {below : List Frame} {meth : Method} {c : Code} {Q : State → Prop} {A : Nat → Prop} {dC : Nat → ClassId} {dI : Nat → Nat → Nat} {a : Nat → Nat} {ac : Nat → ClassId} {n : Nat} {r : St × (St)} (C : nd_C p l s m args c A (dC, dI) cX3_putEntry 5 RX3 ow_dm_X3_putEntry (dk_X3s ac)) (K : nd_Kv p l e (headSpec ow_dm_X3_putEntry ({ frames := 2, cells := 0, slots := 0, locals := 49 })).room s m args below meth c Q A (dC, dI) cX3_putEntry (St × (St)) (dw_X3s a ac) r) : dj_X3_putEntry_206 p l e s m args below meth c Q A dC dI a ac (df_X3_putEntry_206 n (a 0)) r := by
  obtain ⟨hlt, hx, hb, hml, hown, hts, hN, hA, hK⟩ := id C
  intro x1 x3 s0 H locs ls h hP hD hS hl
  unfold df_X3_putEntry_206 at h
  refine lv_aload_n hx hb dX3_putEntry_206 rfl (lv_at hl 0 rfl) ?_
  refine va_get (D := (dC, dI)) (ci := 4) (v := .ref (a 2)) (C := RX3) (T := TX3) (N := 11) hx hb hts hi_dm_X3_putEntry_X3 hown hK hP 1 rfl rfl 0 (by decide) (hts (.fieldLink RX3 9 "TimeMachine$Events" "kind" "[I") (List.mem_of_getElem? (i := 5) rfl)) (fun _ h9 => h9) rfl dX3_putEntry_207 ?_
  refine lv_iload_n hx hb dX3_putEntry_210 rfl (lv_at hl 1 rfl) ?_
  obtain ⟨i27, h⟩ := nd_ck_e h
  refine va_iald (i := x1) hx hb hK hP 2 1 rfl rfl i27 dX3_putEntry_211 ?_
  refine lv_iconst (v := 1) hx hb dX3_putEntry_212 (by decide) ?_
  refine lv_icmp_ne (tgt := 235) hx hb dX3_putEntry_213 (by decide) (fun c28 => ?_) (fun c28 => ?_)
  · have h := nd_neg h c28
    refine lv_aload_n hx hb dX3_putEntry_235 rfl (lv_at hl 0 rfl) ?_
    refine va_get (D := (dC, dI)) (ci := 4) (v := .ref (a 2)) (C := RX3) (T := TX3) (N := 11) hx hb hts hi_dm_X3_putEntry_X3 hown hK hP 1 rfl rfl 0 (by decide) (hts (.fieldLink RX3 9 "TimeMachine$Events" "kind" "[I") (List.mem_of_getElem? (i := 5) rfl)) (fun _ h9 => h9) rfl dX3_putEntry_236 ?_
    refine lv_iload_n hx hb dX3_putEntry_239 rfl (lv_at hl 1 rfl) ?_
    obtain ⟨i29, h⟩ := nd_ck_e h
    refine va_iald (i := x1) hx hb hK hP 2 1 rfl rfl i29 dX3_putEntry_240 ?_
    refine lv_iconst (v := 2) hx hb dX3_putEntry_241 (by decide) ?_
    refine lv_icmp_ne (tgt := 258) hx hb dX3_putEntry_242 (by decide) (fun c30 => ?_) (fun c30 => ?_)
    · have h := nd_neg h c30
      refine lv_aload_n hx hb dX3_putEntry_258 rfl (lv_at hl 0 rfl) ?_
      refine va_get (D := (dC, dI)) (ci := 4) (v := .ref (a 2)) (C := RX3) (T := TX3) (N := 11) hx hb hts hi_dm_X3_putEntry_X3 hown hK hP 1 rfl rfl 0 (by decide) (hts (.fieldLink RX3 9 "TimeMachine$Events" "kind" "[I") (List.mem_of_getElem? (i := 5) rfl)) (fun _ h9 => h9) rfl dX3_putEntry_259 ?_
      refine lv_iload_n hx hb dX3_putEntry_262 rfl (lv_at hl 1 rfl) ?_
      obtain ⟨i31, h⟩ := nd_ck_e h
      refine va_iald (i := x1) hx hb hK hP 2 1 rfl rfl i31 dX3_putEntry_263 ?_
      refine lv_iconst (v := 3) hx hb dX3_putEntry_264 (by decide) ?_
      refine lv_icmp_ne (tgt := 285) hx hb dX3_putEntry_265 (by decide) (fun c32 => ?_) (fun c32 => ?_)
      · have h := nd_neg h c32
        exact (db_X3_putEntry_285 C K) (x1) s0 _ _ _ h hP hD hS (lv_sub hl [0, 1] rfl)
      · have h := nd_pos h c32
        refine lv_iload_n hx hb dX3_putEntry_268 rfl (lv_at hl 2 rfl) ?_
        refine lv_if_ne (tgt := 285) hx hb dX3_putEntry_269 (by decide) (fun c39 => ?_) (fun c39 => ?_)
        · have h := nd_neg h c39
          exact (db_X3_putEntry_285 C K) (x1) s0 _ _ _ h hP hD hS (lv_sub hl [0, 1] rfl)
        · have h := nd_pos h c39
          refine lv_aload_n hx hb dX3_putEntry_272 rfl (lv_at hl 0 rfl) ?_
          refine lv_aload_n hx hb dX3_putEntry_273 rfl (lv_at hl 0 rfl) ?_
          refine va_get (D := (dC, dI)) (ci := 4) (v := .ref (a 4)) (C := RX3) (T := TX3) (N := 11) hx hb hts hi_dm_X3_putEntry_X3 hown hK hP 1 rfl rfl 2 (by decide) (hts (.fieldLink RX3 17 "TimeMachine$Events" "a" "[J") (List.mem_of_getElem? (i := 6) rfl)) (fun _ h9 => h9) rfl dX3_putEntry_274 ?_
          refine lv_iload_n hx hb dX3_putEntry_277 rfl (lv_at hl 1 rfl) ?_
          obtain ⟨i40, h⟩ := nd_ck_e h
          refine va_lald (i := x1) hx hb hK hP 4 3 rfl rfl i40 dX3_putEntry_278 ?_
          obtain ⟨s42, hq, h⟩ := nd_b1_e h
          have hPc := hP
          have hDc := hD
          have hKc := hK
          have hFc := nd_rs hD hS hA
          refine nd_cVv (As := [.long (sQ s0.2 1 (Int32.toNatClampNeg x1))]) (rest := []) (w' := dw_X3s a ac s42) ⟨hx, hb, hml, hown, hts⟩ (fun sz => dm_X3_putVarint l hlt dC dI a ac n ((sQ s0.2 1 (Int32.toNatClampNeg x1))) s0 hq sz) (cwV 1 hts gi_dm_X3_putEntry_3 rfl rfl rfl (by decide +kernel) ⟨Nat.le_of_ble_eq_true rfl, Nat.le_of_ble_eq_true rfl⟩) hPc hDc hKc hS hA hN (va_recv hKc hPc (ci := 4) (q0 := 1) rfl rfl) rfl hl.1 rfl (Nat.le_of_ble_eq_true rfl) dX3_putEntry_279 (fun H locs hP1 hD1 hk1 hS => ?_)
          have hP := hP1
          have hD := hD1.weaken (fun k q _ h => hFc q.1 h)
          refine lv_goto (tgt := 306) hx hb dX3_putEntry_282 (by decide) ?_
          exact (db_X3_putEntry_306 C K)  s42 _ _ _ h hP hD hS (lv_sub hl [] rfl)
    · have h := nd_pos h c30
      refine lv_aload_n hx hb dX3_putEntry_245 rfl (lv_at hl 0 rfl) ?_
      refine lv_aload_n hx hb dX3_putEntry_246 rfl (lv_at hl 0 rfl) ?_
      refine va_get (D := (dC, dI)) (ci := 4) (v := .ref (a 5)) (C := RX3) (T := TX3) (N := 11) hx hb hts hi_dm_X3_putEntry_X3 hown hK hP 1 rfl rfl 3 (by decide) (hts (.fieldLink RX3 20 "TimeMachine$Events" "b" "[I") (List.mem_of_getElem? (i := 16) rfl)) (fun _ h9 => h9) rfl dX3_putEntry_247 ?_
      refine lv_iload_n hx hb dX3_putEntry_250 rfl (lv_at hl 1 rfl) ?_
      obtain ⟨i44, h⟩ := nd_ck_e h
      refine va_iald (i := x1) hx hb hK hP 5 4 rfl rfl i44 dX3_putEntry_251 ?_
      obtain ⟨s46, hq, h⟩ := nd_b1_e h
      have hPc := hP
      have hDc := hD
      have hKc := hK
      have hFc := nd_rs hD hS hA
      refine nd_cVv (As := [.int (sR s0.2 1 (Int32.toNatClampNeg x1))]) (rest := []) (w' := dw_X3s a ac s46) ⟨hx, hb, hml, hown, hts⟩ (fun sz => dm_X3_putByte l hlt dC dI a ac n ((sR s0.2 1 (Int32.toNatClampNeg x1))) s0 hq sz) (cwV 1 hts gi_dm_X3_putEntry_1 rfl rfl rfl (by decide +kernel) ⟨Nat.le_of_ble_eq_true rfl, Nat.le_of_ble_eq_true rfl⟩) hPc hDc hKc hS hA hN (va_recv hKc hPc (ci := 4) (q0 := 1) rfl rfl) rfl hl.1 rfl (Nat.le_of_ble_eq_true rfl) dX3_putEntry_252 (fun H locs hP1 hD1 hk1 hS => ?_)
      have hP := hP1
      have hD := hD1.weaken (fun k q _ h => hFc q.1 h)
      refine lv_goto (tgt := 306) hx hb dX3_putEntry_255 (by decide) ?_
      exact (db_X3_putEntry_306 C K)  s46 _ _ _ h hP hD hS (lv_sub hl [] rfl)
  · have h := nd_pos h c28
    refine lv_aload_n hx hb dX3_putEntry_216 rfl (lv_at hl 0 rfl) ?_
    refine lv_aload_n hx hb dX3_putEntry_217 rfl (lv_at hl 0 rfl) ?_
    refine va_get (D := (dC, dI)) (ci := 4) (v := .ref (a 4)) (C := RX3) (T := TX3) (N := 11) hx hb hts hi_dm_X3_putEntry_X3 hown hK hP 1 rfl rfl 2 (by decide) (hts (.fieldLink RX3 17 "TimeMachine$Events" "a" "[J") (List.mem_of_getElem? (i := 6) rfl)) (fun _ h9 => h9) rfl dX3_putEntry_218 ?_
    refine lv_iload_n hx hb dX3_putEntry_221 rfl (lv_at hl 1 rfl) ?_
    obtain ⟨i48, h⟩ := nd_ck_e h
    refine va_lald (i := x1) hx hb hK hP 4 3 rfl rfl i48 dX3_putEntry_222 ?_
    refine lv_aload_n hx hb dX3_putEntry_223 rfl (lv_at hl 0 rfl) ?_
    refine va_get (D := (dC, dI)) (ci := 4) (v := .ref (a 5)) (C := RX3) (T := TX3) (N := 11) hx hb hts hi_dm_X3_putEntry_X3 hown hK hP 1 rfl rfl 3 (by decide) (hts (.fieldLink RX3 20 "TimeMachine$Events" "b" "[I") (List.mem_of_getElem? (i := 16) rfl)) (fun _ h9 => h9) rfl dX3_putEntry_224 ?_
    refine lv_iload_n hx hb dX3_putEntry_227 rfl (lv_at hl 1 rfl) ?_
    obtain ⟨i49, h⟩ := nd_ck_e h
    refine va_iald (i := x1) hx hb hK hP 5 4 rfl rfl i49 dX3_putEntry_228 ?_
    obtain ⟨s51, hq, h⟩ := nd_b1_e h
    have hPc := hP
    have hDc := hD
    have hKc := hK
    have hFc := nd_rs hD hS hA
    refine nd_cVv (As := [.long (sQ s0.2 1 (Int32.toNatClampNeg x1)), .int (sR s0.2 1 (Int32.toNatClampNeg x1))]) (rest := []) (w' := dw_X3s a ac s51) ⟨hx, hb, hml, hown, hts⟩ (fun sz => dm_X3_putBytes l hlt dC dI a ac n ((sQ s0.2 1 (Int32.toNatClampNeg x1))) ((sR s0.2 1 (Int32.toNatClampNeg x1))) s0 hq sz) (cwV 2 hts gi_dm_X3_putEntry_2 rfl rfl rfl (by decide +kernel) ⟨Nat.le_of_ble_eq_true rfl, Nat.le_of_ble_eq_true rfl⟩) hPc hDc hKc hS hA hN (va_recv hKc hPc (ci := 4) (q0 := 1) rfl rfl) rfl hl.1 rfl (Nat.le_of_ble_eq_true rfl) dX3_putEntry_229 (fun H locs hP1 hD1 hk1 hS => ?_)
    have hP := hP1
    have hD := hD1.weaken (fun k q _ h => hFc q.1 h)
    refine lv_goto (tgt := 306) hx hb dX3_putEntry_232 (by decide) ?_
    exact (db_X3_putEntry_306 C K)  s51 _ _ _ h hP hD hS (lv_sub hl [] rfl)
set_option maxHeartbeats 40000000 in
set_option maxRecDepth 100000 in
theorem db_X3_putEntry_183 {p : Program} {l : Launch} {e : Env} {s : State} {m : MethodId} {args : Array Value} {below : List Frame} {meth : Method} {c : Code} {Q : State → Prop} {A : Nat → Prop} {dC : Nat → ClassId} {dI : Nat → Nat → Nat} {a : Nat → Nat} {ac : Nat → ClassId} {n : Nat} {r : St × (St)} (C : nd_C p l s m args c A (dC, dI) cX3_putEntry 5 RX3 ow_dm_X3_putEntry (dk_X3s ac)) (K : nd_Kv p l e (headSpec ow_dm_X3_putEntry ({ frames := 2, cells := 0, slots := 0, locals := 49 })).room s m args below meth c Q A (dC, dI) cX3_putEntry (St × (St)) (dw_X3s a ac) r) : dj_X3_putEntry_183 p l e s m args below meth c Q A dC dI a ac (df_X3_putEntry_183 n (a 0)) r := by
  obtain ⟨hlt, hx, hb, hml, hown, hts, hN, hA, hK⟩ := id C
  intro x1 x3 s0 H locs ls h hP hD hS hl
  unfold df_X3_putEntry_183 at h
  refine lv_aload_n hx hb dX3_putEntry_183 rfl (lv_at hl 0 rfl) ?_
  refine va_get (D := (dC, dI)) (ci := 4) (v := .ref (a 2)) (C := RX3) (T := TX3) (N := 11) hx hb hts hi_dm_X3_putEntry_X3 hown hK hP 1 rfl rfl 0 (by decide) (hts (.fieldLink RX3 9 "TimeMachine$Events" "kind" "[I") (List.mem_of_getElem? (i := 5) rfl)) (fun _ h9 => h9) rfl dX3_putEntry_184 ?_
  refine lv_iload_n hx hb dX3_putEntry_187 rfl (lv_at hl 1 rfl) ?_
  obtain ⟨i25, h⟩ := nd_ck_e h
  refine va_iald (i := x1) hx hb hK hP 2 1 rfl rfl i25 dX3_putEntry_188 ?_
  refine lv_iconst (v := 1) hx hb dX3_putEntry_189 (by decide) ?_
  refine lv_icmp_ne (tgt := 206) hx hb dX3_putEntry_190 (by decide) (fun c26 => ?_) (fun c26 => ?_)
  · have h := nd_neg h c26
    exact (db_X3_putEntry_206 C K) (x1) (x3) s0 _ _ _ h hP hD hS (lv_sub hl [0, 1, 2] rfl)
  · have h := nd_pos h c26
    refine lv_iload_n hx hb dX3_putEntry_193 rfl (lv_at hl 2 rfl) ?_
    refine lv_if_le (tgt := 206) hx hb dX3_putEntry_194 (by decide) (fun c53 => ?_) (fun c53 => ?_)
    · have h := nd_pos h c53
      exact (db_X3_putEntry_206 C K) (x1) (x3) s0 _ _ _ h hP hD hS (lv_sub hl [0, 1, 2] rfl)
    · have h := nd_neg h c53
      refine lv_aload_n hx hb dX3_putEntry_197 rfl (lv_at hl 0 rfl) ?_
      refine lv_iload_n hx hb dX3_putEntry_198 rfl (lv_at hl 2 rfl) ?_
      refine lv_i2l hx hb dX3_putEntry_199 rfl ?_
      obtain ⟨s55, hq, h⟩ := nd_b1_e h
      have hPc := hP
      have hDc := hD
      have hKc := hK
      have hFc := nd_rs hD hS hA
      refine nd_cVv (As := [.long (x3.toInt64)]) (rest := []) (w' := dw_X3s a ac s55) ⟨hx, hb, hml, hown, hts⟩ (fun sz => dm_X3_putVarint l hlt dC dI a ac n ((x3.toInt64)) s0 hq sz) (cwV 1 hts gi_dm_X3_putEntry_3 rfl rfl rfl (by decide +kernel) ⟨Nat.le_of_ble_eq_true rfl, Nat.le_of_ble_eq_true rfl⟩) hPc hDc hKc hS hA hN (va_recv hKc hPc (ci := 4) (q0 := 1) rfl rfl) rfl hl.1 rfl (Nat.le_of_ble_eq_true rfl) dX3_putEntry_200 (fun H locs hP1 hD1 hk1 hS => ?_)
      have hP := hP1
      have hD := hD1.weaken (fun k q _ h => hFc q.1 h)
      refine lv_goto (tgt := 306) hx hb dX3_putEntry_203 (by decide) ?_
      exact (db_X3_putEntry_306 C K)  s55 _ _ _ h hP hD hS (lv_sub hl [] rfl)
set_option maxHeartbeats 40000000 in
set_option maxRecDepth 100000 in
theorem db_X3_putEntry_161 {p : Program} {l : Launch} {e : Env} {s : State} {m : MethodId} {args : Array Value} {below : List Frame} {meth : Method} {c : Code} {Q : State → Prop} {A : Nat → Prop} {dC : Nat → ClassId} {dI : Nat → Nat → Nat} {a : Nat → Nat} {ac : Nat → ClassId} {n : Nat} {r : St × (St)} (C : nd_C p l s m args c A (dC, dI) cX3_putEntry 5 RX3 ow_dm_X3_putEntry (dk_X3s ac)) (K : nd_Kv p l e (headSpec ow_dm_X3_putEntry ({ frames := 2, cells := 0, slots := 0, locals := 49 })).room s m args below meth c Q A (dC, dI) cX3_putEntry (St × (St)) (dw_X3s a ac) r) : dj_X3_putEntry_161 p l e s m args below meth c Q A dC dI a ac (df_X3_putEntry_161 n (a 0)) r := by
  obtain ⟨hlt, hx, hb, hml, hown, hts, hN, hA, hK⟩ := id C
  intro x1 x2 x3 x4 y1 y2 s0 H locs ls h hP hD hS hl
  unfold df_X3_putEntry_161 at h
  refine lv_ior hx hb dX3_putEntry_161 ?_
  refine lv_iload hx hb dX3_putEntry_162 (lv_at hl 4 rfl) ?_
  refine lv_iconst (v := 4) hx hb dX3_putEntry_164 (by decide) ?_
  refine lv_ishl hx hb dX3_putEntry_165 ?_
  refine lv_ior hx hb dX3_putEntry_166 ?_
  obtain ⟨s22, hq, h⟩ := nd_b1_e h
  have hPc := hP
  have hDc := hD
  have hKc := hK
  have hFc := nd_rs hD hS hA
  refine nd_cVv (As := [.int ((y1 ||| y2) ||| ((x4 : Int32) <<< ((4 : Int32) &&& 31)))]) (rest := []) (w' := dw_X3s a ac s22) ⟨hx, hb, hml, hown, hts⟩ (fun sz => dm_X3_putByte l hlt dC dI a ac n (((y1 ||| y2) ||| ((x4 : Int32) <<< ((4 : Int32) &&& 31)))) s0 hq sz) (cwV 1 hts gi_dm_X3_putEntry_1 rfl rfl rfl (by decide +kernel) ⟨Nat.le_of_ble_eq_true rfl, Nat.le_of_ble_eq_true rfl⟩) hPc hDc hKc hS hA hN (va_recv hKc hPc (ci := 4) (q0 := 1) rfl rfl) rfl hl.1 rfl (Nat.le_of_ble_eq_true rfl) dX3_putEntry_167 (fun H locs hP1 hD1 hk1 hS => ?_)
  have hP := hP1
  have hD := hD1.weaken (fun k q _ h => hFc q.1 h)
  refine lv_iload_n hx hb dX3_putEntry_170 rfl (lv_at hl 2 rfl) ?_
  refine lv_if_ne (tgt := 183) hx hb dX3_putEntry_171 (by decide) (fun c24 => ?_) (fun c24 => ?_)
  · have h := nd_neg h c24
    exact (db_X3_putEntry_183 C K) (x1) (x3) s22 _ _ _ h hP hD hS (lv_sub hl [0, 1, 3] rfl)
  · have h := nd_pos h c24
    refine lv_aload_n hx hb dX3_putEntry_174 rfl (lv_at hl 0 rfl) ?_
    refine lv_aload_n hx hb dX3_putEntry_175 rfl (lv_at hl 0 rfl) ?_
    refine lv_iload_n hx hb dX3_putEntry_176 rfl (lv_at hl 1 rfl) ?_
    obtain ⟨q57, s58, hq, h⟩ := nd_b2_e h
    have hPc := dp_X3s_1 hP
    have hDc := dd_X3s_1 hD
    have hKc := dy_X3s_1 hK
    have hFc := nd_rs hDc hS hA
    have hzA : ∀ q : Nat, H.size ≤ q → A q := fun q h => hA q (Nat.le_trans hS.1 h)
    refine nd_cVl (As := [.int x1]) (rest := [.ref (a 1)]) (q := q57) (w' := dw_X3c (fun k => a (k + 1)) (fun k => ac (k + 1)) s58) ⟨hx, hb, hml, hown, hts⟩ (fun sz => dm_X3_difference l hlt dC dI (fun k => a (k + 1)) (fun k => ac (k + 1)) n (x1) s22.2 hq sz) (cwV 1 hts gi_dm_X3_putEntry_0 rfl rfl rfl (by decide +kernel) ⟨Nat.le_of_ble_eq_true rfl, Nat.le_of_ble_eq_true rfl⟩) hPc hDc hKc hS hA hN (va_recv hKc hPc (ci := 4) (q0 := 0) rfl rfl) rfl hl.1 rfl (Nat.le_of_ble_eq_true rfl) dX3_putEntry_177 (fun H locs hP1 hD1 hk1 hS => ?_)
    obtain ⟨hP, hD⟩ := dn_X3s_1 hP hD hzA hk1 hP1 hD1
    obtain ⟨s60, es60, h⟩ := nd_let_e h
    have hP : va_P (dC, dI) vwCl (dw_X3s a ac s60) H := by rw [es60]; exact hP
    have hD : va_D A (dw_X3s a ac s60) := by rw [es60]; exact hD
    obtain ⟨s62, hq, h⟩ := nd_b1_e h
    have hPc := hP
    have hDc := hD
    have hKc := hK
    have hFc := nd_rs hD hS hA
    refine nd_cVv (As := [.long q57]) (rest := []) (w' := dw_X3s a ac s62) ⟨hx, hb, hml, hown, hts⟩ (fun sz => dm_X3_putVarint l hlt dC dI a ac n (q57) s60 hq sz) (cwV 1 hts gi_dm_X3_putEntry_3 rfl rfl rfl (by decide +kernel) ⟨Nat.le_of_ble_eq_true rfl, Nat.le_of_ble_eq_true rfl⟩) hPc hDc hKc hS hA hN (va_recv hKc hPc (ci := 4) (q0 := 1) rfl rfl) rfl hl.1 rfl (Nat.le_of_ble_eq_true rfl) dX3_putEntry_180 (fun H locs hP1 hD1 hk1 hS => ?_)
    have hP := hP1
    have hD := hD1.weaken (fun k q _ h => hFc q.1 h)
    exact (db_X3_putEntry_183 C K) (x1) (x3) s62 _ _ _ h hP hD hS (lv_sub hl [0, 1, 3] rfl)
set_option maxHeartbeats 40000000 in
set_option maxRecDepth 100000 in
theorem db_X3_putEntry_144 {p : Program} {l : Launch} {e : Env} {s : State} {m : MethodId} {args : Array Value} {below : List Frame} {meth : Method} {c : Code} {Q : State → Prop} {A : Nat → Prop} {dC : Nat → ClassId} {dI : Nat → Nat → Nat} {a : Nat → Nat} {ac : Nat → ClassId} {n : Nat} {r : St × (St)} (C : nd_C p l s m args c A (dC, dI) cX3_putEntry 5 RX3 ow_dm_X3_putEntry (dk_X3s ac)) (K : nd_Kv p l e (headSpec ow_dm_X3_putEntry ({ frames := 2, cells := 0, slots := 0, locals := 49 })).room s m args below meth c Q A (dC, dI) cX3_putEntry (St × (St)) (dw_X3s a ac) r) : dj_X3_putEntry_144 p l e s m args below meth c Q A dC dI a ac (df_X3_putEntry_144 n (a 0)) r := by
  obtain ⟨hlt, hx, hb, hml, hown, hts, hN, hA, hK⟩ := id C
  intro x1 x2 x3 x4 s0 H locs ls h hP hD hS hl
  unfold df_X3_putEntry_144 at h
  refine lv_aload_n hx hb dX3_putEntry_144 rfl (lv_at hl 0 rfl) ?_
  refine lv_aload_n hx hb dX3_putEntry_145 rfl (lv_at hl 0 rfl) ?_
  refine va_get (D := (dC, dI)) (ci := 4) (v := .ref (a 2)) (C := RX3) (T := TX3) (N := 11) hx hb hts hi_dm_X3_putEntry_X3 hown hK hP 1 rfl rfl 0 (by decide) (hts (.fieldLink RX3 9 "TimeMachine$Events" "kind" "[I") (List.mem_of_getElem? (i := 5) rfl)) (fun _ h9 => h9) rfl dX3_putEntry_146 ?_
  refine lv_iload_n hx hb dX3_putEntry_149 rfl (lv_at hl 1 rfl) ?_
  obtain ⟨i19, h⟩ := nd_ck_e h
  refine va_iald (i := x1) hx hb hK hP 2 1 rfl rfl i19 dX3_putEntry_150 ?_
  refine lv_iload_n hx hb dX3_putEntry_151 rfl (lv_at hl 2 rfl) ?_
  refine lv_if_eq (tgt := 160) hx hb dX3_putEntry_152 (by decide) (fun c20 => ?_) (fun c20 => ?_)
  · have h := nd_pos h c20
    refine lv_iconst (v := 0) hx hb dX3_putEntry_160 (by decide) ?_
    exact (db_X3_putEntry_161 C K) (x1) (x2) (x3) (x4) ((sR s0.2 0 (Int32.toNatClampNeg x1))) (0) s0 _ _ _ h hP hD hS (lv_sub hl [0, 1, 2, 3, 4] rfl)
  · have h := nd_neg h c20
    refine lv_bipush (v := 8) hx hb dX3_putEntry_155 (by decide) ?_
    refine lv_goto (tgt := 161) hx hb dX3_putEntry_157 (by decide) ?_
    exact (db_X3_putEntry_161 C K) (x1) (x2) (x3) (x4) ((sR s0.2 0 (Int32.toNatClampNeg x1))) (8) s0 _ _ _ h hP hD hS (lv_sub hl [0, 1, 2, 3, 4] rfl)
set_option maxHeartbeats 40000000 in
set_option maxRecDepth 100000 in
theorem db_X3_putEntry_90 {p : Program} {l : Launch} {e : Env} {s : State} {m : MethodId} {args : Array Value} {below : List Frame} {meth : Method} {c : Code} {Q : State → Prop} {A : Nat → Prop} {dC : Nat → ClassId} {dI : Nat → Nat → Nat} {a : Nat → Nat} {ac : Nat → ClassId} {n : Nat} {r : St × (St)} (C : nd_C p l s m args c A (dC, dI) cX3_putEntry 5 RX3 ow_dm_X3_putEntry (dk_X3s ac)) (K : nd_Kv p l e (headSpec ow_dm_X3_putEntry ({ frames := 2, cells := 0, slots := 0, locals := 49 })).room s m args below meth c Q A (dC, dI) cX3_putEntry (St × (St)) (dw_X3s a ac) r) : dj_X3_putEntry_90 p l e s m args below meth c Q A dC dI a ac (df_X3_putEntry_90 n (a 0)) r := by
  obtain ⟨hlt, hx, hb, hml, hown, hts, hN, hA, hK⟩ := id C
  intro x1 x2 x3 s0 H locs ls h hP hD hS hl
  unfold df_X3_putEntry_90 at h
  refine lv_aload_n hx hb dX3_putEntry_90 rfl (lv_at hl 0 rfl) ?_
  refine va_get (D := (dC, dI)) (ci := 4) (v := .ref (a 4)) (C := RX3) (T := TX3) (N := 11) hx hb hts hi_dm_X3_putEntry_X3 hown hK hP 1 rfl rfl 2 (by decide) (hts (.fieldLink RX3 17 "TimeMachine$Events" "a" "[J") (List.mem_of_getElem? (i := 6) rfl)) (fun _ h9 => h9) rfl dX3_putEntry_91 ?_
  refine lv_iload_n hx hb dX3_putEntry_94 rfl (lv_at hl 1 rfl) ?_
  obtain ⟨i17, h⟩ := nd_ck_e h
  refine va_lald (i := x1) hx hb hK hP 4 3 rfl rfl i17 dX3_putEntry_95 ?_
  refine lv_l2i hx hb dX3_putEntry_96 rfl ?_
  refine lv_topi (fun z18 ez18 => ?_)
  have h := nd_at h ez18
  refine lv_istore (lv' := [(4, .int z18), (0, .ref (a 1)), (1, .int x1), (2, .int x2), (3, .int x3)]) hx hb dX3_putEntry_97 hl (by decide) rfl (fun ls hl => ?_)
  refine lv_goto (tgt := 144) hx hb dX3_putEntry_99 (by decide) ?_
  exact (db_X3_putEntry_144 C K) (x1) (x2) (x3) (z18) s0 _ _ _ h hP hD hS (lv_sub hl [1, 2, 3, 4, 0] rfl)
set_option maxHeartbeats 40000000 in
set_option maxRecDepth 100000 in
theorem db_X3_putEntry_126 {p : Program} {l : Launch} {e : Env} {s : State} {m : MethodId} {args : Array Value} {below : List Frame} {meth : Method} {c : Code} {Q : State → Prop} {A : Nat → Prop} {dC : Nat → ClassId} {dI : Nat → Nat → Nat} {a : Nat → Nat} {ac : Nat → ClassId} {n : Nat} {r : St × (St)} (C : nd_C p l s m args c A (dC, dI) cX3_putEntry 5 RX3 ow_dm_X3_putEntry (dk_X3s ac)) (K : nd_Kv p l e (headSpec ow_dm_X3_putEntry ({ frames := 2, cells := 0, slots := 0, locals := 49 })).room s m args below meth c Q A (dC, dI) cX3_putEntry (St × (St)) (dw_X3s a ac) r) : dj_X3_putEntry_126 p l e s m args below meth c Q A dC dI a ac (df_X3_putEntry_126 n (a 0)) r := by
  obtain ⟨hlt, hx, hb, hml, hown, hts, hN, hA, hK⟩ := id C
  intro x1 x2 x3 y0 s0 H locs ls h hP hD hS hl
  unfold df_X3_putEntry_126 at h
  refine lv_istore (lv' := [(4, .int y0), (0, .ref (a 1)), (1, .int x1), (2, .int x2), (3, .int x3)]) hx hb dX3_putEntry_126 hl (by decide) rfl (fun ls hl => ?_)
  refine lv_goto (tgt := 144) hx hb dX3_putEntry_128 (by decide) ?_
  exact (db_X3_putEntry_144 C K) (x1) (x2) (x3) (y0) s0 _ _ _ h hP hD hS (lv_sub hl [1, 2, 3, 4, 0] rfl)
set_option maxHeartbeats 40000000 in
set_option maxRecDepth 100000 in
theorem db_X3_putEntry_67 {p : Program} {l : Launch} {e : Env} {s : State} {m : MethodId} {args : Array Value} {below : List Frame} {meth : Method} {c : Code} {Q : State → Prop} {A : Nat → Prop} {dC : Nat → ClassId} {dI : Nat → Nat → Nat} {a : Nat → Nat} {ac : Nat → ClassId} {n : Nat} {r : St × (St)} (C : nd_C p l s m args c A (dC, dI) cX3_putEntry 5 RX3 ow_dm_X3_putEntry (dk_X3s ac)) (K : nd_Kv p l e (headSpec ow_dm_X3_putEntry ({ frames := 2, cells := 0, slots := 0, locals := 49 })).room s m args below meth c Q A (dC, dI) cX3_putEntry (St × (St)) (dw_X3s a ac) r) : dj_X3_putEntry_67 p l e s m args below meth c Q A dC dI a ac (df_X3_putEntry_67 n (a 0)) r := by
  obtain ⟨hlt, hx, hb, hml, hown, hts, hN, hA, hK⟩ := id C
  intro x1 x2 y0 s0 H locs ls h hP hD hS hl
  unfold df_X3_putEntry_67 at h
  refine lv_istore_n (lv' := [(3, .int y0), (0, .ref (a 1)), (1, .int x1), (2, .int x2)]) hx hb dX3_putEntry_67 rfl hl (by decide) rfl (fun ls hl => ?_)
  refine lv_iconst (v := 0) hx hb dX3_putEntry_68 (by decide) ?_
  refine lv_istore (lv' := [(4, .int 0), (3, .int y0), (0, .ref (a 1)), (1, .int x1), (2, .int x2)]) hx hb dX3_putEntry_69 hl (by decide) rfl (fun ls hl => ?_)
  refine lv_aload_n hx hb dX3_putEntry_71 rfl (lv_at hl 2 rfl) ?_
  refine va_get (D := (dC, dI)) (ci := 4) (v := .ref (a 2)) (C := RX3) (T := TX3) (N := 11) hx hb hts hi_dm_X3_putEntry_X3 hown hK hP 1 rfl rfl 0 (by decide) (hts (.fieldLink RX3 9 "TimeMachine$Events" "kind" "[I") (List.mem_of_getElem? (i := 5) rfl)) (fun _ h9 => h9) rfl dX3_putEntry_72 ?_
  refine lv_iload_n hx hb dX3_putEntry_75 rfl (lv_at hl 3 rfl) ?_
  obtain ⟨i15, h⟩ := nd_ck_e h
  refine va_iald (i := x1) hx hb hK hP 2 1 rfl rfl i15 dX3_putEntry_76 ?_
  refine lv_if_eq (tgt := 90) hx hb dX3_putEntry_77 (by decide) (fun c16 => ?_) (fun c16 => ?_)
  · have h := nd_pos h c16
    exact (db_X3_putEntry_90 C K) (x1) (x2) (y0) s0 _ _ _ h hP hD hS (lv_sub hl [2, 3, 4, 1] rfl)
  · have h := nd_neg h c16
    refine lv_aload_n hx hb dX3_putEntry_80 rfl (lv_at hl 2 rfl) ?_
    refine va_get (D := (dC, dI)) (ci := 4) (v := .ref (a 2)) (C := RX3) (T := TX3) (N := 11) hx hb hts hi_dm_X3_putEntry_X3 hown hK hP 1 rfl rfl 0 (by decide) (hts (.fieldLink RX3 9 "TimeMachine$Events" "kind" "[I") (List.mem_of_getElem? (i := 5) rfl)) (fun _ h9 => h9) rfl dX3_putEntry_81 ?_
    refine lv_iload_n hx hb dX3_putEntry_84 rfl (lv_at hl 3 rfl) ?_
    obtain ⟨i64, h⟩ := nd_ck_e h
    refine va_iald (i := x1) hx hb hK hP 2 1 rfl rfl i64 dX3_putEntry_85 ?_
    refine lv_iconst (v := 2) hx hb dX3_putEntry_86 (by decide) ?_
    refine lv_icmp_ne (tgt := 102) hx hb dX3_putEntry_87 (by decide) (fun c65 => ?_) (fun c65 => ?_)
    · have h := nd_neg h c65
      refine lv_aload_n hx hb dX3_putEntry_102 rfl (lv_at hl 2 rfl) ?_
      refine va_get (D := (dC, dI)) (ci := 4) (v := .ref (a 2)) (C := RX3) (T := TX3) (N := 11) hx hb hts hi_dm_X3_putEntry_X3 hown hK hP 1 rfl rfl 0 (by decide) (hts (.fieldLink RX3 9 "TimeMachine$Events" "kind" "[I") (List.mem_of_getElem? (i := 5) rfl)) (fun _ h9 => h9) rfl dX3_putEntry_103 ?_
      refine lv_iload_n hx hb dX3_putEntry_106 rfl (lv_at hl 3 rfl) ?_
      obtain ⟨i66, h⟩ := nd_ck_e h
      refine va_iald (i := x1) hx hb hK hP 2 1 rfl rfl i66 dX3_putEntry_107 ?_
      refine lv_iconst (v := 1) hx hb dX3_putEntry_108 (by decide) ?_
      refine lv_icmp_ne (tgt := 131) hx hb dX3_putEntry_109 (by decide) (fun c67 => ?_) (fun c67 => ?_)
      · have h := nd_neg h c67
        refine lv_aload_n hx hb dX3_putEntry_131 rfl (lv_at hl 2 rfl) ?_
        refine va_get (D := (dC, dI)) (ci := 4) (v := .ref (a 2)) (C := RX3) (T := TX3) (N := 11) hx hb hts hi_dm_X3_putEntry_X3 hown hK hP 1 rfl rfl 0 (by decide) (hts (.fieldLink RX3 9 "TimeMachine$Events" "kind" "[I") (List.mem_of_getElem? (i := 5) rfl)) (fun _ h9 => h9) rfl dX3_putEntry_132 ?_
        refine lv_iload_n hx hb dX3_putEntry_135 rfl (lv_at hl 3 rfl) ?_
        obtain ⟨i68, h⟩ := nd_ck_e h
        refine va_iald (i := x1) hx hb hK hP 2 1 rfl rfl i68 dX3_putEntry_136 ?_
        refine lv_iconst (v := 3) hx hb dX3_putEntry_137 (by decide) ?_
        refine lv_icmp_ne (tgt := 144) hx hb dX3_putEntry_138 (by decide) (fun c69 => ?_) (fun c69 => ?_)
        · have h := nd_neg h c69
          exact (db_X3_putEntry_144 C K) (x1) (x2) (y0) (0) s0 _ _ _ h hP hD hS (lv_sub hl [2, 3, 4, 1, 0] rfl)
        · have h := nd_pos h c69
          refine lv_iload_n hx hb dX3_putEntry_141 rfl (lv_at hl 1 rfl) ?_
          refine lv_istore (lv' := [(4, .int y0), (3, .int y0), (0, .ref (a 1)), (1, .int x1), (2, .int x2)]) hx hb dX3_putEntry_142 hl (by decide) rfl (fun ls hl => ?_)
          exact (db_X3_putEntry_144 C K) (x1) (x2) (y0) (y0) s0 _ _ _ h hP hD hS (lv_sub hl [2, 3, 4, 1, 0] rfl)
      · have h := nd_pos h c67
        refine lv_iload_n hx hb dX3_putEntry_112 rfl (lv_at hl 1 rfl) ?_
        refine lv_if_le (tgt := 120) hx hb dX3_putEntry_113 (by decide) (fun c70 => ?_) (fun c70 => ?_)
        · have h := nd_pos h c70
          refine lv_aload_n hx hb dX3_putEntry_120 rfl (lv_at hl 2 rfl) ?_
          refine va_get (D := (dC, dI)) (ci := 4) (v := .ref (a 5)) (C := RX3) (T := TX3) (N := 11) hx hb hts hi_dm_X3_putEntry_X3 hown hK hP 1 rfl rfl 3 (by decide) (hts (.fieldLink RX3 20 "TimeMachine$Events" "b" "[I") (List.mem_of_getElem? (i := 16) rfl)) (fun _ h9 => h9) rfl dX3_putEntry_121 ?_
          refine lv_iload_n hx hb dX3_putEntry_124 rfl (lv_at hl 3 rfl) ?_
          obtain ⟨i71, h⟩ := nd_ck_e h
          refine va_iald (i := x1) hx hb hK hP 5 4 rfl rfl i71 dX3_putEntry_125 ?_
          exact (db_X3_putEntry_126 C K) (x1) (x2) (y0) ((sR s0.2 1 (Int32.toNatClampNeg x1))) s0 _ _ _ h hP hD hS (lv_sub hl [2, 3, 4, 1] rfl)
        · have h := nd_neg h c70
          refine lv_iconst (v := 0) hx hb dX3_putEntry_116 (by decide) ?_
          refine lv_goto (tgt := 126) hx hb dX3_putEntry_117 (by decide) ?_
          exact (db_X3_putEntry_126 C K) (x1) (x2) (y0) (0) s0 _ _ _ h hP hD hS (lv_sub hl [2, 3, 4, 1] rfl)
    · have h := nd_pos h c65
      exact (db_X3_putEntry_90 C K) (x1) (x2) (y0) s0 _ _ _ h hP hD hS (lv_sub hl [2, 3, 4, 1] rfl)
set_option maxHeartbeats 40000000 in
set_option maxRecDepth 100000 in
theorem db_X3_putEntry_29 {p : Program} {l : Launch} {e : Env} {s : State} {m : MethodId} {args : Array Value} {below : List Frame} {meth : Method} {c : Code} {Q : State → Prop} {A : Nat → Prop} {dC : Nat → ClassId} {dI : Nat → Nat → Nat} {a : Nat → Nat} {ac : Nat → ClassId} {n : Nat} {r : St × (St)} (C : nd_C p l s m args c A (dC, dI) cX3_putEntry 5 RX3 ow_dm_X3_putEntry (dk_X3s ac)) (K : nd_Kv p l e (headSpec ow_dm_X3_putEntry ({ frames := 2, cells := 0, slots := 0, locals := 49 })).room s m args below meth c Q A (dC, dI) cX3_putEntry (St × (St)) (dw_X3s a ac) r) : dj_X3_putEntry_29 p l e s m args below meth c Q A dC dI a ac (df_X3_putEntry_29 n (a 0)) r := by
  obtain ⟨hlt, hx, hb, hml, hown, hts, hN, hA, hK⟩ := id C
  intro x1 y0 s0 H locs ls h hP hD hS hl
  unfold df_X3_putEntry_29 at h
  refine lv_istore_n (lv' := [(2, .int y0), (0, .ref (a 1)), (1, .int x1)]) hx hb dX3_putEntry_29 rfl hl (by decide) rfl (fun ls hl => ?_)
  refine lv_aload_n hx hb dX3_putEntry_30 rfl (lv_at hl 1 rfl) ?_
  refine va_get (D := (dC, dI)) (ci := 4) (v := .ref (a 2)) (C := RX3) (T := TX3) (N := 11) hx hb hts hi_dm_X3_putEntry_X3 hown hK hP 1 rfl rfl 0 (by decide) (hts (.fieldLink RX3 9 "TimeMachine$Events" "kind" "[I") (List.mem_of_getElem? (i := 5) rfl)) (fun _ h9 => h9) rfl dX3_putEntry_31 ?_
  refine lv_iload_n hx hb dX3_putEntry_34 rfl (lv_at hl 2 rfl) ?_
  obtain ⟨i11, h⟩ := nd_ck_e h
  refine va_iald (i := x1) hx hb hK hP 2 1 rfl rfl i11 dX3_putEntry_35 ?_
  refine lv_iconst (v := 1) hx hb dX3_putEntry_36 (by decide) ?_
  refine lv_icmp_ne (tgt := 48) hx hb dX3_putEntry_37 (by decide) (fun c12 => ?_) (fun c12 => ?_)
  · have h := nd_neg h c12
    refine lv_aload_n hx hb dX3_putEntry_48 rfl (lv_at hl 1 rfl) ?_
    refine va_get (D := (dC, dI)) (ci := 4) (v := .ref (a 2)) (C := RX3) (T := TX3) (N := 11) hx hb hts hi_dm_X3_putEntry_X3 hown hK hP 1 rfl rfl 0 (by decide) (hts (.fieldLink RX3 9 "TimeMachine$Events" "kind" "[I") (List.mem_of_getElem? (i := 5) rfl)) (fun _ h9 => h9) rfl dX3_putEntry_49 ?_
    refine lv_iload_n hx hb dX3_putEntry_52 rfl (lv_at hl 2 rfl) ?_
    obtain ⟨i13, h⟩ := nd_ck_e h
    refine va_iald (i := x1) hx hb hK hP 2 1 rfl rfl i13 dX3_putEntry_53 ?_
    refine lv_iconst (v := 3) hx hb dX3_putEntry_54 (by decide) ?_
    refine lv_icmp_ne (tgt := 66) hx hb dX3_putEntry_55 (by decide) (fun c14 => ?_) (fun c14 => ?_)
    · have h := nd_neg h c14
      refine lv_iconst (v := 0) hx hb dX3_putEntry_66 (by decide) ?_
      exact (db_X3_putEntry_67 C K) (x1) (y0) (0) s0 _ _ _ h hP hD hS (lv_sub hl [1, 2, 0] rfl)
    · have h := nd_pos h c14
      refine lv_aload_n hx hb dX3_putEntry_58 rfl (lv_at hl 1 rfl) ?_
      refine lv_iload_n hx hb dX3_putEntry_59 rfl (lv_at hl 2 rfl) ?_
      obtain ⟨q72, s73, hq, h⟩ := nd_b2_e h
      have hPc := dp_X3s_1 hP
      have hDc := dd_X3s_1 hD
      have hKc := dy_X3s_1 hK
      have hFc := nd_rs hDc hS hA
      have hzA : ∀ q : Nat, H.size ≤ q → A q := fun q h => hA q (Nat.le_trans hS.1 h)
      refine nd_cVi (As := [.int x1]) (rest := []) (q := q72) (w' := dw_X3c (fun k => a (k + 1)) (fun k => ac (k + 1)) s73) ⟨hx, hb, hml, hown, hts⟩ (fun sz => dm_X3_sameClock l hlt dC dI (fun k => a (k + 1)) (fun k => ac (k + 1)) n (x1) s0.2 hq sz) (cwV 1 hts gi_dm_X3_putEntry_4 rfl rfl rfl (by decide +kernel) ⟨Nat.le_of_ble_eq_true rfl, Nat.le_of_ble_eq_true rfl⟩) hPc hDc hKc hS hA hN (va_recv hKc hPc (ci := 4) (q0 := 0) rfl rfl) rfl hl.1 rfl (Nat.le_of_ble_eq_true rfl) dX3_putEntry_60 (fun H locs hP1 hD1 hk1 hS => ?_)
      obtain ⟨hP, hD⟩ := dn_X3s_1 hP hD hzA hk1 hP1 hD1
      obtain ⟨s75, es75, h⟩ := nd_let_e h
      have hP : va_P (dC, dI) vwCl (dw_X3s a ac s75) H := by rw [es75]; exact hP
      have hD : va_D A (dw_X3s a ac s75) := by rw [es75]; exact hD
      refine lv_goto (tgt := 67) hx hb dX3_putEntry_63 (by decide) ?_
      exact (db_X3_putEntry_67 C K) (x1) (y0) (q72) s75 _ _ _ h hP hD hS (lv_sub hl [1, 2, 0] rfl)
  · have h := nd_pos h c12
    refine lv_aload_n hx hb dX3_putEntry_40 rfl (lv_at hl 1 rfl) ?_
    refine lv_iload_n hx hb dX3_putEntry_41 rfl (lv_at hl 2 rfl) ?_
    obtain ⟨q76, s77, hq, h⟩ := nd_b2_e h
    have hPc := dp_X3s_1 hP
    have hDc := dd_X3s_1 hD
    have hKc := dy_X3s_1 hK
    have hFc := nd_rs hDc hS hA
    have hzA : ∀ q : Nat, H.size ≤ q → A q := fun q h => hA q (Nat.le_trans hS.1 h)
    refine nd_cVi (As := [.int x1]) (rest := []) (q := q76) (w' := dw_X3c (fun k => a (k + 1)) (fun k => ac (k + 1)) s77) ⟨hx, hb, hml, hown, hts⟩ (fun sz => dm_X3_sameTyped l hlt dC dI (fun k => a (k + 1)) (fun k => ac (k + 1)) n (x1) s0.2 hq sz) (cwV 1 hts gi_dm_X3_putEntry_5 rfl rfl rfl (by decide +kernel) ⟨Nat.le_of_ble_eq_true rfl, Nat.le_of_ble_eq_true rfl⟩) hPc hDc hKc hS hA hN (va_recv hKc hPc (ci := 4) (q0 := 0) rfl rfl) rfl hl.1 rfl (Nat.le_of_ble_eq_true rfl) dX3_putEntry_42 (fun H locs hP1 hD1 hk1 hS => ?_)
    obtain ⟨hP, hD⟩ := dn_X3s_1 hP hD hzA hk1 hP1 hD1
    obtain ⟨s79, es79, h⟩ := nd_let_e h
    have hP : va_P (dC, dI) vwCl (dw_X3s a ac s79) H := by rw [es79]; exact hP
    have hD : va_D A (dw_X3s a ac s79) := by rw [es79]; exact hD
    refine lv_goto (tgt := 67) hx hb dX3_putEntry_45 (by decide) ?_
    exact (db_X3_putEntry_67 C K) (x1) (y0) (q76) s79 _ _ _ h hP hD hS (lv_sub hl [1, 2, 0] rfl)
set_option maxHeartbeats 40000000 in
set_option maxRecDepth 100000 in
theorem db_X3_putEntry_20 {p : Program} {l : Launch} {e : Env} {s : State} {m : MethodId} {args : Array Value} {below : List Frame} {meth : Method} {c : Code} {Q : State → Prop} {A : Nat → Prop} {dC : Nat → ClassId} {dI : Nat → Nat → Nat} {a : Nat → Nat} {ac : Nat → ClassId} {n : Nat} {r : St × (St)} (C : nd_C p l s m args c A (dC, dI) cX3_putEntry 5 RX3 ow_dm_X3_putEntry (dk_X3s ac)) (K : nd_Kv p l e (headSpec ow_dm_X3_putEntry ({ frames := 2, cells := 0, slots := 0, locals := 49 })).room s m args below meth c Q A (dC, dI) cX3_putEntry (St × (St)) (dw_X3s a ac) r) : dj_X3_putEntry_20 p l e s m args below meth c Q A dC dI a ac (df_X3_putEntry_20 n (a 0)) r := by
  obtain ⟨hlt, hx, hb, hml, hown, hts, hN, hA, hK⟩ := id C
  intro x1 y0 y1 s0 H locs ls h hP hD hS hl
  unfold df_X3_putEntry_20 at h
  refine W.lcmp hx hb dX3_putEntry_20 ?_
  refine lv_if_ne (tgt := 28) hx hb dX3_putEntry_21 (by decide) (fun c10 => ?_) (fun c10 => ?_)
  · have h := nd_neg h c10
    refine lv_iconst (v := 0) hx hb dX3_putEntry_28 (by decide) ?_
    exact (db_X3_putEntry_29 C K) (x1) (0) s0 _ _ _ h hP hD hS (lv_sub hl [0, 1] rfl)
  · have h := nd_pos h c10
    refine lv_iconst (v := 1) hx hb dX3_putEntry_24 (by decide) ?_
    refine lv_goto (tgt := 29) hx hb dX3_putEntry_25 (by decide) ?_
    exact (db_X3_putEntry_29 C K) (x1) (1) s0 _ _ _ h hP hD hS (lv_sub hl [0, 1] rfl)
set_option maxHeartbeats 40000000 in
set_option maxRecDepth 100000 in
theorem db_X3_putEntry_0 {p : Program} {l : Launch} {e : Env} {s : State} {m : MethodId} {args : Array Value} {below : List Frame} {meth : Method} {c : Code} {Q : State → Prop} {A : Nat → Prop} {dC : Nat → ClassId} {dI : Nat → Nat → Nat} {a : Nat → Nat} {ac : Nat → ClassId} {n : Nat} {r : St × (St)} (C : nd_C p l s m args c A (dC, dI) cX3_putEntry 5 RX3 ow_dm_X3_putEntry (dk_X3s ac)) (K : nd_Kv p l e (headSpec ow_dm_X3_putEntry ({ frames := 2, cells := 0, slots := 0, locals := 49 })).room s m args below meth c Q A (dC, dI) cX3_putEntry (St × (St)) (dw_X3s a ac) r) : dj_X3_putEntry_0 p l e s m args below meth c Q A dC dI a ac (df_X3_putEntry_0 n (a 0)) r := by
  obtain ⟨hlt, hx, hb, hml, hown, hts, hN, hA, hK⟩ := id C
  intro v0 s0 H locs ls h hP hD hS hl
  unfold df_X3_putEntry_0 at h
  refine lv_aload_n hx hb dX3_putEntry_0 rfl (lv_at hl 0 rfl) ?_
  refine lv_iload_n hx hb dX3_putEntry_1 rfl (lv_at hl 1 rfl) ?_
  obtain ⟨q1, s2, hq, h⟩ := nd_b2_e h
  have hPc := dp_X3s_1 hP
  have hDc := dd_X3s_1 hD
  have hKc := dy_X3s_1 hK
  have hFc := nd_rs hDc hS hA
  have hzA : ∀ q : Nat, H.size ≤ q → A q := fun q h => hA q (Nat.le_trans hS.1 h)
  refine nd_cVl (As := [.int v0]) (rest := []) (q := q1) (w' := dw_X3c (fun k => a (k + 1)) (fun k => ac (k + 1)) s2) ⟨hx, hb, hml, hown, hts⟩ (fun sz => dm_X3_difference l hlt dC dI (fun k => a (k + 1)) (fun k => ac (k + 1)) n (v0) s0.2 hq sz) (cwV 1 hts gi_dm_X3_putEntry_0 rfl rfl rfl (by decide +kernel) ⟨Nat.le_of_ble_eq_true rfl, Nat.le_of_ble_eq_true rfl⟩) hPc hDc hKc hS hA hN (va_recv hKc hPc (ci := 4) (q0 := 0) rfl rfl) rfl hl.1 rfl (Nat.le_of_ble_eq_true rfl) dX3_putEntry_2 (fun H locs hP1 hD1 hk1 hS => ?_)
  obtain ⟨hP, hD⟩ := dn_X3s_1 hP hD hzA hk1 hP1 hD1
  obtain ⟨s4, es4, h⟩ := nd_let_e h
  have hP : va_P (dC, dI) vwCl (dw_X3s a ac s4) H := by rw [es4]; exact hP
  have hD : va_D A (dw_X3s a ac s4) := by rw [es4]; exact hD
  refine lv_iload_n hx hb dX3_putEntry_5 rfl (lv_at hl 1 rfl) ?_
  refine lv_if_ne (tgt := 13) hx hb dX3_putEntry_6 (by decide) (fun c5 => ?_) (fun c5 => ?_)
  · have h := nd_neg h c5
    refine lv_aload_n hx hb dX3_putEntry_13 rfl (lv_at hl 0 rfl) ?_
    refine lv_iload_n hx hb dX3_putEntry_14 rfl (lv_at hl 1 rfl) ?_
    refine lv_iconst (v := 1) hx hb dX3_putEntry_15 (by decide) ?_
    refine lv_isub hx hb dX3_putEntry_16 ?_
    obtain ⟨q6, s7, hq, h⟩ := nd_b2_e h
    have hPc := dp_X3s_1 hP
    have hDc := dd_X3s_1 hD
    have hKc := dy_X3s_1 hK
    have hFc := nd_rs hDc hS hA
    have hzA : ∀ q : Nat, H.size ≤ q → A q := fun q h => hA q (Nat.le_trans hS.1 h)
    refine nd_cVl (As := [.int (v0 - 1)]) (rest := [.long q1]) (q := q6) (w' := dw_X3c (fun k => a (k + 1)) (fun k => ac (k + 1)) s7) ⟨hx, hb, hml, hown, hts⟩ (fun sz => dm_X3_difference l hlt dC dI (fun k => a (k + 1)) (fun k => ac (k + 1)) n ((v0 - 1)) s4.2 hq sz) (cwV 1 hts gi_dm_X3_putEntry_0 rfl rfl rfl (by decide +kernel) ⟨Nat.le_of_ble_eq_true rfl, Nat.le_of_ble_eq_true rfl⟩) hPc hDc hKc hS hA hN (va_recv hKc hPc (ci := 4) (q0 := 0) rfl rfl) rfl hl.1 rfl (Nat.le_of_ble_eq_true rfl) dX3_putEntry_17 (fun H locs hP1 hD1 hk1 hS => ?_)
    obtain ⟨hP, hD⟩ := dn_X3s_1 hP hD hzA hk1 hP1 hD1
    obtain ⟨s9, es9, h⟩ := nd_let_e h
    have hP : va_P (dC, dI) vwCl (dw_X3s a ac s9) H := by rw [es9]; exact hP
    have hD : va_D A (dw_X3s a ac s9) := by rw [es9]; exact hD
    exact (db_X3_putEntry_20 C K) (v0) (q1) (q6) s9 _ _ _ h hP hD hS (lv_sub hl [0, 1] rfl)
  · have h := nd_pos h c5
    refine lv_lconst (v := 0) hx hb dX3_putEntry_9 (by decide) ?_
    refine lv_goto (tgt := 20) hx hb dX3_putEntry_10 (by decide) ?_
    exact (db_X3_putEntry_20 C K) (v0) (q1) (0) s4 _ _ _ h hP hD hS (lv_sub hl [0, 1] rfl)
set_option maxHeartbeats 40000000 in
set_option maxRecDepth 100000 in
theorem dm_X3_putEntry (l : Launch) (hlt : l.stackTraces = false) (dC : Nat → ClassId) (dI : Nat → Nat → Nat) (a : Nat → Nat) (ac : Nat → ClassId) (n : Nat) (v0 : Int32) (s0 : St × (St)) {r : St × (St)} (h : df_X3_putEntry n (a 0) v0 s0 = some r) (sz : Nat) : Met l yX3_putEntry ow_dm_X3_putEntry ({ frames := 2, cells := 0, slots := 0, locals := 49 }) (va_Pc [.ref (a 1), .int v0] (fun U => U.heap.size = sz ∧ va_P (dC, dI) vwCl (dw_X3s a ac s0) U.heap ∧ va_K (dC, dI) vwCl (dk_X3s ac) U ∧ va_D (fun _ => True) (dw_X3s a ac s0) ∧ nv_E (va_A (dw_X3s a ac s0) sz) U)) (va_Qv (fun _ => True) (fun (_ : Unit) t => va_P (dC, dI) vwCl (dw_X3s a ac r) t.heap ∧ va_K (dC, dI) vwCl (dk_X3s ac) t ∧ va_D (va_A (dw_X3s a ac s0) sz) (dw_X3s a ac r)) (va_A (dw_X3s a ac s0) sz)) 0 0 (va_A (dw_X3s a ac s0) sz) := by
  refine Met.ofW (cc := cX3_putEntry) (maxL := 5) (ret := none) (by decide) rfl ?_
  intro p e s m args below meth c s₁ B hml hv
  obtain ⟨rfl, hsz, hP, hK, hD0, hN⟩ := hv
  have hx := B.exec
  have hb := B.bytes
  have hr := B.returns
  have hts := atoms_spec (ws := ow_dm_X3_putEntry) B.pre
  have hown : s.vm.findClass RX3 = some m.cls := findClass_of_methodNamed B.named
  have hlocks := B.notSynchronized
  subst hsz
  have hD := hD0.self (sz := s.heap.size)
  generalize hAe : va_A (dw_X3s a ac s0) s.heap.size = A at hD hN ⊢
  have hA : ∀ q : Nat, s.heap.size ≤ q → A q := fun q h => by rw [← hAe]; exact Or.inr h
  have hl := lv_entry ([.ref (a 1), .int v0]) (n := 5) (Nat.le_of_ble_eq_true rfl)
  rw [lg_entry_eq]
  generalize (lg_sl ([.ref (a 1), .int v0]) ++ List.replicate (5 - (lg_sl ([.ref (a 1), .int v0])).length) Slot.unset).toArray = ls at hl ⊢
  have hl : lv_has ls 5 [(0, .ref (a 1)), (1, .int v0)] := hl
  exact db_X3_putEntry_0 (dC := dC) (dI := dI) (a := a) (ac := ac) (n := n) (r := r) ⟨hlt, hx, hb, hml, hown, hts, hN, hA, hK⟩ (fun pc τ H locs ls d er hP hD hS => by subst er; exact W.vret hx hb hr (fun t ht hW => ⟨⟨(), rfl, trivial, by rw [ht]; exact hP, va_K.moved hW.alike hK, hD⟩, hS.F ht⟩) hS.2.2 d) v0 s0 _ _ _ h hP hD va_S.rf (lv_sub hl [0, 1] rfl)
def ow_dm_X3_writeLog : List Cond := .code yX3_writeLog cX3_writeLog 4 (some .int) :: ([.fieldLink RX3 23 "TimeMachine$Events" "row" "[B", .fieldLink RX3 44 "TimeMachine$Events" "place" "I", .fieldLink RX3 35 "TimeMachine$Events" "recorded" "I", .methodLink RX3 47 yX3_putVarint, .instanceMethod yX3_putVarint, .selects RX3 yX3_putVarint yX3_putVarint, .initialized RX3, .methodLink RX3 51 yX3_likeBefore, .instanceMethod yX3_likeBefore, .selects RX3 yX3_likeBefore yX3_likeBefore, .methodLink RX3 59 yX3_putByte, .instanceMethod yX3_putByte, .selects RX3 yX3_putByte yX3_putByte, .methodLink RX3 55 yX3_putEntry, .instanceMethod yX3_putEntry, .selects RX3 yX3_putEntry yX3_putEntry] ++ (u_ws RX3 TX3 11 ++ (ow_dm_X3_putVarint ++ (ow_dm_X3_likeBefore ++ (ow_dm_X3_putByte ++ (ow_dm_X3_putEntry ++ []))))))
theorem gd_dm_X3_writeLog : ∀ w ∈ ow_dm_X3_writeLog, (w.onTables && w.keeps) = true ∨ ∃ ty, w = Cond.arrayClass ty := List.forall_mem_cons.mpr ⟨good_of_word rfl, List.forall_mem_append.mpr ⟨fun w h => good_of_word (List.all_eq_true.mp (by decide +kernel) w h), List.forall_mem_append.mpr ⟨gu_X3, List.forall_mem_append.mpr ⟨gd_dm_X3_putVarint, List.forall_mem_append.mpr ⟨gd_dm_X3_likeBefore, List.forall_mem_append.mpr ⟨gd_dm_X3_putByte, List.forall_mem_append.mpr ⟨gd_dm_X3_putEntry, fun _ h => nomatch h⟩⟩⟩⟩⟩⟩⟩
theorem hi_dm_X3_writeLog_X3 : ∀ w ∈ u_ws RX3 TX3 11, w ∈ ow_dm_X3_writeLog := fun w h => List.mem_cons_of_mem _ (List.mem_append_right _ (List.mem_append_left _ h))
theorem gi_dm_X3_writeLog_0 : GoodIn ow_dm_X3_writeLog (wsV RX3 47 RX3 yX3_putVarint ow_dm_X3_putVarint) := goodIn_app (goodIn_of _ (by decide +kernel)) (fun w h => ⟨List.mem_cons_of_mem _ (List.mem_append_right _ (List.mem_append_right _ (List.mem_append_left _ h))), gd_dm_X3_putVarint w h⟩)
theorem gi_dm_X3_writeLog_1 : GoodIn ow_dm_X3_writeLog (wsV RX3 51 RX3 yX3_likeBefore ow_dm_X3_likeBefore) := goodIn_app (goodIn_of _ (by decide +kernel)) (fun w h => ⟨List.mem_cons_of_mem _ (List.mem_append_right _ (List.mem_append_right _ (List.mem_append_right _ (List.mem_append_left _ h)))), gd_dm_X3_likeBefore w h⟩)
theorem gi_dm_X3_writeLog_2 : GoodIn ow_dm_X3_writeLog (wsV RX3 59 RX3 yX3_putByte ow_dm_X3_putByte) := goodIn_app (goodIn_of _ (by decide +kernel)) (fun w h => ⟨List.mem_cons_of_mem _ (List.mem_append_right _ (List.mem_append_right _ (List.mem_append_right _ (List.mem_append_right _ (List.mem_append_left _ h))))), gd_dm_X3_putByte w h⟩)
theorem gi_dm_X3_writeLog_3 : GoodIn ow_dm_X3_writeLog (wsV RX3 55 RX3 yX3_putEntry ow_dm_X3_putEntry) := goodIn_app (goodIn_of _ (by decide +kernel)) (fun w h => ⟨List.mem_cons_of_mem _ (List.mem_append_right _ (List.mem_append_right _ (List.mem_append_right _ (List.mem_append_right _ (List.mem_append_right _ (List.mem_append_left _ h)))))), gd_dm_X3_putEntry w h⟩)
def dj_X3_writeLog_85 (p : Program) (l : Launch) (e : Env) (s : State) (m : MethodId) (args : Array Value) (below : List Frame) (meth : Method) (c : Code) (Q : State → Prop) (A : Nat → Prop) (dC : Nat → ClassId) (dI : Nat → Nat → Nat) (a : Nat → Nat) (ac : Nat → ClassId) (g : Int32 → (St × (St)) → Option (Int32 × (St × (St)))) (r : Int32 × (St × (St))) : Prop := ∀ (x2 : Int32) (s0 : St × (St)) (H : Heap) (locs : List Loc) (ls : Array Slot), g x2 s0 = some r → va_P (dC, dI) vwCl (dw_X3s a ac s0) H → va_D A (dw_X3s a ac s0) → va_S A s.heap H locs → lv_has ls 4 [(0, .ref (a 1)), (2, .int x2)] → W p l e (headSpec ow_dm_X3_writeLog ({ frames := 3, cells := 0, slots := 0, locals := 73 })).room s m args below meth c H locs 0 0 Q (F0 m 85 ls [])
def dj_X3_writeLog_81 (p : Program) (l : Launch) (e : Env) (s : State) (m : MethodId) (args : Array Value) (below : List Frame) (meth : Method) (c : Code) (Q : State → Prop) (A : Nat → Prop) (dC : Nat → ClassId) (dI : Nat → Nat → Nat) (a : Nat → Nat) (ac : Nat → ClassId) (g : Int32 → Int32 → (St × (St)) → Option (Int32 × (St × (St)))) (r : Int32 × (St × (St))) : Prop := ∀ (x2 : Int32) (x3 : Int32) (s0 : St × (St)) (H : Heap) (locs : List Loc) (ls : Array Slot), g x2 x3 s0 = some r → va_P (dC, dI) vwCl (dw_X3s a ac s0) H → va_D A (dw_X3s a ac s0) → va_S A s.heap H locs → lv_has ls 4 [(0, .ref (a 1)), (2, .int x2), (3, .int x3)] → W p l e (headSpec ow_dm_X3_writeLog ({ frames := 3, cells := 0, slots := 0, locals := 73 })).room s m args below meth c H locs 0 0 Q (F0 m 81 ls [])
def dj_X3_writeLog_65 (p : Program) (l : Launch) (e : Env) (s : State) (m : MethodId) (args : Array Value) (below : List Frame) (meth : Method) (c : Code) (Q : State → Prop) (A : Nat → Prop) (dC : Nat → ClassId) (dI : Nat → Nat → Nat) (a : Nat → Nat) (ac : Nat → ClassId) (g : Int32 → Int32 → Int32 → Int32 → (St × (St)) → Option (Int32 × (St × (St)))) (r : Int32 × (St × (St))) : Prop := ∀ (x2 : Int32) (x3 : Int32) (y1 : Int32) (y2 : Int32) (s0 : St × (St)) (H : Heap) (locs : List Loc) (ls : Array Slot), g x2 x3 y1 y2 s0 = some r → va_P (dC, dI) vwCl (dw_X3s a ac s0) H → va_D A (dw_X3s a ac s0) → va_S A s.heap H locs → lv_has ls 4 [(0, .ref (a 1)), (2, .int x2), (3, .int x3)] → W p l e (headSpec ow_dm_X3_writeLog ({ frames := 3, cells := 0, slots := 0, locals := 73 })).room s m args below meth c H locs 0 0 Q (F0 m 65 ls [.int y2, .int y1, .ref (a 1)])
def dj_X3_writeLog_21 (p : Program) (l : Launch) (e : Env) (s : State) (m : MethodId) (args : Array Value) (below : List Frame) (meth : Method) (c : Code) (Q : State → Prop) (A : Nat → Prop) (dC : Nat → ClassId) (dI : Nat → Nat → Nat) (a : Nat → Nat) (ac : Nat → ClassId) (g : Int32 → (St × (St)) → Option (Int32 × (St × (St)))) (r : Int32 × (St × (St))) : Prop := ∀ (x2 : Int32) (s0 : St × (St)) (H : Heap) (locs : List Loc) (ls : Array Slot), g x2 s0 = some r → va_P (dC, dI) vwCl (dw_X3s a ac s0) H → va_D A (dw_X3s a ac s0) → va_S A s.heap H locs → lv_has ls 4 [(0, .ref (a 1)), (2, .int x2)] → W p l e (headSpec ow_dm_X3_writeLog ({ frames := 3, cells := 0, slots := 0, locals := 73 })).room s m args below meth c H locs 0 0 Q (F0 m 21 ls [])
def dj_X3_writeLog_0 (p : Program) (l : Launch) (e : Env) (s : State) (m : MethodId) (args : Array Value) (below : List Frame) (meth : Method) (c : Code) (Q : State → Prop) (A : Nat → Prop) (dC : Nat → ClassId) (dI : Nat → Nat → Nat) (a : Nat → Nat) (ac : Nat → ClassId) (g : (St × (St)) → Option (Int32 × (St × (St)))) (r : Int32 × (St × (St))) : Prop := ∀ (s0 : St × (St)) (H : Heap) (locs : List Loc) (ls : Array Slot), g s0 = some r → va_P (dC, dI) vwCl (dw_X3s a ac s0) H → va_D A (dw_X3s a ac s0) → va_S A s.heap H locs → lv_has ls 4 [(0, .ref (a 1)), (1, .ref (a 0))] → W p l e (headSpec ow_dm_X3_writeLog ({ frames := 3, cells := 0, slots := 0, locals := 73 })).room s m args below meth c H locs 0 0 Q (F0 m 0 ls [])
set_option maxHeartbeats 40000000 in
set_option maxRecDepth 100000 in
theorem db_X3_writeLog_85 {p : Program} {l : Launch} {e : Env} {s : State} {m : MethodId} {args : Array Value} {below : List Frame} {meth : Method} {c : Code} {Q : State → Prop} {A : Nat → Prop} {dC : Nat → ClassId} {dI : Nat → Nat → Nat} {a : Nat → Nat} {ac : Nat → ClassId} {n : Nat} {r : Int32 × (St × (St))} (C : nd_C p l s m args c A (dC, dI) cX3_writeLog 4 RX3 ow_dm_X3_writeLog (dk_X3s ac)) (K : nd_Ki p l e (headSpec ow_dm_X3_writeLog ({ frames := 3, cells := 0, slots := 0, locals := 73 })).room s m args below meth c Q A (dC, dI) cX3_writeLog .int (St × (St)) (dw_X3s a ac) r) {g21 : Int32 → (St × (St)) → Option (Int32 × (St × (St)))} (J21 : dj_X3_writeLog_21 p l e s m args below meth c Q A dC dI a ac g21 r) : dj_X3_writeLog_85 p l e s m args below meth c Q A dC dI a ac (df_X3_writeLog_85 n (a 0) g21) r := by
  obtain ⟨hlt, hx, hb, hml, hown, hts, hN, hA, hK⟩ := id C
  intro x2 s0 H locs ls h hP hD hS hl
  unfold df_X3_writeLog_85 at h
  refine lv_goto (tgt := 21) hx hb dX3_writeLog_85 (by decide) ?_
  exact (J21) (x2) s0 _ _ _ h hP hD hS (lv_sub hl [0, 1] rfl)
set_option maxHeartbeats 40000000 in
set_option maxRecDepth 100000 in
theorem db_X3_writeLog_81 {p : Program} {l : Launch} {e : Env} {s : State} {m : MethodId} {args : Array Value} {below : List Frame} {meth : Method} {c : Code} {Q : State → Prop} {A : Nat → Prop} {dC : Nat → ClassId} {dI : Nat → Nat → Nat} {a : Nat → Nat} {ac : Nat → ClassId} {n : Nat} {r : Int32 × (St × (St))} (C : nd_C p l s m args c A (dC, dI) cX3_writeLog 4 RX3 ow_dm_X3_writeLog (dk_X3s ac)) (K : nd_Ki p l e (headSpec ow_dm_X3_writeLog ({ frames := 3, cells := 0, slots := 0, locals := 73 })).room s m args below meth c Q A (dC, dI) cX3_writeLog .int (St × (St)) (dw_X3s a ac) r) {g21 : Int32 → (St × (St)) → Option (Int32 × (St × (St)))} (J21 : dj_X3_writeLog_21 p l e s m args below meth c Q A dC dI a ac g21 r) : dj_X3_writeLog_81 p l e s m args below meth c Q A dC dI a ac (df_X3_writeLog_81 n (a 0) g21) r := by
  obtain ⟨hlt, hx, hb, hml, hown, hts, hN, hA, hK⟩ := id C
  intro x2 x3 s0 H locs ls h hP hD hS hl
  unfold df_X3_writeLog_81 at h
  refine lv_iload_n hx hb dX3_writeLog_81 rfl (lv_at hl 1 rfl) ?_
  refine lv_iload_n hx hb dX3_writeLog_82 rfl (lv_at hl 2 rfl) ?_
  refine lv_iadd hx hb dX3_writeLog_83 ?_
  refine lv_topi (fun z17 ez17 => ?_)
  have h := nd_at h ez17
  refine lv_istore_n (lv' := [(2, .int z17), (0, .ref (a 1)), (3, .int x3)]) hx hb dX3_writeLog_84 rfl hl (by decide) rfl (fun ls hl => ?_)
  exact (db_X3_writeLog_85 C K J21) (z17) s0 _ _ _ h hP hD hS (lv_sub hl [1, 0] rfl)
set_option maxHeartbeats 40000000 in
set_option maxRecDepth 100000 in
theorem db_X3_writeLog_65 {p : Program} {l : Launch} {e : Env} {s : State} {m : MethodId} {args : Array Value} {below : List Frame} {meth : Method} {c : Code} {Q : State → Prop} {A : Nat → Prop} {dC : Nat → ClassId} {dI : Nat → Nat → Nat} {a : Nat → Nat} {ac : Nat → ClassId} {n : Nat} {r : Int32 × (St × (St))} (C : nd_C p l s m args c A (dC, dI) cX3_writeLog 4 RX3 ow_dm_X3_writeLog (dk_X3s ac)) (K : nd_Ki p l e (headSpec ow_dm_X3_writeLog ({ frames := 3, cells := 0, slots := 0, locals := 73 })).room s m args below meth c Q A (dC, dI) cX3_writeLog .int (St × (St)) (dw_X3s a ac) r) {g21 : Int32 → (St × (St)) → Option (Int32 × (St × (St)))} (J21 : dj_X3_writeLog_21 p l e s m args below meth c Q A dC dI a ac g21 r) : dj_X3_writeLog_65 p l e s m args below meth c Q A dC dI a ac (df_X3_writeLog_65 n (a 0) g21) r := by
  obtain ⟨hlt, hx, hb, hml, hown, hts, hN, hA, hK⟩ := id C
  intro x2 x3 y1 y2 s0 H locs ls h hP hD hS hl
  unfold df_X3_writeLog_65 at h
  refine lv_ior hx hb dX3_writeLog_65 ?_
  obtain ⟨s14, hq, h⟩ := nd_b1_e h
  have hPc := hP
  have hDc := hD
  have hKc := hK
  have hFc := nd_rs hD hS hA
  refine nd_cVv (As := [.int (y1 ||| y2)]) (rest := []) (w' := dw_X3s a ac s14) ⟨hx, hb, hml, hown, hts⟩ (fun sz => dm_X3_putByte l hlt dC dI a ac n ((y1 ||| y2)) s0 hq sz) (cwV 1 hts gi_dm_X3_writeLog_2 rfl rfl rfl (by decide +kernel) ⟨Nat.le_of_ble_eq_true rfl, Nat.le_of_ble_eq_true rfl⟩) hPc hDc hKc hS hA hN (va_recv hKc hPc (ci := 4) (q0 := 1) rfl rfl) rfl hl.1 rfl (Nat.le_of_ble_eq_true rfl) dX3_writeLog_66 (fun H locs hP1 hD1 hk1 hS => ?_)
  have hP := hP1
  have hD := hD1.weaken (fun k q _ h => hFc q.1 h)
  refine lv_iload_n hx hb dX3_writeLog_69 rfl (lv_at hl 2 rfl) ?_
  refine lv_bipush (v := 15) hx hb dX3_writeLog_70 (by decide) ?_
  refine lv_icmp_le (tgt := 81) hx hb dX3_writeLog_72 (by decide) (fun c16 => ?_) (fun c16 => ?_)
  · have h := nd_pos h c16
    exact (db_X3_writeLog_81 C K J21) (x2) (x3) s14 _ _ _ h hP hD hS (lv_sub hl [0, 1, 2] rfl)
  · have h := nd_neg h c16
    refine lv_aload_n hx hb dX3_writeLog_75 rfl (lv_at hl 0 rfl) ?_
    refine lv_iload_n hx hb dX3_writeLog_76 rfl (lv_at hl 2 rfl) ?_
    refine lv_i2l hx hb dX3_writeLog_77 rfl ?_
    obtain ⟨s19, hq, h⟩ := nd_b1_e h
    have hPc := hP
    have hDc := hD
    have hKc := hK
    have hFc := nd_rs hD hS hA
    refine nd_cVv (As := [.long (x3.toInt64)]) (rest := []) (w' := dw_X3s a ac s19) ⟨hx, hb, hml, hown, hts⟩ (fun sz => dm_X3_putVarint l hlt dC dI a ac n ((x3.toInt64)) s14 hq sz) (cwV 1 hts gi_dm_X3_writeLog_0 rfl rfl rfl (by decide +kernel) ⟨Nat.le_of_ble_eq_true rfl, Nat.le_of_ble_eq_true rfl⟩) hPc hDc hKc hS hA hN (va_recv hKc hPc (ci := 4) (q0 := 1) rfl rfl) rfl hl.1 rfl (Nat.le_of_ble_eq_true rfl) dX3_writeLog_78 (fun H locs hP1 hD1 hk1 hS => ?_)
    have hP := hP1
    have hD := hD1.weaken (fun k q _ h => hFc q.1 h)
    exact (db_X3_writeLog_81 C K J21) (x2) (x3) s19 _ _ _ h hP hD hS (lv_sub hl [0, 1, 2] rfl)
