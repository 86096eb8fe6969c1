def ow_dm_X9_readText : List Cond := .code yX9_readText cX9_readText 2 none :: ([.fieldLink RX9 70 "TimeMachine$Reader" "from" "I", .fieldLink RX9 64 "TimeMachine$Reader" "stop" "I", .fieldLink RX9 73 "TimeMachine$Reader" "kind" "I", .methodLink RX9 58 Lib.Math.min.name, .static Lib.Math.min.name, .initialized "java/lang/Math", .code Lib.Math.min.name Lib.Math.min.code 2 (some .int), .fieldLink RX9 55 "TimeMachine$Reader" "at" "I", .fieldLink RX9 9 "TimeMachine$Reader" "source" "[B", .methodLink RX9 98 yX9_character, .instanceMethod yX9_character, .selects RX9 yX9_character yX9_character, .initialized RX9, .methodLink RX9 101 yX9_width, .instanceMethod yX9_width, .selects RX9 yX9_width yX9_width] ++ (u_ws RX9 TX9 20 ++ (ow_dm_X9_character ++ (ow_dm_X9_width ++ []))))
theorem gd_dm_X9_readText : ∀ w ∈ ow_dm_X9_readText, (w.onTables && w.keeps) = true ∨ ∃ ty, w = Cond.arrayClass ty := List.forall_mem_cons.mpr ⟨good_of_word rfl, List.forall_mem_append.mpr ⟨fun w h => good_of_word (List.all_eq_true.mp (by decide +kernel) w h), List.forall_mem_append.mpr ⟨gu_X9, List.forall_mem_append.mpr ⟨gd_dm_X9_character, List.forall_mem_append.mpr ⟨gd_dm_X9_width, fun _ h => nomatch h⟩⟩⟩⟩⟩
theorem hi_dm_X9_readText_X9 : ∀ w ∈ u_ws RX9 TX9 20, w ∈ ow_dm_X9_readText := fun w h => List.mem_cons_of_mem _ (List.mem_append_right _ (List.mem_append_left _ h))
theorem gi_dm_X9_readText_0 : GoodIn ow_dm_X9_readText (wsV RX9 98 RX9 yX9_character ow_dm_X9_character) := goodIn_app (goodIn_of _ (by decide +kernel)) (fun w h => ⟨List.mem_cons_of_mem _ (List.mem_append_right _ (List.mem_append_right _ (List.mem_append_left _ h))), gd_dm_X9_character w h⟩)
theorem gi_dm_X9_readText_1 : GoodIn ow_dm_X9_readText (wsV RX9 101 RX9 yX9_width ow_dm_X9_width) := goodIn_app (goodIn_of _ (by decide +kernel)) (fun w h => ⟨List.mem_cons_of_mem _ (List.mem_append_right _ (List.mem_append_right _ (List.mem_append_right _ (List.mem_append_left _ h)))), gd_dm_X9_width w h⟩)
def dj_X9_readText_62 (p : Program) (l : Launch) (e : Env) (s : State) (m : MethodId) (args : Array Value) (below : List Frame) (meth : Method) (c : Code) (Q : State → Prop) (A : Nat → Prop) (dC : Nat → ClassId) (dI : Nat → Nat → Nat) (a : Nat → Nat) (ac : Nat → ClassId) (g : Int32 → Int32 → (St) → Option (St)) (r : St) : Prop := ∀ (x1 : Int32) (y1 : Int32) (s0 : St) (H : Heap) (locs : List Loc) (ls : Array Slot), g x1 y1 s0 = some r → va_P (dC, dI) vwCl (dw_X9 a ac s0) H → va_D A (dw_X9 a ac s0) → va_S A s.heap H locs → lv_has ls 2 [(0, .ref (a 0)), (1, .int x1)] → W p l e (headSpec ow_dm_X9_readText ({ frames := 1, cells := 0, slots := 0, locals := 24 })).room s m args below meth c H locs 0 0 Q (F0 m 62 ls [.int y1, .ref (a 0)])
def dj_X9_readText_60 (p : Program) (l : Launch) (e : Env) (s : State) (m : MethodId) (args : Array Value) (below : List Frame) (meth : Method) (c : Code) (Q : State → Prop) (A : Nat → Prop) (dC : Nat → ClassId) (dI : Nat → Nat → Nat) (a : Nat → Nat) (ac : Nat → ClassId) (g : Int32 → (St) → Option (St)) (r : St) : Prop := ∀ (x1 : Int32) (s0 : St) (H : Heap) (locs : List Loc) (ls : Array Slot), g x1 s0 = some r → va_P (dC, dI) vwCl (dw_X9 a ac s0) H → va_D A (dw_X9 a ac s0) → va_S A s.heap H locs → lv_has ls 2 [(0, .ref (a 0)), (1, .int x1)] → W p l e (headSpec ow_dm_X9_readText ({ frames := 1, cells := 0, slots := 0, locals := 24 })).room s m args below meth c H locs 0 0 Q (F0 m 60 ls [.ref (a 0)])
def dj_X9_readText_36 (p : Program) (l : Launch) (e : Env) (s : State) (m : MethodId) (args : Array Value) (below : List Frame) (meth : Method) (c : Code) (Q : State → Prop) (A : Nat → Prop) (dC : Nat → ClassId) (dI : Nat → Nat → Nat) (a : Nat → Nat) (ac : Nat → ClassId) (g : Int32 → (St) → Option (St)) (r : St) : Prop := ∀ (x1 : Int32) (s0 : St) (H : Heap) (locs : List Loc) (ls : Array Slot), g x1 s0 = some r → va_P (dC, dI) vwCl (dw_X9 a ac s0) H → va_D A (dw_X9 a ac s0) → va_S A s.heap H locs → lv_has ls 2 [(0, .ref (a 0)), (1, .int x1)] → W p l e (headSpec ow_dm_X9_readText ({ frames := 1, cells := 0, slots := 0, locals := 24 })).room s m args below meth c H locs 0 0 Q (F0 m 36 ls [])
def dj_X9_readText_7 (p : Program) (l : Launch) (e : Env) (s : State) (m : MethodId) (args : Array Value) (below : List Frame) (meth : Method) (c : Code) (Q : State → Prop) (A : Nat → Prop) (dC : Nat → ClassId) (dI : Nat → Nat → Nat) (a : Nat → Nat) (ac : Nat → ClassId) (g : Int32 → (St) → Option (St)) (r : St) : Prop := ∀ (x1 : Int32) (s0 : St) (H : Heap) (locs : List Loc) (ls : Array Slot), g x1 s0 = some r → va_P (dC, dI) vwCl (dw_X9 a ac s0) H → va_D A (dw_X9 a ac s0) → va_S A s.heap H locs → lv_has ls 2 [(0, .ref (a 0)), (1, .int x1)] → W p l e (headSpec ow_dm_X9_readText ({ frames := 1, cells := 0, slots := 0, locals := 24 })).room s m args below meth c H locs 0 0 Q (F0 m 7 ls [])
def dj_X9_readText_0 (p : Program) (l : Launch) (e : Env) (s : State) (m : MethodId) (args : Array Value) (below : List Frame) (meth : Method) (c : Code) (Q : State → Prop) (A : Nat → Prop) (dC : Nat → ClassId) (dI : Nat → Nat → Nat) (a : Nat → Nat) (ac : Nat → ClassId) (g : (St) → Option (St)) (r : St) : Prop := ∀ (s0 : St) (H : Heap) (locs : List Loc) (ls : Array Slot), g s0 = some r → va_P (dC, dI) vwCl (dw_X9 a ac s0) H → va_D A (dw_X9 a ac s0) → va_S A s.heap H locs → lv_has ls 2 [(0, .ref (a 0))] → W p l e (headSpec ow_dm_X9_readText ({ frames := 1, cells := 0, slots := 0, locals := 24 })).room s m args below meth c H locs 0 0 Q (F0 m 0 ls [])
set_option maxHeartbeats 40000000 in
set_option maxRecDepth 100000 in
theorem db_X9_readText_62 {p : Program} {l : Launch} {e : Env} {s : State} {m : MethodId} {args : Array Value} {below : List Frame} {meth : Method} {c : Code} {Q : State → Prop} {A : Nat → Prop} {dC : Nat → ClassId} {dI : Nat → Nat → Nat} {a : Nat → Nat} {ac : Nat → ClassId} {n : Nat} {r : St} (C : nd_C p l s m args c A (dC, dI) cX9_readText 2 RX9 ow_dm_X9_readText (dk_X9 ac)) (K : nd_Kv p l e (headSpec ow_dm_X9_readText ({ frames := 1, cells := 0, slots := 0, locals := 24 })).room s m args below meth c Q A (dC, dI) cX9_readText (St) (dw_X9 a ac) r) : dj_X9_readText_62 p l e s m args below meth c Q A dC dI a ac (df_X9_readText_62 n) r := by
  obtain ⟨hlt, hx, hb, hml, hown, hts, hN, hA, hK⟩ := id C
  intro x1 y1 s0 H locs ls h hP hD hS hl
  unfold df_X9_readText_62 at h
  refine va_put (D := (dC, dI)) (ci := 10) (v := .int y1) (ty := .int) (C := RX9) (T := TX9) (N := 20) hx hb hts hi_dm_X9_readText_X9 tyX9 tyX9_ok nmX9 hown hK hP hD hS 0 rfl rfl 3 (by decide) (hts (.fieldLink RX9 73 "TimeMachine$Reader" "kind" "I") (List.mem_of_getElem? (i := 3) rfl)) (fun _ h9 => h9) rfl (by decide +kernel) rfl rfl (Nat.le_of_ble_eq_true rfl) dX9_readText_62 (fun H locs hP hD hS => ?_)
  obtain ⟨s4, es4, h⟩ := nd_let_e h
  have hP : va_P (dC, dI) vwCl (dw_X9 a ac s4) H := by rw [es4]; exact hP
  have hD : va_D A (dw_X9 a ac s4) := by rw [es4]; exact hD
  refine lv_aload_n hx hb dX9_readText_65 rfl (lv_at hl 0 rfl) ?_
  refine lv_iload_n hx hb dX9_readText_66 rfl (lv_at hl 1 rfl) ?_
  refine lv_iconst (v := 1) hx hb dX9_readText_67 (by decide) ?_
  refine lv_iadd hx hb dX9_readText_68 ?_
  refine lv_aload_n hx hb dX9_readText_69 rfl (lv_at hl 0 rfl) ?_
  refine va_get (D := (dC, dI)) (ci := 10) (v := .int (sI s4 1)) (C := RX9) (T := TX9) (N := 20) hx hb hts hi_dm_X9_readText_X9 hown hK hP 0 rfl rfl 2 (by decide) (hts (.fieldLink RX9 64 "TimeMachine$Reader" "stop" "I") (List.mem_of_getElem? (i := 2) rfl)) (fun _ h9 => h9) rfl dX9_readText_70 ?_
  refine va_mmin hx hb (by rw [hml]; exact hl.1.symm) hown (hts (.methodLink RX9 58 Lib.Math.min.name) (List.mem_of_getElem? (i := 4) rfl)) (hts (.static Lib.Math.min.name) (List.mem_of_getElem? (i := 5) rfl)) (hts (.initialized "java/lang/Math") (List.mem_of_getElem? (i := 6) rfl)) (hts (.code Lib.Math.min.name Lib.Math.min.code 2 (some .int)) (List.mem_of_getElem? (i := 7) rfl)) (Nat.le_of_ble_eq_true rfl) (Nat.le_of_ble_eq_true rfl) (by decide +kernel) (by decide +kernel) dX9_readText_73 ?_
  refine va_put (D := (dC, dI)) (ci := 10) (v := .int (if ((sI s4 1) : Int32) < (x1 + 1) then (sI s4 1) else (x1 + 1))) (ty := .int) (C := RX9) (T := TX9) (N := 20) hx hb hts hi_dm_X9_readText_X9 tyX9 tyX9_ok nmX9 hown hK hP hD hS 0 rfl rfl 1 (by decide) (hts (.fieldLink RX9 55 "TimeMachine$Reader" "at" "I") (List.mem_of_getElem? (i := 8) rfl)) (fun _ h9 => h9) rfl (by decide +kernel) rfl rfl (Nat.le_of_ble_eq_true rfl) dX9_readText_76 (fun H locs hP hD hS => ?_)
  obtain ⟨s5, es5, h⟩ := nd_let_e h
  have hP : va_P (dC, dI) vwCl (dw_X9 a ac s5) H := by rw [es5]; exact hP
  have hD : va_D A (dw_X9 a ac s5) := by rw [es5]; exact hD
  exact K _ _ _ _ _ dX9_readText_79 (Option.some.inj h).symm hP hD hS
set_option maxHeartbeats 40000000 in
set_option maxRecDepth 100000 in
theorem db_X9_readText_60 {p : Program} {l : Launch} {e : Env} {s : State} {m : MethodId} {args : Array Value} {below : List Frame} {meth : Method} {c : Code} {Q : State → Prop} {A : Nat → Prop} {dC : Nat → ClassId} {dI : Nat → Nat → Nat} {a : Nat → Nat} {ac : Nat → ClassId} {n : Nat} {r : St} (C : nd_C p l s m args c A (dC, dI) cX9_readText 2 RX9 ow_dm_X9_readText (dk_X9 ac)) (K : nd_Kv p l e (headSpec ow_dm_X9_readText ({ frames := 1, cells := 0, slots := 0, locals := 24 })).room s m args below meth c Q A (dC, dI) cX9_readText (St) (dw_X9 a ac) r) : dj_X9_readText_60 p l e s m args below meth c Q A dC dI a ac (df_X9_readText_60 n) r := by
  obtain ⟨hlt, hx, hb, hml, hown, hts, hN, hA, hK⟩ := id C
  intro x1 s0 H locs ls h hP hD hS hl
  unfold df_X9_readText_60 at h
  refine lv_bipush (v := 6) hx hb dX9_readText_60 (by decide) ?_
  exact (db_X9_readText_62 C K) (x1) (6) s0 _ _ _ h hP hD hS (lv_sub hl [0, 1] rfl)
set_option maxHeartbeats 40000000 in
set_option maxRecDepth 100000 in
theorem db_X9_readText_36 {p : Program} {l : Launch} {e : Env} {s : State} {m : MethodId} {args : Array Value} {below : List Frame} {meth : Method} {c : Code} {Q : State → Prop} {A : Nat → Prop} {dC : Nat → ClassId} {dI : Nat → Nat → Nat} {a : Nat → Nat} {ac : Nat → ClassId} {n : Nat} {r : St} (C : nd_C p l s m args c A (dC, dI) cX9_readText 2 RX9 ow_dm_X9_readText (dk_X9 ac)) (K : nd_Kv p l e (headSpec ow_dm_X9_readText ({ frames := 1, cells := 0, slots := 0, locals := 24 })).room s m args below meth c Q A (dC, dI) cX9_readText (St) (dw_X9 a ac) r) : dj_X9_readText_36 p l e s m args below meth c Q A dC dI a ac (df_X9_readText_36 n) r := by
  obtain ⟨hlt, hx, hb, hml, hown, hts, hN, hA, hK⟩ := id C
  intro x1 s0 H locs ls h hP hD hS hl
  unfold df_X9_readText_36 at h
  refine lv_aload_n hx hb dX9_readText_36 rfl (lv_at hl 0 rfl) ?_
  refine lv_iload_n hx hb dX9_readText_37 rfl (lv_at hl 1 rfl) ?_
  refine lv_aload_n hx hb dX9_readText_38 rfl (lv_at hl 0 rfl) ?_
  refine va_get (D := (dC, dI)) (ci := 10) (v := .int (sI s0 1)) (C := RX9) (T := TX9) (N := 20) hx hb hts hi_dm_X9_readText_X9 hown hK hP 0 rfl rfl 2 (by decide) (hts (.fieldLink RX9 64 "TimeMachine$Reader" "stop" "I") (List.mem_of_getElem? (i := 2) rfl)) (fun _ h9 => h9) rfl dX9_readText_39 ?_
  refine lv_icmp_ge (tgt := 60) hx hb dX9_readText_42 (by decide) (fun c3 => ?_) (fun c3 => ?_)
  · have h := nd_pos h c3
    exact (db_X9_readText_60 C K) (x1) s0 _ _ _ h hP hD hS (lv_sub hl [0, 1] rfl)
  · have h := nd_neg h c3
    refine lv_aload_n hx hb dX9_readText_45 rfl (lv_at hl 0 rfl) ?_
    obtain ⟨o6, h⟩ := nd_o_e h
    refine va_get (D := (dC, dI)) (ci := 10) (v := .ref (a 8)) (C := RX9) (T := TX9) (N := 20) hx hb hts hi_dm_X9_readText_X9 hown hK hP 0 rfl rfl 0 (by decide) (hts (.fieldLink RX9 9 "TimeMachine$Reader" "source" "[B") (List.mem_of_getElem? (i := 9) rfl)) (fun _ h9 => h9) (congrArg (fun z => some (va_rf (Option.map a z))) o6) dX9_readText_46 ?_
    refine lv_iload_n hx hb dX9_readText_49 rfl (lv_at hl 1 rfl) ?_
    obtain ⟨i7, h⟩ := nd_ck_e h
    refine va_bald (i := x1) hx hb hK hP 8 7 rfl rfl i7 dX9_readText_50 ?_
    refine lv_bipush (v := 34) hx hb dX9_readText_51 (by decide) ?_
    refine lv_icmp_ne (tgt := 60) hx hb dX9_readText_53 (by decide) (fun c8 => ?_) (fun c8 => ?_)
    · have h := nd_neg h c8
      exact (db_X9_readText_60 C K) (x1) s0 _ _ _ h hP hD hS (lv_sub hl [0, 1] rfl)
    · have h := nd_pos h c8
      refine lv_iconst (v := 4) hx hb dX9_readText_56 (by decide) ?_
      refine lv_goto (tgt := 62) hx hb dX9_readText_57 (by decide) ?_
      exact (db_X9_readText_62 C K) (x1) (4) s0 _ _ _ h hP hD hS (lv_sub hl [0, 1] rfl)
set_option maxHeartbeats 40000000 in
set_option maxRecDepth 100000 in
theorem dB_X9_readText_7 {p : Program} {l : Launch} {e : Env} {s : State} {m : MethodId} {args : Array Value} {below : List Frame} {meth : Method} {c : Code} {Q : State → Prop} {A : Nat → Prop} {dC : Nat → ClassId} {dI : Nat → Nat → Nat} {a : Nat → Nat} {ac : Nat → ClassId} {n : Nat} {r : St} (C : nd_C p l s m args c A (dC, dI) cX9_readText 2 RX9 ow_dm_X9_readText (dk_X9 ac)) (K : nd_Kv p l e (headSpec ow_dm_X9_readText ({ frames := 1, cells := 0, slots := 0, locals := 24 })).room s m args below meth c Q A (dC, dI) cX9_readText (St) (dw_X9 a ac) r) {g7 : Int32 → (St) → Option (St)} (J7 : dj_X9_readText_7 p l e s m args below meth c Q A dC dI a ac g7 r) : dj_X9_readText_7 p l e s m args below meth c Q A dC dI a ac (dF_X9_readText_7 n g7) r := by
  obtain ⟨hlt, hx, hb, hml, hown, hts, hN, hA, hK⟩ := id C
  intro x1 s0 H locs ls h hP hD hS hl
  unfold dF_X9_readText_7 at h
  refine lv_iload_n hx hb dX9_readText_7 rfl (lv_at hl 1 rfl) ?_
  refine lv_aload_n hx hb dX9_readText_8 rfl (lv_at hl 0 rfl) ?_
  refine va_get (D := (dC, dI)) (ci := 10) (v := .int (sI s0 1)) (C := RX9) (T := TX9) (N := 20) hx hb hts hi_dm_X9_readText_X9 hown hK hP 0 rfl rfl 2 (by decide) (hts (.fieldLink RX9 64 "TimeMachine$Reader" "stop" "I") (List.mem_of_getElem? (i := 2) rfl)) (fun _ h9 => h9) rfl dX9_readText_9 ?_
  refine lv_icmp_ge (tgt := 36) hx hb dX9_readText_12 (by decide) (fun c2 => ?_) (fun c2 => ?_)
  · have h := nd_pos h c2
    exact (db_X9_readText_36 C K) (x1) s0 _ _ _ h hP hD hS (lv_sub hl [0, 1] rfl)
  · have h := nd_neg h c2
    refine lv_aload_n hx hb dX9_readText_15 rfl (lv_at hl 0 rfl) ?_
    refine lv_iload_n hx hb dX9_readText_16 rfl (lv_at hl 1 rfl) ?_
    refine lv_bipush (v := 34) hx hb dX9_readText_17 (by decide) ?_
    obtain ⟨q9, s10, hq, h⟩ := nd_b2_e h
    have hPc := hP
    have hDc := hD
    have hKc := hK
    have hFc := nd_rs hD hS hA
    refine nd_cVi (As := [.int x1, .int 34]) (rest := []) (q := q9) (w' := dw_X9 a ac s10) ⟨hx, hb, hml, hown, hts⟩ (fun sz => dm_X9_character l hlt dC dI a ac n (x1) (34) s0 hq sz) (cwV 2 hts gi_dm_X9_readText_0 rfl rfl rfl (by decide +kernel) ⟨Nat.le_of_ble_eq_true rfl, Nat.le_of_ble_eq_true rfl⟩) hPc hDc hKc hS hA hN (va_recv hKc hPc (ci := 10) (q0 := 0) rfl rfl) rfl hl.1 rfl (Nat.le_of_ble_eq_true rfl) dX9_readText_19 (fun H locs hP1 hD1 hk1 hS => ?_)
    have hP := hP1
    have hD := hD1.weaken (fun k q _ h => hFc q.1 h)
    refine lv_if_lt (tgt := 36) hx hb dX9_readText_22 (by decide) (fun c12 => ?_) (fun c12 => ?_)
    · have h := nd_pos h c12
      exact (db_X9_readText_36 C K) (x1) s10 _ _ _ h hP hD hS (lv_sub hl [0, 1] rfl)
    · have h := nd_neg h c12
      refine lv_iload_n hx hb dX9_readText_25 rfl (lv_at hl 1 rfl) ?_
      refine lv_aload_n hx hb dX9_readText_26 rfl (lv_at hl 0 rfl) ?_
      refine lv_iload_n hx hb dX9_readText_27 rfl (lv_at hl 1 rfl) ?_
      obtain ⟨q13, s14, hq, h⟩ := nd_b2_e h
      have hPc := hP
      have hDc := hD
      have hKc := hK
      have hFc := nd_rs hD hS hA
      refine nd_cVi (As := [.int x1]) (rest := [.int x1]) (q := q13) (w' := dw_X9 a ac s14) ⟨hx, hb, hml, hown, hts⟩ (fun sz => dm_X9_width l hlt dC dI a ac n (x1) s10 hq sz) (cwV 1 hts gi_dm_X9_readText_1 rfl rfl rfl (by decide +kernel) ⟨Nat.le_of_ble_eq_true rfl, Nat.le_of_ble_eq_true rfl⟩) hPc hDc hKc hS hA hN (va_recv hKc hPc (ci := 10) (q0 := 0) rfl rfl) rfl hl.1 rfl (Nat.le_of_ble_eq_true rfl) dX9_readText_28 (fun H locs hP1 hD1 hk1 hS => ?_)
      have hP := hP1
      have hD := hD1.weaken (fun k q _ h => hFc q.1 h)
      refine lv_iadd hx hb dX9_readText_31 ?_
      refine lv_topi (fun z16 ez16 => ?_)
      have h := nd_at h ez16
      refine lv_istore_n (lv' := [(1, .int z16), (0, .ref (a 0))]) hx hb dX9_readText_32 rfl hl (by decide) rfl (fun ls hl => ?_)
      refine lv_goto (tgt := 7) hx hb dX9_readText_33 (by decide) ?_
      exact (J7) (z16) s14 _ _ _ h hP hD hS (lv_sub hl [1, 0] rfl)
set_option maxHeartbeats 40000000 in
set_option maxRecDepth 100000 in
theorem db_X9_readText_7 {p : Program} {l : Launch} {e : Env} {s : State} {m : MethodId} {args : Array Value} {below : List Frame} {meth : Method} {c : Code} {Q : State → Prop} {A : Nat → Prop} {dC : Nat → ClassId} {dI : Nat → Nat → Nat} {a : Nat → Nat} {ac : Nat → ClassId} {n : Nat} {r : St} (C : nd_C p l s m args c A (dC, dI) cX9_readText 2 RX9 ow_dm_X9_readText (dk_X9 ac)) (K : nd_Kv p l e (headSpec ow_dm_X9_readText ({ frames := 1, cells := 0, slots := 0, locals := 24 })).room s m args below meth c Q A (dC, dI) cX9_readText (St) (dw_X9 a ac) r) (k : Nat) : dj_X9_readText_7 p l e s m args below meth c Q A dC dI a ac (df_X9_readText_7 n k) r := by
  induction k with
  | zero => intro x1 s0 H locs ls h; exact nomatch (show (none : Option (St)) = some r from h)
  | succ k ih => exact dB_X9_readText_7 C K ih
set_option maxHeartbeats 40000000 in
set_option maxRecDepth 100000 in
theorem db_X9_readText_0 {p : Program} {l : Launch} {e : Env} {s : State} {m : MethodId} {args : Array Value} {below : List Frame} {meth : Method} {c : Code} {Q : State → Prop} {A : Nat → Prop} {dC : Nat → ClassId} {dI : Nat → Nat → Nat} {a : Nat → Nat} {ac : Nat → ClassId} {n : Nat} {r : St} (C : nd_C p l s m args c A (dC, dI) cX9_readText 2 RX9 ow_dm_X9_readText (dk_X9 ac)) (K : nd_Kv p l e (headSpec ow_dm_X9_readText ({ frames := 1, cells := 0, slots := 0, locals := 24 })).room s m args below meth c Q A (dC, dI) cX9_readText (St) (dw_X9 a ac) r) : dj_X9_readText_0 p l e s m args below meth c Q A dC dI a ac (df_X9_readText_0 n) r := by
  obtain ⟨hlt, hx, hb, hml, hown, hts, hN, hA, hK⟩ := id C
  intro s0 H locs ls h hP hD hS hl
  unfold df_X9_readText_0 at h
  refine lv_aload_n hx hb dX9_readText_0 rfl (lv_at hl 0 rfl) ?_
  refine va_get (D := (dC, dI)) (ci := 10) (v := .int (sI s0 3)) (C := RX9) (T := TX9) (N := 20) hx hb hts hi_dm_X9_readText_X9 hown hK hP 0 rfl rfl 4 (by decide) (hts (.fieldLink RX9 70 "TimeMachine$Reader" "from" "I") (List.mem_of_getElem? (i := 1) rfl)) (fun _ h9 => h9) rfl dX9_readText_1 ?_
  refine lv_iconst (v := 1) hx hb dX9_readText_4 (by decide) ?_
  refine lv_iadd hx hb dX9_readText_5 ?_
  refine lv_topi (fun z1 ez1 => ?_)
  have h := nd_at h ez1
  refine lv_istore_n (lv' := [(1, .int z1), (0, .ref (a 0))]) hx hb dX9_readText_6 rfl hl (by decide) rfl (fun ls hl => ?_)
  exact (db_X9_readText_7 C K n) (z1) s0 _ _ _ h hP hD hS (lv_sub hl [1, 0] rfl)
set_option maxHeartbeats 40000000 in
set_option maxRecDepth 100000 in
theorem dm_X9_readText (l : Launch) (hlt : l.stackTraces = false) (dC : Nat → ClassId) (dI : Nat → Nat → Nat) (a : Nat → Nat) (ac : Nat → ClassId) (n : Nat) (s0 : St) {r : St} (h : df_X9_readText n s0 = some r) (sz : Nat) : Met l yX9_readText ow_dm_X9_readText ({ frames := 1, cells := 0, slots := 0, locals := 24 }) (va_Pc [.ref (a 0)] (fun U => U.heap.size = sz ∧ va_P (dC, dI) vwCl (dw_X9 a ac s0) U.heap ∧ va_K (dC, dI) vwCl (dk_X9 ac) U ∧ va_D (fun _ => True) (dw_X9 a ac s0) ∧ nv_E (va_A (dw_X9 a ac s0) sz) U)) (va_Qv (fun _ => True) (fun (_ : Unit) t => va_P (dC, dI) vwCl (dw_X9 a ac r) t.heap ∧ va_K (dC, dI) vwCl (dk_X9 ac) t ∧ va_D (va_A (dw_X9 a ac s0) sz) (dw_X9 a ac r)) (va_A (dw_X9 a ac s0) sz)) 0 0 (va_A (dw_X9 a ac s0) sz) := by
  refine Met.ofW (cc := cX9_readText) (maxL := 2) (ret := none) (by decide) rfl ?_
  intro p e s m args below meth c s₁ B hml hv
  obtain ⟨rfl, hsz, hP, hK, hD0, hN⟩ := hv
  have hx := B.exec
  have hb := B.bytes
  have hr := B.returns
  have hts := atoms_spec (ws := ow_dm_X9_readText) B.pre
  have hown : s.vm.findClass RX9 = some m.cls := findClass_of_methodNamed B.named
  have hlocks := B.notSynchronized
  subst hsz
  have hD := hD0.self (sz := s.heap.size)
  generalize hAe : va_A (dw_X9 a ac s0) s.heap.size = A at hD hN ⊢
  have hA : ∀ q : Nat, s.heap.size ≤ q → A q := fun q h => by rw [← hAe]; exact Or.inr h
  have hl := lv_entry ([.ref (a 0)]) (n := 2) (Nat.le_of_ble_eq_true rfl)
  rw [lg_entry_eq]
  generalize (lg_sl ([.ref (a 0)]) ++ List.replicate (2 - (lg_sl ([.ref (a 0)])).length) Slot.unset).toArray = ls at hl ⊢
  have hl : lv_has ls 2 [(0, .ref (a 0))] := hl
  exact db_X9_readText_0 (dC := dC) (dI := dI) (a := a) (ac := ac) (n := n) (r := r) ⟨hlt, hx, hb, hml, hown, hts, hN, hA, hK⟩ (fun pc τ H locs ls d er hP hD hS => by subst er; exact W.vret hx hb hr (fun t ht hW => ⟨⟨(), rfl, trivial, by rw [ht]; exact hP, va_K.moved hW.alike hK, hD⟩, hS.F ht⟩) hS.2.2 d) s0 _ _ _ h hP hD va_S.rf (lv_sub hl [0] rfl)
def ow_dm_X9_isSign : List Cond := .code yX9_isSign cX9_isSign 2 (some .boolean) :: ([.fieldLink RX9 73 "TimeMachine$Reader" "kind" "I", .fieldLink RX9 93 "TimeMachine$Reader" "number" "I"] ++ (u_ws RX9 TX9 20 ++ []))
theorem gd_dm_X9_isSign : ∀ w ∈ ow_dm_X9_isSign, (w.onTables && w.keeps) = true ∨ ∃ ty, w = Cond.arrayClass ty := List.forall_mem_cons.mpr ⟨good_of_word rfl, List.forall_mem_append.mpr ⟨fun w h => good_of_word (List.all_eq_true.mp (by decide +kernel) w h), List.forall_mem_append.mpr ⟨gu_X9, fun _ h => nomatch h⟩⟩⟩
theorem hi_dm_X9_isSign_X9 : ∀ w ∈ u_ws RX9 TX9 20, w ∈ ow_dm_X9_isSign := fun w h => List.mem_cons_of_mem _ (List.mem_append_right _ (List.mem_append_left _ h))
def dj_X9_isSign_21 (p : Program) (l : Launch) (e : Env) (s : State) (m : MethodId) (args : Array Value) (below : List Frame) (meth : Method) (c : Code) (Q : State → Prop) (A : Nat → Prop) (dC : Nat → ClassId) (dI : Nat → Nat → Nat) (a : Nat → Nat) (ac : Nat → ClassId) (g : Int32 → (St) → Option (Int32 × (St))) (r : Int32 × (St)) : Prop := ∀ (y0 : Int32) (s0 : St) (H : Heap) (locs : List Loc) (ls : Array Slot), g y0 s0 = some r → va_P (dC, dI) vwCl (dw_X9 a ac s0) H → va_D A (dw_X9 a ac s0) → va_S A s.heap H locs → lv_has ls 2 [] → W p l e (headSpec ow_dm_X9_isSign ({ frames := 0, cells := 0, slots := 0, locals := 0 })).room s m args below meth c H locs 0 0 Q (F0 m 21 ls [.int y0])
def dj_X9_isSign_20 (p : Program) (l : Launch) (e : Env) (s : State) (m : MethodId) (args : Array Value) (below : List Frame) (meth : Method) (c : Code) (Q : State → Prop) (A : Nat → Prop) (dC : Nat → ClassId) (dI : Nat → Nat → Nat) (a : Nat → Nat) (ac : Nat → ClassId) (g : (St) → Option (Int32 × (St))) (r : Int32 × (St)) : Prop := ∀ (s0 : St) (H : Heap) (locs : List Loc) (ls : Array Slot), g s0 = some r → va_P (dC, dI) vwCl (dw_X9 a ac s0) H → va_D A (dw_X9 a ac s0) → va_S A s.heap H locs → lv_has ls 2 [] → W p l e (headSpec ow_dm_X9_isSign ({ frames := 0, cells := 0, slots := 0, locals := 0 })).room s m args below meth c H locs 0 0 Q (F0 m 20 ls [])
def dj_X9_isSign_0 (p : Program) (l : Launch) (e : Env) (s : State) (m : MethodId) (args : Array Value) (below : List Frame) (meth : Method) (c : Code) (Q : State → Prop) (A : Nat → Prop) (dC : Nat → ClassId) (dI : Nat → Nat → Nat) (a : Nat → Nat) (ac : Nat → ClassId) (g : Int32 → (St) → Option (Int32 × (St))) (r : Int32 × (St)) : Prop := ∀ (v0 : Int32) (s0 : St) (H : Heap) (locs : List Loc) (ls : Array Slot), g v0 s0 = some r → va_P (dC, dI) vwCl (dw_X9 a ac s0) H → va_D A (dw_X9 a ac s0) → va_S A s.heap H locs → lv_has ls 2 [(0, .ref (a 0)), (1, .int v0)] → W p l e (headSpec ow_dm_X9_isSign ({ frames := 0, cells := 0, slots := 0, locals := 0 })).room s m args below meth c H locs 0 0 Q (F0 m 0 ls [])
set_option maxHeartbeats 40000000 in
set_option maxRecDepth 100000 in
theorem db_X9_isSign_21 {p : Program} {l : Launch} {e : Env} {s : State} {m : MethodId} {args : Array Value} {below : List Frame} {meth : Method} {c : Code} {Q : State → Prop} {A : Nat → Prop} {dC : Nat → ClassId} {dI : Nat → Nat → Nat} {a : Nat → Nat} {ac : Nat → ClassId} {n : Nat} {r : Int32 × (St)} (C : nd_C p l s m args c A (dC, dI) cX9_isSign 2 RX9 ow_dm_X9_isSign (dk_X9 ac)) (K : nd_Ki p l e (headSpec ow_dm_X9_isSign ({ frames := 0, cells := 0, slots := 0, locals := 0 })).room s m args below meth c Q A (dC, dI) cX9_isSign .boolean (St) (dw_X9 a ac) r) : dj_X9_isSign_21 p l e s m args below meth c Q A dC dI a ac (df_X9_isSign_21 n) r := by
  obtain ⟨hlt, hx, hb, hml, hown, hts, hN, hA, hK⟩ := id C
  intro y0 s0 H locs ls h hP hD hS hl
  unfold df_X9_isSign_21 at h
  obtain ⟨n2, h⟩ := nd_z_e ⟨_, rfl⟩ h
  exact K _ _ _ _ _ _ dX9_isSign_21 n2 (Option.some.inj h).symm hP hD hS
set_option maxHeartbeats 40000000 in
set_option maxRecDepth 100000 in
theorem db_X9_isSign_20 {p : Program} {l : Launch} {e : Env} {s : State} {m : MethodId} {args : Array Value} {below : List Frame} {meth : Method} {c : Code} {Q : State → Prop} {A : Nat → Prop} {dC : Nat → ClassId} {dI : Nat → Nat → Nat} {a : Nat → Nat} {ac : Nat → ClassId} {n : Nat} {r : Int32 × (St)} (C : nd_C p l s m args c A (dC, dI) cX9_isSign 2 RX9 ow_dm_X9_isSign (dk_X9 ac)) (K : nd_Ki p l e (headSpec ow_dm_X9_isSign ({ frames := 0, cells := 0, slots := 0, locals := 0 })).room s m args below meth c Q A (dC, dI) cX9_isSign .boolean (St) (dw_X9 a ac) r) : dj_X9_isSign_20 p l e s m args below meth c Q A dC dI a ac (df_X9_isSign_20 n) r := by
  obtain ⟨hlt, hx, hb, hml, hown, hts, hN, hA, hK⟩ := id C
  intro s0 H locs ls h hP hD hS hl
  unfold df_X9_isSign_20 at h
  refine lv_iconst (v := 0) hx hb dX9_isSign_20 (by decide) ?_
  exact (db_X9_isSign_21 C K) (0) s0 _ _ _ h hP hD hS (lv_sub hl [] rfl)
set_option maxHeartbeats 40000000 in
set_option maxRecDepth 100000 in
theorem db_X9_isSign_0 {p : Program} {l : Launch} {e : Env} {s : State} {m : MethodId} {args : Array Value} {below : List Frame} {meth : Method} {c : Code} {Q : State → Prop} {A : Nat → Prop} {dC : Nat → ClassId} {dI : Nat → Nat → Nat} {a : Nat → Nat} {ac : Nat → ClassId} {n : Nat} {r : Int32 × (St)} (C : nd_C p l s m args c A (dC, dI) cX9_isSign 2 RX9 ow_dm_X9_isSign (dk_X9 ac)) (K : nd_Ki p l e (headSpec ow_dm_X9_isSign ({ frames := 0, cells := 0, slots := 0, locals := 0 })).room s m args below meth c Q A (dC, dI) cX9_isSign .boolean (St) (dw_X9 a ac) r) : dj_X9_isSign_0 p l e s m args below meth c Q A dC dI a ac (df_X9_isSign_0 n) r := by
  obtain ⟨hlt, hx, hb, hml, hown, hts, hN, hA, hK⟩ := id C
  intro v0 s0 H locs ls h hP hD hS hl
  unfold df_X9_isSign_0 at h
  refine lv_aload_n hx hb dX9_isSign_0 rfl (lv_at hl 0 rfl) ?_
  refine va_get (D := (dC, dI)) (ci := 10) (v := .int (sI s0 2)) (C := RX9) (T := TX9) (N := 20) hx hb hts hi_dm_X9_isSign_X9 hown hK hP 0 rfl rfl 3 (by decide) (hts (.fieldLink RX9 73 "TimeMachine$Reader" "kind" "I") (List.mem_of_getElem? (i := 1) rfl)) (fun _ h9 => h9) rfl dX9_isSign_1 ?_
  refine lv_iconst (v := 5) hx hb dX9_isSign_4 (by decide) ?_
  refine lv_icmp_ne (tgt := 20) hx hb dX9_isSign_5 (by decide) (fun c1 => ?_) (fun c1 => ?_)
  · have h := nd_neg h c1
    exact (db_X9_isSign_20 C K)  s0 _ _ _ h hP hD hS (lv_sub hl [] rfl)
  · have h := nd_pos h c1
    refine lv_aload_n hx hb dX9_isSign_8 rfl (lv_at hl 0 rfl) ?_
    refine va_get (D := (dC, dI)) (ci := 10) (v := .int (sI s0 4)) (C := RX9) (T := TX9) (N := 20) hx hb hts hi_dm_X9_isSign_X9 hown hK hP 0 rfl rfl 5 (by decide) (hts (.fieldLink RX9 93 "TimeMachine$Reader" "number" "I") (List.mem_of_getElem? (i := 2) rfl)) (fun _ h9 => h9) rfl dX9_isSign_9 ?_
    refine lv_iload_n hx hb dX9_isSign_12 rfl (lv_at hl 1 rfl) ?_
    refine lv_icmp_ne (tgt := 20) hx hb dX9_isSign_13 (by decide) (fun c3 => ?_) (fun c3 => ?_)
    · have h := nd_neg h c3
      exact (db_X9_isSign_20 C K)  s0 _ _ _ h hP hD hS (lv_sub hl [] rfl)
    · have h := nd_pos h c3
      refine lv_iconst (v := 1) hx hb dX9_isSign_16 (by decide) ?_
      refine lv_goto (tgt := 21) hx hb dX9_isSign_17 (by decide) ?_
      exact (db_X9_isSign_21 C K) (1) s0 _ _ _ h hP hD hS (lv_sub hl [] rfl)
set_option maxHeartbeats 40000000 in
set_option maxRecDepth 100000 in
theorem dm_X9_isSign (l : Launch) (hlt : l.stackTraces = false) (dC : Nat → ClassId) (dI : Nat → Nat → Nat) (a : Nat → Nat) (ac : Nat → ClassId) (n : Nat) (v0 : Int32) (s0 : St) {r : Int32 × (St)} (h : df_X9_isSign n v0 s0 = some r) (sz : Nat) : Met l yX9_isSign ow_dm_X9_isSign ({ frames := 0, cells := 0, slots := 0, locals := 0 }) (va_Pc [.ref (a 0), .int v0] (fun U => U.heap.size = sz ∧ va_P (dC, dI) vwCl (dw_X9 a ac s0) U.heap ∧ va_K (dC, dI) vwCl (dk_X9 ac) U ∧ va_D (fun _ => True) (dw_X9 a ac s0) ∧ nv_E (va_A (dw_X9 a ac s0) sz) U)) (va_Qi (fun x _ => x = r.1) (fun (_ : Unit) t => va_P (dC, dI) vwCl (dw_X9 a ac r.2) t.heap ∧ va_K (dC, dI) vwCl (dk_X9 ac) t ∧ va_D (va_A (dw_X9 a ac s0) sz) (dw_X9 a ac r.2)) (va_A (dw_X9 a ac s0) sz)) 0 0 (va_A (dw_X9 a ac s0) sz) := by
  refine Met.ofW (cc := cX9_isSign) (maxL := 2) (ret := (some .boolean)) (by decide) rfl ?_
  intro p e s m args below meth c s₁ B hml hv
  obtain ⟨rfl, hsz, hP, hK, hD0, hN⟩ := hv
  have hx := B.exec
  have hb := B.bytes
  have hr := B.returns
  have hts := atoms_spec (ws := ow_dm_X9_isSign) B.pre
  have hown : s.vm.findClass RX9 = some m.cls := findClass_of_methodNamed B.named
  have hlocks := B.notSynchronized
  subst hsz
  have hD := hD0.self (sz := s.heap.size)
  generalize hAe : va_A (dw_X9 a ac s0) s.heap.size = A at hD hN ⊢
  have hA : ∀ q : Nat, s.heap.size ≤ q → A q := fun q h => by rw [← hAe]; exact Or.inr h
  have hl := lv_entry ([.ref (a 0), .int v0]) (n := 2) (Nat.le_of_ble_eq_true rfl)
  rw [lg_entry_eq]
  generalize (lg_sl ([.ref (a 0), .int v0]) ++ List.replicate (2 - (lg_sl ([.ref (a 0), .int v0])).length) Slot.unset).toArray = ls at hl ⊢
  have hl : lv_has ls 2 [(0, .ref (a 0)), (1, .int v0)] := hl
  exact db_X9_isSign_0 (dC := dC) (dI := dI) (a := a) (ac := ac) (n := n) (r := r) ⟨hlt, hx, hb, hml, hown, hts, hN, hA, hK⟩ (fun pc v τ H locs ls d z er hP hD hS => by subst er; exact W.zret (v := v) hx hb hr z (fun t ht hW => ⟨⟨v, (), rfl, rfl, by rw [ht]; exact hP, va_K.moved hW.alike hK, hD⟩, hS.F ht⟩) hS.2.2 d) v0 s0 _ _ _ h hP hD va_S.rf (lv_sub hl [0, 1] rfl)
def ow_dm_X9_isDefined : List Cond := .code yX9_isDefined cX9_isDefined 2 (some .boolean) :: ([.fieldLink RX9 27 "TimeMachine$Reader" "name" "[I"] ++ (u_ws RX9 TX9 20 ++ []))
theorem gd_dm_X9_isDefined : ∀ w ∈ ow_dm_X9_isDefined, (w.onTables && w.keeps) = true ∨ ∃ ty, w = Cond.arrayClass ty := List.forall_mem_cons.mpr ⟨good_of_word rfl, List.forall_mem_append.mpr ⟨fun w h => good_of_word (List.all_eq_true.mp (by decide +kernel) w h), List.forall_mem_append.mpr ⟨gu_X9, fun _ h => nomatch h⟩⟩⟩
theorem hi_dm_X9_isDefined_X9 : ∀ w ∈ u_ws RX9 TX9 20, w ∈ ow_dm_X9_isDefined := fun w h => List.mem_cons_of_mem _ (List.mem_append_right _ (List.mem_append_left _ h))
def dj_X9_isDefined_18 (p : Program) (l : Launch) (e : Env) (s : State) (m : MethodId) (args : Array Value) (below : List Frame) (meth : Method) (c : Code) (Q : State → Prop) (A : Nat → Prop) (dC : Nat → ClassId) (dI : Nat → Nat → Nat) (a : Nat → Nat) (ac : Nat → ClassId) (g : Int32 → (St) → Option (Int32 × (St))) (r : Int32 × (St)) : Prop := ∀ (y0 : Int32) (s0 : St) (H : Heap) (locs : List Loc) (ls : Array Slot), g y0 s0 = some r → va_P (dC, dI) vwCl (dw_X9 a ac s0) H → va_D A (dw_X9 a ac s0) → va_S A s.heap H locs → lv_has ls 2 [] → W p l e (headSpec ow_dm_X9_isDefined ({ frames := 0, cells := 0, slots := 0, locals := 0 })).room s m args below meth c H locs 0 0 Q (F0 m 18 ls [.int y0])
def dj_X9_isDefined_0 (p : Program) (l : Launch) (e : Env) (s : State) (m : MethodId) (args : Array Value) (below : List Frame) (meth : Method) (c : Code) (Q : State → Prop) (A : Nat → Prop) (dC : Nat → ClassId) (dI : Nat → Nat → Nat) (a : Nat → Nat) (ac : Nat → ClassId) (g : Int32 → (St) → Option (Int32 × (St))) (r : Int32 × (St)) : Prop := ∀ (v0 : Int32) (s0 : St) (H : Heap) (locs : List Loc) (ls : Array Slot), g v0 s0 = some r → va_P (dC, dI) vwCl (dw_X9 a ac s0) H → va_D A (dw_X9 a ac s0) → va_S A s.heap H locs → lv_has ls 2 [(0, .ref (a 0)), (1, .int v0)] → W p l e (headSpec ow_dm_X9_isDefined ({ frames := 0, cells := 0, slots := 0, locals := 0 })).room s m args below meth c H locs 0 0 Q (F0 m 0 ls [])
set_option maxHeartbeats 40000000 in
set_option maxRecDepth 100000 in
theorem db_X9_isDefined_18 {p : Program} {l : Launch} {e : Env} {s : State} {m : MethodId} {args : Array Value} {below : List Frame} {meth : Method} {c : Code} {Q : State → Prop} {A : Nat → Prop} {dC : Nat → ClassId} {dI : Nat → Nat → Nat} {a : Nat → Nat} {ac : Nat → ClassId} {n : Nat} {r : Int32 × (St)} (C : nd_C p l s m args c A (dC, dI) cX9_isDefined 2 RX9 ow_dm_X9_isDefined (dk_X9 ac)) (K : nd_Ki p l e (headSpec ow_dm_X9_isDefined ({ frames := 0, cells := 0, slots := 0, locals := 0 })).room s m args below meth c Q A (dC, dI) cX9_isDefined .boolean (St) (dw_X9 a ac) r) : dj_X9_isDefined_18 p l e s m args below meth c Q A dC dI a ac (df_X9_isDefined_18 n) r := by
  obtain ⟨hlt, hx, hb, hml, hown, hts, hN, hA, hK⟩ := id C
  intro y0 s0 H locs ls h hP hD hS hl
  unfold df_X9_isDefined_18 at h
  obtain ⟨n3, h⟩ := nd_z_e ⟨_, rfl⟩ h
  exact K _ _ _ _ _ _ dX9_isDefined_18 n3 (Option.some.inj h).symm hP hD hS
set_option maxHeartbeats 40000000 in
set_option maxRecDepth 100000 in
theorem db_X9_isDefined_0 {p : Program} {l : Launch} {e : Env} {s : State} {m : MethodId} {args : Array Value} {below : List Frame} {meth : Method} {c : Code} {Q : State → Prop} {A : Nat → Prop} {dC : Nat → ClassId} {dI : Nat → Nat → Nat} {a : Nat → Nat} {ac : Nat → ClassId} {n : Nat} {r : Int32 × (St)} (C : nd_C p l s m args c A (dC, dI) cX9_isDefined 2 RX9 ow_dm_X9_isDefined (dk_X9 ac)) (K : nd_Ki p l e (headSpec ow_dm_X9_isDefined ({ frames := 0, cells := 0, slots := 0, locals := 0 })).room s m args below meth c Q A (dC, dI) cX9_isDefined .boolean (St) (dw_X9 a ac) r) : dj_X9_isDefined_0 p l e s m args below meth c Q A dC dI a ac (df_X9_isDefined_0 n) r := by
  obtain ⟨hlt, hx, hb, hml, hown, hts, hN, hA, hK⟩ := id C
  intro v0 s0 H locs ls h hP hD hS hl
  unfold df_X9_isDefined_0 at h
  refine lv_aload_n hx hb dX9_isDefined_0 rfl (lv_at hl 0 rfl) ?_
  refine va_get (D := (dC, dI)) (ci := 10) (v := .ref (a 4)) (C := RX9) (T := TX9) (N := 20) hx hb hts hi_dm_X9_isDefined_X9 hown hK hP 0 rfl rfl 12 (by decide) (hts (.fieldLink RX9 27 "TimeMachine$Reader" "name" "[I") (List.mem_of_getElem? (i := 1) rfl)) (fun _ h9 => h9) rfl dX9_isDefined_1 ?_
  refine lv_iload_n hx hb dX9_isDefined_4 rfl (lv_at hl 1 rfl) ?_
  refine lv_iconst (v := 5) hx hb dX9_isDefined_5 (by decide) ?_
  refine lv_imul hx hb dX9_isDefined_6 ?_
  refine lv_iconst (v := 2) hx hb dX9_isDefined_7 (by decide) ?_
  refine lv_iadd hx hb dX9_isDefined_8 ?_
  obtain ⟨i1, h⟩ := nd_ck_e h
  refine va_iald (i := ((v0 * 5) + 2)) hx hb hK hP 4 3 rfl rfl i1 dX9_isDefined_9 ?_
  refine lv_if_eq (tgt := 17) hx hb dX9_isDefined_10 (by decide) (fun c2 => ?_) (fun c2 => ?_)
  · have h := nd_pos h c2
    refine lv_iconst (v := 0) hx hb dX9_isDefined_17 (by decide) ?_
    exact (db_X9_isDefined_18 C K) (0) s0 _ _ _ h hP hD hS (lv_sub hl [] rfl)
  · have h := nd_neg h c2
    refine lv_iconst (v := 1) hx hb dX9_isDefined_13 (by decide) ?_
    refine lv_goto (tgt := 18) hx hb dX9_isDefined_14 (by decide) ?_
    exact (db_X9_isDefined_18 C K) (1) s0 _ _ _ h hP hD hS (lv_sub hl [] rfl)
set_option maxHeartbeats 40000000 in
set_option maxRecDepth 100000 in
theorem dm_X9_isDefined (l : Launch) (hlt : l.stackTraces = false) (dC : Nat → ClassId) (dI : Nat → Nat → Nat) (a : Nat → Nat) (ac : Nat → ClassId) (n : Nat) (v0 : Int32) (s0 : St) {r : Int32 × (St)} (h : df_X9_isDefined n v0 s0 = some r) (sz : Nat) : Met l yX9_isDefined ow_dm_X9_isDefined ({ frames := 0, cells := 0, slots := 0, locals := 0 }) (va_Pc [.ref (a 0), .int v0] (fun U => U.heap.size = sz ∧ va_P (dC, dI) vwCl (dw_X9 a ac s0) U.heap ∧ va_K (dC, dI) vwCl (dk_X9 ac) U ∧ va_D (fun _ => True) (dw_X9 a ac s0) ∧ nv_E (va_A (dw_X9 a ac s0) sz) U)) (va_Qi (fun x _ => x = r.1) (fun (_ : Unit) t => va_P (dC, dI) vwCl (dw_X9 a ac r.2) t.heap ∧ va_K (dC, dI) vwCl (dk_X9 ac) t ∧ va_D (va_A (dw_X9 a ac s0) sz) (dw_X9 a ac r.2)) (va_A (dw_X9 a ac s0) sz)) 0 0 (va_A (dw_X9 a ac s0) sz) := by
  refine Met.ofW (cc := cX9_isDefined) (maxL := 2) (ret := (some .boolean)) (by decide) rfl ?_
  intro p e s m args below meth c s₁ B hml hv
  obtain ⟨rfl, hsz, hP, hK, hD0, hN⟩ := hv
  have hx := B.exec
  have hb := B.bytes
  have hr := B.returns
  have hts := atoms_spec (ws := ow_dm_X9_isDefined) B.pre
  have hown : s.vm.findClass RX9 = some m.cls := findClass_of_methodNamed B.named
  have hlocks := B.notSynchronized
  subst hsz
  have hD := hD0.self (sz := s.heap.size)
  generalize hAe : va_A (dw_X9 a ac s0) s.heap.size = A at hD hN ⊢
  have hA : ∀ q : Nat, s.heap.size ≤ q → A q := fun q h => by rw [← hAe]; exact Or.inr h
  have hl := lv_entry ([.ref (a 0), .int v0]) (n := 2) (Nat.le_of_ble_eq_true rfl)
  rw [lg_entry_eq]
  generalize (lg_sl ([.ref (a 0), .int v0]) ++ List.replicate (2 - (lg_sl ([.ref (a 0), .int v0])).length) Slot.unset).toArray = ls at hl ⊢
  have hl : lv_has ls 2 [(0, .ref (a 0)), (1, .int v0)] := hl
  exact db_X9_isDefined_0 (dC := dC) (dI := dI) (a := a) (ac := ac) (n := n) (r := r) ⟨hlt, hx, hb, hml, hown, hts, hN, hA, hK⟩ (fun pc v τ H locs ls d z er hP hD hS => by subst er; exact W.zret (v := v) hx hb hr z (fun t ht hW => ⟨⟨v, (), rfl, rfl, by rw [ht]; exact hP, va_K.moved hW.alike hK, hD⟩, hS.F ht⟩) hS.2.2 d) v0 s0 _ _ _ h hP hD va_S.rf (lv_sub hl [0, 1] rfl)
def ow_dm_X9_define : List Cond := .code yX9_define cX9_define 4 none :: ([.fieldLink RX9 27 "TimeMachine$Reader" "name" "[I"] ++ (u_ws RX9 TX9 20 ++ []))
theorem gd_dm_X9_define : ∀ w ∈ ow_dm_X9_define, (w.onTables && w.keeps) = true ∨ ∃ ty, w = Cond.arrayClass ty := List.forall_mem_cons.mpr ⟨good_of_word rfl, List.forall_mem_append.mpr ⟨fun w h => good_of_word (List.all_eq_true.mp (by decide +kernel) w h), List.forall_mem_append.mpr ⟨gu_X9, fun _ h => nomatch h⟩⟩⟩
theorem hi_dm_X9_define_X9 : ∀ w ∈ u_ws RX9 TX9 20, w ∈ ow_dm_X9_define := fun w h => List.mem_cons_of_mem _ (List.mem_append_right _ (List.mem_append_left _ h))
def dj_X9_define_0 (p : Program) (l : Launch) (e : Env) (s : State) (m : MethodId) (args : Array Value) (below : List Frame) (meth : Method) (c : Code) (Q : State → Prop) (A : Nat → Prop) (dC : Nat → ClassId) (dI : Nat → Nat → Nat) (a : Nat → Nat) (ac : Nat → ClassId) (g : Int32 → Int32 → Int32 → (St) → Option (St)) (r : St) : Prop := ∀ (v0 : Int32) (v1 : Int32) (v2 : Int32) (s0 : St) (H : Heap) (locs : List Loc) (ls : Array Slot), g v0 v1 v2 s0 = some r → va_P (dC, dI) vwCl (dw_X9 a ac s0) H → va_D A (dw_X9 a ac s0) → va_S A s.heap H locs → lv_has ls 4 [(0, .ref (a 0)), (1, .int v0), (2, .int v1), (3, .int v2)] → W p l e (headSpec ow_dm_X9_define ({ frames := 0, cells := 0, slots := 0, locals := 0 })).room s m args below meth c H locs 0 0 Q (F0 m 0 ls [])
set_option maxHeartbeats 40000000 in
set_option maxRecDepth 100000 in
theorem db_X9_define_0 {p : Program} {l : Launch} {e : Env} {s : State} {m : MethodId} {args : Array Value} {below : List Frame} {meth : Method} {c : Code} {Q : State → Prop} {A : Nat → Prop} {dC : Nat → ClassId} {dI : Nat → Nat → Nat} {a : Nat → Nat} {ac : Nat → ClassId} {n : Nat} {r : St} (C : nd_C p l s m args c A (dC, dI) cX9_define 4 RX9 ow_dm_X9_define (dk_X9 ac)) (K : nd_Kv p l e (headSpec ow_dm_X9_define ({ frames := 0, cells := 0, slots := 0, locals := 0 })).room s m args below meth c Q A (dC, dI) cX9_define (St) (dw_X9 a ac) r) : dj_X9_define_0 p l e s m args below meth c Q A dC dI a ac (df_X9_define_0 n) r := by
  obtain ⟨hlt, hx, hb, hml, hown, hts, hN, hA, hK⟩ := id C
  intro v0 v1 v2 s0 H locs ls h hP hD hS hl
  unfold df_X9_define_0 at h
  refine lv_aload_n hx hb dX9_define_0 rfl (lv_at hl 0 rfl) ?_
  refine va_get (D := (dC, dI)) (ci := 10) (v := .ref (a 4)) (C := RX9) (T := TX9) (N := 20) hx hb hts hi_dm_X9_define_X9 hown hK hP 0 rfl rfl 12 (by decide) (hts (.fieldLink RX9 27 "TimeMachine$Reader" "name" "[I") (List.mem_of_getElem? (i := 1) rfl)) (fun _ h9 => h9) rfl dX9_define_1 ?_
  refine lv_iload_n hx hb dX9_define_4 rfl (lv_at hl 1 rfl) ?_
  refine lv_iconst (v := 5) hx hb dX9_define_5 (by decide) ?_
  refine lv_imul hx hb dX9_define_6 ?_
  refine lv_iconst (v := 2) hx hb dX9_define_7 (by decide) ?_
  refine lv_iadd hx hb dX9_define_8 ?_
  refine lv_iload_n hx hb dX9_define_9 rfl (lv_at hl 2 rfl) ?_
  obtain ⟨i1, h⟩ := nd_ck_e h
  refine va_iast (i := ((v0 * 5) + 2)) (x := v1) hx hb hK hP hD hS 4 3 rfl rfl i1 dX9_define_10 (fun H locs hP hD hS => ?_)
  obtain ⟨s2, es2, h⟩ := nd_let_e h
  have hP : va_P (dC, dI) vwCl (dw_X9 a ac s2) H := by rw [es2]; exact hP
  have hD : va_D A (dw_X9 a ac s2) := by rw [es2]; exact hD
  refine lv_aload_n hx hb dX9_define_11 rfl (lv_at hl 0 rfl) ?_
  refine va_get (D := (dC, dI)) (ci := 10) (v := .ref (a 4)) (C := RX9) (T := TX9) (N := 20) hx hb hts hi_dm_X9_define_X9 hown hK hP 0 rfl rfl 12 (by decide) (hts (.fieldLink RX9 27 "TimeMachine$Reader" "name" "[I") (List.mem_of_getElem? (i := 1) rfl)) (fun _ h9 => h9) rfl dX9_define_12 ?_
  refine lv_iload_n hx hb dX9_define_15 rfl (lv_at hl 1 rfl) ?_
  refine lv_iconst (v := 5) hx hb dX9_define_16 (by decide) ?_
  refine lv_imul hx hb dX9_define_17 ?_
  refine lv_iconst (v := 3) hx hb dX9_define_18 (by decide) ?_
  refine lv_iadd hx hb dX9_define_19 ?_
  refine lv_iload_n hx hb dX9_define_20 rfl (lv_at hl 3 rfl) ?_
  obtain ⟨i3, h⟩ := nd_ck_e h
  refine va_iast (i := ((v0 * 5) + 3)) (x := v2) hx hb hK hP hD hS 4 3 rfl rfl i3 dX9_define_21 (fun H locs hP hD hS => ?_)
  obtain ⟨s4, es4, h⟩ := nd_let_e h
  have hP : va_P (dC, dI) vwCl (dw_X9 a ac s4) H := by rw [es4]; exact hP
  have hD : va_D A (dw_X9 a ac s4) := by rw [es4]; exact hD
  exact K _ _ _ _ _ dX9_define_22 (Option.some.inj h).symm hP hD hS
set_option maxHeartbeats 40000000 in
set_option maxRecDepth 100000 in
theorem dm_X9_define (l : Launch) (hlt : l.stackTraces = false) (dC : Nat → ClassId) (dI : Nat → Nat → Nat) (a : Nat → Nat) (ac : Nat → ClassId) (n : Nat) (v0 : Int32) (v1 : Int32) (v2 : Int32) (s0 : St) {r : St} (h : df_X9_define n v0 v1 v2 s0 = some r) (sz : Nat) : Met l yX9_define ow_dm_X9_define ({ frames := 0, cells := 0, slots := 0, locals := 0 }) (va_Pc [.ref (a 0), .int v0, .int v1, .int v2] (fun U => U.heap.size = sz ∧ va_P (dC, dI) vwCl (dw_X9 a ac s0) U.heap ∧ va_K (dC, dI) vwCl (dk_X9 ac) U ∧ va_D (fun _ => True) (dw_X9 a ac s0) ∧ nv_E (va_A (dw_X9 a ac s0) sz) U)) (va_Qv (fun _ => True) (fun (_ : Unit) t => va_P (dC, dI) vwCl (dw_X9 a ac r) t.heap ∧ va_K (dC, dI) vwCl (dk_X9 ac) t ∧ va_D (va_A (dw_X9 a ac s0) sz) (dw_X9 a ac r)) (va_A (dw_X9 a ac s0) sz)) 0 0 (va_A (dw_X9 a ac s0) sz) := by
  refine Met.ofW (cc := cX9_define) (maxL := 4) (ret := none) (by decide) rfl ?_
  intro p e s m args below meth c s₁ B hml hv
  obtain ⟨rfl, hsz, hP, hK, hD0, hN⟩ := hv
  have hx := B.exec
  have hb := B.bytes
  have hr := B.returns
  have hts := atoms_spec (ws := ow_dm_X9_define) B.pre
  have hown : s.vm.findClass RX9 = some m.cls := findClass_of_methodNamed B.named
  have hlocks := B.notSynchronized
  subst hsz
  have hD := hD0.self (sz := s.heap.size)
  generalize hAe : va_A (dw_X9 a ac s0) s.heap.size = A at hD hN ⊢
  have hA : ∀ q : Nat, s.heap.size ≤ q → A q := fun q h => by rw [← hAe]; exact Or.inr h
  have hl := lv_entry ([.ref (a 0), .int v0, .int v1, .int v2]) (n := 4) (Nat.le_of_ble_eq_true rfl)
  rw [lg_entry_eq]
  generalize (lg_sl ([.ref (a 0), .int v0, .int v1, .int v2]) ++ List.replicate (4 - (lg_sl ([.ref (a 0), .int v0, .int v1, .int v2])).length) Slot.unset).toArray = ls at hl ⊢
  have hl : lv_has ls 4 [(0, .ref (a 0)), (1, .int v0), (2, .int v1), (3, .int v2)] := hl
  exact db_X9_define_0 (dC := dC) (dI := dI) (a := a) (ac := ac) (n := n) (r := r) ⟨hlt, hx, hb, hml, hown, hts, hN, hA, hK⟩ (fun pc τ H locs ls d er hP hD hS => by subst er; exact W.vret hx hb hr (fun t ht hW => ⟨⟨(), rfl, trivial, by rw [ht]; exact hP, va_K.moved hW.alike hK, hD⟩, hS.F ht⟩) hS.2.2 d) v0 v1 v2 s0 _ _ _ h hP hD va_S.rf (lv_sub hl [0, 1, 2, 3] rfl)
def ow_dm_X9_addLabel : List Cond := .code yX9_addLabel cX9_addLabel 6 (some .int) :: ([.fieldLink RX9 46 "TimeMachine$Reader" "labels" "I", .methodLink RX9 58 Lib.Math.min.name, .static Lib.Math.min.name, .initialized "java/lang/Math", .code Lib.Math.min.name Lib.Math.min.code 2 (some .int), .fieldLink RX9 36 "TimeMachine$Reader" "label" "[I", .fieldLink RX9 33 "TimeMachine$Reader" "near" "[I"] ++ (u_ws RX9 TX9 20 ++ []))
theorem gd_dm_X9_addLabel : ∀ w ∈ ow_dm_X9_addLabel, (w.onTables && w.keeps) = true ∨ ∃ ty, w = Cond.arrayClass ty := List.forall_mem_cons.mpr ⟨good_of_word rfl, List.forall_mem_append.mpr ⟨fun w h => good_of_word (List.all_eq_true.mp (by decide +kernel) w h), List.forall_mem_append.mpr ⟨gu_X9, fun _ h => nomatch h⟩⟩⟩
theorem hi_dm_X9_addLabel_X9 : ∀ w ∈ u_ws RX9 TX9 20, w ∈ ow_dm_X9_addLabel := fun w h => List.mem_cons_of_mem _ (List.mem_append_right _ (List.mem_append_left _ h))
def dj_X9_addLabel_157 (p : Program) (l : Launch) (e : Env) (s : State) (m : MethodId) (args : Array Value) (below : List Frame) (meth : Method) (c : Code) (Q : State → Prop) (A : Nat → Prop) (dC : Nat → ClassId) (dI : Nat → Nat → Nat) (a : Nat → Nat) (ac : Nat → ClassId) (g : Int32 → (St) → Option (Int32 × (St))) (r : Int32 × (St)) : Prop := ∀ (x4 : Int32) (s0 : St) (H : Heap) (locs : List Loc) (ls : Array Slot), g x4 s0 = some r → va_P (dC, dI) vwCl (dw_X9 a ac s0) H → va_D A (dw_X9 a ac s0) → va_S A s.heap H locs → lv_has ls 6 [(4, .int x4)] → W p l e (headSpec ow_dm_X9_addLabel ({ frames := 1, cells := 0, slots := 0, locals := 13 })).room s m args below meth c H locs 0 0 Q (F0 m 157 ls [])
def dj_X9_addLabel_144 (p : Program) (l : Launch) (e : Env) (s : State) (m : MethodId) (args : Array Value) (below : List Frame) (meth : Method) (c : Code) (Q : State → Prop) (A : Nat → Prop) (dC : Nat → ClassId) (dI : Nat → Nat → Nat) (a : Nat → Nat) (ac : Nat → ClassId) (g : Int32 → Int32 → (St) → Option (Int32 × (St))) (r : Int32 × (St)) : Prop := ∀ (x3 : Int32) (x4 : Int32) (s0 : St) (H : Heap) (locs : List Loc) (ls : Array Slot), g x3 x4 s0 = some r → va_P (dC, dI) vwCl (dw_X9 a ac s0) H → va_D A (dw_X9 a ac s0) → va_S A s.heap H locs → lv_has ls 6 [(0, .ref (a 0)), (3, .int x3), (4, .int x4)] → W p l e (headSpec ow_dm_X9_addLabel ({ frames := 1, cells := 0, slots := 0, locals := 13 })).room s m args below meth c H locs 0 0 Q (F0 m 144 ls [])
def dj_X9_addLabel_87 (p : Program) (l : Launch) (e : Env) (s : State) (m : MethodId) (args : Array Value) (below : List Frame) (meth : Method) (c : Code) (Q : State → Prop) (A : Nat → Prop) (dC : Nat → ClassId) (dI : Nat → Nat → Nat) (a : Nat → Nat) (ac : Nat → ClassId) (g : Int32 → Int32 → Int32 → Int32 → (St) → Option (Int32 × (St))) (r : Int32 × (St)) : Prop := ∀ (x3 : Int32) (x4 : Int32) (y1 : Int32) (y2 : Int32) (s0 : St) (H : Heap) (locs : List Loc) (ls : Array Slot), g x3 x4 y1 y2 s0 = some r → va_P (dC, dI) vwCl (dw_X9 a ac s0) H → va_D A (dw_X9 a ac s0) → va_S A s.heap H locs → lv_has ls 6 [(0, .ref (a 0)), (3, .int x3), (4, .int x4)] → W p l e (headSpec ow_dm_X9_addLabel ({ frames := 1, cells := 0, slots := 0, locals := 13 })).room s m args below meth c H locs 0 0 Q (F0 m 87 ls [.int y2, .int y1, .ref (a 7)])
def dj_X9_addLabel_0 (p : Program) (l : Launch) (e : Env) (s : State) (m : MethodId) (args : Array Value) (below : List Frame) (meth : Method) (c : Code) (Q : State → Prop) (A : Nat → Prop) (dC : Nat → ClassId) (dI : Nat → Nat → Nat) (a : Nat → Nat) (ac : Nat → ClassId) (g : Int32 → Int32 → Int32 → (St) → Option (Int32 × (St))) (r : Int32 × (St)) : Prop := ∀ (v0 : Int32) (v1 : Int32) (v2 : Int32) (s0 : St) (H : Heap) (locs : List Loc) (ls : Array Slot), g v0 v1 v2 s0 = some r → va_P (dC, dI) vwCl (dw_X9 a ac s0) H → va_D A (dw_X9 a ac s0) → va_S A s.heap H locs → lv_has ls 6 [(0, .ref (a 0)), (1, .int v0), (2, .int v1), (3, .int v2)] → W p l e (headSpec ow_dm_X9_addLabel ({ frames := 1, cells := 0, slots := 0, locals := 13 })).room s m args below meth c H locs 0 0 Q (F0 m 0 ls [])
set_option maxHeartbeats 40000000 in
set_option maxRecDepth 100000 in
theorem db_X9_addLabel_157 {p : Program} {l : Launch} {e : Env} {s : State} {m : MethodId} {args : Array Value} {below : List Frame} {meth : Method} {c : Code} {Q : State → Prop} {A : Nat → Prop} {dC : Nat → ClassId} {dI : Nat → Nat → Nat} {a : Nat → Nat} {ac : Nat → ClassId} {n : Nat} {r : Int32 × (St)} (C : nd_C p l s m args c A (dC, dI) cX9_addLabel 6 RX9 ow_dm_X9_addLabel (dk_X9 ac)) (K : nd_Ki p l e (headSpec ow_dm_X9_addLabel ({ frames := 1, cells := 0, slots := 0, locals := 13 })).room s m args below meth c Q A (dC, dI) cX9_addLabel .int (St) (dw_X9 a ac) r) : dj_X9_addLabel_157 p l e s m args below meth c Q A dC dI a ac (df_X9_addLabel_157 n) r := by
  obtain ⟨hlt, hx, hb, hml, hown, hts, hN, hA, hK⟩ := id C
  intro x4 s0 H locs ls h hP hD hS hl
  unfold df_X9_addLabel_157 at h
  refine lv_iload hx hb dX9_addLabel_157 (lv_at hl 0 rfl) ?_
  exact K _ _ _ _ _ _ dX9_addLabel_159 rfl (Option.some.inj h).symm hP hD hS
set_option maxHeartbeats 40000000 in
set_option maxRecDepth 100000 in
theorem db_X9_addLabel_144 {p : Program} {l : Launch} {e : Env} {s : State} {m : MethodId} {args : Array Value} {below : List Frame} {meth : Method} {c : Code} {Q : State → Prop} {A : Nat → Prop} {dC : Nat → ClassId} {dI : Nat → Nat → Nat} {a : Nat → Nat} {ac : Nat → ClassId} {n : Nat} {r : Int32 × (St)} (C : nd_C p l s m args c A (dC, dI) cX9_addLabel 6 RX9 ow_dm_X9_addLabel (dk_X9 ac)) (K : nd_Ki p l e (headSpec ow_dm_X9_addLabel ({ frames := 1, cells := 0, slots := 0, locals := 13 })).room s m args below meth c Q A (dC, dI) cX9_addLabel .int (St) (dw_X9 a ac) r) : dj_X9_addLabel_144 p l e s m args below meth c Q A dC dI a ac (df_X9_addLabel_144 n) r := by
  obtain ⟨hlt, hx, hb, hml, hown, hts, hN, hA, hK⟩ := id C
  intro x3 x4 s0 H locs ls h hP hD hS hl
  unfold df_X9_addLabel_144 at h
  refine lv_aload_n hx hb dX9_addLabel_144 rfl (lv_at hl 0 rfl) ?_
  refine va_get (D := (dC, dI)) (ci := 10) (v := .ref (a 6)) (C := RX9) (T := TX9) (N := 20) hx hb hts hi_dm_X9_addLabel_X9 hown hK hP 0 rfl rfl 15 (by decide) (hts (.fieldLink RX9 33 "TimeMachine$Reader" "near" "[I") (List.mem_of_getElem? (i := 7) rfl)) (fun _ h9 => h9) rfl dX9_addLabel_145 ?_
  refine lv_bipush (v := 10) hx hb dX9_addLabel_148 (by decide) ?_
  refine lv_iload_n hx hb dX9_addLabel_150 rfl (lv_at hl 1 rfl) ?_
  refine lv_iadd hx hb dX9_addLabel_151 ?_
  refine lv_iload hx hb dX9_addLabel_152 (lv_at hl 2 rfl) ?_
  refine lv_iconst (v := 1) hx hb dX9_addLabel_154 (by decide) ?_
  refine lv_iadd hx hb dX9_addLabel_155 ?_
  obtain ⟨i21, h⟩ := nd_ck_e h
  refine va_iast (i := (10 + x3)) (x := (x4 + 1)) hx hb hK hP hD hS 6 5 rfl rfl i21 dX9_addLabel_156 (fun H locs hP hD hS => ?_)
  obtain ⟨s22, es22, h⟩ := nd_let_e h
  have hP : va_P (dC, dI) vwCl (dw_X9 a ac s22) H := by rw [es22]; exact hP
  have hD : va_D A (dw_X9 a ac s22) := by rw [es22]; exact hD
  exact (db_X9_addLabel_157 C K) (x4) s22 _ _ _ h hP hD hS (lv_sub hl [2] rfl)
set_option maxHeartbeats 40000000 in
set_option maxRecDepth 100000 in
theorem db_X9_addLabel_87 {p : Program} {l : Launch} {e : Env} {s : State} {m : MethodId} {args : Array Value} {below : List Frame} {meth : Method} {c : Code} {Q : State → Prop} {A : Nat → Prop} {dC : Nat → ClassId} {dI : Nat → Nat → Nat} {a : Nat → Nat} {ac : Nat → ClassId} {n : Nat} {r : Int32 × (St)} (C : nd_C p l s m args c A (dC, dI) cX9_addLabel 6 RX9 ow_dm_X9_addLabel (dk_X9 ac)) (K : nd_Ki p l e (headSpec ow_dm_X9_addLabel ({ frames := 1, cells := 0, slots := 0, locals := 13 })).room s m args below meth c Q A (dC, dI) cX9_addLabel .int (St) (dw_X9 a ac) r) : dj_X9_addLabel_87 p l e s m args below meth c Q A dC dI a ac (df_X9_addLabel_87 n) r := by
  obtain ⟨hlt, hx, hb, hml, hown, hts, hN, hA, hK⟩ := id C
  intro x3 x4 y1 y2 s0 H locs ls h hP hD hS hl
  unfold df_X9_addLabel_87 at h
  obtain ⟨i12, h⟩ := nd_ck_e h
  refine va_iast (i := y1) (x := y2) hx hb hK hP hD hS 7 6 rfl rfl i12 dX9_addLabel_87 (fun H locs hP hD hS => ?_)
  obtain ⟨s13, es13, h⟩ := nd_let_e h
  have hP : va_P (dC, dI) vwCl (dw_X9 a ac s13) H := by rw [es13]; exact hP
  have hD : va_D A (dw_X9 a ac s13) := by rw [es13]; exact hD
  refine lv_iload_n hx hb dX9_addLabel_88 rfl (lv_at hl 1 rfl) ?_
  refine lv_if_lt (tgt := 157) hx hb dX9_addLabel_89 (by decide) (fun c14 => ?_) (fun c14 => ?_)
  · have h := nd_pos h c14
    exact (db_X9_addLabel_157 C K) (x4) s13 _ _ _ h hP hD hS (lv_sub hl [2] rfl)
  · have h := nd_neg h c14
    refine lv_iload_n hx hb dX9_addLabel_92 rfl (lv_at hl 1 rfl) ?_
    refine lv_bipush (v := 9) hx hb dX9_addLabel_93 (by decide) ?_
    refine lv_icmp_gt (tgt := 157) hx hb dX9_addLabel_95 (by decide) (fun c15 => ?_) (fun c15 => ?_)
    · have h := nd_pos h c15
      exact (db_X9_addLabel_157 C K) (x4) s13 _ _ _ h hP hD hS (lv_sub hl [2] rfl)
    · have h := nd_neg h c15
      refine lv_aload_n hx hb dX9_addLabel_98 rfl (lv_at hl 0 rfl) ?_
      refine va_get (D := (dC, dI)) (ci := 10) (v := .ref (a 6)) (C := RX9) (T := TX9) (N := 20) hx hb hts hi_dm_X9_addLabel_X9 hown hK hP 0 rfl rfl 15 (by decide) (hts (.fieldLink RX9 33 "TimeMachine$Reader" "near" "[I") (List.mem_of_getElem? (i := 7) rfl)) (fun _ h9 => h9) rfl dX9_addLabel_99 ?_
      refine lv_bipush (v := 10) hx hb dX9_addLabel_102 (by decide) ?_
      refine lv_iload_n hx hb dX9_addLabel_104 rfl (lv_at hl 1 rfl) ?_
      refine lv_iadd hx hb dX9_addLabel_105 ?_
      obtain ⟨i16, h⟩ := nd_ck_e h
      refine va_iald (i := (10 + x3)) hx hb hK hP 6 5 rfl rfl i16 dX9_addLabel_106 ?_
      refine lv_topi (fun z17 ez17 => ?_)
      have h := nd_at h ez17
      refine lv_istore (lv' := [(5, .int z17), (0, .ref (a 0)), (3, .int x3), (4, .int x4)]) hx hb dX9_addLabel_107 hl (by decide) rfl (fun ls hl => ?_)
      refine lv_iload hx hb dX9_addLabel_109 (lv_at hl 0 rfl) ?_
      refine lv_if_ne (tgt := 127) hx hb dX9_addLabel_111 (by decide) (fun c18 => ?_) (fun c18 => ?_)
      · have h := nd_neg h c18
        refine lv_aload_n hx hb dX9_addLabel_127 rfl (lv_at hl 1 rfl) ?_
        refine va_get (D := (dC, dI)) (ci := 10) (v := .ref (a 7)) (C := RX9) (T := TX9) (N := 20) hx hb hts hi_dm_X9_addLabel_X9 hown hK hP 0 rfl rfl 16 (by decide) (hts (.fieldLink RX9 36 "TimeMachine$Reader" "label" "[I") (List.mem_of_getElem? (i := 6) rfl)) (fun _ h9 => h9) rfl dX9_addLabel_128 ?_
        refine lv_iload hx hb dX9_addLabel_131 (lv_at hl 0 rfl) ?_
        refine lv_iconst (v := 1) hx hb dX9_addLabel_133 (by decide) ?_
        refine lv_isub hx hb dX9_addLabel_134 ?_
        refine lv_iconst (v := 5) hx hb dX9_addLabel_135 (by decide) ?_
        refine lv_imul hx hb dX9_addLabel_136 ?_
        refine lv_iconst (v := 3) hx hb dX9_addLabel_137 (by decide) ?_
        refine lv_iadd hx hb dX9_addLabel_138 ?_
        refine lv_iload hx hb dX9_addLabel_139 (lv_at hl 3 rfl) ?_
        refine lv_iconst (v := 1) hx hb dX9_addLabel_141 (by decide) ?_
        refine lv_iadd hx hb dX9_addLabel_142 ?_
        obtain ⟨i19, h⟩ := nd_ck_e h
        refine va_iast (i := (((z17 - 1) * 5) + 3)) (x := (x4 + 1)) hx hb hK hP hD hS 7 6 rfl rfl i19 dX9_addLabel_143 (fun H locs hP hD hS => ?_)
        obtain ⟨s20, es20, h⟩ := nd_let_e h
        have hP : va_P (dC, dI) vwCl (dw_X9 a ac s20) H := by rw [es20]; exact hP
        have hD : va_D A (dw_X9 a ac s20) := by rw [es20]; exact hD
        exact (db_X9_addLabel_144 C K) (x3) (x4) s20 _ _ _ h hP hD hS (lv_sub hl [1, 2, 3] rfl)
      · have h := nd_pos h c18
        refine lv_aload_n hx hb dX9_addLabel_114 rfl (lv_at hl 1 rfl) ?_
        refine va_get (D := (dC, dI)) (ci := 10) (v := .ref (a 6)) (C := RX9) (T := TX9) (N := 20) hx hb hts hi_dm_X9_addLabel_X9 hown hK hP 0 rfl rfl 15 (by decide) (hts (.fieldLink RX9 33 "TimeMachine$Reader" "near" "[I") (List.mem_of_getElem? (i := 7) rfl)) (fun _ h9 => h9) rfl dX9_addLabel_115 ?_
        refine lv_iload_n hx hb dX9_addLabel_118 rfl (lv_at hl 2 rfl) ?_
        refine lv_iload hx hb dX9_addLabel_119 (lv_at hl 3 rfl) ?_
        refine lv_iconst (v := 1) hx hb dX9_addLabel_121 (by decide) ?_
        refine lv_iadd hx hb dX9_addLabel_122 ?_
        obtain ⟨i23, h⟩ := nd_ck_e h
        refine va_iast (i := x3) (x := (x4 + 1)) hx hb hK hP hD hS 6 5 rfl rfl i23 dX9_addLabel_123 (fun H locs hP hD hS => ?_)
        obtain ⟨s24, es24, h⟩ := nd_let_e h
        have hP : va_P (dC, dI) vwCl (dw_X9 a ac s24) H := by rw [es24]; exact hP
        have hD : va_D A (dw_X9 a ac s24) := by rw [es24]; exact hD
        refine lv_goto (tgt := 144) hx hb dX9_addLabel_124 (by decide) ?_
        exact (db_X9_addLabel_144 C K) (x3) (x4) s24 _ _ _ h hP hD hS (lv_sub hl [1, 2, 3] rfl)
set_option maxHeartbeats 40000000 in
set_option maxRecDepth 100000 in
theorem db_X9_addLabel_0 {p : Program} {l : Launch} {e : Env} {s : State} {m : MethodId} {args : Array Value} {below : List Frame} {meth : Method} {c : Code} {Q : State → Prop} {A : Nat → Prop} {dC : Nat → ClassId} {dI : Nat → Nat → Nat} {a : Nat → Nat} {ac : Nat → ClassId} {n : Nat} {r : Int32 × (St)} (C : nd_C p l s m args c A (dC, dI) cX9_addLabel 6 RX9 ow_dm_X9_addLabel (dk_X9 ac)) (K : nd_Ki p l e (headSpec ow_dm_X9_addLabel ({ frames := 1, cells := 0, slots := 0, locals := 13 })).room s m args below meth c Q A (dC, dI) cX9_addLabel .int (St) (dw_X9 a ac) r) : dj_X9_addLabel_0 p l e s m args below meth c Q A dC dI a ac (df_X9_addLabel_0 n) r := by
  obtain ⟨hlt, hx, hb, hml, hown, hts, hN, hA, hK⟩ := id C
  intro v0 v1 v2 s0 H locs ls h hP hD hS hl
  unfold df_X9_addLabel_0 at h
  refine lv_aload_n hx hb dX9_addLabel_0 rfl (lv_at hl 0 rfl) ?_
  refine va_get (D := (dC, dI)) (ci := 10) (v := .int (sI s0 9)) (C := RX9) (T := TX9) (N := 20) hx hb hts hi_dm_X9_addLabel_X9 hown hK hP 0 rfl rfl 17 (by decide) (hts (.fieldLink RX9 46 "TimeMachine$Reader" "labels" "I") (List.mem_of_getElem? (i := 1) rfl)) (fun _ h9 => h9) rfl dX9_addLabel_1 ?_
  refine lv_sipush (v := 16384) hx hb dX9_addLabel_4 (by decide) ?_
  refine va_mmin hx hb (by rw [hml]; exact hl.1.symm) hown (hts (.methodLink RX9 58 Lib.Math.min.name) (List.mem_of_getElem? (i := 2) rfl)) (hts (.static Lib.Math.min.name) (List.mem_of_getElem? (i := 3) rfl)) (hts (.initialized "java/lang/Math") (List.mem_of_getElem? (i := 4) rfl)) (hts (.code Lib.Math.min.name Lib.Math.min.code 2 (some .int)) (List.mem_of_getElem? (i := 5) rfl)) (Nat.le_of_ble_eq_true rfl) (Nat.le_of_ble_eq_true rfl) (by decide +kernel) (by decide +kernel) dX9_addLabel_7 ?_
  refine lv_topi (fun z1 ez1 => ?_)
  have h := nd_at h ez1
  refine lv_istore (lv' := [(4, .int z1), (0, .ref (a 0)), (1, .int v0), (2, .int v1), (3, .int v2)]) hx hb dX9_addLabel_10 hl (by decide) rfl (fun ls hl => ?_)
  refine lv_aload_n hx hb dX9_addLabel_12 rfl (lv_at hl 1 rfl) ?_
  refine lv_iload hx hb dX9_addLabel_13 (lv_at hl 0 rfl) ?_
  refine lv_iconst (v := 1) hx hb dX9_addLabel_15 (by decide) ?_
  refine lv_iadd hx hb dX9_addLabel_16 ?_
  refine va_put (D := (dC, dI)) (ci := 10) (v := .int (z1 + 1)) (ty := .int) (C := RX9) (T := TX9) (N := 20) hx hb hts hi_dm_X9_addLabel_X9 tyX9 tyX9_ok nmX9 hown hK hP hD hS 0 rfl rfl 17 (by decide) (hts (.fieldLink RX9 46 "TimeMachine$Reader" "labels" "I") (List.mem_of_getElem? (i := 1) rfl)) (fun _ h9 => h9) rfl (by decide +kernel) rfl rfl (Nat.le_of_ble_eq_true rfl) dX9_addLabel_17 (fun H locs hP hD hS => ?_)
  obtain ⟨s2, es2, h⟩ := nd_let_e h
  have hP : va_P (dC, dI) vwCl (dw_X9 a ac s2) H := by rw [es2]; exact hP
  have hD : va_D A (dw_X9 a ac s2) := by rw [es2]; exact hD
  refine lv_aload_n hx hb dX9_addLabel_20 rfl (lv_at hl 1 rfl) ?_
  refine va_get (D := (dC, dI)) (ci := 10) (v := .ref (a 7)) (C := RX9) (T := TX9) (N := 20) hx hb hts hi_dm_X9_addLabel_X9 hown hK hP 0 rfl rfl 16 (by decide) (hts (.fieldLink RX9 36 "TimeMachine$Reader" "label" "[I") (List.mem_of_getElem? (i := 6) rfl)) (fun _ h9 => h9) rfl dX9_addLabel_21 ?_
  refine lv_iload hx hb dX9_addLabel_24 (lv_at hl 0 rfl) ?_
  refine lv_iconst (v := 5) hx hb dX9_addLabel_26 (by decide) ?_
  refine lv_imul hx hb dX9_addLabel_27 ?_
  refine lv_iconst (v := 0) hx hb dX9_addLabel_28 (by decide) ?_
  refine lv_iadd hx hb dX9_addLabel_29 ?_
  refine lv_iload_n hx hb dX9_addLabel_30 rfl (lv_at hl 2 rfl) ?_
  obtain ⟨i3, h⟩ := nd_ck_e h
  refine va_iast (i := ((z1 * 5) + 0)) (x := v0) hx hb hK hP hD hS 7 6 rfl rfl i3 dX9_addLabel_31 (fun H locs hP hD hS => ?_)
  obtain ⟨s4, es4, h⟩ := nd_let_e h
  have hP : va_P (dC, dI) vwCl (dw_X9 a ac s4) H := by rw [es4]; exact hP
  have hD : va_D A (dw_X9 a ac s4) := by rw [es4]; exact hD
  refine lv_aload_n hx hb dX9_addLabel_32 rfl (lv_at hl 1 rfl) ?_
  refine va_get (D := (dC, dI)) (ci := 10) (v := .ref (a 7)) (C := RX9) (T := TX9) (N := 20) hx hb hts hi_dm_X9_addLabel_X9 hown hK hP 0 rfl rfl 16 (by decide) (hts (.fieldLink RX9 36 "TimeMachine$Reader" "label" "[I") (List.mem_of_getElem? (i := 6) rfl)) (fun _ h9 => h9) rfl dX9_addLabel_33 ?_
  refine lv_iload hx hb dX9_addLabel_36 (lv_at hl 0 rfl) ?_
  refine lv_iconst (v := 5) hx hb dX9_addLabel_38 (by decide) ?_
  refine lv_imul hx hb dX9_addLabel_39 ?_
  refine lv_iconst (v := 1) hx hb dX9_addLabel_40 (by decide) ?_
  refine lv_iadd hx hb dX9_addLabel_41 ?_
  refine lv_iload_n hx hb dX9_addLabel_42 rfl (lv_at hl 3 rfl) ?_
  obtain ⟨i5, h⟩ := nd_ck_e h
  refine va_iast (i := ((z1 * 5) + 1)) (x := v1) hx hb hK hP hD hS 7 6 rfl rfl i5 dX9_addLabel_43 (fun H locs hP hD hS => ?_)
  obtain ⟨s6, es6, h⟩ := nd_let_e h
  have hP : va_P (dC, dI) vwCl (dw_X9 a ac s6) H := by rw [es6]; exact hP
  have hD : va_D A (dw_X9 a ac s6) := by rw [es6]; exact hD
  refine lv_aload_n hx hb dX9_addLabel_44 rfl (lv_at hl 1 rfl) ?_
  refine va_get (D := (dC, dI)) (ci := 10) (v := .ref (a 7)) (C := RX9) (T := TX9) (N := 20) hx hb hts hi_dm_X9_addLabel_X9 hown hK hP 0 rfl rfl 16 (by decide) (hts (.fieldLink RX9 36 "TimeMachine$Reader" "label" "[I") (List.mem_of_getElem? (i := 6) rfl)) (fun _ h9 => h9) rfl dX9_addLabel_45 ?_
  refine lv_iload hx hb dX9_addLabel_48 (lv_at hl 0 rfl) ?_
  refine lv_iconst (v := 5) hx hb dX9_addLabel_50 (by decide) ?_
  refine lv_imul hx hb dX9_addLabel_51 ?_
  refine lv_iconst (v := 2) hx hb dX9_addLabel_52 (by decide) ?_
  refine lv_iadd hx hb dX9_addLabel_53 ?_
  refine lv_iconst (v := 0) hx hb dX9_addLabel_54 (by decide) ?_
  obtain ⟨i7, h⟩ := nd_ck_e h
  refine va_iast (i := ((z1 * 5) + 2)) (x := 0) hx hb hK hP hD hS 7 6 rfl rfl i7 dX9_addLabel_55 (fun H locs hP hD hS => ?_)
  obtain ⟨s8, es8, h⟩ := nd_let_e h
  have hP : va_P (dC, dI) vwCl (dw_X9 a ac s8) H := by rw [es8]; exact hP
  have hD : va_D A (dw_X9 a ac s8) := by rw [es8]; exact hD
  refine lv_aload_n hx hb dX9_addLabel_56 rfl (lv_at hl 1 rfl) ?_
  refine va_get (D := (dC, dI)) (ci := 10) (v := .ref (a 7)) (C := RX9) (T := TX9) (N := 20) hx hb hts hi_dm_X9_addLabel_X9 hown hK hP 0 rfl rfl 16 (by decide) (hts (.fieldLink RX9 36 "TimeMachine$Reader" "label" "[I") (List.mem_of_getElem? (i := 6) rfl)) (fun _ h9 => h9) rfl dX9_addLabel_57 ?_
  refine lv_iload hx hb dX9_addLabel_60 (lv_at hl 0 rfl) ?_
  refine lv_iconst (v := 5) hx hb dX9_addLabel_62 (by decide) ?_
  refine lv_imul hx hb dX9_addLabel_63 ?_
  refine lv_iconst (v := 3) hx hb dX9_addLabel_64 (by decide) ?_
  refine lv_iadd hx hb dX9_addLabel_65 ?_
  refine lv_iconst (v := 0) hx hb dX9_addLabel_66 (by decide) ?_
  obtain ⟨i9, h⟩ := nd_ck_e h
  refine va_iast (i := ((z1 * 5) + 3)) (x := 0) hx hb hK hP hD hS 7 6 rfl rfl i9 dX9_addLabel_67 (fun H locs hP hD hS => ?_)
  obtain ⟨s10, es10, h⟩ := nd_let_e h
  have hP : va_P (dC, dI) vwCl (dw_X9 a ac s10) H := by rw [es10]; exact hP
  have hD : va_D A (dw_X9 a ac s10) := by rw [es10]; exact hD
  refine lv_aload_n hx hb dX9_addLabel_68 rfl (lv_at hl 1 rfl) ?_
  refine va_get (D := (dC, dI)) (ci := 10) (v := .ref (a 7)) (C := RX9) (T := TX9) (N := 20) hx hb hts hi_dm_X9_addLabel_X9 hown hK hP 0 rfl rfl 16 (by decide) (hts (.fieldLink RX9 36 "TimeMachine$Reader" "label" "[I") (List.mem_of_getElem? (i := 6) rfl)) (fun _ h9 => h9) rfl dX9_addLabel_69 ?_
  refine lv_iload hx hb dX9_addLabel_72 (lv_at hl 0 rfl) ?_
  refine lv_iconst (v := 5) hx hb dX9_addLabel_74 (by decide) ?_
  refine lv_imul hx hb dX9_addLabel_75 ?_
  refine lv_iconst (v := 4) hx hb dX9_addLabel_76 (by decide) ?_
  refine lv_iadd hx hb dX9_addLabel_77 ?_
  refine lv_iload_n hx hb dX9_addLabel_78 rfl (lv_at hl 4 rfl) ?_
  refine lv_if_ge (tgt := 86) hx hb dX9_addLabel_79 (by decide) (fun c11 => ?_) (fun c11 => ?_)
  · have h := nd_pos h c11
    refine lv_iconst (v := 0) hx hb dX9_addLabel_86 (by decide) ?_
    exact (db_X9_addLabel_87 C K) (v2) (z1) (((z1 * 5) + 4)) (0) s10 _ _ _ h hP hD hS (lv_sub hl [1, 4, 0] rfl)
  · have h := nd_neg h c11
    refine lv_iconst (v := 1) hx hb dX9_addLabel_82 (by decide) ?_
    refine lv_goto (tgt := 87) hx hb dX9_addLabel_83 (by decide) ?_
    exact (db_X9_addLabel_87 C K) (v2) (z1) (((z1 * 5) + 4)) (1) s10 _ _ _ h hP hD hS (lv_sub hl [1, 4, 0] rfl)
set_option maxHeartbeats 40000000 in
set_option maxRecDepth 100000 in
theorem dm_X9_addLabel (l : Launch) (hlt : l.stackTraces = false) (dC : Nat → ClassId) (dI : Nat → Nat → Nat) (a : Nat → Nat) (ac : Nat → ClassId) (n : Nat) (v0 : Int32) (v1 : Int32) (v2 : Int32) (s0 : St) {r : Int32 × (St)} (h : df_X9_addLabel n v0 v1 v2 s0 = some r) (sz : Nat) : Met l yX9_addLabel ow_dm_X9_addLabel ({ frames := 1, cells := 0, slots := 0, locals := 13 }) (va_Pc [.ref (a 0), .int v0, .int v1, .int v2] (fun U => U.heap.size = sz ∧ va_P (dC, dI) vwCl (dw_X9 a ac s0) U.heap ∧ va_K (dC, dI) vwCl (dk_X9 ac) U ∧ va_D (fun _ => True) (dw_X9 a ac s0) ∧ nv_E (va_A (dw_X9 a ac s0) sz) U)) (va_Qi (fun x _ => x = r.1) (fun (_ : Unit) t => va_P (dC, dI) vwCl (dw_X9 a ac r.2) t.heap ∧ va_K (dC, dI) vwCl (dk_X9 ac) t ∧ va_D (va_A (dw_X9 a ac s0) sz) (dw_X9 a ac r.2)) (va_A (dw_X9 a ac s0) sz)) 0 0 (va_A (dw_X9 a ac s0) sz) := by
  refine Met.ofW (cc := cX9_addLabel) (maxL := 6) (ret := (some .int)) (by decide) rfl ?_
  intro p e s m args below meth c s₁ B hml hv
  obtain ⟨rfl, hsz, hP, hK, hD0, hN⟩ := hv
  have hx := B.exec
  have hb := B.bytes
  have hr := B.returns
  have hts := atoms_spec (ws := ow_dm_X9_addLabel) B.pre
  have hown : s.vm.findClass RX9 = some m.cls := findClass_of_methodNamed B.named
  have hlocks := B.notSynchronized
  subst hsz
  have hD := hD0.self (sz := s.heap.size)
  generalize hAe : va_A (dw_X9 a ac s0) s.heap.size = A at hD hN ⊢
  have hA : ∀ q : Nat, s.heap.size ≤ q → A q := fun q h => by rw [← hAe]; exact Or.inr h
  have hl := lv_entry ([.ref (a 0), .int v0, .int v1, .int v2]) (n := 6) (Nat.le_of_ble_eq_true rfl)
  rw [lg_entry_eq]
  generalize (lg_sl ([.ref (a 0), .int v0, .int v1, .int v2]) ++ List.replicate (6 - (lg_sl ([.ref (a 0), .int v0, .int v1, .int v2])).length) Slot.unset).toArray = ls at hl ⊢
  have hl : lv_has ls 6 [(0, .ref (a 0)), (1, .int v0), (2, .int v1), (3, .int v2)] := hl
  exact db_X9_addLabel_0 (dC := dC) (dI := dI) (a := a) (ac := ac) (n := n) (r := r) ⟨hlt, hx, hb, hml, hown, hts, hN, hA, hK⟩ (fun pc v τ H locs ls d z er hP hD hS => by subst er; exact W.zret (v := v) hx hb hr z (fun t ht hW => ⟨⟨v, (), rfl, rfl, by rw [ht]; exact hP, va_K.moved hW.alike hK, hD⟩, hS.F ht⟩) hS.2.2 d) v0 v1 v2 s0 _ _ _ h hP hD va_S.rf (lv_sub hl [0, 1, 2, 3] rfl)
def ow_dm_X9_takeNear : List Cond := .code yX9_takeNear cX9_takeNear 2 none :: ([.fieldLink RX9 115 "TimeMachine$Reader" "fixed" "Z", .fieldLink RX9 33 "TimeMachine$Reader" "near" "[I", .fieldLink RX9 93 "TimeMachine$Reader" "number" "I", .fieldLink RX9 9 "TimeMachine$Reader" "source" "[B", .fieldLink RX9 70 "TimeMachine$Reader" "from" "I", .methodLink RX9 131 yX9_emit, .instanceMethod yX9_emit, .selects RX9 yX9_emit yX9_emit, .initialized RX9] ++ (u_ws RX9 TX9 20 ++ (ow_dm_X9_emit ++ [])))
theorem gd_dm_X9_takeNear : ∀ w ∈ ow_dm_X9_takeNear, (w.onTables && w.keeps) = true ∨ ∃ ty, w = Cond.arrayClass ty := List.forall_mem_cons.mpr ⟨good_of_word rfl, List.forall_mem_append.mpr ⟨fun w h => good_of_word (List.all_eq_true.mp (by decide +kernel) w h), List.forall_mem_append.mpr ⟨gu_X9, List.forall_mem_append.mpr ⟨gd_dm_X9_emit, fun _ h => nomatch h⟩⟩⟩⟩
theorem hi_dm_X9_takeNear_X9 : ∀ w ∈ u_ws RX9 TX9 20, w ∈ ow_dm_X9_takeNear := fun w h => List.mem_cons_of_mem _ (List.mem_append_right _ (List.mem_append_left _ h))
theorem gi_dm_X9_takeNear_0 : GoodIn ow_dm_X9_takeNear (wsV RX9 131 RX9 yX9_emit ow_dm_X9_emit) := goodIn_app (goodIn_of _ (by decide +kernel)) (fun w h => ⟨List.mem_cons_of_mem _ (List.mem_append_right _ (List.mem_append_right _ (List.mem_append_left _ h))), gd_dm_X9_emit w h⟩)
def dj_X9_takeNear_66 (p : Program) (l : Launch) (e : Env) (s : State) (m : MethodId) (args : Array Value) (below : List Frame) (meth : Method) (c : Code) (Q : State → Prop) (A : Nat → Prop) (dC : Nat → ClassId) (dI : Nat → Nat → Nat) (a : Nat → Nat) (ac : Nat → ClassId) (g : (St) → Option (St)) (r : St) : Prop := ∀ (s0 : St) (H : Heap) (locs : List Loc) (ls : Array Slot), g s0 = some r → va_P (dC, dI) vwCl (dw_X9 a ac s0) H → va_D A (dw_X9 a ac s0) → va_S A s.heap H locs → lv_has ls 2 [] → W p l e (headSpec ow_dm_X9_takeNear ({ frames := 1, cells := 0, slots := 0, locals := 22 })).room s m args below meth c H locs 0 0 Q (F0 m 66 ls [])
def dj_X9_takeNear_63 (p : Program) (l : Launch) (e : Env) (s : State) (m : MethodId) (args : Array Value) (below : List Frame) (meth : Method) (c : Code) (Q : State → Prop) (A : Nat → Prop) (dC : Nat → ClassId) (dI : Nat → Nat → Nat) (a : Nat → Nat) (ac : Nat → ClassId) (g : Int32 → Int32 → (St) → Option (St)) (r : St) : Prop := ∀ (y1 : Int32) (y2 : Int32) (s0 : St) (H : Heap) (locs : List Loc) (ls : Array Slot), g y1 y2 s0 = some r → va_P (dC, dI) vwCl (dw_X9 a ac s0) H → va_D A (dw_X9 a ac s0) → va_S A s.heap H locs → lv_has ls 2 [] → W p l e (headSpec ow_dm_X9_takeNear ({ frames := 1, cells := 0, slots := 0, locals := 22 })).room s m args below meth c H locs 0 0 Q (F0 m 63 ls [.int y2, .int y1, .ref (a 0)])
def dj_X9_takeNear_0 (p : Program) (l : Launch) (e : Env) (s : State) (m : MethodId) (args : Array Value) (below : List Frame) (meth : Method) (c : Code) (Q : State → Prop) (A : Nat → Prop) (dC : Nat → ClassId) (dI : Nat → Nat → Nat) (a : Nat → Nat) (ac : Nat → ClassId) (g : (St) → Option (St)) (r : St) : Prop := ∀ (s0 : St) (H : Heap) (locs : List Loc) (ls : Array Slot), g s0 = some r → va_P (dC, dI) vwCl (dw_X9 a ac s0) H → va_D A (dw_X9 a ac s0) → va_S A s.heap H locs → lv_has ls 2 [(0, .ref (a 0))] → W p l e (headSpec ow_dm_X9_takeNear ({ frames := 1, cells := 0, slots := 0, locals := 22 })).room s m args below meth c H locs 0 0 Q (F0 m 0 ls [])
set_option maxHeartbeats 40000000 in
set_option maxRecDepth 100000 in
theorem db_X9_takeNear_66 {p : Program} {l : Launch} {e : Env} {s : State} {m : MethodId} {args : Array Value} {below : List Frame} {meth : Method} {c : Code} {Q : State → Prop} {A : Nat → Prop} {dC : Nat → ClassId} {dI : Nat → Nat → Nat} {a : Nat → Nat} {ac : Nat → ClassId} {n : Nat} {r : St} (C : nd_C p l s m args c A (dC, dI) cX9_takeNear 2 RX9 ow_dm_X9_takeNear (dk_X9 ac)) (K : nd_Kv p l e (headSpec ow_dm_X9_takeNear ({ frames := 1, cells := 0, slots := 0, locals := 22 })).room s m args below meth c Q A (dC, dI) cX9_takeNear (St) (dw_X9 a ac) r) : dj_X9_takeNear_66 p l e s m args below meth c Q A dC dI a ac (df_X9_takeNear_66 n) r := by
  obtain ⟨hlt, hx, hb, hml, hown, hts, hN, hA, hK⟩ := id C
  intro s0 H locs ls h hP hD hS hl
  unfold df_X9_takeNear_66 at h
  exact K _ _ _ _ _ dX9_takeNear_66 (Option.some.inj h).symm hP hD hS
set_option maxHeartbeats 40000000 in
set_option maxRecDepth 100000 in
theorem db_X9_takeNear_63 {p : Program} {l : Launch} {e : Env} {s : State} {m : MethodId} {args : Array Value} {below : List Frame} {meth : Method} {c : Code} {Q : State → Prop} {A : Nat → Prop} {dC : Nat → ClassId} {dI : Nat → Nat → Nat} {a : Nat → Nat} {ac : Nat → ClassId} {n : Nat} {r : St} (C : nd_C p l s m args c A (dC, dI) cX9_takeNear 2 RX9 ow_dm_X9_takeNear (dk_X9 ac)) (K : nd_Kv p l e (headSpec ow_dm_X9_takeNear ({ frames := 1, cells := 0, slots := 0, locals := 22 })).room s m args below meth c Q A (dC, dI) cX9_takeNear (St) (dw_X9 a ac) r) : dj_X9_takeNear_63 p l e s m args below meth c Q A dC dI a ac (df_X9_takeNear_63 n) r := by
  obtain ⟨hlt, hx, hb, hml, hown, hts, hN, hA, hK⟩ := id C
  intro y1 y2 s0 H locs ls h hP hD hS hl
  unfold df_X9_takeNear_63 at h
  obtain ⟨s9, hq, h⟩ := nd_b1_e h
  have hPc := hP
  have hDc := hD
  have hKc := hK
  have hFc := nd_rs hD hS hA
  refine nd_cVv (As := [.int y1, .int y2]) (rest := []) (w' := dw_X9 a ac s9) ⟨hx, hb, hml, hown, hts⟩ (fun sz => dm_X9_emit l hlt dC dI a ac n (y1) (y2) s0 hq sz) (cwV 2 hts gi_dm_X9_takeNear_0 rfl rfl rfl (by decide +kernel) ⟨Nat.le_of_ble_eq_true rfl, Nat.le_of_ble_eq_true rfl⟩) hPc hDc hKc hS hA hN (va_recv hKc hPc (ci := 10) (q0 := 0) rfl rfl) rfl hl.1 rfl (Nat.le_of_ble_eq_true rfl) dX9_takeNear_63 (fun H locs hP1 hD1 hk1 hS => ?_)
  have hP := hP1
  have hD := hD1.weaken (fun k q _ h => hFc q.1 h)
  exact (db_X9_takeNear_66 C K)  s9 _ _ _ h hP hD hS (lv_sub hl [] rfl)
set_option maxHeartbeats 40000000 in
set_option maxRecDepth 100000 in
theorem db_X9_takeNear_0 {p : Program} {l : Launch} {e : Env} {s : State} {m : MethodId} {args : Array Value} {below : List Frame} {meth : Method} {c : Code} {Q : State → Prop} {A : Nat → Prop} {dC : Nat → ClassId} {dI : Nat → Nat → Nat} {a : Nat → Nat} {ac : Nat → ClassId} {n : Nat} {r : St} (C : nd_C p l s m args c A (dC, dI) cX9_takeNear 2 RX9 ow_dm_X9_takeNear (dk_X9 ac)) (K : nd_Kv p l e (headSpec ow_dm_X9_takeNear ({ frames := 1, cells := 0, slots := 0, locals := 22 })).room s m args below meth c Q A (dC, dI) cX9_takeNear (St) (dw_X9 a ac) r) : dj_X9_takeNear_0 p l e s m args below meth c Q A dC dI a ac (df_X9_takeNear_0 n) r := by
  obtain ⟨hlt, hx, hb, hml, hown, hts, hN, hA, hK⟩ := id C
  intro s0 H locs ls h hP hD hS hl
  unfold df_X9_takeNear_0 at h
  refine lv_aload_n hx hb dX9_takeNear_0 rfl (lv_at hl 0 rfl) ?_
  refine lv_iconst (v := 0) hx hb dX9_takeNear_1 (by decide) ?_
  refine va_put (D := (dC, dI)) (ci := 10) (v := .int 0) (ty := .boolean) (C := RX9) (T := TX9) (N := 20) hx hb hts hi_dm_X9_takeNear_X9 tyX9 tyX9_ok nmX9 hown hK hP hD hS 0 rfl rfl 18 (by decide) (hts (.fieldLink RX9 115 "TimeMachine$Reader" "fixed" "Z") (List.mem_of_getElem? (i := 1) rfl)) (fun _ h9 => h9) rfl (by decide +kernel) (by first | rfl | decide) rfl (Nat.le_of_ble_eq_true rfl) dX9_takeNear_2 (fun H locs hP hD hS => ?_)
  obtain ⟨s1, es1, h⟩ := nd_let_e h
  have hP : va_P (dC, dI) vwCl (dw_X9 a ac s1) H := by rw [es1]; exact hP
  have hD : va_D A (dw_X9 a ac s1) := by rw [es1]; exact hD
  refine lv_aload_n hx hb dX9_takeNear_5 rfl (lv_at hl 0 rfl) ?_
  refine va_get (D := (dC, dI)) (ci := 10) (v := .ref (a 6)) (C := RX9) (T := TX9) (N := 20) hx hb hts hi_dm_X9_takeNear_X9 hown hK hP 0 rfl rfl 15 (by decide) (hts (.fieldLink RX9 33 "TimeMachine$Reader" "near" "[I") (List.mem_of_getElem? (i := 2) rfl)) (fun _ h9 => h9) rfl dX9_takeNear_6 ?_
  refine lv_bipush (v := 10) hx hb dX9_takeNear_9 (by decide) ?_
  refine lv_aload_n hx hb dX9_takeNear_11 rfl (lv_at hl 0 rfl) ?_
  refine va_get (D := (dC, dI)) (ci := 10) (v := .int (sI s1 4)) (C := RX9) (T := TX9) (N := 20) hx hb hts hi_dm_X9_takeNear_X9 hown hK hP 0 rfl rfl 5 (by decide) (hts (.fieldLink RX9 93 "TimeMachine$Reader" "number" "I") (List.mem_of_getElem? (i := 3) rfl)) (fun _ h9 => h9) rfl dX9_takeNear_12 ?_
  refine lv_iadd hx hb dX9_takeNear_15 ?_
  obtain ⟨i2, h⟩ := nd_ck_e h
  refine va_iald (i := (10 + (sI s1 4))) hx hb hK hP 6 5 rfl rfl i2 dX9_takeNear_16 ?_
  refine lv_iconst (v := 1) hx hb dX9_takeNear_17 (by decide) ?_
  refine lv_isub hx hb dX9_takeNear_18 ?_
  refine lv_topi (fun z3 ez3 => ?_)
  have h := nd_at h ez3
  refine lv_istore_n (lv' := [(1, .int z3), (0, .ref (a 0))]) hx hb dX9_takeNear_19 rfl hl (by decide) rfl (fun ls hl => ?_)
  refine lv_aload_n hx hb dX9_takeNear_20 rfl (lv_at hl 1 rfl) ?_
  obtain ⟨o4, h⟩ := nd_o_e h
  refine va_get (D := (dC, dI)) (ci := 10) (v := .ref (a 8)) (C := RX9) (T := TX9) (N := 20) hx hb hts hi_dm_X9_takeNear_X9 hown hK hP 0 rfl rfl 0 (by decide) (hts (.fieldLink RX9 9 "TimeMachine$Reader" "source" "[B") (List.mem_of_getElem? (i := 4) rfl)) (fun _ h9 => h9) (congrArg (fun z => some (va_rf (Option.map a z))) o4) dX9_takeNear_21 ?_
  refine lv_aload_n hx hb dX9_takeNear_24 rfl (lv_at hl 1 rfl) ?_
  refine va_get (D := (dC, dI)) (ci := 10) (v := .int (sI s1 3)) (C := RX9) (T := TX9) (N := 20) hx hb hts hi_dm_X9_takeNear_X9 hown hK hP 0 rfl rfl 4 (by decide) (hts (.fieldLink RX9 70 "TimeMachine$Reader" "from" "I") (List.mem_of_getElem? (i := 5) rfl)) (fun _ h9 => h9) rfl dX9_takeNear_25 ?_
  refine lv_iconst (v := 1) hx hb dX9_takeNear_28 (by decide) ?_
  refine lv_iadd hx hb dX9_takeNear_29 ?_
  obtain ⟨i5, h⟩ := nd_ck_e h
  refine va_bald (i := ((sI s1 3) + 1)) hx hb hK hP 8 7 rfl rfl i5 dX9_takeNear_30 ?_
  refine lv_bipush (v := 98) hx hb dX9_takeNear_31 (by decide) ?_
  refine lv_icmp_ne (tgt := 46) hx hb dX9_takeNear_33 (by decide) (fun c6 => ?_) (fun c6 => ?_)
  · have h := nd_neg h c6
    refine lv_aload_n hx hb dX9_takeNear_46 rfl (lv_at hl 1 rfl) ?_
    refine lv_bipush (v := 19) hx hb dX9_takeNear_47 (by decide) ?_
    refine lv_iload_n hx hb dX9_takeNear_49 rfl (lv_at hl 0 rfl) ?_
    refine lv_if_lt (tgt := 57) hx hb dX9_takeNear_50 (by decide) (fun c7 => ?_) (fun c7 => ?_)
    · have h := nd_pos h c7
      refine lv_iconst (v := (-1)) hx hb dX9_takeNear_57 (by decide) ?_
      refine lv_aload_n hx hb dX9_takeNear_58 rfl (lv_at hl 1 rfl) ?_
      refine va_get (D := (dC, dI)) (ci := 10) (v := .int (sI s1 4)) (C := RX9) (T := TX9) (N := 20) hx hb hts hi_dm_X9_takeNear_X9 hown hK hP 0 rfl rfl 5 (by decide) (hts (.fieldLink RX9 93 "TimeMachine$Reader" "number" "I") (List.mem_of_getElem? (i := 3) rfl)) (fun _ h9 => h9) rfl dX9_takeNear_59 ?_
      refine lv_isub hx hb dX9_takeNear_62 ?_
      exact (db_X9_takeNear_63 C K) (19) (((-1) - (sI s1 4))) s1 _ _ _ h hP hD hS (lv_sub hl [] rfl)
    · have h := nd_neg h c7
      refine lv_iload_n hx hb dX9_takeNear_53 rfl (lv_at hl 0 rfl) ?_
      refine lv_goto (tgt := 63) hx hb dX9_takeNear_54 (by decide) ?_
      exact (db_X9_takeNear_63 C K) (19) (z3) s1 _ _ _ h hP hD hS (lv_sub hl [] rfl)
  · have h := nd_pos h c6
    refine lv_aload_n hx hb dX9_takeNear_36 rfl (lv_at hl 1 rfl) ?_
    refine lv_bipush (v := 20) hx hb dX9_takeNear_37 (by decide) ?_
    refine lv_iload_n hx hb dX9_takeNear_39 rfl (lv_at hl 0 rfl) ?_
    obtain ⟨s12, hq, h⟩ := nd_b1_e h
    have hPc := hP
    have hDc := hD
    have hKc := hK
    have hFc := nd_rs hD hS hA
    refine nd_cVv (As := [.int 20, .int z3]) (rest := []) (w' := dw_X9 a ac s12) ⟨hx, hb, hml, hown, hts⟩ (fun sz => dm_X9_emit l hlt dC dI a ac n (20) (z3) s1 hq sz) (cwV 2 hts gi_dm_X9_takeNear_0 rfl rfl rfl (by decide +kernel) ⟨Nat.le_of_ble_eq_true rfl, Nat.le_of_ble_eq_true rfl⟩) hPc hDc hKc hS hA hN (va_recv hKc hPc (ci := 10) (q0 := 0) rfl rfl) rfl hl.1 rfl (Nat.le_of_ble_eq_true rfl) dX9_takeNear_40 (fun H locs hP1 hD1 hk1 hS => ?_)
    have hP := hP1
    have hD := hD1.weaken (fun k q _ h => hFc q.1 h)
    refine lv_goto (tgt := 66) hx hb dX9_takeNear_43 (by decide) ?_
    exact (db_X9_takeNear_66 C K)  s12 _ _ _ h hP hD hS (lv_sub hl [] rfl)
set_option maxHeartbeats 40000000 in
set_option maxRecDepth 100000 in
theorem dm_X9_takeNear (l : Launch) (hlt : l.stackTraces = false) (dC : Nat → ClassId) (dI : Nat → Nat → Nat) (a : Nat → Nat) (ac : Nat → ClassId) (n : Nat) (s0 : St) {r : St} (h : df_X9_takeNear n s0 = some r) (sz : Nat) : Met l yX9_takeNear ow_dm_X9_takeNear ({ frames := 1, cells := 0, slots := 0, locals := 22 }) (va_Pc [.ref (a 0)] (fun U => U.heap.size = sz ∧ va_P (dC, dI) vwCl (dw_X9 a ac s0) U.heap ∧ va_K (dC, dI) vwCl (dk_X9 ac) U ∧ va_D (fun _ => True) (dw_X9 a ac s0) ∧ nv_E (va_A (dw_X9 a ac s0) sz) U)) (va_Qv (fun _ => True) (fun (_ : Unit) t => va_P (dC, dI) vwCl (dw_X9 a ac r) t.heap ∧ va_K (dC, dI) vwCl (dk_X9 ac) t ∧ va_D (va_A (dw_X9 a ac s0) sz) (dw_X9 a ac r)) (va_A (dw_X9 a ac s0) sz)) 0 0 (va_A (dw_X9 a ac s0) sz) := by
  refine Met.ofW (cc := cX9_takeNear) (maxL := 2) (ret := none) (by decide) rfl ?_
  intro p e s m args below meth c s₁ B hml hv
  obtain ⟨rfl, hsz, hP, hK, hD0, hN⟩ := hv
  have hx := B.exec
  have hb := B.bytes
  have hr := B.returns
  have hts := atoms_spec (ws := ow_dm_X9_takeNear) B.pre
  have hown : s.vm.findClass RX9 = some m.cls := findClass_of_methodNamed B.named
  have hlocks := B.notSynchronized
  subst hsz
  have hD := hD0.self (sz := s.heap.size)
  generalize hAe : va_A (dw_X9 a ac s0) s.heap.size = A at hD hN ⊢
  have hA : ∀ q : Nat, s.heap.size ≤ q → A q := fun q h => by rw [← hAe]; exact Or.inr h
  have hl := lv_entry ([.ref (a 0)]) (n := 2) (Nat.le_of_ble_eq_true rfl)
  rw [lg_entry_eq]
  generalize (lg_sl ([.ref (a 0)]) ++ List.replicate (2 - (lg_sl ([.ref (a 0)])).length) Slot.unset).toArray = ls at hl ⊢
  have hl : lv_has ls 2 [(0, .ref (a 0))] := hl
  exact db_X9_takeNear_0 (dC := dC) (dI := dI) (a := a) (ac := ac) (n := n) (r := r) ⟨hlt, hx, hb, hml, hown, hts, hN, hA, hK⟩ (fun pc τ H locs ls d er hP hD hS => by subst er; exact W.vret hx hb hr (fun t ht hW => ⟨⟨(), rfl, trivial, by rw [ht]; exact hP, va_K.moved hW.alike hK, hD⟩, hS.F ht⟩) hS.2.2 d) s0 _ _ _ h hP hD va_S.rf (lv_sub hl [0] rfl)
def ow_dm_X9_takeOperand : List Cond := .code yX9_takeOperand cX9_takeOperand 2 none :: ([.fieldLink RX9 119 "TimeMachine$Reader" "state" "I", .fieldLink RX9 73 "TimeMachine$Reader" "kind" "I", .methodLink RX9 144 yX9_isSign, .instanceMethod yX9_isSign, .selects RX9 yX9_isSign yX9_isSign, .initialized RX9, .fieldLink RX9 93 "TimeMachine$Reader" "number" "I", .methodLink RX9 141 yX9_push, .instanceMethod yX9_push, .selects RX9 yX9_push yX9_push, .methodLink RX9 138 yX9_takeNear, .instanceMethod yX9_takeNear, .selects RX9 yX9_takeNear yX9_takeNear, .fieldLink RX9 70 "TimeMachine$Reader" "from" "I", .fieldLink RX9 55 "TimeMachine$Reader" "at" "I", .methodLink RX9 135 yX9_nameAt, .instanceMethod yX9_nameAt, .selects RX9 yX9_nameAt yX9_nameAt, .fieldLink RX9 115 "TimeMachine$Reader" "fixed" "Z", .methodLink RX9 131 yX9_emit, .instanceMethod yX9_emit, .selects RX9 yX9_emit yX9_emit, .fieldLink RX9 27 "TimeMachine$Reader" "name" "[I", .fieldLink RX9 9 "TimeMachine$Reader" "source" "[B"] ++ (u_ws RX9 TX9 20 ++ (ow_dm_X9_isSign ++ (ow_dm_X9_push ++ (ow_dm_X9_takeNear ++ (ow_dm_X9_nameAt ++ (ow_dm_X9_emit ++ [])))))))
theorem gd_dm_X9_takeOperand : ∀ w ∈ ow_dm_X9_takeOperand, (w.onTables && w.keeps) = true ∨ ∃ ty, w = Cond.arrayClass ty := List.forall_mem_cons.mpr ⟨good_of_word rfl, List.forall_mem_append.mpr ⟨fun w h => good_of_word (List.all_eq_true.mp (by decide +kernel) w h), List.forall_mem_append.mpr ⟨gu_X9, List.forall_mem_append.mpr ⟨gd_dm_X9_isSign, List.forall_mem_append.mpr ⟨gd_dm_X9_push, List.forall_mem_append.mpr ⟨gd_dm_X9_takeNear, List.forall_mem_append.mpr ⟨gd_dm_X9_nameAt, List.forall_mem_append.mpr ⟨gd_dm_X9_emit, fun _ h => nomatch h⟩⟩⟩⟩⟩⟩⟩⟩
theorem hi_dm_X9_takeOperand_X9 : ∀ w ∈ u_ws RX9 TX9 20, w ∈ ow_dm_X9_takeOperand := fun w h => List.mem_cons_of_mem _ (List.mem_append_right _ (List.mem_append_left _ h))
theorem gi_dm_X9_takeOperand_0 : GoodIn ow_dm_X9_takeOperand (wsV RX9 144 RX9 yX9_isSign ow_dm_X9_isSign) := goodIn_app (goodIn_of _ (by decide +kernel)) (fun w h => ⟨List.mem_cons_of_mem _ (List.mem_append_right _ (List.mem_append_right _ (List.mem_append_left _ h))), gd_dm_X9_isSign w h⟩)
theorem gi_dm_X9_takeOperand_1 : GoodIn ow_dm_X9_takeOperand (wsV RX9 141 RX9 yX9_push ow_dm_X9_push) := goodIn_app (goodIn_of _ (by decide +kernel)) (fun w h => ⟨List.mem_cons_of_mem _ (List.mem_append_right _ (List.mem_append_right _ (List.mem_append_right _ (List.mem_append_left _ h)))), gd_dm_X9_push w h⟩)
theorem gi_dm_X9_takeOperand_2 : GoodIn ow_dm_X9_takeOperand (wsV RX9 138 RX9 yX9_takeNear ow_dm_X9_takeNear) := goodIn_app (goodIn_of _ (by decide +kernel)) (fun w h => ⟨List.mem_cons_of_mem _ (List.mem_append_right _ (List.mem_append_right _ (List.mem_append_right _ (List.mem_append_right _ (List.mem_append_left _ h))))), gd_dm_X9_takeNear w h⟩)
theorem gi_dm_X9_takeOperand_3 : GoodIn ow_dm_X9_takeOperand (wsV RX9 135 RX9 yX9_nameAt ow_dm_X9_nameAt) := goodIn_app (goodIn_of _ (by decide +kernel)) (fun w h => ⟨List.mem_cons_of_mem _ (List.mem_append_right _ (List.mem_append_right _ (List.mem_append_right _ (List.mem_append_right _ (List.mem_append_right _ (List.mem_append_left _ h)))))), gd_dm_X9_nameAt w h⟩)
theorem gi_dm_X9_takeOperand_4 : GoodIn ow_dm_X9_takeOperand (wsV RX9 131 RX9 yX9_emit ow_dm_X9_emit) := goodIn_app (goodIn_of _ (by decide +kernel)) (fun w h => ⟨List.mem_cons_of_mem _ (List.mem_append_right _ (List.mem_append_right _ (List.mem_append_right _ (List.mem_append_right _ (List.mem_append_right _ (List.mem_append_right _ (List.mem_append_left _ h))))))), gd_dm_X9_emit w h⟩)
def dj_X9_takeOperand_253 (p : Program) (l : Launch) (e : Env) (s : State) (m : MethodId) (args : Array Value) (below : List Frame) (meth : Method) (c : Code) (Q : State → Prop) (A : Nat → Prop) (dC : Nat → ClassId) (dI : Nat → Nat → Nat) (a : Nat → Nat) (ac : Nat → ClassId) (g : (St) → Option (St)) (r : St) : Prop := ∀ (s0 : St) (H : Heap) (locs : List Loc) (ls : Array Slot), g s0 = some r → va_P (dC, dI) vwCl (dw_X9 a ac s0) H → va_D A (dw_X9 a ac s0) → va_S A s.heap H locs → lv_has ls 2 [] → W p l e (headSpec ow_dm_X9_takeOperand ({ frames := 2, cells := 0, slots := 0, locals := 43 })).room s m args below meth c H locs 0 0 Q (F0 m 253 ls [])
def dj_X9_takeOperand_250 (p : Program) (l : Launch) (e : Env) (s : State) (m : MethodId) (args : Array Value) (below : List Frame) (meth : Method) (c : Code) (Q : State → Prop) (A : Nat → Prop) (dC : Nat → ClassId) (dI : Nat → Nat → Nat) (a : Nat → Nat) (ac : Nat → ClassId) (g : Int32 → (St) → Option (St)) (r : St) : Prop := ∀ (y1 : Int32) (s0 : St) (H : Heap) (locs : List Loc) (ls : Array Slot), g y1 s0 = some r → va_P (dC, dI) vwCl (dw_X9 a ac s0) H → va_D A (dw_X9 a ac s0) → va_S A s.heap H locs → lv_has ls 2 [] → W p l e (headSpec ow_dm_X9_takeOperand ({ frames := 2, cells := 0, slots := 0, locals := 43 })).room s m args below meth c H locs 0 0 Q (F0 m 250 ls [.int y1, .ref (a 0)])
def dj_X9_takeOperand_234 (p : Program) (l : Launch) (e : Env) (s : State) (m : MethodId) (args : Array Value) (below : List Frame) (meth : Method) (c : Code) (Q : State → Prop) (A : Nat → Prop) (dC : Nat → ClassId) (dI : Nat → Nat → Nat) (a : Nat → Nat) (ac : Nat → ClassId) (g : (St) → Option (St)) (r : St) : Prop := ∀ (s0 : St) (H : Heap) (locs : List Loc) (ls : Array Slot), g s0 = some r → va_P (dC, dI) vwCl (dw_X9 a ac s0) H → va_D A (dw_X9 a ac s0) → va_S A s.heap H locs → lv_has ls 2 [(0, .ref (a 0))] → W p l e (headSpec ow_dm_X9_takeOperand ({ frames := 2, cells := 0, slots := 0, locals := 43 })).room s m args below meth c H locs 0 0 Q (F0 m 234 ls [])
def dj_X9_takeOperand_223 (p : Program) (l : Launch) (e : Env) (s : State) (m : MethodId) (args : Array Value) (below : List Frame) (meth : Method) (c : Code) (Q : State → Prop) (A : Nat → Prop) (dC : Nat → ClassId) (dI : Nat → Nat → Nat) (a : Nat → Nat) (ac : Nat → ClassId) (g : Int32 → (St) → Option (St)) (r : St) : Prop := ∀ (y1 : Int32) (s0 : St) (H : Heap) (locs : List Loc) (ls : Array Slot), g y1 s0 = some r → va_P (dC, dI) vwCl (dw_X9 a ac s0) H → va_D A (dw_X9 a ac s0) → va_S A s.heap H locs → lv_has ls 2 [(0, .ref (a 0))] → W p l e (headSpec ow_dm_X9_takeOperand ({ frames := 2, cells := 0, slots := 0, locals := 43 })).room s m args below meth c H locs 0 0 Q (F0 m 223 ls [.int y1, .ref (a 0)])
def dj_X9_takeOperand_192 (p : Program) (l : Launch) (e : Env) (s : State) (m : MethodId) (args : Array Value) (below : List Frame) (meth : Method) (c : Code) (Q : State → Prop) (A : Nat → Prop) (dC : Nat → ClassId) (dI : Nat → Nat → Nat) (a : Nat → Nat) (ac : Nat → ClassId) (g : (St) → Option (St)) (r : St) : Prop := ∀ (s0 : St) (H : Heap) (locs : List Loc) (ls : Array Slot), g s0 = some r → va_P (dC, dI) vwCl (dw_X9 a ac s0) H → va_D A (dw_X9 a ac s0) → va_S A s.heap H locs → lv_has ls 2 [(0, .ref (a 0))] → W p l e (headSpec ow_dm_X9_takeOperand ({ frames := 2, cells := 0, slots := 0, locals := 43 })).room s m args below meth c H locs 0 0 Q (F0 m 192 ls [])
def dj_X9_takeOperand_129 (p : Program) (l : Launch) (e : Env) (s : State) (m : MethodId) (args : Array Value) (below : List Frame) (meth : Method) (c : Code) (Q : State → Prop) (A : Nat → Prop) (dC : Nat → ClassId) (dI : Nat → Nat → Nat) (a : Nat → Nat) (ac : Nat → ClassId) (g : Int32 → Int32 → (St) → Option (St)) (r : St) : Prop := ∀ (x1 : Int32) (y1 : Int32) (s0 : St) (H : Heap) (locs : List Loc) (ls : Array Slot), g x1 y1 s0 = some r → va_P (dC, dI) vwCl (dw_X9 a ac s0) H → va_D A (dw_X9 a ac s0) → va_S A s.heap H locs → lv_has ls 2 [(0, .ref (a 0)), (1, .int x1)] → W p l e (headSpec ow_dm_X9_takeOperand ({ frames := 2, cells := 0, slots := 0, locals := 43 })).room s m args below meth c H locs 0 0 Q (F0 m 129 ls [.int y1, .ref (a 0)])
def dj_X9_takeOperand_128 (p : Program) (l : Launch) (e : Env) (s : State) (m : MethodId) (args : Array Value) (below : List Frame) (meth : Method) (c : Code) (Q : State → Prop) (A : Nat → Prop) (dC : Nat → ClassId) (dI : Nat → Nat → Nat) (a : Nat → Nat) (ac : Nat → ClassId) (g : Int32 → (St) → Option (St)) (r : St) : Prop := ∀ (x1 : Int32) (s0 : St) (H : Heap) (locs : List Loc) (ls : Array Slot), g x1 s0 = some r → va_P (dC, dI) vwCl (dw_X9 a ac s0) H → va_D A (dw_X9 a ac s0) → va_S A s.heap H locs → lv_has ls 2 [(0, .ref (a 0)), (1, .int x1)] → W p l e (headSpec ow_dm_X9_takeOperand ({ frames := 2, cells := 0, slots := 0, locals := 43 })).room s m args below meth c H locs 0 0 Q (F0 m 128 ls [.ref (a 0)])
def dj_X9_takeOperand_76 (p : Program) (l : Launch) (e : Env) (s : State) (m : MethodId) (args : Array Value) (below : List Frame) (meth : Method) (c : Code) (Q : State → Prop) (A : Nat → Prop) (dC : Nat → ClassId) (dI : Nat → Nat → Nat) (a : Nat → Nat) (ac : Nat → ClassId) (g : (St) → Option (St)) (r : St) : Prop := ∀ (s0 : St) (H : Heap) (locs : List Loc) (ls : Array Slot), g s0 = some r → va_P (dC, dI) vwCl (dw_X9 a ac s0) H → va_D A (dw_X9 a ac s0) → va_S A s.heap H locs → lv_has ls 2 [(0, .ref (a 0))] → W p l e (headSpec ow_dm_X9_takeOperand ({ frames := 2, cells := 0, slots := 0, locals := 43 })).room s m args below meth c H locs 0 0 Q (F0 m 76 ls [])
def dj_X9_takeOperand_0 (p : Program) (l : Launch) (e : Env) (s : State) (m : MethodId) (args : Array Value) (below : List Frame) (meth : Method) (c : Code) (Q : State → Prop) (A : Nat → Prop) (dC : Nat → ClassId) (dI : Nat → Nat → Nat) (a : Nat → Nat) (ac : Nat → ClassId) (g : (St) → Option (St)) (r : St) : Prop := ∀ (s0 : St) (H : Heap) (locs : List Loc) (ls : Array Slot), g s0 = some r → va_P (dC, dI) vwCl (dw_X9 a ac s0) H → va_D A (dw_X9 a ac s0) → va_S A s.heap H locs → lv_has ls 2 [(0, .ref (a 0))] → W p l e (headSpec ow_dm_X9_takeOperand ({ frames := 2, cells := 0, slots := 0, locals := 43 })).room s m args below meth c H locs 0 0 Q (F0 m 0 ls [])
set_option maxHeartbeats 40000000 in
set_option maxRecDepth 100000 in
theorem db_X9_takeOperand_253 {p : Program} {l : Launch} {e : Env} {s : State} {m : MethodId} {args : Array Value} {below : List Frame} {meth : Method} {c : Code} {Q : State → Prop} {A : Nat → Prop} {dC : Nat → ClassId} {dI : Nat → Nat → Nat} {a : Nat → Nat} {ac : Nat → ClassId} {n : Nat} {r : St} (C : nd_C p l s m args c A (dC, dI) cX9_takeOperand 2 RX9 ow_dm_X9_takeOperand (dk_X9 ac)) (K : nd_Kv p l e (headSpec ow_dm_X9_takeOperand ({ frames := 2, cells := 0, slots := 0, locals := 43 })).room s m args below meth c Q A (dC, dI) cX9_takeOperand (St) (dw_X9 a ac) r) : dj_X9_takeOperand_253 p l e s m args below meth c Q A dC dI a ac (df_X9_takeOperand_253 n) r := by
  obtain ⟨hlt, hx, hb, hml, hown, hts, hN, hA, hK⟩ := id C
  intro s0 H locs ls h hP hD hS hl
  unfold df_X9_takeOperand_253 at h
  exact K _ _ _ _ _ dX9_takeOperand_253 (Option.some.inj h).symm hP hD hS
set_option maxHeartbeats 40000000 in
set_option maxRecDepth 100000 in
theorem db_X9_takeOperand_250 {p : Program} {l : Launch} {e : Env} {s : State} {m : MethodId} {args : Array Value} {below : List Frame} {meth : Method} {c : Code} {Q : State → Prop} {A : Nat → Prop} {dC : Nat → ClassId} {dI : Nat → Nat → Nat} {a : Nat → Nat} {ac : Nat → ClassId} {n : Nat} {r : St} (C : nd_C p l s m args c A (dC, dI) cX9_takeOperand 2 RX9 ow_dm_X9_takeOperand (dk_X9 ac)) (K : nd_Kv p l e (headSpec ow_dm_X9_takeOperand ({ frames := 2, cells := 0, slots := 0, locals := 43 })).room s m args below meth c Q A (dC, dI) cX9_takeOperand (St) (dw_X9 a ac) r) : dj_X9_takeOperand_250 p l e s m args below meth c Q A dC dI a ac (df_X9_takeOperand_250 n) r := by
  obtain ⟨hlt, hx, hb, hml, hown, hts, hN, hA, hK⟩ := id C
  intro y1 s0 H locs ls h hP hD hS hl
  unfold df_X9_takeOperand_250 at h
  refine va_put (D := (dC, dI)) (ci := 10) (v := .int y1) (ty := .int) (C := RX9) (T := TX9) (N := 20) hx hb hts hi_dm_X9_takeOperand_X9 tyX9 tyX9_ok nmX9 hown hK hP hD hS 0 rfl rfl 11 (by decide) (hts (.fieldLink RX9 119 "TimeMachine$Reader" "state" "I") (List.mem_of_getElem? (i := 1) rfl)) (fun _ h9 => h9) rfl (by decide +kernel) rfl rfl (Nat.le_of_ble_eq_true rfl) dX9_takeOperand_250 (fun H locs hP hD hS => ?_)
  obtain ⟨s11, es11, h⟩ := nd_let_e h
  have hP : va_P (dC, dI) vwCl (dw_X9 a ac s11) H := by rw [es11]; exact hP
  have hD : va_D A (dw_X9 a ac s11) := by rw [es11]; exact hD
  exact (db_X9_takeOperand_253 C K)  s11 _ _ _ h hP hD hS (lv_sub hl [] rfl)
set_option maxHeartbeats 40000000 in
set_option maxRecDepth 100000 in
theorem db_X9_takeOperand_234 {p : Program} {l : Launch} {e : Env} {s : State} {m : MethodId} {args : Array Value} {below : List Frame} {meth : Method} {c : Code} {Q : State → Prop} {A : Nat → Prop} {dC : Nat → ClassId} {dI : Nat → Nat → Nat} {a : Nat → Nat} {ac : Nat → ClassId} {n : Nat} {r : St} (C : nd_C p l s m args c A (dC, dI) cX9_takeOperand 2 RX9 ow_dm_X9_takeOperand (dk_X9 ac)) (K : nd_Kv p l e (headSpec ow_dm_X9_takeOperand ({ frames := 2, cells := 0, slots := 0, locals := 43 })).room s m args below meth c Q A (dC, dI) cX9_takeOperand (St) (dw_X9 a ac) r) : dj_X9_takeOperand_234 p l e s m args below meth c Q A dC dI a ac (df_X9_takeOperand_234 n) r := by
  obtain ⟨hlt, hx, hb, hml, hown, hts, hN, hA, hK⟩ := id C
  intro s0 H locs ls h hP hD hS hl
  unfold df_X9_takeOperand_234 at h
  refine lv_aload_n hx hb dX9_takeOperand_234 rfl (lv_at hl 0 rfl) ?_
  refine lv_aload_n hx hb dX9_takeOperand_235 rfl (lv_at hl 0 rfl) ?_
  refine lv_bipush (v := 37) hx hb dX9_takeOperand_236 (by decide) ?_
  obtain ⟨q7, s8, hq, h⟩ := nd_b2_e h
  have hPc := hP
  have hDc := hD
  have hKc := hK
  have hFc := nd_rs hD hS hA
  refine nd_cVi (As := [.int 37]) (rest := [.ref (a 0)]) (q := q7) (w' := dw_X9 a ac s8) ⟨hx, hb, hml, hown, hts⟩ (fun sz => dm_X9_isSign l hlt dC dI a ac n (37) s0 hq sz) (cwV 1 hts gi_dm_X9_takeOperand_0 rfl rfl rfl (by decide +kernel) ⟨Nat.le_of_ble_eq_true rfl, Nat.le_of_ble_eq_true rfl⟩) hPc hDc hKc hS hA hN (va_recv hKc hPc (ci := 10) (q0 := 0) rfl rfl) rfl hl.1 rfl (Nat.le_of_ble_eq_true rfl) dX9_takeOperand_238 (fun H locs hP1 hD1 hk1 hS => ?_)
  have hP := hP1
  have hD := hD1.weaken (fun k q _ h => hFc q.1 h)
  refine lv_if_eq (tgt := 248) hx hb dX9_takeOperand_241 (by decide) (fun c10 => ?_) (fun c10 => ?_)
  · have h := nd_pos h c10
    refine lv_bipush (v := 6) hx hb dX9_takeOperand_248 (by decide) ?_
    exact (db_X9_takeOperand_250 C K) (6) s8 _ _ _ h hP hD hS (lv_sub hl [] rfl)
  · have h := nd_neg h c10
    refine lv_iconst (v := 2) hx hb dX9_takeOperand_244 (by decide) ?_
    refine lv_goto (tgt := 250) hx hb dX9_takeOperand_245 (by decide) ?_
    exact (db_X9_takeOperand_250 C K) (2) s8 _ _ _ h hP hD hS (lv_sub hl [] rfl)
set_option maxHeartbeats 40000000 in
set_option maxRecDepth 100000 in
theorem db_X9_takeOperand_223 {p : Program} {l : Launch} {e : Env} {s : State} {m : MethodId} {args : Array Value} {below : List Frame} {meth : Method} {c : Code} {Q : State → Prop} {A : Nat → Prop} {dC : Nat → ClassId} {dI : Nat → Nat → Nat} {a : Nat → Nat} {ac : Nat → ClassId} {n : Nat} {r : St} (C : nd_C p l s m args c A (dC, dI) cX9_takeOperand 2 RX9 ow_dm_X9_takeOperand (dk_X9 ac)) (K : nd_Kv p l e (headSpec ow_dm_X9_takeOperand ({ frames := 2, cells := 0, slots := 0, locals := 43 })).room s m args below meth c Q A (dC, dI) cX9_takeOperand (St) (dw_X9 a ac) r) : dj_X9_takeOperand_223 p l e s m args below meth c Q A dC dI a ac (df_X9_takeOperand_223 n) r := by
  obtain ⟨hlt, hx, hb, hml, hown, hts, hN, hA, hK⟩ := id C
  intro y1 s0 H locs ls h hP hD hS hl
  unfold df_X9_takeOperand_223 at h
  obtain ⟨s16, hq, h⟩ := nd_b1_e h
  have hPc := hP
  have hDc := hD
  have hKc := hK
  have hFc := nd_rs hD hS hA
  refine nd_cVv (As := [.int y1]) (rest := []) (w' := dw_X9 a ac s16) ⟨hx, hb, hml, hown, hts⟩ (fun sz => dm_X9_push l hlt dC dI a ac n (y1) s0 hq sz) (cwV 1 hts gi_dm_X9_takeOperand_1 rfl rfl rfl (by decide +kernel) ⟨Nat.le_of_ble_eq_true rfl, Nat.le_of_ble_eq_true rfl⟩) hPc hDc hKc hS hA hN (va_recv hKc hPc (ci := 10) (q0 := 0) rfl rfl) rfl hl.1 rfl (Nat.le_of_ble_eq_true rfl) dX9_takeOperand_223 (fun H locs hP1 hD1 hk1 hS => ?_)
  have hP := hP1
  have hD := hD1.weaken (fun k q _ h => hFc q.1 h)
  refine lv_aload_n hx hb dX9_takeOperand_226 rfl (lv_at hl 0 rfl) ?_
  refine lv_iconst (v := 0) hx hb dX9_takeOperand_227 (by decide) ?_
  refine va_put (D := (dC, dI)) (ci := 10) (v := .int 0) (ty := .int) (C := RX9) (T := TX9) (N := 20) hx hb hts hi_dm_X9_takeOperand_X9 tyX9 tyX9_ok nmX9 hown hK hP hD hS 0 rfl rfl 11 (by decide) (hts (.fieldLink RX9 119 "TimeMachine$Reader" "state" "I") (List.mem_of_getElem? (i := 1) rfl)) (fun _ h9 => h9) rfl (by decide +kernel) rfl rfl (Nat.le_of_ble_eq_true rfl) dX9_takeOperand_228 (fun H locs hP hD hS => ?_)
  obtain ⟨s18, es18, h⟩ := nd_let_e h
  have hP : va_P (dC, dI) vwCl (dw_X9 a ac s18) H := by rw [es18]; exact hP
  have hD : va_D A (dw_X9 a ac s18) := by rw [es18]; exact hD
  refine lv_goto (tgt := 253) hx hb dX9_takeOperand_231 (by decide) ?_
  exact (db_X9_takeOperand_253 C K)  s18 _ _ _ h hP hD hS (lv_sub hl [] rfl)
set_option maxHeartbeats 40000000 in
set_option maxRecDepth 100000 in
theorem db_X9_takeOperand_192 {p : Program} {l : Launch} {e : Env} {s : State} {m : MethodId} {args : Array Value} {below : List Frame} {meth : Method} {c : Code} {Q : State → Prop} {A : Nat → Prop} {dC : Nat → ClassId} {dI : Nat → Nat → Nat} {a : Nat → Nat} {ac : Nat → ClassId} {n : Nat} {r : St} (C : nd_C p l s m args c A (dC, dI) cX9_takeOperand 2 RX9 ow_dm_X9_takeOperand (dk_X9 ac)) (K : nd_Kv p l e (headSpec ow_dm_X9_takeOperand ({ frames := 2, cells := 0, slots := 0, locals := 43 })).room s m args below meth c Q A (dC, dI) cX9_takeOperand (St) (dw_X9 a ac) r) : dj_X9_takeOperand_192 p l e s m args below meth c Q A dC dI a ac (df_X9_takeOperand_192 n) r := by
  obtain ⟨hlt, hx, hb, hml, hown, hts, hN, hA, hK⟩ := id C
  intro s0 H locs ls h hP hD hS hl
  unfold df_X9_takeOperand_192 at h
  refine lv_aload_n hx hb dX9_takeOperand_192 rfl (lv_at hl 0 rfl) ?_
  refine lv_aload_n hx hb dX9_takeOperand_193 rfl (lv_at hl 0 rfl) ?_
  refine va_get (D := (dC, dI)) (ci := 10) (v := .int (sI s0 4)) (C := RX9) (T := TX9) (N := 20) hx hb hts hi_dm_X9_takeOperand_X9 hown hK hP 0 rfl rfl 5 (by decide) (hts (.fieldLink RX9 93 "TimeMachine$Reader" "number" "I") (List.mem_of_getElem? (i := 7) rfl)) (fun _ h9 => h9) rfl dX9_takeOperand_194 ?_
  refine lv_bipush (v := 45) hx hb dX9_takeOperand_197 (by decide) ?_
  refine lv_icmp_ne (tgt := 207) hx hb dX9_takeOperand_199 (by decide) (fun c13 => ?_) (fun c13 => ?_)
  · have h := nd_neg h c13
    refine lv_aload_n hx hb dX9_takeOperand_207 rfl (lv_at hl 0 rfl) ?_
    refine va_get (D := (dC, dI)) (ci := 10) (v := .int (sI s0 4)) (C := RX9) (T := TX9) (N := 20) hx hb hts hi_dm_X9_takeOperand_X9 hown hK hP 0 rfl rfl 5 (by decide) (hts (.fieldLink RX9 93 "TimeMachine$Reader" "number" "I") (List.mem_of_getElem? (i := 7) rfl)) (fun _ h9 => h9) rfl dX9_takeOperand_208 ?_
    refine lv_bipush (v := 126) hx hb dX9_takeOperand_211 (by decide) ?_
    refine lv_icmp_ne (tgt := 221) hx hb dX9_takeOperand_213 (by decide) (fun c14 => ?_) (fun c14 => ?_)
    · have h := nd_neg h c14
      refine lv_bipush (v := 15) hx hb dX9_takeOperand_221 (by decide) ?_
      exact (db_X9_takeOperand_223 C K) (15) s0 _ _ _ h hP hD hS (lv_sub hl [0] rfl)
    · have h := nd_pos h c14
      refine lv_bipush (v := 12) hx hb dX9_takeOperand_216 (by decide) ?_
      refine lv_goto (tgt := 223) hx hb dX9_takeOperand_218 (by decide) ?_
      exact (db_X9_takeOperand_223 C K) (12) s0 _ _ _ h hP hD hS (lv_sub hl [0] rfl)
  · have h := nd_pos h c13
    refine lv_bipush (v := 11) hx hb dX9_takeOperand_202 (by decide) ?_
    refine lv_goto (tgt := 223) hx hb dX9_takeOperand_204 (by decide) ?_
    exact (db_X9_takeOperand_223 C K) (11) s0 _ _ _ h hP hD hS (lv_sub hl [0] rfl)
set_option maxHeartbeats 40000000 in
set_option maxRecDepth 100000 in
theorem db_X9_takeOperand_129 {p : Program} {l : Launch} {e : Env} {s : State} {m : MethodId} {args : Array Value} {below : List Frame} {meth : Method} {c : Code} {Q : State → Prop} {A : Nat → Prop} {dC : Nat → ClassId} {dI : Nat → Nat → Nat} {a : Nat → Nat} {ac : Nat → ClassId} {n : Nat} {r : St} (C : nd_C p l s m args c A (dC, dI) cX9_takeOperand 2 RX9 ow_dm_X9_takeOperand (dk_X9 ac)) (K : nd_Kv p l e (headSpec ow_dm_X9_takeOperand ({ frames := 2, cells := 0, slots := 0, locals := 43 })).room s m args below meth c Q A (dC, dI) cX9_takeOperand (St) (dw_X9 a ac) r) : dj_X9_takeOperand_129 p l e s m args below meth c Q A dC dI a ac (df_X9_takeOperand_129 n) r := by
  obtain ⟨hlt, hx, hb, hml, hown, hts, hN, hA, hK⟩ := id C
  intro x1 y1 s0 H locs ls h hP hD hS hl
  unfold df_X9_takeOperand_129 at h
  obtain ⟨n28, h⟩ := nd_f_e h
  obtain ⟨n29, h⟩ := nd_z_e ⟨_, rfl⟩ h
  refine va_put (D := (dC, dI)) (ci := 10) (v := .int y1) (ty := .boolean) (C := RX9) (T := TX9) (N := 20) hx hb hts hi_dm_X9_takeOperand_X9 tyX9 tyX9_ok nmX9 hown hK hP hD hS 0 rfl rfl 18 (by decide) (hts (.fieldLink RX9 115 "TimeMachine$Reader" "fixed" "Z") (List.mem_of_getElem? (i := 19) rfl)) (fun _ h9 => h9) rfl (by decide +kernel) n29 n28 (Nat.le_of_ble_eq_true rfl) dX9_takeOperand_129 (fun H locs hP hD hS => ?_)
  obtain ⟨s30, es30, h⟩ := nd_let_e h
  have hP : va_P (dC, dI) vwCl (dw_X9 a ac s30) H := by rw [es30]; exact hP
  have hD : va_D A (dw_X9 a ac s30) := by rw [es30]; exact hD
  refine lv_aload_n hx hb dX9_takeOperand_132 rfl (lv_at hl 0 rfl) ?_
  refine lv_bipush (v := 17) hx hb dX9_takeOperand_133 (by decide) ?_
  refine lv_iload_n hx hb dX9_takeOperand_135 rfl (lv_at hl 1 rfl) ?_
  obtain ⟨s32, hq, h⟩ := nd_b1_e h
  have hPc := hP
  have hDc := hD
  have hKc := hK
  have hFc := nd_rs hD hS hA
  refine nd_cVv (As := [.int 17, .int x1]) (rest := []) (w' := dw_X9 a ac s32) ⟨hx, hb, hml, hown, hts⟩ (fun sz => dm_X9_emit l hlt dC dI a ac n (17) (x1) s30 hq sz) (cwV 2 hts gi_dm_X9_takeOperand_4 rfl rfl rfl (by decide +kernel) ⟨Nat.le_of_ble_eq_true rfl, Nat.le_of_ble_eq_true rfl⟩) hPc hDc hKc hS hA hN (va_recv hKc hPc (ci := 10) (q0 := 0) rfl rfl) rfl hl.1 rfl (Nat.le_of_ble_eq_true rfl) dX9_takeOperand_136 (fun H locs hP1 hD1 hk1 hS => ?_)
  have hP := hP1
  have hD := hD1.weaken (fun k q _ h => hFc q.1 h)
  refine lv_goto (tgt := 253) hx hb dX9_takeOperand_139 (by decide) ?_
  exact (db_X9_takeOperand_253 C K)  s32 _ _ _ h hP hD hS (lv_sub hl [] rfl)
set_option maxHeartbeats 40000000 in
set_option maxRecDepth 100000 in
theorem db_X9_takeOperand_128 {p : Program} {l : Launch} {e : Env} {s : State} {m : MethodId} {args : Array Value} {below : List Frame} {meth : Method} {c : Code} {Q : State → Prop} {A : Nat → Prop} {dC : Nat → ClassId} {dI : Nat → Nat → Nat} {a : Nat → Nat} {ac : Nat → ClassId} {n : Nat} {r : St} (C : nd_C p l s m args c A (dC, dI) cX9_takeOperand 2 RX9 ow_dm_X9_takeOperand (dk_X9 ac)) (K : nd_Kv p l e (headSpec ow_dm_X9_takeOperand ({ frames := 2, cells := 0, slots := 0, locals := 43 })).room s m args below meth c Q A (dC, dI) cX9_takeOperand (St) (dw_X9 a ac) r) : dj_X9_takeOperand_128 p l e s m args below meth c Q A dC dI a ac (df_X9_takeOperand_128 n) r := by
  obtain ⟨hlt, hx, hb, hml, hown, hts, hN, hA, hK⟩ := id C
  intro x1 s0 H locs ls h hP hD hS hl
  unfold df_X9_takeOperand_128 at h
  refine lv_iconst (v := 0) hx hb dX9_takeOperand_128 (by decide) ?_
  exact (db_X9_takeOperand_129 C K) (x1) (0) s0 _ _ _ h hP hD hS (lv_sub hl [0, 1] rfl)
set_option maxHeartbeats 40000000 in
set_option maxRecDepth 100000 in
theorem db_X9_takeOperand_76 {p : Program} {l : Launch} {e : Env} {s : State} {m : MethodId} {args : Array Value} {below : List Frame} {meth : Method} {c : Code} {Q : State → Prop} {A : Nat → Prop} {dC : Nat → ClassId} {dI : Nat → Nat → Nat} {a : Nat → Nat} {ac : Nat → ClassId} {n : Nat} {r : St} (C : nd_C p l s m args c A (dC, dI) cX9_takeOperand 2 RX9 ow_dm_X9_takeOperand (dk_X9 ac)) (K : nd_Kv p l e (headSpec ow_dm_X9_takeOperand ({ frames := 2, cells := 0, slots := 0, locals := 43 })).room s m args below meth c Q A (dC, dI) cX9_takeOperand (St) (dw_X9 a ac) r) : dj_X9_takeOperand_76 p l e s m args below meth c Q A dC dI a ac (df_X9_takeOperand_76 n) r := by
  obtain ⟨hlt, hx, hb, hml, hown, hts, hN, hA, hK⟩ := id C
  intro s0 H locs ls h hP hD hS hl
  unfold df_X9_takeOperand_76 at h
  refine lv_aload_n hx hb dX9_takeOperand_76 rfl (lv_at hl 0 rfl) ?_
  refine va_get (D := (dC, dI)) (ci := 10) (v := .int (sI s0 2)) (C := RX9) (T := TX9) (N := 20) hx hb hts hi_dm_X9_takeOperand_X9 hown hK hP 0 rfl rfl 3 (by decide) (hts (.fieldLink RX9 73 "TimeMachine$Reader" "kind" "I") (List.mem_of_getElem? (i := 2) rfl)) (fun _ h9 => h9) rfl dX9_takeOperand_77 ?_
  refine lv_iconst (v := 1) hx hb dX9_takeOperand_80 (by decide) ?_
  refine lv_icmp_ne (tgt := 142) hx hb dX9_takeOperand_81 (by decide) (fun c4 => ?_) (fun c4 => ?_)
  · have h := nd_neg h c4
    refine lv_aload_n hx hb dX9_takeOperand_142 rfl (lv_at hl 0 rfl) ?_
    refine va_get (D := (dC, dI)) (ci := 10) (v := .int (sI s0 2)) (C := RX9) (T := TX9) (N := 20) hx hb hts hi_dm_X9_takeOperand_X9 hown hK hP 0 rfl rfl 3 (by decide) (hts (.fieldLink RX9 73 "TimeMachine$Reader" "kind" "I") (List.mem_of_getElem? (i := 2) rfl)) (fun _ h9 => h9) rfl dX9_takeOperand_143 ?_
    refine lv_iconst (v := 3) hx hb dX9_takeOperand_146 (by decide) ?_
    refine lv_icmp_ne (tgt := 157) hx hb dX9_takeOperand_147 (by decide) (fun c5 => ?_) (fun c5 => ?_)
    · have h := nd_neg h c5
      refine lv_aload_n hx hb dX9_takeOperand_157 rfl (lv_at hl 0 rfl) ?_
      refine va_get (D := (dC, dI)) (ci := 10) (v := .int (sI s0 2)) (C := RX9) (T := TX9) (N := 20) hx hb hts hi_dm_X9_takeOperand_X9 hown hK hP 0 rfl rfl 3 (by decide) (hts (.fieldLink RX9 73 "TimeMachine$Reader" "kind" "I") (List.mem_of_getElem? (i := 2) rfl)) (fun _ h9 => h9) rfl dX9_takeOperand_158 ?_
      refine lv_iconst (v := 5) hx hb dX9_takeOperand_161 (by decide) ?_
      refine lv_icmp_ne (tgt := 234) hx hb dX9_takeOperand_162 (by decide) (fun c6 => ?_) (fun c6 => ?_)
      · have h := nd_neg h c6
        exact (db_X9_takeOperand_234 C K)  s0 _ _ _ h hP hD hS (lv_sub hl [0] rfl)
      · have h := nd_pos h c6
        refine lv_aload_n hx hb dX9_takeOperand_165 rfl (lv_at hl 0 rfl) ?_
        refine va_get (D := (dC, dI)) (ci := 10) (v := .int (sI s0 4)) (C := RX9) (T := TX9) (N := 20) hx hb hts hi_dm_X9_takeOperand_X9 hown hK hP 0 rfl rfl 5 (by decide) (hts (.fieldLink RX9 93 "TimeMachine$Reader" "number" "I") (List.mem_of_getElem? (i := 7) rfl)) (fun _ h9 => h9) rfl dX9_takeOperand_166 ?_
        refine lv_bipush (v := 45) hx hb dX9_takeOperand_169 (by decide) ?_
        refine lv_icmp_eq (tgt := 192) hx hb dX9_takeOperand_171 (by decide) (fun c12 => ?_) (fun c12 => ?_)
        · have h := nd_pos h c12
          exact (db_X9_takeOperand_192 C K)  s0 _ _ _ h hP hD hS (lv_sub hl [0] rfl)
        · have h := nd_neg h c12
          refine lv_aload_n hx hb dX9_takeOperand_174 rfl (lv_at hl 0 rfl) ?_
          refine va_get (D := (dC, dI)) (ci := 10) (v := .int (sI s0 4)) (C := RX9) (T := TX9) (N := 20) hx hb hts hi_dm_X9_takeOperand_X9 hown hK hP 0 rfl rfl 5 (by decide) (hts (.fieldLink RX9 93 "TimeMachine$Reader" "number" "I") (List.mem_of_getElem? (i := 7) rfl)) (fun _ h9 => h9) rfl dX9_takeOperand_175 ?_
          refine lv_bipush (v := 126) hx hb dX9_takeOperand_178 (by decide) ?_
          refine lv_icmp_eq (tgt := 192) hx hb dX9_takeOperand_180 (by decide) (fun c19 => ?_) (fun c19 => ?_)
          · have h := nd_pos h c19
            exact (db_X9_takeOperand_192 C K)  s0 _ _ _ h hP hD hS (lv_sub hl [0] rfl)
          · have h := nd_neg h c19
            refine lv_aload_n hx hb dX9_takeOperand_183 rfl (lv_at hl 0 rfl) ?_
            refine va_get (D := (dC, dI)) (ci := 10) (v := .int (sI s0 4)) (C := RX9) (T := TX9) (N := 20) hx hb hts hi_dm_X9_takeOperand_X9 hown hK hP 0 rfl rfl 5 (by decide) (hts (.fieldLink RX9 93 "TimeMachine$Reader" "number" "I") (List.mem_of_getElem? (i := 7) rfl)) (fun _ h9 => h9) rfl dX9_takeOperand_184 ?_
            refine lv_bipush (v := 40) hx hb dX9_takeOperand_187 (by decide) ?_
            refine lv_icmp_ne (tgt := 234) hx hb dX9_takeOperand_189 (by decide) (fun c20 => ?_) (fun c20 => ?_)
            · have h := nd_neg h c20
              exact (db_X9_takeOperand_234 C K)  s0 _ _ _ h hP hD hS (lv_sub hl [0] rfl)
            · have h := nd_pos h c20
              exact (db_X9_takeOperand_192 C K)  s0 _ _ _ h hP hD hS (lv_sub hl [0] rfl)
    · have h := nd_pos h c5
      refine lv_aload_n hx hb dX9_takeOperand_150 rfl (lv_at hl 0 rfl) ?_
      obtain ⟨s22, hq, h⟩ := nd_b1_e h
      have hPc := hP
      have hDc := hD
      have hKc := hK
      have hFc := nd_rs hD hS hA
      refine nd_cVv (As := []) (rest := []) (w' := dw_X9 a ac s22) ⟨hx, hb, hml, hown, hts⟩ (fun sz => dm_X9_takeNear l hlt dC dI a ac n  s0 hq sz) (cwV 0 hts gi_dm_X9_takeOperand_2 rfl rfl rfl (by decide +kernel) ⟨Nat.le_of_ble_eq_true rfl, Nat.le_of_ble_eq_true rfl⟩) hPc hDc hKc hS hA hN (va_recv hKc hPc (ci := 10) (q0 := 0) rfl rfl) rfl hl.1 rfl (Nat.le_of_ble_eq_true rfl) dX9_takeOperand_151 (fun H locs hP1 hD1 hk1 hS => ?_)
      have hP := hP1
      have hD := hD1.weaken (fun k q _ h => hFc q.1 h)
      refine lv_goto (tgt := 253) hx hb dX9_takeOperand_154 (by decide) ?_
      exact (db_X9_takeOperand_253 C K)  s22 _ _ _ h hP hD hS (lv_sub hl [] rfl)
  · have h := nd_pos h c4
    refine lv_aload_n hx hb dX9_takeOperand_84 rfl (lv_at hl 0 rfl) ?_
    refine lv_aload_n hx hb dX9_takeOperand_85 rfl (lv_at hl 0 rfl) ?_
    refine va_get (D := (dC, dI)) (ci := 10) (v := .int (sI s0 3)) (C := RX9) (T := TX9) (N := 20) hx hb hts hi_dm_X9_takeOperand_X9 hown hK hP 0 rfl rfl 4 (by decide) (hts (.fieldLink RX9 70 "TimeMachine$Reader" "from" "I") (List.mem_of_getElem? (i := 14) rfl)) (fun _ h9 => h9) rfl dX9_takeOperand_86 ?_
    refine lv_aload_n hx hb dX9_takeOperand_89 rfl (lv_at hl 0 rfl) ?_
    refine va_get (D := (dC, dI)) (ci := 10) (v := .int (sI s0 0)) (C := RX9) (T := TX9) (N := 20) hx hb hts hi_dm_X9_takeOperand_X9 hown hK hP 0 rfl rfl 1 (by decide) (hts (.fieldLink RX9 55 "TimeMachine$Reader" "at" "I") (List.mem_of_getElem? (i := 15) rfl)) (fun _ h9 => h9) rfl dX9_takeOperand_90 ?_
    refine lv_aload_n hx hb dX9_takeOperand_93 rfl (lv_at hl 0 rfl) ?_
    refine va_get (D := (dC, dI)) (ci := 10) (v := .int (sI s0 3)) (C := RX9) (T := TX9) (N := 20) hx hb hts hi_dm_X9_takeOperand_X9 hown hK hP 0 rfl rfl 4 (by decide) (hts (.fieldLink RX9 70 "TimeMachine$Reader" "from" "I") (List.mem_of_getElem? (i := 14) rfl)) (fun _ h9 => h9) rfl dX9_takeOperand_94 ?_
    refine lv_isub hx hb dX9_takeOperand_97 ?_
    obtain ⟨q24, s25, hq, h⟩ := nd_b2_e h
    have hPc := hP
    have hDc := hD
    have hKc := hK
    have hFc := nd_rs hD hS hA
    refine nd_cVi (As := [.int (sI s0 3), .int ((sI s0 0) - (sI s0 3))]) (rest := []) (q := q24) (w' := dw_X9 a ac s25) ⟨hx, hb, hml, hown, hts⟩ (fun sz => dm_X9_nameAt l hlt dC dI a ac n ((sI s0 3)) (((sI s0 0) - (sI s0 3))) s0 hq sz) (cwV 2 hts gi_dm_X9_takeOperand_3 rfl rfl rfl (by decide +kernel) ⟨Nat.le_of_ble_eq_true rfl, Nat.le_of_ble_eq_true rfl⟩) hPc hDc hKc hS hA hN (va_recv hKc hPc (ci := 10) (q0 := 0) rfl rfl) rfl hl.1 rfl (Nat.le_of_ble_eq_true rfl) dX9_takeOperand_98 (fun H locs hP1 hD1 hk1 hS => ?_)
    have hP := hP1
    have hD := hD1.weaken (fun k q _ h => hFc q.1 h)
    refine lv_istore_n (lv' := [(1, .int q24), (0, .ref (a 0))]) hx hb dX9_takeOperand_101 rfl hl (by decide) rfl (fun ls hl => ?_)
    refine lv_aload_n hx hb dX9_takeOperand_102 rfl (lv_at hl 1 rfl) ?_
    refine lv_aload_n hx hb dX9_takeOperand_103 rfl (lv_at hl 1 rfl) ?_
    refine va_get (D := (dC, dI)) (ci := 10) (v := .int (sI s25 10)) (C := RX9) (T := TX9) (N := 20) hx hb hts hi_dm_X9_takeOperand_X9 hown hK hP 0 rfl rfl 18 (by decide) (hts (.fieldLink RX9 115 "TimeMachine$Reader" "fixed" "Z") (List.mem_of_getElem? (i := 19) rfl)) (fun _ h9 => h9) rfl dX9_takeOperand_104 ?_
    refine lv_if_eq (tgt := 128) hx hb dX9_takeOperand_107 (by decide) (fun c27 => ?_) (fun c27 => ?_)
    · have h := nd_pos h c27
      exact (db_X9_takeOperand_128 C K) (q24) s25 _ _ _ h hP hD hS (lv_sub hl [1, 0] rfl)
    · have h := nd_neg h c27
      refine lv_aload_n hx hb dX9_takeOperand_110 rfl (lv_at hl 1 rfl) ?_
      refine va_get (D := (dC, dI)) (ci := 10) (v := .ref (a 4)) (C := RX9) (T := TX9) (N := 20) hx hb hts hi_dm_X9_takeOperand_X9 hown hK hP 0 rfl rfl 12 (by decide) (hts (.fieldLink RX9 27 "TimeMachine$Reader" "name" "[I") (List.mem_of_getElem? (i := 23) rfl)) (fun _ h9 => h9) rfl dX9_takeOperand_111 ?_
      refine lv_iload_n hx hb dX9_takeOperand_114 rfl (lv_at hl 0 rfl) ?_
      refine lv_iconst (v := 5) hx hb dX9_takeOperand_115 (by decide) ?_
      refine lv_imul hx hb dX9_takeOperand_116 ?_
      refine lv_iconst (v := 2) hx hb dX9_takeOperand_117 (by decide) ?_
      refine lv_iadd hx hb dX9_takeOperand_118 ?_
      obtain ⟨i34, h⟩ := nd_ck_e h
      refine va_iald (i := ((q24 * 5) + 2)) hx hb hK hP 4 3 rfl rfl i34 dX9_takeOperand_119 ?_
      refine lv_iconst (v := 1) hx hb dX9_takeOperand_120 (by decide) ?_
      refine lv_icmp_ne (tgt := 128) hx hb dX9_takeOperand_121 (by decide) (fun c35 => ?_) (fun c35 => ?_)
      · have h := nd_neg h c35
        exact (db_X9_takeOperand_128 C K) (q24) s25 _ _ _ h hP hD hS (lv_sub hl [1, 0] rfl)
      · have h := nd_pos h c35
        refine lv_iconst (v := 1) hx hb dX9_takeOperand_124 (by decide) ?_
        refine lv_goto (tgt := 129) hx hb dX9_takeOperand_125 (by decide) ?_
        exact (db_X9_takeOperand_129 C K) (q24) (1) s25 _ _ _ h hP hD hS (lv_sub hl [1, 0] rfl)
set_option maxHeartbeats 40000000 in
set_option maxRecDepth 100000 in
theorem db_X9_takeOperand_0 {p : Program} {l : Launch} {e : Env} {s : State} {m : MethodId} {args : Array Value} {below : List Frame} {meth : Method} {c : Code} {Q : State → Prop} {A : Nat → Prop} {dC : Nat → ClassId} {dI : Nat → Nat → Nat} {a : Nat → Nat} {ac : Nat → ClassId} {n : Nat} {r : St} (C : nd_C p l s m args c A (dC, dI) cX9_takeOperand 2 RX9 ow_dm_X9_takeOperand (dk_X9 ac)) (K : nd_Kv p l e (headSpec ow_dm_X9_takeOperand ({ frames := 2, cells := 0, slots := 0, locals := 43 })).room s m args below meth c Q A (dC, dI) cX9_takeOperand (St) (dw_X9 a ac) r) : dj_X9_takeOperand_0 p l e s m args below meth c Q A dC dI a ac (df_X9_takeOperand_0 n) r := by
  obtain ⟨hlt, hx, hb, hml, hown, hts, hN, hA, hK⟩ := id C
  intro s0 H locs ls h hP hD hS hl
  unfold df_X9_takeOperand_0 at h
  refine lv_aload_n hx hb dX9_takeOperand_0 rfl (lv_at hl 0 rfl) ?_
  refine lv_iconst (v := 1) hx hb dX9_takeOperand_1 (by decide) ?_
  refine va_put (D := (dC, dI)) (ci := 10) (v := .int 1) (ty := .int) (C := RX9) (T := TX9) (N := 20) hx hb hts hi_dm_X9_takeOperand_X9 tyX9 tyX9_ok nmX9 hown hK hP hD hS 0 rfl rfl 11 (by decide) (hts (.fieldLink RX9 119 "TimeMachine$Reader" "state" "I") (List.mem_of_getElem? (i := 1) rfl)) (fun _ h9 => h9) rfl (by decide +kernel) rfl rfl (Nat.le_of_ble_eq_true rfl) dX9_takeOperand_2 (fun H locs hP hD hS => ?_)
  obtain ⟨s1, es1, h⟩ := nd_let_e h
  have hP : va_P (dC, dI) vwCl (dw_X9 a ac s1) H := by rw [es1]; exact hP
  have hD : va_D A (dw_X9 a ac s1) := by rw [es1]; exact hD
  refine lv_aload_n hx hb dX9_takeOperand_5 rfl (lv_at hl 0 rfl) ?_
  refine va_get (D := (dC, dI)) (ci := 10) (v := .int (sI s1 2)) (C := RX9) (T := TX9) (N := 20) hx hb hts hi_dm_X9_takeOperand_X9 hown hK hP 0 rfl rfl 3 (by decide) (hts (.fieldLink RX9 73 "TimeMachine$Reader" "kind" "I") (List.mem_of_getElem? (i := 2) rfl)) (fun _ h9 => h9) rfl dX9_takeOperand_6 ?_
  refine lv_iconst (v := 2) hx hb dX9_takeOperand_9 (by decide) ?_
  refine lv_icmp_ne (tgt := 26) hx hb dX9_takeOperand_10 (by decide) (fun c2 => ?_) (fun c2 => ?_)
  · have h := nd_neg h c2
    refine lv_aload_n hx hb dX9_takeOperand_26 rfl (lv_at hl 0 rfl) ?_
    refine va_get (D := (dC, dI)) (ci := 10) (v := .int (sI s1 2)) (C := RX9) (T := TX9) (N := 20) hx hb hts hi_dm_X9_takeOperand_X9 hown hK hP 0 rfl rfl 3 (by decide) (hts (.fieldLink RX9 73 "TimeMachine$Reader" "kind" "I") (List.mem_of_getElem? (i := 2) rfl)) (fun _ h9 => h9) rfl dX9_takeOperand_27 ?_
    refine lv_iconst (v := 1) hx hb dX9_takeOperand_30 (by decide) ?_
    refine lv_icmp_ne (tgt := 76) hx hb dX9_takeOperand_31 (by decide) (fun c3 => ?_) (fun c3 => ?_)
    · have h := nd_neg h c3
      exact (db_X9_takeOperand_76 C K)  s1 _ _ _ h hP hD hS (lv_sub hl [0] rfl)
    · have h := nd_pos h c3
      refine lv_aload_n hx hb dX9_takeOperand_34 rfl (lv_at hl 0 rfl) ?_
      refine va_get (D := (dC, dI)) (ci := 10) (v := .int (sI s1 0)) (C := RX9) (T := TX9) (N := 20) hx hb hts hi_dm_X9_takeOperand_X9 hown hK hP 0 rfl rfl 1 (by decide) (hts (.fieldLink RX9 55 "TimeMachine$Reader" "at" "I") (List.mem_of_getElem? (i := 15) rfl)) (fun _ h9 => h9) rfl dX9_takeOperand_35 ?_
      refine lv_aload_n hx hb dX9_takeOperand_38 rfl (lv_at hl 0 rfl) ?_
      refine va_get (D := (dC, dI)) (ci := 10) (v := .int (sI s1 3)) (C := RX9) (T := TX9) (N := 20) hx hb hts hi_dm_X9_takeOperand_X9 hown hK hP 0 rfl rfl 4 (by decide) (hts (.fieldLink RX9 70 "TimeMachine$Reader" "from" "I") (List.mem_of_getElem? (i := 14) rfl)) (fun _ h9 => h9) rfl dX9_takeOperand_39 ?_
      refine lv_isub hx hb dX9_takeOperand_42 ?_
      refine lv_iconst (v := 1) hx hb dX9_takeOperand_43 (by decide) ?_
      refine lv_icmp_ne (tgt := 76) hx hb dX9_takeOperand_44 (by decide) (fun c36 => ?_) (fun c36 => ?_)
      · have h := nd_neg h c36
        exact (db_X9_takeOperand_76 C K)  s1 _ _ _ h hP hD hS (lv_sub hl [0] rfl)
      · have h := nd_pos h c36
        refine lv_aload_n hx hb dX9_takeOperand_47 rfl (lv_at hl 0 rfl) ?_
        obtain ⟨o37, h⟩ := nd_o_e h
        refine va_get (D := (dC, dI)) (ci := 10) (v := .ref (a 8)) (C := RX9) (T := TX9) (N := 20) hx hb hts hi_dm_X9_takeOperand_X9 hown hK hP 0 rfl rfl 0 (by decide) (hts (.fieldLink RX9 9 "TimeMachine$Reader" "source" "[B") (List.mem_of_getElem? (i := 24) rfl)) (fun _ h9 => h9) (congrArg (fun z => some (va_rf (Option.map a z))) o37) dX9_takeOperand_48 ?_
        refine lv_aload_n hx hb dX9_takeOperand_51 rfl (lv_at hl 0 rfl) ?_
        refine va_get (D := (dC, dI)) (ci := 10) (v := .int (sI s1 3)) (C := RX9) (T := TX9) (N := 20) hx hb hts hi_dm_X9_takeOperand_X9 hown hK hP 0 rfl rfl 4 (by decide) (hts (.fieldLink RX9 70 "TimeMachine$Reader" "from" "I") (List.mem_of_getElem? (i := 14) rfl)) (fun _ h9 => h9) rfl dX9_takeOperand_52 ?_
        obtain ⟨i38, h⟩ := nd_ck_e h
        refine va_bald (i := (sI s1 3)) hx hb hK hP 8 7 rfl rfl i38 dX9_takeOperand_55 ?_
        refine lv_bipush (v := 46) hx hb dX9_takeOperand_56 (by decide) ?_
        refine lv_icmp_ne (tgt := 76) hx hb dX9_takeOperand_58 (by decide) (fun c39 => ?_) (fun c39 => ?_)
        · have h := nd_neg h c39
          exact (db_X9_takeOperand_76 C K)  s1 _ _ _ h hP hD hS (lv_sub hl [0] rfl)
        · have h := nd_pos h c39
          refine lv_aload_n hx hb dX9_takeOperand_61 rfl (lv_at hl 0 rfl) ?_
          refine lv_iconst (v := 0) hx hb dX9_takeOperand_62 (by decide) ?_
          refine va_put (D := (dC, dI)) (ci := 10) (v := .int 0) (ty := .boolean) (C := RX9) (T := TX9) (N := 20) hx hb hts hi_dm_X9_takeOperand_X9 tyX9 tyX9_ok nmX9 hown hK hP hD hS 0 rfl rfl 18 (by decide) (hts (.fieldLink RX9 115 "TimeMachine$Reader" "fixed" "Z") (List.mem_of_getElem? (i := 19) rfl)) (fun _ h9 => h9) rfl (by decide +kernel) (by first | rfl | decide) rfl (Nat.le_of_ble_eq_true rfl) dX9_takeOperand_63 (fun H locs hP hD hS => ?_)
          obtain ⟨s40, es40, h⟩ := nd_let_e h
          have hP : va_P (dC, dI) vwCl (dw_X9 a ac s40) H := by rw [es40]; exact hP
          have hD : va_D A (dw_X9 a ac s40) := by rw [es40]; exact hD
          refine lv_aload_n hx hb dX9_takeOperand_66 rfl (lv_at hl 0 rfl) ?_
          refine lv_bipush (v := 18) hx hb dX9_takeOperand_67 (by decide) ?_
          refine lv_iconst (v := 0) hx hb dX9_takeOperand_69 (by decide) ?_
          obtain ⟨s42, hq, h⟩ := nd_b1_e h
          have hPc := hP
          have hDc := hD
          have hKc := hK
          have hFc := nd_rs hD hS hA
          refine nd_cVv (As := [.int 18, .int 0]) (rest := []) (w' := dw_X9 a ac s42) ⟨hx, hb, hml, hown, hts⟩ (fun sz => dm_X9_emit l hlt dC dI a ac n (18) (0) s40 hq sz) (cwV 2 hts gi_dm_X9_takeOperand_4 rfl rfl rfl (by decide +kernel) ⟨Nat.le_of_ble_eq_true rfl, Nat.le_of_ble_eq_true rfl⟩) hPc hDc hKc hS hA hN (va_recv hKc hPc (ci := 10) (q0 := 0) rfl rfl) rfl hl.1 rfl (Nat.le_of_ble_eq_true rfl) dX9_takeOperand_70 (fun H locs hP1 hD1 hk1 hS => ?_)
          have hP := hP1
          have hD := hD1.weaken (fun k q _ h => hFc q.1 h)
          refine lv_goto (tgt := 253) hx hb dX9_takeOperand_73 (by decide) ?_
          exact (db_X9_takeOperand_253 C K)  s42 _ _ _ h hP hD hS (lv_sub hl [] rfl)
  · have h := nd_pos h c2
    refine lv_aload_n hx hb dX9_takeOperand_13 rfl (lv_at hl 0 rfl) ?_
    refine lv_bipush (v := 16) hx hb dX9_takeOperand_14 (by decide) ?_
    refine lv_aload_n hx hb dX9_takeOperand_16 rfl (lv_at hl 0 rfl) ?_
    refine va_get (D := (dC, dI)) (ci := 10) (v := .int (sI s1 4)) (C := RX9) (T := TX9) (N := 20) hx hb hts hi_dm_X9_takeOperand_X9 hown hK hP 0 rfl rfl 5 (by decide) (hts (.fieldLink RX9 93 "TimeMachine$Reader" "number" "I") (List.mem_of_getElem? (i := 7) rfl)) (fun _ h9 => h9) rfl dX9_takeOperand_17 ?_
    obtain ⟨s45, hq, h⟩ := nd_b1_e h
    have hPc := hP
    have hDc := hD
    have hKc := hK
    have hFc := nd_rs hD hS hA
    refine nd_cVv (As := [.int 16, .int (sI s1 4)]) (rest := []) (w' := dw_X9 a ac s45) ⟨hx, hb, hml, hown, hts⟩ (fun sz => dm_X9_emit l hlt dC dI a ac n (16) ((sI s1 4)) s1 hq sz) (cwV 2 hts gi_dm_X9_takeOperand_4 rfl rfl rfl (by decide +kernel) ⟨Nat.le_of_ble_eq_true rfl, Nat.le_of_ble_eq_true rfl⟩) hPc hDc hKc hS hA hN (va_recv hKc hPc (ci := 10) (q0 := 0) rfl rfl) rfl hl.1 rfl (Nat.le_of_ble_eq_true rfl) dX9_takeOperand_20 (fun H locs hP1 hD1 hk1 hS => ?_)
    have hP := hP1
    have hD := hD1.weaken (fun k q _ h => hFc q.1 h)
    refine lv_goto (tgt := 253) hx hb dX9_takeOperand_23 (by decide) ?_
    exact (db_X9_takeOperand_253 C K)  s45 _ _ _ h hP hD hS (lv_sub hl [] rfl)
set_option maxHeartbeats 40000000 in
set_option maxRecDepth 100000 in
theorem dm_X9_takeOperand (l : Launch) (hlt : l.stackTraces = false) (dC : Nat → ClassId) (dI : Nat → Nat → Nat) (a : Nat → Nat) (ac : Nat → ClassId) (n : Nat) (s0 : St) {r : St} (h : df_X9_takeOperand n s0 = some r) (sz : Nat) : Met l yX9_takeOperand ow_dm_X9_takeOperand ({ frames := 2, cells := 0, slots := 0, locals := 43 }) (va_Pc [.ref (a 0)] (fun U => U.heap.size = sz ∧ va_P (dC, dI) vwCl (dw_X9 a ac s0) U.heap ∧ va_K (dC, dI) vwCl (dk_X9 ac) U ∧ va_D (fun _ => True) (dw_X9 a ac s0) ∧ nv_E (va_A (dw_X9 a ac s0) sz) U)) (va_Qv (fun _ => True) (fun (_ : Unit) t => va_P (dC, dI) vwCl (dw_X9 a ac r) t.heap ∧ va_K (dC, dI) vwCl (dk_X9 ac) t ∧ va_D (va_A (dw_X9 a ac s0) sz) (dw_X9 a ac r)) (va_A (dw_X9 a ac s0) sz)) 0 0 (va_A (dw_X9 a ac s0) sz) := by
  refine Met.ofW (cc := cX9_takeOperand) (maxL := 2) (ret := none) (by decide) rfl ?_
  intro p e s m args below meth c s₁ B hml hv
  obtain ⟨rfl, hsz, hP, hK, hD0, hN⟩ := hv
  have hx := B.exec
  have hb := B.bytes
  have hr := B.returns
  have hts := atoms_spec (ws := ow_dm_X9_takeOperand) B.pre
  have hown : s.vm.findClass RX9 = some m.cls := findClass_of_methodNamed B.named
  have hlocks := B.notSynchronized
  subst hsz
  have hD := hD0.self (sz := s.heap.size)
  generalize hAe : va_A (dw_X9 a ac s0) s.heap.size = A at hD hN ⊢
  have hA : ∀ q : Nat, s.heap.size ≤ q → A q := fun q h => by rw [← hAe]; exact Or.inr h
  have hl := lv_entry ([.ref (a 0)]) (n := 2) (Nat.le_of_ble_eq_true rfl)
  rw [lg_entry_eq]
  generalize (lg_sl ([.ref (a 0)]) ++ List.replicate (2 - (lg_sl ([.ref (a 0)])).length) Slot.unset).toArray = ls at hl ⊢
  have hl : lv_has ls 2 [(0, .ref (a 0))] := hl
  exact db_X9_takeOperand_0 (dC := dC) (dI := dI) (a := a) (ac := ac) (n := n) (r := r) ⟨hlt, hx, hb, hml, hown, hts, hN, hA, hK⟩ (fun pc τ H locs ls d er hP hD hS => by subst er; exact W.vret hx hb hr (fun t ht hW => ⟨⟨(), rfl, trivial, by rw [ht]; exact hP, va_K.moved hW.alike hK, hD⟩, hS.F ht⟩) hS.2.2 d) s0 _ _ _ h hP hD va_S.rf (lv_sub hl [0] rfl)
def ow_dm_X9_binary : List Cond := .code yX9_binary cX9_binary 1 (some .int) :: ([] ++ [])
theorem gd_dm_X9_binary : ∀ w ∈ ow_dm_X9_binary, (w.onTables && w.keeps) = true ∨ ∃ ty, w = Cond.arrayClass ty := List.forall_mem_cons.mpr ⟨good_of_word rfl, List.forall_mem_append.mpr ⟨fun w h => good_of_word (List.all_eq_true.mp (by decide +kernel) w h), fun _ h => nomatch h⟩⟩
def dj_X9_binary_0 (p : Program) (l : Launch) (e : Env) (s : State) (m : MethodId) (args : Array Value) (below : List Frame) (meth : Method) (c : Code) (Q : State → Prop) (A : Nat → Prop) (dC : Nat → ClassId) (dI : Nat → Nat → Nat) (a : Nat → Nat) (ac : Nat → ClassId) (g : Int32 → (Unit) → Option (Int32 × (Unit))) (r : Int32 × (Unit)) : Prop := ∀ (v0 : Int32) (s0 : Unit) (H : Heap) (locs : List Loc) (ls : Array Slot), g v0 s0 = some r → va_P (dC, dI) vwCl (dw_P a ac s0) H → va_D A (dw_P a ac s0) → va_S A s.heap H locs → lv_has ls 1 [(0, .int v0)] → W p l e (headSpec ow_dm_X9_binary ({ frames := 0, cells := 0, slots := 0, locals := 0 })).room s m args below meth c H locs 0 0 Q (F0 m 0 ls [])
set_option maxHeartbeats 40000000 in
set_option maxRecDepth 100000 in
theorem db_X9_binary_0 {p : Program} {l : Launch} {e : Env} {s : State} {m : MethodId} {args : Array Value} {below : List Frame} {meth : Method} {c : Code} {Q : State → Prop} {A : Nat → Prop} {dC : Nat → ClassId} {dI : Nat → Nat → Nat} {a : Nat → Nat} {ac : Nat → ClassId} {n : Nat} {r : Int32 × (Unit)} (C : nd_C p l s m args c A (dC, dI) cX9_binary 1 RX9 ow_dm_X9_binary (dk_P ac)) (K : nd_Ki p l e (headSpec ow_dm_X9_binary ({ frames := 0, cells := 0, slots := 0, locals := 0 })).room s m args below meth c Q A (dC, dI) cX9_binary .int (Unit) (dw_P a ac) r) : dj_X9_binary_0 p l e s m args below meth c Q A dC dI a ac (df_X9_binary_0 n) r := by
  obtain ⟨hlt, hx, hb, hml, hown, hts, hN, hA, hK⟩ := id C
  intro v0 s0 H locs ls h hP hD hS hl
  unfold df_X9_binary_0 at h
  refine lv_iload_n hx hb dX9_binary_0 rfl (lv_at hl 0 rfl) ?_
  by_cases c1 : v0 = 37
  · have h := nd_pos h c1
    refine lv_lookup (off := 95) (tgt := 96) hx hb dX9_binary_1 (by decide) (by rw [c1]; decide) (by decide) ?_
    refine lv_iconst (v := 3) hx hb dX9_binary_96 (by decide) ?_
    exact K _ _ _ _ _ _ dX9_binary_97 rfl (Option.some.inj h).symm hP hD hS
  have h := nd_neg h c1
  by_cases c2 : v0 = 38
  · have h := nd_pos h c2
    refine lv_lookup (off := 107) (tgt := 108) hx hb dX9_binary_1 (by decide) (by rw [c2]; decide) (by decide) ?_
    refine lv_bipush (v := 8) hx hb dX9_binary_108 (by decide) ?_
    exact K _ _ _ _ _ _ dX9_binary_110 rfl (Option.some.inj h).symm hP hD hS
  have h := nd_neg h c2
  by_cases c3 : v0 = 42
  · have h := nd_pos h c3
    refine lv_lookup (off := 91) (tgt := 92) hx hb dX9_binary_1 (by decide) (by rw [c3]; decide) (by decide) ?_
    refine lv_iconst (v := 1) hx hb dX9_binary_92 (by decide) ?_
    exact K _ _ _ _ _ _ dX9_binary_93 rfl (Option.some.inj h).symm hP hD hS
  have h := nd_neg h c3
  by_cases c4 : v0 = 43
  · have h := nd_pos h c4
    refine lv_lookup (off := 97) (tgt := 98) hx hb dX9_binary_1 (by decide) (by rw [c4]; decide) (by decide) ?_
    refine lv_iconst (v := 4) hx hb dX9_binary_98 (by decide) ?_
    exact K _ _ _ _ _ _ dX9_binary_99 rfl (Option.some.inj h).symm hP hD hS
  have h := nd_neg h c4
  by_cases c5 : v0 = 45
  · have h := nd_pos h c5
    refine lv_lookup (off := 99) (tgt := 100) hx hb dX9_binary_1 (by decide) (by rw [c5]; decide) (by decide) ?_
    refine lv_iconst (v := 5) hx hb dX9_binary_100 (by decide) ?_
    exact K _ _ _ _ _ _ dX9_binary_101 rfl (Option.some.inj h).symm hP hD hS
  have h := nd_neg h c5
  by_cases c6 : v0 = 47
  · have h := nd_pos h c6
    refine lv_lookup (off := 93) (tgt := 94) hx hb dX9_binary_1 (by decide) (by rw [c6]; decide) (by decide) ?_
    refine lv_iconst (v := 2) hx hb dX9_binary_94 (by decide) ?_
    exact K _ _ _ _ _ _ dX9_binary_95 rfl (Option.some.inj h).symm hP hD hS
  have h := nd_neg h c6
  by_cases c7 : v0 = 94
  · have h := nd_pos h c7
    refine lv_lookup (off := 110) (tgt := 111) hx hb dX9_binary_1 (by decide) (by rw [c7]; decide) (by decide) ?_
    refine lv_bipush (v := 9) hx hb dX9_binary_111 (by decide) ?_
    exact K _ _ _ _ _ _ dX9_binary_113 rfl (Option.some.inj h).symm hP hD hS
  have h := nd_neg h c7
  by_cases c8 : v0 = 124
  · have h := nd_pos h c8
    refine lv_lookup (off := 113) (tgt := 114) hx hb dX9_binary_1 (by decide) (by rw [c8]; decide) (by decide) ?_
    refine lv_bipush (v := 10) hx hb dX9_binary_114 (by decide) ?_
    exact K _ _ _ _ _ _ dX9_binary_116 rfl (Option.some.inj h).symm hP hD hS
  have h := nd_neg h c8
  by_cases c9 : v0 = 256
  · have h := nd_pos h c9
    refine lv_lookup (off := 101) (tgt := 102) hx hb dX9_binary_1 (by decide) (by rw [c9]; decide) (by decide) ?_
    refine lv_bipush (v := 6) hx hb dX9_binary_102 (by decide) ?_
    exact K _ _ _ _ _ _ dX9_binary_104 rfl (Option.some.inj h).symm hP hD hS
  have h := nd_neg h c9
  by_cases c10 : v0 = 257
  · have h := nd_pos h c10
    refine lv_lookup (off := 104) (tgt := 105) hx hb dX9_binary_1 (by decide) (by rw [c10]; decide) (by decide) ?_
    refine lv_bipush (v := 7) hx hb dX9_binary_105 (by decide) ?_
    exact K _ _ _ _ _ _ dX9_binary_107 rfl (Option.some.inj h).symm hP hD hS
  have h := nd_neg h c10
  refine lv_lookup (off := 116) (tgt := 117) hx hb dX9_binary_1 (by decide) (show Op.lookupswitch.offset [(37, 95), (38, 107), (42, 91), (43, 97), (45, 99), (47, 93), (94, 110), (124, 113), (256, 101), (257, 104)] 116 (v0 : Int32).toInt = 116 by rw [lv_osw c1 (by decide), lv_osw c2 (by decide), lv_osw c3 (by decide), lv_osw c4 (by decide), lv_osw c5 (by decide), lv_osw c6 (by decide), lv_osw c7 (by decide), lv_osw c8 (by decide), lv_osw c9 (by decide), lv_osw c10 (by decide)] <;> rfl) (by decide) ?_
  refine lv_iconst (v := 0) hx hb dX9_binary_117 (by decide) ?_
  exact K _ _ _ _ _ _ dX9_binary_118 rfl (Option.some.inj h).symm hP hD hS
set_option maxHeartbeats 40000000 in
set_option maxRecDepth 100000 in
theorem dm_X9_binary (l : Launch) (hlt : l.stackTraces = false) (dC : Nat → ClassId) (dI : Nat → Nat → Nat) (a : Nat → Nat) (ac : Nat → ClassId) (n : Nat) (v0 : Int32) (s0 : Unit) {r : Int32 × (Unit)} (h : df_X9_binary n v0 s0 = some r) (sz : Nat) : Met l yX9_binary ow_dm_X9_binary ({ frames := 0, cells := 0, slots := 0, locals := 0 }) (va_Pc [.int v0] (fun U => U.heap.size = sz ∧ va_P (dC, dI) vwCl (dw_P a ac s0) U.heap ∧ va_K (dC, dI) vwCl (dk_P ac) U ∧ va_D (fun _ => True) (dw_P a ac s0) ∧ nv_E (va_A (dw_P a ac s0) sz) U)) (va_Qi (fun x _ => x = r.1) (fun (_ : Unit) t => va_P (dC, dI) vwCl (dw_P a ac r.2) t.heap ∧ va_K (dC, dI) vwCl (dk_P ac) t ∧ va_D (va_A (dw_P a ac s0) sz) (dw_P a ac r.2)) (va_A (dw_P a ac s0) sz)) 0 0 (va_A (dw_P a ac s0) sz) := by
  refine Met.ofW (cc := cX9_binary) (maxL := 1) (ret := (some .int)) (by decide) rfl ?_
  intro p e s m args below meth c s₁ B hml hv
  obtain ⟨rfl, hsz, hP, hK, hD0, hN⟩ := hv
  have hx := B.exec
  have hb := B.bytes
  have hr := B.returns
  have hts := atoms_spec (ws := ow_dm_X9_binary) B.pre
  have hown : s.vm.findClass RX9 = some m.cls := findClass_of_methodNamed B.named
  have hlocks := B.notSynchronized
  subst hsz
  have hD := hD0.self (sz := s.heap.size)
  generalize hAe : va_A (dw_P a ac s0) s.heap.size = A at hD hN ⊢
  have hA : ∀ q : Nat, s.heap.size ≤ q → A q := fun q h => by rw [← hAe]; exact Or.inr h
  have hl := lv_entry ([.int v0]) (n := 1) (Nat.le_of_ble_eq_true rfl)
  rw [lg_entry_eq]
  generalize (lg_sl ([.int v0]) ++ List.replicate (1 - (lg_sl ([.int v0])).length) Slot.unset).toArray = ls at hl ⊢
  have hl : lv_has ls 1 [(0, .int v0)] := hl
  exact db_X9_binary_0 (dC := dC) (dI := dI) (a := a) (ac := ac) (n := n) (r := r) ⟨hlt, hx, hb, hml, hown, hts, hN, hA, hK⟩ (fun pc v τ H locs ls d z er hP hD hS => by subst er; exact W.zret (v := v) hx hb hr z (fun t ht hW => ⟨⟨v, (), rfl, rfl, by rw [ht]; exact hP, va_K.moved hW.alike hK, hD⟩, hS.F ht⟩) hS.2.2 d) v0 s0 _ _ _ h hP hD va_S.rf (lv_sub hl [0] rfl)
