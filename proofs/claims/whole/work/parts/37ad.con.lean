def ow_dm_X5_come : List Cond := Cond.code yX5_come cX5_come 8 (some .boolean) :: ([Cond.fieldLink RX5 18 "TimeMachine$Kernel" "machine" "LTimeMachine$Machine;", Cond.methodLink RX5 105 yX6_status, Cond.instanceMethod yX6_status, Cond.selects RX6 yX6_status yX6_status, Cond.initialized RX6, Cond.methodLink RX5 83 yX5_settle, Cond.instanceMethod yX5_settle, Cond.selects RX5 yX5_settle yX5_settle, Cond.initialized RX5, Cond.methodLink RX5 144 yX6_makeCurrent, Cond.instanceMethod yX6_makeCurrent, Cond.selects RX6 yX6_makeCurrent yX6_makeCurrent, Cond.fieldLink RX5 28 "TimeMachine$Kernel" "things" "LTimeMachine$Things;", Cond.methodLink RX5 148 yX10_type, Cond.instanceMethod yX10_type, Cond.selects RX10 yX10_type yX10_type, Cond.initialized RX10, Cond.fieldLink RX5 37 "TimeMachine$Kernel" "self" "[I", Cond.fieldLink RX5 133 "TimeMachine$Machine" "clock" "J", Cond.methodLink RX5 152 yX6_addRandom, Cond.instanceMethod yX6_addRandom, Cond.selects RX6 yX6_addRandom yX6_addRandom] ++ (u_ws RX5 TX5 8 ++ (u_ws RX6 TX6 20 ++ (ow_dm_X6_status ++ (ow_dm_X5_settle ++ (ow_dm_X6_makeCurrent ++ (ow_dm_X10_type ++ (ow_dm_X6_addRandom ++ []))))))))
theorem gd_dm_X5_come : ∀ w ∈ ow_dm_X5_come, (w.onTables && w.keeps) = true ∨ ∃ ty, w = Cond.arrayClass ty := List.forall_mem_cons.mpr ⟨good_of_word rfl, List.forall_mem_append.mpr ⟨fun w h => good_of_word (List.all_eq_true.mp (by decide +kernel) w h), List.forall_mem_append.mpr ⟨gu_X5, List.forall_mem_append.mpr ⟨gu_X6, List.forall_mem_append.mpr ⟨gd_dm_X6_status, List.forall_mem_append.mpr ⟨gd_dm_X5_settle, List.forall_mem_append.mpr ⟨gd_dm_X6_makeCurrent, List.forall_mem_append.mpr ⟨gd_dm_X10_type, List.forall_mem_append.mpr ⟨gd_dm_X6_addRandom, fun _ h => nomatch h⟩⟩⟩⟩⟩⟩⟩⟩⟩
theorem hi_dm_X5_come_X5 : ∀ w ∈ u_ws RX5 TX5 8, w ∈ ow_dm_X5_come := fun w h => List.mem_cons_of_mem _ (List.mem_append_right _ (List.mem_append_left _ h))
theorem hi_dm_X5_come_X6 : ∀ w ∈ u_ws RX6 TX6 20, w ∈ ow_dm_X5_come := fun w h => List.mem_cons_of_mem _ (List.mem_append_right _ (List.mem_append_right _ (List.mem_append_left _ h)))
theorem gi_dm_X5_come_0 : GoodIn ow_dm_X5_come (wsV RX5 105 RX6 yX6_status ow_dm_X6_status) := goodIn_app (goodIn_of _ (by decide +kernel)) (fun w h => ⟨List.mem_cons_of_mem _ (List.mem_append_right _ (List.mem_append_right _ (List.mem_append_right _ (List.mem_append_left _ h)))), gd_dm_X6_status w h⟩)
theorem gi_dm_X5_come_1 : GoodIn ow_dm_X5_come (wsV RX5 83 RX5 yX5_settle ow_dm_X5_settle) := goodIn_app (goodIn_of _ (by decide +kernel)) (fun w h => ⟨List.mem_cons_of_mem _ (List.mem_append_right _ (List.mem_append_right _ (List.mem_append_right _ (List.mem_append_right _ (List.mem_append_left _ h))))), gd_dm_X5_settle w h⟩)
theorem gi_dm_X5_come_2 : GoodIn ow_dm_X5_come (wsV RX5 144 RX6 yX6_makeCurrent ow_dm_X6_makeCurrent) := goodIn_app (goodIn_of _ (by decide +kernel)) (fun w h => ⟨List.mem_cons_of_mem _ (List.mem_append_right _ (List.mem_append_right _ (List.mem_append_right _ (List.mem_append_right _ (List.mem_append_right _ (List.mem_append_left _ h)))))), gd_dm_X6_makeCurrent w h⟩)
theorem gi_dm_X5_come_3 : GoodIn ow_dm_X5_come (wsV RX5 148 RX10 yX10_type ow_dm_X10_type) := goodIn_app (goodIn_of _ (by decide +kernel)) (fun w h => ⟨List.mem_cons_of_mem _ (List.mem_append_right _ (List.mem_append_right _ (List.mem_append_right _ (List.mem_append_right _ (List.mem_append_right _ (List.mem_append_right _ (List.mem_append_left _ h))))))), gd_dm_X10_type w h⟩)
theorem gi_dm_X5_come_4 : GoodIn ow_dm_X5_come (wsV RX5 152 RX6 yX6_addRandom ow_dm_X6_addRandom) := goodIn_app (goodIn_of _ (by decide +kernel)) (fun w h => ⟨List.mem_cons_of_mem _ (List.mem_append_right _ (List.mem_append_right _ (List.mem_append_right _ (List.mem_append_right _ (List.mem_append_right _ (List.mem_append_right _ (List.mem_append_right _ (List.mem_append_left _ h)))))))), gd_dm_X6_addRandom w h⟩)
def dj_X5_come_186 (p : Program) (l : Launch) (e : Env) (s : State) (m : MethodId) (args : Array Value) (below : List Frame) (meth : Method) (c : Code) (Q : State → Prop) (A : Nat → Prop) (dC : Nat → ClassId) (dI : Nat → Nat → Nat) (a : Nat → Nat) (ac : Nat → ClassId) (g : Int32 → (St × (St × (St × (St)))) → Option (Int32 × (St × (St × (St × (St)))))) (r : Int32 × (St × (St × (St × (St))))) : Prop := ∀ (x5 : Int32) (s0 : St × (St × (St × (St)))) (H : Heap) (locs : List Loc) (ls : Array Slot), g x5 s0 = some r → va_P (dC, dI) vwCl (dw_X5 a ac s0) H → va_D A (dw_X5 a ac s0) → va_S A s.heap H locs → lv_has ls 8 [(0, .ref (a 0)), (5, .int x5)] → W p l e (headSpec ow_dm_X5_come ({ frames := 3, cells := 0, slots := 0, locals := 68 })).room s m args below meth c H locs 0 0 Q (F0 m 186 ls [])
def dj_X5_come_58 (p : Program) (l : Launch) (e : Env) (s : State) (m : MethodId) (args : Array Value) (below : List Frame) (meth : Method) (c : Code) (Q : State → Prop) (A : Nat → Prop) (dC : Nat → ClassId) (dI : Nat → Nat → Nat) (a : Nat → Nat) (ac : Nat → ClassId) (g : Int32 → Int32 → (St × (St × (St × (St)))) → Option (Int32 × (St × (St × (St × (St)))))) (r : Int32 × (St × (St × (St × (St))))) : Prop := ∀ (x6 : Int32) (y0 : Int32) (s0 : St × (St × (St × (St)))) (H : Heap) (locs : List Loc) (ls : Array Slot), g x6 y0 s0 = some r → va_P (dC, dI) vwCl (dw_X5 a ac s0) H → va_D A (dw_X5 a ac s0) → va_S A s.heap H locs → lv_has ls 8 [(0, .ref (a 0)), (6, .int x6)] → W p l e (headSpec ow_dm_X5_come ({ frames := 3, cells := 0, slots := 0, locals := 68 })).room s m args below meth c H locs 0 0 Q (F0 m 58 ls [.int y0])
def dj_X5_come_127 (p : Program) (l : Launch) (e : Env) (s : State) (m : MethodId) (args : Array Value) (below : List Frame) (meth : Method) (c : Code) (Q : State → Prop) (A : Nat → Prop) (dC : Nat → ClassId) (dI : Nat → Nat → Nat) (a : Nat → Nat) (ac : Nat → ClassId) (g : Int32 → Int32 → Int32 → (St × (St × (St × (St)))) → Option (Int32 × (St × (St × (St × (St)))))) (r : Int32 × (St × (St × (St × (St))))) : Prop := ∀ (x4 : Int32) (x6 : Int32) (y0 : Int32) (s0 : St × (St × (St × (St)))) (H : Heap) (locs : List Loc) (ls : Array Slot), g x4 x6 y0 s0 = some r → va_P (dC, dI) vwCl (dw_X5 a ac s0) H → va_D A (dw_X5 a ac s0) → va_S A s.heap H locs → lv_has ls 8 [(0, .ref (a 0)), (4, .int x4), (6, .int x6)] → W p l e (headSpec ow_dm_X5_come ({ frames := 3, cells := 0, slots := 0, locals := 68 })).room s m args below meth c H locs 0 0 Q (F0 m 127 ls [.int y0])
def dj_X5_come_126 (p : Program) (l : Launch) (e : Env) (s : State) (m : MethodId) (args : Array Value) (below : List Frame) (meth : Method) (c : Code) (Q : State → Prop) (A : Nat → Prop) (dC : Nat → ClassId) (dI : Nat → Nat → Nat) (a : Nat → Nat) (ac : Nat → ClassId) (g : Int32 → Int32 → (St × (St × (St × (St)))) → Option (Int32 × (St × (St × (St × (St)))))) (r : Int32 × (St × (St × (St × (St))))) : Prop := ∀ (x4 : Int32) (x6 : Int32) (s0 : St × (St × (St × (St)))) (H : Heap) (locs : List Loc) (ls : Array Slot), g x4 x6 s0 = some r → va_P (dC, dI) vwCl (dw_X5 a ac s0) H → va_D A (dw_X5 a ac s0) → va_S A s.heap H locs → lv_has ls 8 [(0, .ref (a 0)), (4, .int x4), (6, .int x6)] → W p l e (headSpec ow_dm_X5_come ({ frames := 3, cells := 0, slots := 0, locals := 68 })).room s m args below meth c H locs 0 0 Q (F0 m 126 ls [])
def dj_X5_come_122 (p : Program) (l : Launch) (e : Env) (s : State) (m : MethodId) (args : Array Value) (below : List Frame) (meth : Method) (c : Code) (Q : State → Prop) (A : Nat → Prop) (dC : Nat → ClassId) (dI : Nat → Nat → Nat) (a : Nat → Nat) (ac : Nat → ClassId) (g : Int32 → Int32 → (St × (St × (St × (St)))) → Option (Int32 × (St × (St × (St × (St)))))) (r : Int32 × (St × (St × (St × (St))))) : Prop := ∀ (x4 : Int32) (x6 : Int32) (s0 : St × (St × (St × (St)))) (H : Heap) (locs : List Loc) (ls : Array Slot), g x4 x6 s0 = some r → va_P (dC, dI) vwCl (dw_X5 a ac s0) H → va_D A (dw_X5 a ac s0) → va_S A s.heap H locs → lv_has ls 8 [(0, .ref (a 0)), (4, .int x4), (6, .int x6)] → W p l e (headSpec ow_dm_X5_come ({ frames := 3, cells := 0, slots := 0, locals := 68 })).room s m args below meth c H locs 0 0 Q (F0 m 122 ls [])
def dj_X5_come_0 (p : Program) (l : Launch) (e : Env) (s : State) (m : MethodId) (args : Array Value) (below : List Frame) (meth : Method) (c : Code) (Q : State → Prop) (A : Nat → Prop) (dC : Nat → ClassId) (dI : Nat → Nat → Nat) (a : Nat → Nat) (ac : Nat → ClassId) (g : Int32 → Int64 → Int32 → (St × (St × (St × (St)))) → Option (Int32 × (St × (St × (St × (St)))))) (r : Int32 × (St × (St × (St × (St))))) : Prop := ∀ (v0 : Int32) (v1 : Int64) (v2 : Int32) (s0 : St × (St × (St × (St)))) (H : Heap) (locs : List Loc) (ls : Array Slot), g v0 v1 v2 s0 = some r → va_P (dC, dI) vwCl (dw_X5 a ac s0) H → va_D A (dw_X5 a ac s0) → va_S A s.heap H locs → lv_has ls 8 [(0, .ref (a 0)), (1, .int v0), (2, .long v1), (4, .int v2)] → W p l e (headSpec ow_dm_X5_come ({ frames := 3, cells := 0, slots := 0, locals := 68 })).room s m args below meth c H locs 0 0 Q (F0 m 0 ls [])
set_option maxHeartbeats 40000000 in
set_option maxRecDepth 100000 in
theorem db_X5_come_186 {p : Program} {l : Launch} {e : Env} {s : State} {m : MethodId} {args : Array Value} {below : List Frame} {meth : Method} {c : Code} {Q : State → Prop} {A : Nat → Prop} {dC : Nat → ClassId} {dI : Nat → Nat → Nat} {a : Nat → Nat} {ac : Nat → ClassId} {n : Nat} {r : Int32 × (St × (St × (St × (St))))} (C : nd_C p l s m args c A (dC, dI) cX5_come 8 RX5 ow_dm_X5_come (dk_X5 ac)) (K : nd_Ki p l e (headSpec ow_dm_X5_come ({ frames := 3, cells := 0, slots := 0, locals := 68 })).room s m args below meth c Q A (dC, dI) cX5_come .boolean (St × (St × (St × (St)))) (dw_X5 a ac) r) : dj_X5_come_186 p l e s m args below meth c Q A dC dI a ac (df_X5_come_186 n) r := by
  obtain ⟨hlt, hx, hb, hml, hown, hts, hN, hA, hK⟩ := id C
  intro x5 s0 H locs ls h hP hD hS hl
  unfold df_X5_come_186 at h
  refine lv_aload_n hx hb dX5_come_186 rfl (lv_at hl 0 rfl) ?_
  obtain ⟨s10, hq, h⟩ := nd_b1_e h
  have hPc := hP
  have hDc := hD
  have hKc := hK
  have hFc := nd_rs hD hS hA
  refine nd_cVv (As := []) (rest := []) (w' := dw_X5 a ac s10) ⟨hx, hb, hml, hown, hts⟩ (fun sz => dm_X5_settle l hlt dC dI a ac n  s0 hq sz) (cwV 0 hts gi_dm_X5_come_1 rfl rfl rfl (by decide +kernel) ⟨Nat.le_of_ble_eq_true rfl, Nat.le_of_ble_eq_true rfl⟩) hPc hDc hKc hS hA hN (va_recv hKc hPc (ci := 6) (q0 := 0) rfl rfl) rfl hl.1 rfl (Nat.le_of_ble_eq_true rfl) dX5_come_187 (fun H locs hP1 hD1 hk1 hS => ?_)
  have hP := hP1
  have hD := hD1.weaken (fun k q _ h => hFc q.1 h)
  refine lv_iload hx hb dX5_come_190 (lv_at hl 1 rfl) ?_
  obtain ⟨n12, h⟩ := nd_z_e ⟨_, rfl⟩ h
  exact K _ _ _ _ _ _ dX5_come_192 n12 (Option.some.inj h).symm hP hD hS
set_option maxHeartbeats 40000000 in
set_option maxRecDepth 100000 in
theorem db_X5_come_58 {p : Program} {l : Launch} {e : Env} {s : State} {m : MethodId} {args : Array Value} {below : List Frame} {meth : Method} {c : Code} {Q : State → Prop} {A : Nat → Prop} {dC : Nat → ClassId} {dI : Nat → Nat → Nat} {a : Nat → Nat} {ac : Nat → ClassId} {n : Nat} {r : Int32 × (St × (St × (St × (St))))} (C : nd_C p l s m args c A (dC, dI) cX5_come 8 RX5 ow_dm_X5_come (dk_X5 ac)) (K : nd_Ki p l e (headSpec ow_dm_X5_come ({ frames := 3, cells := 0, slots := 0, locals := 68 })).room s m args below meth c Q A (dC, dI) cX5_come .boolean (St × (St × (St × (St)))) (dw_X5 a ac) r) : dj_X5_come_58 p l e s m args below meth c Q A dC dI a ac (df_X5_come_58 n) r := by
  obtain ⟨hlt, hx, hb, hml, hown, hts, hN, hA, hK⟩ := id C
  intro x6 y0 s0 H locs ls h hP hD hS hl
  unfold df_X5_come_58 at h
  refine lv_istore (lv' := [(5, .int y0), (0, .ref (a 0)), (6, .int x6)]) hx hb dX5_come_58 hl (by decide) rfl (fun ls hl => ?_)
  refine lv_iload hx hb dX5_come_60 (lv_at hl 0 rfl) ?_
  refine lv_if_eq (tgt := 186) hx hb dX5_come_62 (by decide) (fun c8 => ?_) (fun c8 => ?_)
  · have h := nd_pos h c8
    exact (db_X5_come_186 C K) (y0) s0 _ _ _ h hP hD hS (lv_sub hl [1, 0] rfl)
  · have h := nd_neg h c8
    refine lv_aload_n hx hb dX5_come_65 rfl (lv_at hl 1 rfl) ?_
    refine va_get (D := (dC, dI)) (ci := 6) (v := .ref (a 4)) (C := RX5) (T := TX5) (N := 8) hx hb hts hi_dm_X5_come_X5 hown hK hP 0 rfl rfl 0 (by decide) (hts (.fieldLink RX5 18 "TimeMachine$Kernel" "machine" "LTimeMachine$Machine;") (List.mem_of_getElem? (i := 1) rfl)) (fun _ h9 => h9) rfl dX5_come_66 ?_
    refine lv_iload hx hb dX5_come_69 (lv_at hl 2 rfl) ?_
    obtain ⟨s14, hq, h⟩ := nd_b1_e h
    have hPc := dp_X5_4 hP
    have hDc := dd_X5_4 hD
    have hKc := dy_X5_4 hK
    have hFc := nd_rs hDc hS hA
    have hzA : ∀ q : Nat, H.size ≤ q → A q := fun q h => hA q (Nat.le_trans hS.1 h)
    refine nd_cVv (As := [.int x6]) (rest := []) (w' := dw_X6 (fun k => a (k + 4)) (fun k => ac (k + 4)) s14) ⟨hx, hb, hml, hown, hts⟩ (fun sz => dm_X6_makeCurrent l hlt dC dI (fun k => a (k + 4)) (fun k => ac (k + 4)) n (x6) s0.2.2 hq sz) (cwV 1 hts gi_dm_X5_come_2 rfl rfl rfl (by decide +kernel) ⟨Nat.le_of_ble_eq_true rfl, Nat.le_of_ble_eq_true rfl⟩) hPc hDc hKc hS hA hN (va_recv hKc hPc (ci := 7) (q0 := 0) rfl rfl) rfl hl.1 rfl (Nat.le_of_ble_eq_true rfl) dX5_come_71 (fun H locs hP1 hD1 hk1 hS => ?_)
    obtain ⟨hP, hD⟩ := dn_X5_4 hP hD hzA hk1 hP1 hD1
    obtain ⟨s16, es16, h⟩ := nd_let_e h
    have hP : va_P (dC, dI) vwCl (dw_X5 a ac s16) H := by rw [es16]; exact hP
    have hD : va_D A (dw_X5 a ac s16) := by rw [es16]; exact hD
    refine lv_goto (tgt := 186) hx hb dX5_come_74 (by decide) ?_
    exact (db_X5_come_186 C K) (y0) s16 _ _ _ h hP hD hS (lv_sub hl [1, 0] rfl)
set_option maxHeartbeats 40000000 in
set_option maxRecDepth 100000 in
theorem db_X5_come_127 {p : Program} {l : Launch} {e : Env} {s : State} {m : MethodId} {args : Array Value} {below : List Frame} {meth : Method} {c : Code} {Q : State → Prop} {A : Nat → Prop} {dC : Nat → ClassId} {dI : Nat → Nat → Nat} {a : Nat → Nat} {ac : Nat → ClassId} {n : Nat} {r : Int32 × (St × (St × (St × (St))))} (C : nd_C p l s m args c A (dC, dI) cX5_come 8 RX5 ow_dm_X5_come (dk_X5 ac)) (K : nd_Ki p l e (headSpec ow_dm_X5_come ({ frames := 3, cells := 0, slots := 0, locals := 68 })).room s m args below meth c Q A (dC, dI) cX5_come .boolean (St × (St × (St × (St)))) (dw_X5 a ac) r) : dj_X5_come_127 p l e s m args below meth c Q A dC dI a ac (df_X5_come_127 n) r := by
  obtain ⟨hlt, hx, hb, hml, hown, hts, hN, hA, hK⟩ := id C
  intro x4 x6 y0 s0 H locs ls h hP hD hS hl
  unfold df_X5_come_127 at h
  refine lv_istore (lv' := [(5, .int y0), (0, .ref (a 0)), (4, .int x4), (6, .int x6)]) hx hb dX5_come_127 hl (by decide) rfl (fun ls hl => ?_)
  refine lv_iload hx hb dX5_come_129 (lv_at hl 0 rfl) ?_
  refine lv_if_eq (tgt := 186) hx hb dX5_come_131 (by decide) (fun c28 => ?_) (fun c28 => ?_)
  · have h := nd_pos h c28
    exact (db_X5_come_186 C K) (y0) s0 _ _ _ h hP hD hS (lv_sub hl [1, 0] rfl)
  · have h := nd_neg h c28
    refine lv_aload_n hx hb dX5_come_134 rfl (lv_at hl 1 rfl) ?_
    refine va_get (D := (dC, dI)) (ci := 6) (v := .ref (a 11)) (C := RX5) (T := TX5) (N := 8) hx hb hts hi_dm_X5_come_X5 hown hK hP 0 rfl rfl 3 (by decide) (hts (.fieldLink RX5 37 "TimeMachine$Kernel" "self" "[I") (List.mem_of_getElem? (i := 18) rfl)) (fun _ h9 => h9) rfl dX5_come_135 ?_
    refine lv_iload hx hb dX5_come_138 (lv_at hl 3 rfl) ?_
    refine lv_bipush (v := 7) hx hb dX5_come_140 (by decide) ?_
    refine lv_imul hx hb dX5_come_142 ?_
    refine lv_iconst (v := 3) hx hb dX5_come_143 (by decide) ?_
    refine lv_iadd hx hb dX5_come_144 ?_
    refine lv_dup2_11 hx hb dX5_come_145 rfl rfl ?_
    obtain ⟨i29, h⟩ := nd_ck_e h
    refine va_iald (i := ((x6 * 7) + 3)) hx hb hK hP 11 8 rfl rfl i29 dX5_come_146 ?_
    refine lv_iconst (v := 1) hx hb dX5_come_147 (by decide) ?_
    refine lv_iload hx hb dX5_come_148 (lv_at hl 2 rfl) ?_
    refine lv_ishl hx hb dX5_come_150 ?_
    refine lv_ior hx hb dX5_come_151 ?_
    obtain ⟨i30, h⟩ := nd_ck_e h
    refine va_iast (i := ((x6 * 7) + 3)) (x := ((sR s0.2.2.1 6 (Int32.toNatClampNeg ((x6 * 7) + 3))) ||| ((1 : Int32) <<< ((x4 : Int32) &&& 31)))) hx hb hK hP hD hS 11 8 rfl rfl i30 dX5_come_152 (fun H locs hP hD hS => ?_)
    obtain ⟨s31, es31, h⟩ := nd_let_e h
    have hP : va_P (dC, dI) vwCl (dw_X5 a ac s31) H := by rw [es31]; exact hP
    have hD : va_D A (dw_X5 a ac s31) := by rw [es31]; exact hD
    refine lv_goto (tgt := 186) hx hb dX5_come_153 (by decide) ?_
    exact (db_X5_come_186 C K) (y0) s31 _ _ _ h hP hD hS (lv_sub hl [1, 0] rfl)
set_option maxHeartbeats 40000000 in
set_option maxRecDepth 100000 in
theorem db_X5_come_126 {p : Program} {l : Launch} {e : Env} {s : State} {m : MethodId} {args : Array Value} {below : List Frame} {meth : Method} {c : Code} {Q : State → Prop} {A : Nat → Prop} {dC : Nat → ClassId} {dI : Nat → Nat → Nat} {a : Nat → Nat} {ac : Nat → ClassId} {n : Nat} {r : Int32 × (St × (St × (St × (St))))} (C : nd_C p l s m args c A (dC, dI) cX5_come 8 RX5 ow_dm_X5_come (dk_X5 ac)) (K : nd_Ki p l e (headSpec ow_dm_X5_come ({ frames := 3, cells := 0, slots := 0, locals := 68 })).room s m args below meth c Q A (dC, dI) cX5_come .boolean (St × (St × (St × (St)))) (dw_X5 a ac) r) : dj_X5_come_126 p l e s m args below meth c Q A dC dI a ac (df_X5_come_126 n) r := by
  obtain ⟨hlt, hx, hb, hml, hown, hts, hN, hA, hK⟩ := id C
  intro x4 x6 s0 H locs ls h hP hD hS hl
  unfold df_X5_come_126 at h
  refine lv_iconst (v := 0) hx hb dX5_come_126 (by decide) ?_
  exact (db_X5_come_127 C K) (x4) (x6) (0) s0 _ _ _ h hP hD hS (lv_sub hl [0, 1, 2] rfl)
set_option maxHeartbeats 40000000 in
set_option maxRecDepth 100000 in
theorem db_X5_come_122 {p : Program} {l : Launch} {e : Env} {s : State} {m : MethodId} {args : Array Value} {below : List Frame} {meth : Method} {c : Code} {Q : State → Prop} {A : Nat → Prop} {dC : Nat → ClassId} {dI : Nat → Nat → Nat} {a : Nat → Nat} {ac : Nat → ClassId} {n : Nat} {r : Int32 × (St × (St × (St × (St))))} (C : nd_C p l s m args c A (dC, dI) cX5_come 8 RX5 ow_dm_X5_come (dk_X5 ac)) (K : nd_Ki p l e (headSpec ow_dm_X5_come ({ frames := 3, cells := 0, slots := 0, locals := 68 })).room s m args below meth c Q A (dC, dI) cX5_come .boolean (St × (St × (St × (St)))) (dw_X5 a ac) r) : dj_X5_come_122 p l e s m args below meth c Q A dC dI a ac (df_X5_come_122 n) r := by
  obtain ⟨hlt, hx, hb, hml, hown, hts, hN, hA, hK⟩ := id C
  intro x4 x6 s0 H locs ls h hP hD hS hl
  unfold df_X5_come_122 at h
  refine lv_iconst (v := 1) hx hb dX5_come_122 (by decide) ?_
  refine lv_goto (tgt := 127) hx hb dX5_come_123 (by decide) ?_
  exact (db_X5_come_127 C K) (x4) (x6) (1) s0 _ _ _ h hP hD hS (lv_sub hl [0, 1, 2] rfl)
set_option maxHeartbeats 40000000 in
set_option maxRecDepth 100000 in
theorem db_X5_come_0 {p : Program} {l : Launch} {e : Env} {s : State} {m : MethodId} {args : Array Value} {below : List Frame} {meth : Method} {c : Code} {Q : State → Prop} {A : Nat → Prop} {dC : Nat → ClassId} {dI : Nat → Nat → Nat} {a : Nat → Nat} {ac : Nat → ClassId} {n : Nat} {r : Int32 × (St × (St × (St × (St))))} (C : nd_C p l s m args c A (dC, dI) cX5_come 8 RX5 ow_dm_X5_come (dk_X5 ac)) (K : nd_Ki p l e (headSpec ow_dm_X5_come ({ frames := 3, cells := 0, slots := 0, locals := 68 })).room s m args below meth c Q A (dC, dI) cX5_come .boolean (St × (St × (St × (St)))) (dw_X5 a ac) r) : dj_X5_come_0 p l e s m args below meth c Q A dC dI a ac (df_X5_come_0 n) r := by
  obtain ⟨hlt, hx, hb, hml, hown, hts, hN, hA, hK⟩ := id C
  intro v0 v1 v2 s0 H locs ls h hP hD hS hl
  unfold df_X5_come_0 at h
  refine lv_lload_n hx hb dX5_come_0 rfl (lv_at hl 2 rfl) ?_
  refine lv_l2i hx hb dX5_come_1 rfl ?_
  refine lv_bipush (v := 15) hx hb dX5_come_2 (by decide) ?_
  refine lv_iand hx hb dX5_come_4 ?_
  refine lv_topi (fun z1 ez1 => ?_)
  have h := nd_at h ez1
  refine lv_istore (lv' := [(6, .int z1), (0, .ref (a 0)), (1, .int v0), (2, .long v1), (4, .int v2)]) hx hb dX5_come_5 hl (by decide) rfl (fun ls hl => ?_)
  refine lv_iload_n hx hb dX5_come_7 rfl (lv_at hl 2 rfl) ?_
  by_cases c2 : v0 = 0
  · have h := nd_pos h c2
    refine lv_tableIn (off := 32) (tgt := 40) hx hb dX5_come_8 (by rw [c2]; decide) (by rw [c2]; decide) (by rw [c2]; decide) (by decide) ?_
    refine lv_aload_n hx hb dX5_come_40 rfl (lv_at hl 1 rfl) ?_
    refine va_get (D := (dC, dI)) (ci := 6) (v := .ref (a 4)) (C := RX5) (T := TX5) (N := 8) hx hb hts hi_dm_X5_come_X5 hown hK hP 0 rfl rfl 0 (by decide) (hts (.fieldLink RX5 18 "TimeMachine$Kernel" "machine" "LTimeMachine$Machine;") (List.mem_of_getElem? (i := 1) rfl)) (fun _ h9 => h9) rfl dX5_come_41 ?_
    refine lv_iload hx hb dX5_come_44 (lv_at hl 0 rfl) ?_
    obtain ⟨q3, s4, hq, h⟩ := nd_b2_e h
    have hPc := dp_X5_4 hP
    have hDc := dd_X5_4 hD
    have hKc := dy_X5_4 hK
    have hFc := nd_rs hDc hS hA
    have hzA : ∀ q : Nat, H.size ≤ q → A q := fun q h => hA q (Nat.le_trans hS.1 h)
    refine nd_cVi (As := [.int z1]) (rest := []) (q := q3) (w' := dw_X6 (fun k => a (k + 4)) (fun k => ac (k + 4)) s4) ⟨hx, hb, hml, hown, hts⟩ (fun sz => dm_X6_status l hlt dC dI (fun k => a (k + 4)) (fun k => ac (k + 4)) n (z1) s0.2.2 hq sz) (cwV 1 hts gi_dm_X5_come_0 rfl rfl rfl (by decide +kernel) ⟨Nat.le_of_ble_eq_true rfl, Nat.le_of_ble_eq_true rfl⟩) hPc hDc hKc hS hA hN (va_recv hKc hPc (ci := 7) (q0 := 0) rfl rfl) rfl hl.1 rfl (Nat.le_of_ble_eq_true rfl) dX5_come_46 (fun H locs hP1 hD1 hk1 hS => ?_)
    obtain ⟨hP, hD⟩ := dn_X5_4 hP hD hzA hk1 hP1 hD1
    obtain ⟨s6, es6, h⟩ := nd_let_e h
    have hP : va_P (dC, dI) vwCl (dw_X5 a ac s6) H := by rw [es6]; exact hP
    have hD : va_D A (dw_X5 a ac s6) := by rw [es6]; exact hD
    refine lv_iconst (v := 1) hx hb dX5_come_49 (by decide) ?_
    refine lv_icmp_ne (tgt := 57) hx hb dX5_come_50 (by decide) (fun c7 => ?_) (fun c7 => ?_)
    · have h := nd_neg h c7
      refine lv_iconst (v := 0) hx hb dX5_come_57 (by decide) ?_
      exact (db_X5_come_58 C K) (z1) (0) s6 _ _ _ h hP hD hS (lv_sub hl [1, 0] rfl)
    · have h := nd_pos h c7
      refine lv_iconst (v := 1) hx hb dX5_come_53 (by decide) ?_
      refine lv_goto (tgt := 58) hx hb dX5_come_54 (by decide) ?_
      exact (db_X5_come_58 C K) (z1) (1) s6 _ _ _ h hP hD hS (lv_sub hl [1, 0] rfl)
  have h := nd_neg h c2
  by_cases c17 : v0 = 1
  · have h := nd_pos h c17
    refine lv_tableIn (off := 69) (tgt := 77) hx hb dX5_come_8 (by rw [c17]; decide) (by rw [c17]; decide) (by rw [c17]; decide) (by decide) ?_
    refine lv_aload_n hx hb dX5_come_77 rfl (lv_at hl 1 rfl) ?_
    refine va_get (D := (dC, dI)) (ci := 6) (v := .ref (a 14)) (C := RX5) (T := TX5) (N := 8) hx hb hts hi_dm_X5_come_X5 hown hK hP 0 rfl rfl 1 (by decide) (hts (.fieldLink RX5 28 "TimeMachine$Kernel" "things" "LTimeMachine$Things;") (List.mem_of_getElem? (i := 13) rfl)) (fun _ h9 => h9) rfl dX5_come_78 ?_
    refine lv_lload_n hx hb dX5_come_81 rfl (lv_at hl 3 rfl) ?_
    refine lv_iload hx hb dX5_come_82 (lv_at hl 4 rfl) ?_
    obtain ⟨q18, s19, hq, h⟩ := nd_b2_e h
    have hPc := dp_X5_14 hP
    have hDc := dd_X5_14 hD
    have hKc := dy_X5_14 hK
    have hFc := nd_rs hDc hS hA
    have hzA : ∀ q : Nat, H.size ≤ q → A q := fun q h => hA q (Nat.le_trans hS.1 h)
    refine nd_cVi (As := [.long v1, .int v2]) (rest := []) (q := q18) (w' := dw_X10 (fun k => a (k + 14)) (fun k => ac (k + 14)) s19) ⟨hx, hb, hml, hown, hts⟩ (fun sz => dm_X10_type l hlt dC dI (fun k => a (k + 14)) (fun k => ac (k + 14)) n (v1) (v2) s0.2.2.2 hq sz) (cwV 2 hts gi_dm_X5_come_3 rfl rfl rfl (by decide +kernel) ⟨Nat.le_of_ble_eq_true rfl, Nat.le_of_ble_eq_true rfl⟩) hPc hDc hKc hS hA hN (va_recv hKc hPc (ci := 11) (q0 := 0) rfl rfl) rfl hl.1 rfl (Nat.le_of_ble_eq_true rfl) dX5_come_84 (fun H locs hP1 hD1 hk1 hS => ?_)
    obtain ⟨hP, hD⟩ := dn_X5_14 hP hD hzA hk1 hP1 hD1
    obtain ⟨s21, es21, h⟩ := nd_let_e h
    have hP : va_P (dC, dI) vwCl (dw_X5 a ac s21) H := by rw [es21]; exact hP
    have hD : va_D A (dw_X5 a ac s21) := by rw [es21]; exact hD
    refine lv_istore (lv' := [(5, .int q18), (6, .int z1), (0, .ref (a 0)), (1, .int v0), (2, .long v1), (4, .int v2)]) hx hb dX5_come_87 hl (by decide) rfl (fun ls hl => ?_)
    refine lv_goto (tgt := 186) hx hb dX5_come_89 (by decide) ?_
    exact (db_X5_come_186 C K) (q18) s21 _ _ _ h hP hD hS (lv_sub hl [2, 0] rfl)
  have h := nd_neg h c17
  by_cases c22 : v0 = 2
  · have h := nd_pos h c22
    refine lv_tableIn (off := 84) (tgt := 92) hx hb dX5_come_8 (by rw [c22]; decide) (by rw [c22]; decide) (by rw [c22]; decide) (by decide) ?_
    refine lv_aload_n hx hb dX5_come_92 rfl (lv_at hl 1 rfl) ?_
    refine va_get (D := (dC, dI)) (ci := 6) (v := .ref (a 4)) (C := RX5) (T := TX5) (N := 8) hx hb hts hi_dm_X5_come_X5 hown hK hP 0 rfl rfl 0 (by decide) (hts (.fieldLink RX5 18 "TimeMachine$Kernel" "machine" "LTimeMachine$Machine;") (List.mem_of_getElem? (i := 1) rfl)) (fun _ h9 => h9) rfl dX5_come_93 ?_
    refine lv_iload hx hb dX5_come_96 (lv_at hl 0 rfl) ?_
    obtain ⟨q23, s24, hq, h⟩ := nd_b2_e h
    have hPc := dp_X5_4 hP
    have hDc := dd_X5_4 hD
    have hKc := dy_X5_4 hK
    have hFc := nd_rs hDc hS hA
    have hzA : ∀ q : Nat, H.size ≤ q → A q := fun q h => hA q (Nat.le_trans hS.1 h)
    refine nd_cVi (As := [.int z1]) (rest := []) (q := q23) (w' := dw_X6 (fun k => a (k + 4)) (fun k => ac (k + 4)) s24) ⟨hx, hb, hml, hown, hts⟩ (fun sz => dm_X6_status l hlt dC dI (fun k => a (k + 4)) (fun k => ac (k + 4)) n (z1) s0.2.2 hq sz) (cwV 1 hts gi_dm_X5_come_0 rfl rfl rfl (by decide +kernel) ⟨Nat.le_of_ble_eq_true rfl, Nat.le_of_ble_eq_true rfl⟩) hPc hDc hKc hS hA hN (va_recv hKc hPc (ci := 7) (q0 := 0) rfl rfl) rfl hl.1 rfl (Nat.le_of_ble_eq_true rfl) dX5_come_98 (fun H locs hP1 hD1 hk1 hS => ?_)
    obtain ⟨hP, hD⟩ := dn_X5_4 hP hD hzA hk1 hP1 hD1
    obtain ⟨s26, es26, h⟩ := nd_let_e h
    have hP : va_P (dC, dI) vwCl (dw_X5 a ac s26) H := by rw [es26]; exact hP
    have hD : va_D A (dw_X5 a ac s26) := by rw [es26]; exact hD
    refine lv_istore (lv' := [(7, .int q23), (6, .int z1), (0, .ref (a 0)), (1, .int v0), (2, .long v1), (4, .int v2)]) hx hb dX5_come_101 hl (by decide) rfl (fun ls hl => ?_)
    refine lv_iload hx hb dX5_come_103 (lv_at hl 5 rfl) ?_
    refine lv_bipush (v := 16) hx hb dX5_come_105 (by decide) ?_
    refine lv_icmp_ge (tgt := 126) hx hb dX5_come_107 (by decide) (fun c27 => ?_) (fun c27 => ?_)
    · have h := nd_pos h c27
      exact (db_X5_come_126 C K) (v2) (z1) s26 _ _ _ h hP hD hS (lv_sub hl [2, 5, 1] rfl)
    · have h := nd_neg h c27
      refine lv_iload hx hb dX5_come_110 (lv_at hl 0 rfl) ?_
      refine lv_iconst (v := 1) hx hb dX5_come_112 (by decide) ?_
      refine lv_icmp_eq (tgt := 122) hx hb dX5_come_113 (by decide) (fun c32 => ?_) (fun c32 => ?_)
      · have h := nd_pos h c32
        exact (db_X5_come_122 C K) (v2) (z1) s26 _ _ _ h hP hD hS (lv_sub hl [2, 5, 1] rfl)
      · have h := nd_neg h c32
        refine lv_iload hx hb dX5_come_116 (lv_at hl 0 rfl) ?_
        refine lv_iconst (v := 2) hx hb dX5_come_118 (by decide) ?_
        refine lv_icmp_ne (tgt := 126) hx hb dX5_come_119 (by decide) (fun c33 => ?_) (fun c33 => ?_)
        · have h := nd_neg h c33
          exact (db_X5_come_126 C K) (v2) (z1) s26 _ _ _ h hP hD hS (lv_sub hl [2, 5, 1] rfl)
        · have h := nd_pos h c33
          exact (db_X5_come_122 C K) (v2) (z1) s26 _ _ _ h hP hD hS (lv_sub hl [2, 5, 1] rfl)
  have h := nd_neg h c22
  by_cases c34 : v0 = 3
  · have h := nd_pos h c34
    refine lv_tableIn (off := 148) (tgt := 156) hx hb dX5_come_8 (by rw [c34]; decide) (by rw [c34]; decide) (by rw [c34]; decide) (by decide) ?_
    refine lv_iconst (v := 1) hx hb dX5_come_156 (by decide) ?_
    refine lv_istore (lv' := [(5, .int 1), (6, .int z1), (0, .ref (a 0)), (1, .int v0), (2, .long v1), (4, .int v2)]) hx hb dX5_come_157 hl (by decide) rfl (fun ls hl => ?_)
    refine lv_aload_n hx hb dX5_come_159 rfl (lv_at hl 2 rfl) ?_
    refine va_get (D := (dC, dI)) (ci := 6) (v := .ref (a 4)) (C := RX5) (T := TX5) (N := 8) hx hb hts hi_dm_X5_come_X5 hown hK hP 0 rfl rfl 0 (by decide) (hts (.fieldLink RX5 18 "TimeMachine$Kernel" "machine" "LTimeMachine$Machine;") (List.mem_of_getElem? (i := 1) rfl)) (fun _ h9 => h9) rfl dX5_come_160 ?_
    refine lv_dup hx hb dX5_come_163 rfl ?_
    refine va_get (D := (dC, dI)) (ci := 7) (v := .long (sL s0.2.2.1 0)) (C := RX6) (T := TX6) (N := 20) hx hb hts hi_dm_X5_come_X6 hown hK hP 4 rfl rfl 17 (by decide) (hts (.fieldLink RX5 133 "TimeMachine$Machine" "clock" "J") (List.mem_of_getElem? (i := 19) rfl)) (fun _ h9 => h9) rfl dX5_come_164 ?_
    refine lv_lload_n hx hb dX5_come_167 rfl (lv_at hl 4 rfl) ?_
    refine lv_ladd hx hb dX5_come_168 ?_
    refine va_put (D := (dC, dI)) (ci := 7) (v := .long (((sL s0.2.2.1 0) : Int64) + v1)) (ty := .long) (C := RX6) (T := TX6) (N := 20) hx hb hts hi_dm_X5_come_X6 tyX6 tyX6_ok nmX6 hown hK hP hD hS 4 rfl rfl 17 (by decide) (hts (.fieldLink RX5 133 "TimeMachine$Machine" "clock" "J") (List.mem_of_getElem? (i := 19) rfl)) (fun _ h9 => h9) rfl (by decide +kernel) rfl rfl (Nat.le_of_ble_eq_true rfl) dX5_come_169 (fun H locs hP hD hS => ?_)
    obtain ⟨s35, es35, h⟩ := nd_let_e h
    have hP : va_P (dC, dI) vwCl (dw_X5 a ac s35) H := by rw [es35]; exact hP
    have hD : va_D A (dw_X5 a ac s35) := by rw [es35]; exact hD
    refine lv_goto (tgt := 186) hx hb dX5_come_172 (by decide) ?_
    exact (db_X5_come_186 C K) (1) s35 _ _ _ h hP hD hS (lv_sub hl [2, 0] rfl)
  have h := nd_neg h c34
  refine lv_tableOut (tgt := 175) hx hb dX5_come_8 (by have g0 := nv_nei c2 (k := 0) (by decide); have g1 := nv_nei c17 (k := 1) (by decide); have g2 := nv_nei c22 (k := 2) (by decide); have g3 := nv_nei c34 (k := 3) (by decide); omega) (by decide) ?_
  refine lv_aload_n hx hb dX5_come_175 rfl (lv_at hl 1 rfl) ?_
  refine va_get (D := (dC, dI)) (ci := 6) (v := .ref (a 4)) (C := RX5) (T := TX5) (N := 8) hx hb hts hi_dm_X5_come_X5 hown hK hP 0 rfl rfl 0 (by decide) (hts (.fieldLink RX5 18 "TimeMachine$Kernel" "machine" "LTimeMachine$Machine;") (List.mem_of_getElem? (i := 1) rfl)) (fun _ h9 => h9) rfl dX5_come_176 ?_
  refine lv_lload_n hx hb dX5_come_179 rfl (lv_at hl 3 rfl) ?_
  refine lv_l2i hx hb dX5_come_180 rfl ?_
  obtain ⟨q36, s37, hq, h⟩ := nd_b2_e h
  have hPc := dp_X5_4 hP
  have hDc := dd_X5_4 hD
  have hKc := dy_X5_4 hK
  have hFc := nd_rs hDc hS hA
  have hzA : ∀ q : Nat, H.size ≤ q → A q := fun q h => hA q (Nat.le_trans hS.1 h)
  refine nd_cVi (As := [.int (v1.toInt32)]) (rest := []) (q := q36) (w' := dw_X6 (fun k => a (k + 4)) (fun k => ac (k + 4)) s37) ⟨hx, hb, hml, hown, hts⟩ (fun sz => dm_X6_addRandom l hlt dC dI (fun k => a (k + 4)) (fun k => ac (k + 4)) n ((v1.toInt32)) s0.2.2 hq sz) (cwV 1 hts gi_dm_X5_come_4 rfl rfl rfl (by decide +kernel) ⟨Nat.le_of_ble_eq_true rfl, Nat.le_of_ble_eq_true rfl⟩) hPc hDc hKc hS hA hN (va_recv hKc hPc (ci := 7) (q0 := 0) rfl rfl) rfl hl.1 rfl (Nat.le_of_ble_eq_true rfl) dX5_come_181 (fun H locs hP1 hD1 hk1 hS => ?_)
  obtain ⟨hP, hD⟩ := dn_X5_4 hP hD hzA hk1 hP1 hD1
  obtain ⟨s39, es39, h⟩ := nd_let_e h
  have hP : va_P (dC, dI) vwCl (dw_X5 a ac s39) H := by rw [es39]; exact hP
  have hD : va_D A (dw_X5 a ac s39) := by rw [es39]; exact hD
  refine lv_istore (lv' := [(5, .int q36), (6, .int z1), (0, .ref (a 0)), (1, .int v0), (2, .long v1), (4, .int v2)]) hx hb dX5_come_184 hl (by decide) rfl (fun ls hl => ?_)
  exact (db_X5_come_186 C K) (q36) s39 _ _ _ h hP hD hS (lv_sub hl [2, 0] rfl)
set_option maxHeartbeats 40000000 in
set_option maxRecDepth 100000 in
theorem dm_X5_come (l : Launch) (hlt : l.stackTraces = false) (dC : Nat → ClassId) (dI : Nat → Nat → Nat) (a : Nat → Nat) (ac : Nat → ClassId) (n : Nat) (v0 : Int32) (v1 : Int64) (v2 : Int32) (s0 : St × (St × (St × (St)))) {r : Int32 × (St × (St × (St × (St))))} (h : df_X5_come n v0 v1 v2 s0 = some r) (sz : Nat) : Met l yX5_come ow_dm_X5_come ({ frames := 3, cells := 0, slots := 0, locals := 68 }) (va_Pc [.ref (a 0), .int v0, .long v1, .int v2] (fun U => U.heap.size = sz ∧ va_P (dC, dI) vwCl (dw_X5 a ac s0) U.heap ∧ va_K (dC, dI) vwCl (dk_X5 ac) U ∧ va_D (fun _ => True) (dw_X5 a ac s0) ∧ nv_E dI (va_A (dw_X5 a ac s0) sz) U)) (va_Qi (fun x _ => x = r.1) (fun (_ : Unit) t => va_P (dC, dI) vwCl (dw_X5 a ac r.2) t.heap ∧ va_K (dC, dI) vwCl (dk_X5 ac) t ∧ va_D (va_A (dw_X5 a ac s0) sz) (dw_X5 a ac r.2)) (va_A (dw_X5 a ac s0) sz)) 0 0 (va_A (dw_X5 a ac s0) sz) := by
  refine Met.ofW (cc := cX5_come) (maxL := 8) (ret := (some .boolean)) (by decide) rfl ?_
  intro p e s m args below meth c s₁ B hml hv
  obtain ⟨rfl, hsz, hP, hK, hD0, hN⟩ := hv
  have hx := B.exec
  have hb := B.bytes
  have hr := B.returns
  have hts := atoms_spec (ws := ow_dm_X5_come) B.pre
  have hown : s.vm.findClass RX5 = some m.cls := findClass_of_methodNamed B.named
  have hlocks := B.notSynchronized
  subst hsz
  have hD := hD0.self (sz := s.heap.size)
  generalize hAe : va_A (dw_X5 a ac s0) s.heap.size = A at hD hN ⊢
  have hA : ∀ q : Nat, s.heap.size ≤ q → A q := fun q h => by rw [← hAe]; exact Or.inr h
  have hl := lv_entry ([.ref (a 0), .int v0, .long v1, .int v2]) (n := 8) (Nat.le_of_ble_eq_true rfl)
  rw [lg_entry_eq]
  generalize (lg_sl ([.ref (a 0), .int v0, .long v1, .int v2]) ++ List.replicate (8 - (lg_sl ([.ref (a 0), .int v0, .long v1, .int v2])).length) Slot.unset).toArray = ls at hl ⊢
  have hl : lv_has ls 8 [(0, .ref (a 0)), (1, .int v0), (2, .long v1), (4, .int v2)] := hl
  exact db_X5_come_0 (dC := dC) (dI := dI) (a := a) (ac := ac) (n := n) (r := r) ⟨hlt, hx, hb, hml, hown, hts, hN, hA, hK⟩ (fun pc v τ H locs ls d z er hP hD hS => by subst er; exact W.zret (v := v) hx hb hr z (fun t ht hW => ⟨⟨v, (), rfl, rfl, by rw [ht]; exact hP, va_K.moved hW.alike hK, hD⟩, hS.F ht⟩) hS.2.2 d) v0 v1 v2 s0 _ _ _ h hP hD va_S.rf (lv_sub hl [0, 1, 2, 3] rfl)

