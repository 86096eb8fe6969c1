def ow_dm_X18_first : List Cond := Cond.code yX18_first cX18_first 5 none :: ([Cond.methodLink RX18 172 yX18_part, Cond.instanceMethod yX18_part, Cond.selects RX18 yX18_part yX18_part, Cond.initialized RX18, Cond.fieldLink RX18 80 "TimeMachineModel$Reader" "f" "I", Cond.constantLong RX18 259 (2004037219), Cond.methodLink RX18 65 yX18_name, Cond.instanceMethod yX18_name, Cond.selects RX18 yX18_name yX18_name, Cond.methodLink RX18 71 yX18_register, Cond.instanceMethod yX18_register, Cond.selects RX18 yX18_register yX18_register, Cond.methodLink RX18 150 yX18_memory, Cond.instanceMethod yX18_memory, Cond.selects RX18 yX18_memory yX18_memory, Cond.constantLong RX18 257 (2003578467), Cond.constantLong RX18 253 (8301375893052403299), Cond.constantLong RX18 255 (28272), Cond.methodLink RX18 50 yX18_say, Cond.instanceMethod yX18_say, Cond.selects RX18 yX18_say yX18_say, Cond.methodLink RX18 59 yX18_immediate, Cond.instanceMethod yX18_immediate, Cond.selects RX18 yX18_immediate yX18_immediate] ++ (u_ws RX18 TX18 10 ++ (ow_dm_X18_part ++ (ow_dm_X18_name ++ (ow_dm_X18_register ++ (ow_dm_X18_memory ++ (ow_dm_X18_say ++ (ow_dm_X18_immediate ++ []))))))))
theorem gd_dm_X18_first : ∀ w ∈ ow_dm_X18_first, (w.onTables && w.keeps) = true ∨ ∃ ty, w = Cond.arrayClass ty := List.forall_mem_cons.mpr ⟨good_of_word rfl, List.forall_mem_append.mpr ⟨fun w h => good_of_word (List.all_eq_true.mp (by decide +kernel) w h), List.forall_mem_append.mpr ⟨gu_X18, List.forall_mem_append.mpr ⟨gd_dm_X18_part, List.forall_mem_append.mpr ⟨gd_dm_X18_name, List.forall_mem_append.mpr ⟨gd_dm_X18_register, List.forall_mem_append.mpr ⟨gd_dm_X18_memory, List.forall_mem_append.mpr ⟨gd_dm_X18_say, List.forall_mem_append.mpr ⟨gd_dm_X18_immediate, fun _ h => nomatch h⟩⟩⟩⟩⟩⟩⟩⟩⟩
theorem hi_dm_X18_first_X18 : ∀ w ∈ u_ws RX18 TX18 10, w ∈ ow_dm_X18_first := fun w h => List.mem_cons_of_mem _ (List.mem_append_right _ (List.mem_append_left _ h))
theorem gi_dm_X18_first_0 : GoodIn ow_dm_X18_first (wsV RX18 172 RX18 yX18_part ow_dm_X18_part) := goodIn_app (goodIn_of _ (by decide +kernel)) (fun w h => ⟨List.mem_cons_of_mem _ (List.mem_append_right _ (List.mem_append_right _ (List.mem_append_left _ h))), gd_dm_X18_part w h⟩)
theorem gi_dm_X18_first_1 : GoodIn ow_dm_X18_first (wsV RX18 65 RX18 yX18_name ow_dm_X18_name) := goodIn_app (goodIn_of _ (by decide +kernel)) (fun w h => ⟨List.mem_cons_of_mem _ (List.mem_append_right _ (List.mem_append_right _ (List.mem_append_right _ (List.mem_append_left _ h)))), gd_dm_X18_name w h⟩)
theorem gi_dm_X18_first_2 : GoodIn ow_dm_X18_first (wsV RX18 71 RX18 yX18_register ow_dm_X18_register) := goodIn_app (goodIn_of _ (by decide +kernel)) (fun w h => ⟨List.mem_cons_of_mem _ (List.mem_append_right _ (List.mem_append_right _ (List.mem_append_right _ (List.mem_append_right _ (List.mem_append_left _ h))))), gd_dm_X18_register w h⟩)
theorem gi_dm_X18_first_3 : GoodIn ow_dm_X18_first (wsV RX18 150 RX18 yX18_memory ow_dm_X18_memory) := goodIn_app (goodIn_of _ (by decide +kernel)) (fun w h => ⟨List.mem_cons_of_mem _ (List.mem_append_right _ (List.mem_append_right _ (List.mem_append_right _ (List.mem_append_right _ (List.mem_append_right _ (List.mem_append_left _ h)))))), gd_dm_X18_memory w h⟩)
theorem gi_dm_X18_first_4 : GoodIn ow_dm_X18_first (wsV RX18 50 RX18 yX18_say ow_dm_X18_say) := goodIn_app (goodIn_of _ (by decide +kernel)) (fun w h => ⟨List.mem_cons_of_mem _ (List.mem_append_right _ (List.mem_append_right _ (List.mem_append_right _ (List.mem_append_right _ (List.mem_append_right _ (List.mem_append_right _ (List.mem_append_left _ h))))))), gd_dm_X18_say w h⟩)
theorem gi_dm_X18_first_5 : GoodIn ow_dm_X18_first (wsV RX18 59 RX18 yX18_immediate ow_dm_X18_immediate) := goodIn_app (goodIn_of _ (by decide +kernel)) (fun w h => ⟨List.mem_cons_of_mem _ (List.mem_append_right _ (List.mem_append_right _ (List.mem_append_right _ (List.mem_append_right _ (List.mem_append_right _ (List.mem_append_right _ (List.mem_append_right _ (List.mem_append_left _ h)))))))), gd_dm_X18_immediate w h⟩)
def dj_X18_first_180 (p : Program) (l : Launch) (e : Env) (s : State) (m : MethodId) (args : Array Value) (below : List Frame) (meth : Method) (c : Code) (Q : State → Prop) (A : Nat → Prop) (dC : Nat → ClassId) (dI : Nat → Nat → Nat) (a : Nat → Nat) (ac : Nat → ClassId) (g : (St) → Option (St)) (r : St) : Prop := ∀ (s0 : St) (H : Heap) (locs : List Loc) (ls : Array Slot), g s0 = some r → va_P (dC, dI) vwCl (dw_X18 a ac s0) H → va_D A (dw_X18 a ac s0) → va_S A s.heap H locs → lv_has ls 5 [] → W p l e (headSpec ow_dm_X18_first ({ frames := 5, cells := 0, slots := 0, locals := 111 })).room s m args below meth c H locs 0 0 Q (F0 m 180 ls [])
def dj_X18_first_165 (p : Program) (l : Launch) (e : Env) (s : State) (m : MethodId) (args : Array Value) (below : List Frame) (meth : Method) (c : Code) (Q : State → Prop) (A : Nat → Prop) (dC : Nat → ClassId) (dI : Nat → Nat → Nat) (a : Nat → Nat) (ac : Nat → ClassId) (g : Int32 → Int32 → Int32 → Int64 → (St) → Option (St)) (r : St) : Prop := ∀ (x1 : Int32) (x2 : Int32) (x4 : Int32) (y1 : Int64) (s0 : St) (H : Heap) (locs : List Loc) (ls : Array Slot), g x1 x2 x4 y1 s0 = some r → va_P (dC, dI) vwCl (dw_X18 a ac s0) H → va_D A (dw_X18 a ac s0) → va_S A s.heap H locs → lv_has ls 5 [(0, .ref (a 0)), (1, .int x1), (2, .int x2), (4, .int x4)] → W p l e (headSpec ow_dm_X18_first ({ frames := 5, cells := 0, slots := 0, locals := 111 })).room s m args below meth c H locs 0 0 Q (F0 m 165 ls [.long y1, .ref (a 0)])
def dj_X18_first_147 (p : Program) (l : Launch) (e : Env) (s : State) (m : MethodId) (args : Array Value) (below : List Frame) (meth : Method) (c : Code) (Q : State → Prop) (A : Nat → Prop) (dC : Nat → ClassId) (dI : Nat → Nat → Nat) (a : Nat → Nat) (ac : Nat → ClassId) (g : Int32 → Int32 → Int32 → (St) → Option (St)) (r : St) : Prop := ∀ (x1 : Int32) (x2 : Int32) (x4 : Int32) (s0 : St) (H : Heap) (locs : List Loc) (ls : Array Slot), g x1 x2 x4 s0 = some r → va_P (dC, dI) vwCl (dw_X18 a ac s0) H → va_D A (dw_X18 a ac s0) → va_S A s.heap H locs → lv_has ls 5 [(0, .ref (a 0)), (1, .int x1), (2, .int x2), (4, .int x4)] → W p l e (headSpec ow_dm_X18_first ({ frames := 5, cells := 0, slots := 0, locals := 111 })).room s m args below meth c H locs 0 0 Q (F0 m 147 ls [])
def dj_X18_first_130 (p : Program) (l : Launch) (e : Env) (s : State) (m : MethodId) (args : Array Value) (below : List Frame) (meth : Method) (c : Code) (Q : State → Prop) (A : Nat → Prop) (dC : Nat → ClassId) (dI : Nat → Nat → Nat) (a : Nat → Nat) (ac : Nat → ClassId) (g : Int32 → Int32 → Int32 → (St) → Option (St)) (r : St) : Prop := ∀ (x1 : Int32) (x2 : Int32) (x4 : Int32) (s0 : St) (H : Heap) (locs : List Loc) (ls : Array Slot), g x1 x2 x4 s0 = some r → va_P (dC, dI) vwCl (dw_X18 a ac s0) H → va_D A (dw_X18 a ac s0) → va_S A s.heap H locs → lv_has ls 5 [(0, .ref (a 0)), (1, .int x1), (2, .int x2), (4, .int x4)] → W p l e (headSpec ow_dm_X18_first ({ frames := 5, cells := 0, slots := 0, locals := 111 })).room s m args below meth c H locs 0 0 Q (F0 m 130 ls [])
def dj_X18_first_0 (p : Program) (l : Launch) (e : Env) (s : State) (m : MethodId) (args : Array Value) (below : List Frame) (meth : Method) (c : Code) (Q : State → Prop) (A : Nat → Prop) (dC : Nat → ClassId) (dI : Nat → Nat → Nat) (a : Nat → Nat) (ac : Nat → ClassId) (g : (St) → Option (St)) (r : St) : Prop := ∀ (s0 : St) (H : Heap) (locs : List Loc) (ls : Array Slot), g s0 = some r → va_P (dC, dI) vwCl (dw_X18 a ac s0) H → va_D A (dw_X18 a ac s0) → va_S A s.heap H locs → lv_has ls 5 [(0, .ref (a 0))] → W p l e (headSpec ow_dm_X18_first ({ frames := 5, cells := 0, slots := 0, locals := 111 })).room s m args below meth c H locs 0 0 Q (F0 m 0 ls [])
set_option maxHeartbeats 40000000 in
set_option maxRecDepth 100000 in
theorem db_X18_first_180 {p : Program} {l : Launch} {e : Env} {s : State} {m : MethodId} {args : Array Value} {below : List Frame} {meth : Method} {c : Code} {Q : State → Prop} {A : Nat → Prop} {dC : Nat → ClassId} {dI : Nat → Nat → Nat} {a : Nat → Nat} {ac : Nat → ClassId} {n : Nat} {r : St} (C : nd_C p l s m args c A (dC, dI) cX18_first 5 RX18 ow_dm_X18_first (dk_X18 ac)) (K : nd_Kv p l e (headSpec ow_dm_X18_first ({ frames := 5, cells := 0, slots := 0, locals := 111 })).room s m args below meth c Q A (dC, dI) cX18_first (St) (dw_X18 a ac) r) : dj_X18_first_180 p l e s m args below meth c Q A dC dI a ac (df_X18_first_180 n) r := by
  obtain ⟨hlt, hx, hb, hml, hown, hts, hN, hA, hK⟩ := id C
  intro s0 H locs ls h hP hD hS hl
  unfold df_X18_first_180 at h
  exact K _ _ _ _ _ dX18_first_180 (Option.some.inj h).symm hP hD hS
set_option maxHeartbeats 40000000 in
set_option maxRecDepth 100000 in
theorem db_X18_first_165 {p : Program} {l : Launch} {e : Env} {s : State} {m : MethodId} {args : Array Value} {below : List Frame} {meth : Method} {c : Code} {Q : State → Prop} {A : Nat → Prop} {dC : Nat → ClassId} {dI : Nat → Nat → Nat} {a : Nat → Nat} {ac : Nat → ClassId} {n : Nat} {r : St} (C : nd_C p l s m args c A (dC, dI) cX18_first 5 RX18 ow_dm_X18_first (dk_X18 ac)) (K : nd_Kv p l e (headSpec ow_dm_X18_first ({ frames := 5, cells := 0, slots := 0, locals := 111 })).room s m args below meth c Q A (dC, dI) cX18_first (St) (dw_X18 a ac) r) : dj_X18_first_165 p l e s m args below meth c Q A dC dI a ac (df_X18_first_165 n) r := by
  obtain ⟨hlt, hx, hb, hml, hown, hts, hN, hA, hK⟩ := id C
  intro x1 x2 x4 y1 s0 H locs ls h hP hD hS hl
  unfold df_X18_first_165 at h
  obtain ⟨s36, hq, h⟩ := nd_b1_e h
  have hPc := hP
  have hDc := hD
  have hKc := hK
  have hFc := nd_rs hD hS hA
  refine nd_cVv (As := [.long y1]) (rest := []) (w' := dw_X18 a ac s36) ⟨hx, hb, hml, hown, hts⟩ (fun sz => dm_X18_name l hlt dC dI a ac n (y1) s0 hq sz) (cwV 1 hts gi_dm_X18_first_1 rfl rfl rfl (by decide +kernel) ⟨Nat.le_of_ble_eq_true rfl, Nat.le_of_ble_eq_true rfl⟩) hPc hDc hKc hS hA hN (va_recv hKc hPc (ci := 19) (q0 := 0) rfl rfl) rfl hl.1 rfl (Nat.le_of_ble_eq_true rfl) dX18_first_165 (fun H locs hP1 hD1 hk1 hS => ?_)
  have hP := hP1
  have hD := hD1.weaken (fun k q _ h => hFc q.1 h)
  refine lv_aload_n hx hb dX18_first_168 rfl (lv_at hl 0 rfl) ?_
  refine lv_iload_n hx hb dX18_first_169 rfl (lv_at hl 1 rfl) ?_
  obtain ⟨s39, hq, h⟩ := nd_b1_e h
  have hPc := hP
  have hDc := hD
  have hKc := hK
  have hFc := nd_rs hD hS hA
  refine nd_cVv (As := [.int x1]) (rest := []) (w' := dw_X18 a ac s39) ⟨hx, hb, hml, hown, hts⟩ (fun sz => dm_X18_register l hlt dC dI a ac n (x1) s36 hq sz) (cwV 1 hts gi_dm_X18_first_2 rfl rfl rfl (by decide +kernel) ⟨Nat.le_of_ble_eq_true rfl, Nat.le_of_ble_eq_true rfl⟩) hPc hDc hKc hS hA hN (va_recv hKc hPc (ci := 19) (q0 := 0) rfl rfl) rfl hl.1 rfl (Nat.le_of_ble_eq_true rfl) dX18_first_170 (fun H locs hP1 hD1 hk1 hS => ?_)
  have hP := hP1
  have hD := hD1.weaken (fun k q _ h => hFc q.1 h)
  refine lv_aload_n hx hb dX18_first_173 rfl (lv_at hl 0 rfl) ?_
  refine lv_iload hx hb dX18_first_174 (lv_at hl 3 rfl) ?_
  refine lv_iload_n hx hb dX18_first_176 rfl (lv_at hl 2 rfl) ?_
  obtain ⟨s42, hq, h⟩ := nd_b1_e h
  have hPc := hP
  have hDc := hD
  have hKc := hK
  have hFc := nd_rs hD hS hA
  refine nd_cVv (As := [.int x4, .int x2]) (rest := []) (w' := dw_X18 a ac s42) ⟨hx, hb, hml, hown, hts⟩ (fun sz => dm_X18_memory l hlt dC dI a ac n (x4) (x2) s39 hq sz) (cwV 2 hts gi_dm_X18_first_3 rfl rfl rfl (by decide +kernel) ⟨Nat.le_of_ble_eq_true rfl, Nat.le_of_ble_eq_true rfl⟩) hPc hDc hKc hS hA hN (va_recv hKc hPc (ci := 19) (q0 := 0) rfl rfl) rfl hl.1 rfl (Nat.le_of_ble_eq_true rfl) dX18_first_177 (fun H locs hP1 hD1 hk1 hS => ?_)
  have hP := hP1
  have hD := hD1.weaken (fun k q _ h => hFc q.1 h)
  exact (db_X18_first_180 C K)  s42 _ _ _ h hP hD hS (lv_sub hl [] rfl)
set_option maxHeartbeats 40000000 in
set_option maxRecDepth 100000 in
theorem db_X18_first_147 {p : Program} {l : Launch} {e : Env} {s : State} {m : MethodId} {args : Array Value} {below : List Frame} {meth : Method} {c : Code} {Q : State → Prop} {A : Nat → Prop} {dC : Nat → ClassId} {dI : Nat → Nat → Nat} {a : Nat → Nat} {ac : Nat → ClassId} {n : Nat} {r : St} (C : nd_C p l s m args c A (dC, dI) cX18_first 5 RX18 ow_dm_X18_first (dk_X18 ac)) (K : nd_Kv p l e (headSpec ow_dm_X18_first ({ frames := 5, cells := 0, slots := 0, locals := 111 })).room s m args below meth c Q A (dC, dI) cX18_first (St) (dw_X18 a ac) r) : dj_X18_first_147 p l e s m args below meth c Q A dC dI a ac (df_X18_first_147 n) r := by
  obtain ⟨hlt, hx, hb, hml, hown, hts, hN, hA, hK⟩ := id C
  intro x1 x2 x4 s0 H locs ls h hP hD hS hl
  unfold df_X18_first_147 at h
  refine lv_aload_n hx hb dX18_first_147 rfl (lv_at hl 0 rfl) ?_
  refine lv_aload_n hx hb dX18_first_148 rfl (lv_at hl 0 rfl) ?_
  refine va_get (D := (dC, dI)) (ci := 19) (v := .int (sI s0 7)) (C := RX18) (T := TX18) (N := 10) hx hb hts hi_dm_X18_first_X18 hown hK hP 0 rfl rfl 8 (by decide) (hts (.fieldLink RX18 80 "TimeMachineModel$Reader" "f" "I") (List.mem_of_getElem? (i := 5) rfl)) (fun _ h9 => h9) rfl dX18_first_149 ?_
  refine lv_iconst (v := 2) hx hb dX18_first_152 (by decide) ?_
  refine lv_icmp_ne (tgt := 162) hx hb dX18_first_153 (by decide) (fun c34 => ?_) (fun c34 => ?_)
  · have h := nd_neg h c34
    refine lv_ldc2 hx hb hown (hts (.constantLong RX18 259 (2004037219)) (List.mem_of_getElem? (i := 6) rfl)) dX18_first_162 ?_
    exact (db_X18_first_165 C K) (x1) (x2) (x4) (2004037219) s0 _ _ _ h hP hD hS (lv_sub hl [0, 1, 2, 3] rfl)
  · have h := nd_pos h c34
    refine lv_ldc2 hx hb hown (hts (.constantLong RX18 257 (2003578467)) (List.mem_of_getElem? (i := 16) rfl)) dX18_first_156 ?_
    refine lv_goto (tgt := 165) hx hb dX18_first_159 (by decide) ?_
    exact (db_X18_first_165 C K) (x1) (x2) (x4) (2003578467) s0 _ _ _ h hP hD hS (lv_sub hl [0, 1, 2, 3] rfl)
set_option maxHeartbeats 40000000 in
set_option maxRecDepth 100000 in
theorem db_X18_first_130 {p : Program} {l : Launch} {e : Env} {s : State} {m : MethodId} {args : Array Value} {below : List Frame} {meth : Method} {c : Code} {Q : State → Prop} {A : Nat → Prop} {dC : Nat → ClassId} {dI : Nat → Nat → Nat} {a : Nat → Nat} {ac : Nat → ClassId} {n : Nat} {r : St} (C : nd_C p l s m args c A (dC, dI) cX18_first 5 RX18 ow_dm_X18_first (dk_X18 ac)) (K : nd_Kv p l e (headSpec ow_dm_X18_first ({ frames := 5, cells := 0, slots := 0, locals := 111 })).room s m args below meth c Q A (dC, dI) cX18_first (St) (dw_X18 a ac) r) : dj_X18_first_130 p l e s m args below meth c Q A dC dI a ac (df_X18_first_130 n) r := by
  obtain ⟨hlt, hx, hb, hml, hown, hts, hN, hA, hK⟩ := id C
  intro x1 x2 x4 s0 H locs ls h hP hD hS hl
  unfold df_X18_first_130 at h
  refine lv_aload_n hx hb dX18_first_130 rfl (lv_at hl 0 rfl) ?_
  refine va_get (D := (dC, dI)) (ci := 19) (v := .int (sI s0 7)) (C := RX18) (T := TX18) (N := 10) hx hb hts hi_dm_X18_first_X18 hown hK hP 0 rfl rfl 8 (by decide) (hts (.fieldLink RX18 80 "TimeMachineModel$Reader" "f" "I") (List.mem_of_getElem? (i := 5) rfl)) (fun _ h9 => h9) rfl dX18_first_131 ?_
  refine lv_iconst (v := 2) hx hb dX18_first_134 (by decide) ?_
  refine lv_icmp_eq (tgt := 147) hx hb dX18_first_135 (by decide) (fun c33 => ?_) (fun c33 => ?_)
  · have h := nd_pos h c33
    exact (db_X18_first_147 C K) (x1) (x2) (x4) s0 _ _ _ h hP hD hS (lv_sub hl [0, 1, 2, 3] rfl)
  · have h := nd_neg h c33
    refine lv_aload_n hx hb dX18_first_138 rfl (lv_at hl 0 rfl) ?_
    refine va_get (D := (dC, dI)) (ci := 19) (v := .int (sI s0 7)) (C := RX18) (T := TX18) (N := 10) hx hb hts hi_dm_X18_first_X18 hown hK hP 0 rfl rfl 8 (by decide) (hts (.fieldLink RX18 80 "TimeMachineModel$Reader" "f" "I") (List.mem_of_getElem? (i := 5) rfl)) (fun _ h9 => h9) rfl dX18_first_139 ?_
    refine lv_bipush (v := 6) hx hb dX18_first_142 (by decide) ?_
    refine lv_icmp_ne (tgt := 180) hx hb dX18_first_144 (by decide) (fun c44 => ?_) (fun c44 => ?_)
    · have h := nd_neg h c44
      exact (db_X18_first_180 C K)  s0 _ _ _ h hP hD hS (lv_sub hl [] rfl)
    · have h := nd_pos h c44
      exact (db_X18_first_147 C K) (x1) (x2) (x4) s0 _ _ _ h hP hD hS (lv_sub hl [0, 1, 2, 3] rfl)
set_option maxHeartbeats 40000000 in
set_option maxRecDepth 100000 in
theorem db_X18_first_0 {p : Program} {l : Launch} {e : Env} {s : State} {m : MethodId} {args : Array Value} {below : List Frame} {meth : Method} {c : Code} {Q : State → Prop} {A : Nat → Prop} {dC : Nat → ClassId} {dI : Nat → Nat → Nat} {a : Nat → Nat} {ac : Nat → ClassId} {n : Nat} {r : St} (C : nd_C p l s m args c A (dC, dI) cX18_first 5 RX18 ow_dm_X18_first (dk_X18 ac)) (K : nd_Kv p l e (headSpec ow_dm_X18_first ({ frames := 5, cells := 0, slots := 0, locals := 111 })).room s m args below meth c Q A (dC, dI) cX18_first (St) (dw_X18 a ac) r) : dj_X18_first_0 p l e s m args below meth c Q A dC dI a ac (df_X18_first_0 n) r := by
  obtain ⟨hlt, hx, hb, hml, hown, hts, hN, hA, hK⟩ := id C
  intro s0 H locs ls h hP hD hS hl
  unfold df_X18_first_0 at h
  refine lv_bipush (v := 8) hx hb dX18_first_0 (by decide) ?_
  refine lv_aload_n hx hb dX18_first_2 rfl (lv_at hl 0 rfl) ?_
  refine lv_iconst (v := 2) hx hb dX18_first_3 (by decide) ?_
  refine lv_iconst (v := 3) hx hb dX18_first_4 (by decide) ?_
  obtain ⟨q1, s2, hq, h⟩ := nd_b2_e h
  have hPc := hP
  have hDc := hD
  have hKc := hK
  have hFc := nd_rs hD hS hA
  refine nd_cVi (As := [.int 2, .int 3]) (rest := [.int 8]) (q := q1) (w' := dw_X18 a ac s2) ⟨hx, hb, hml, hown, hts⟩ (fun sz => dm_X18_part l hlt dC dI a ac n (2) (3) s0 hq sz) (cwV 2 hts gi_dm_X18_first_0 rfl rfl rfl (by decide +kernel) ⟨Nat.le_of_ble_eq_true rfl, Nat.le_of_ble_eq_true rfl⟩) hPc hDc hKc hS hA hN (va_recv hKc hPc (ci := 19) (q0 := 0) rfl rfl) rfl hl.1 rfl (Nat.le_of_ble_eq_true rfl) dX18_first_5 (fun H locs hP1 hD1 hk1 hS => ?_)
  have hP := hP1
  have hD := hD1.weaken (fun k q _ h => hFc q.1 h)
  refine lv_iadd hx hb dX18_first_8 ?_
  refine lv_topi (fun z4 ez4 => ?_)
  have h := nd_at h ez4
  refine lv_istore_n (lv' := [(1, .int z4), (0, .ref (a 0))]) hx hb dX18_first_9 rfl hl (by decide) rfl (fun ls hl => ?_)
  refine lv_bipush (v := 8) hx hb dX18_first_10 (by decide) ?_
  refine lv_aload_n hx hb dX18_first_12 rfl (lv_at hl 1 rfl) ?_
  refine lv_bipush (v := 7) hx hb dX18_first_13 (by decide) ?_
  refine lv_iconst (v := 3) hx hb dX18_first_15 (by decide) ?_
  obtain ⟨q5, s6, hq, h⟩ := nd_b2_e h
  have hPc := hP
  have hDc := hD
  have hKc := hK
  have hFc := nd_rs hD hS hA
  refine nd_cVi (As := [.int 7, .int 3]) (rest := [.int 8]) (q := q5) (w' := dw_X18 a ac s6) ⟨hx, hb, hml, hown, hts⟩ (fun sz => dm_X18_part l hlt dC dI a ac n (7) (3) s2 hq sz) (cwV 2 hts gi_dm_X18_first_0 rfl rfl rfl (by decide +kernel) ⟨Nat.le_of_ble_eq_true rfl, Nat.le_of_ble_eq_true rfl⟩) hPc hDc hKc hS hA hN (va_recv hKc hPc (ci := 19) (q0 := 0) rfl rfl) rfl hl.1 rfl (Nat.le_of_ble_eq_true rfl) dX18_first_16 (fun H locs hP1 hD1 hk1 hS => ?_)
  have hP := hP1
  have hD := hD1.weaken (fun k q _ h => hFc q.1 h)
  refine lv_iadd hx hb dX18_first_19 ?_
  refine lv_topi (fun z8 ez8 => ?_)
  have h := nd_at h ez8
  refine lv_istore_n (lv' := [(2, .int z8), (1, .int z4), (0, .ref (a 0))]) hx hb dX18_first_20 rfl hl (by decide) rfl (fun ls hl => ?_)
  refine lv_aload_n hx hb dX18_first_21 rfl (lv_at hl 2 rfl) ?_
  refine lv_bipush (v := 11) hx hb dX18_first_22 (by decide) ?_
  refine lv_iconst (v := 2) hx hb dX18_first_24 (by decide) ?_
  obtain ⟨q9, s10, hq, h⟩ := nd_b2_e h
  have hPc := hP
  have hDc := hD
  have hKc := hK
  have hFc := nd_rs hD hS hA
  refine nd_cVi (As := [.int 11, .int 2]) (rest := []) (q := q9) (w' := dw_X18 a ac s10) ⟨hx, hb, hml, hown, hts⟩ (fun sz => dm_X18_part l hlt dC dI a ac n (11) (2) s6 hq sz) (cwV 2 hts gi_dm_X18_first_0 rfl rfl rfl (by decide +kernel) ⟨Nat.le_of_ble_eq_true rfl, Nat.le_of_ble_eq_true rfl⟩) hPc hDc hKc hS hA hN (va_recv hKc hPc (ci := 19) (q0 := 0) rfl rfl) rfl hl.1 rfl (Nat.le_of_ble_eq_true rfl) dX18_first_25 (fun H locs hP1 hD1 hk1 hS => ?_)
  have hP := hP1
  have hD := hD1.weaken (fun k q _ h => hFc q.1 h)
  refine lv_iconst (v := 4) hx hb dX18_first_28 (by decide) ?_
  refine lv_ishl hx hb dX18_first_29 ?_
  refine lv_aload_n hx hb dX18_first_30 rfl (lv_at hl 2 rfl) ?_
  refine lv_bipush (v := 7) hx hb dX18_first_31 (by decide) ?_
  refine lv_iconst (v := 4) hx hb dX18_first_33 (by decide) ?_
  obtain ⟨q12, s13, hq, h⟩ := nd_b2_e h
  have hPc := hP
  have hDc := hD
  have hKc := hK
  have hFc := nd_rs hD hS hA
  refine nd_cVi (As := [.int 7, .int 4]) (rest := [.int ((q9 : Int32) <<< ((4 : Int32) &&& 31))]) (q := q12) (w' := dw_X18 a ac s13) ⟨hx, hb, hml, hown, hts⟩ (fun sz => dm_X18_part l hlt dC dI a ac n (7) (4) s10 hq sz) (cwV 2 hts gi_dm_X18_first_0 rfl rfl rfl (by decide +kernel) ⟨Nat.le_of_ble_eq_true rfl, Nat.le_of_ble_eq_true rfl⟩) hPc hDc hKc hS hA hN (va_recv hKc hPc (ci := 19) (q0 := 0) rfl rfl) rfl hl.1 rfl (Nat.le_of_ble_eq_true rfl) dX18_first_34 (fun H locs hP1 hD1 hk1 hS => ?_)
  have hP := hP1
  have hD := hD1.weaken (fun k q _ h => hFc q.1 h)
  refine lv_bipush (v := 6) hx hb dX18_first_37 (by decide) ?_
  refine lv_ishl hx hb dX18_first_39 ?_
  refine lv_ior hx hb dX18_first_40 ?_
  refine lv_aload_n hx hb dX18_first_41 rfl (lv_at hl 2 rfl) ?_
  refine lv_bipush (v := 6) hx hb dX18_first_42 (by decide) ?_
  refine lv_iconst (v := 1) hx hb dX18_first_44 (by decide) ?_
  obtain ⟨q15, s16, hq, h⟩ := nd_b2_e h
  have hPc := hP
  have hDc := hD
  have hKc := hK
  have hFc := nd_rs hD hS hA
  refine nd_cVi (As := [.int 6, .int 1]) (rest := [.int (((q9 : Int32) <<< ((4 : Int32) &&& 31)) ||| ((q12 : Int32) <<< ((6 : Int32) &&& 31)))]) (q := q15) (w' := dw_X18 a ac s16) ⟨hx, hb, hml, hown, hts⟩ (fun sz => dm_X18_part l hlt dC dI a ac n (6) (1) s13 hq sz) (cwV 2 hts gi_dm_X18_first_0 rfl rfl rfl (by decide +kernel) ⟨Nat.le_of_ble_eq_true rfl, Nat.le_of_ble_eq_true rfl⟩) hPc hDc hKc hS hA hN (va_recv hKc hPc (ci := 19) (q0 := 0) rfl rfl) rfl hl.1 rfl (Nat.le_of_ble_eq_true rfl) dX18_first_45 (fun H locs hP1 hD1 hk1 hS => ?_)
  have hP := hP1
  have hD := hD1.weaken (fun k q _ h => hFc q.1 h)
  refine lv_iconst (v := 2) hx hb dX18_first_48 (by decide) ?_
  refine lv_ishl hx hb dX18_first_49 ?_
  refine lv_ior hx hb dX18_first_50 ?_
  refine lv_aload_n hx hb dX18_first_51 rfl (lv_at hl 2 rfl) ?_
  refine lv_iconst (v := 5) hx hb dX18_first_52 (by decide) ?_
  refine lv_iconst (v := 1) hx hb dX18_first_53 (by decide) ?_
  obtain ⟨q18, s19, hq, h⟩ := nd_b2_e h
  have hPc := hP
  have hDc := hD
  have hKc := hK
  have hFc := nd_rs hD hS hA
  refine nd_cVi (As := [.int 5, .int 1]) (rest := [.int ((((q9 : Int32) <<< ((4 : Int32) &&& 31)) ||| ((q12 : Int32) <<< ((6 : Int32) &&& 31))) ||| ((q15 : Int32) <<< ((2 : Int32) &&& 31)))]) (q := q18) (w' := dw_X18 a ac s19) ⟨hx, hb, hml, hown, hts⟩ (fun sz => dm_X18_part l hlt dC dI a ac n (5) (1) s16 hq sz) (cwV 2 hts gi_dm_X18_first_0 rfl rfl rfl (by decide +kernel) ⟨Nat.le_of_ble_eq_true rfl, Nat.le_of_ble_eq_true rfl⟩) hPc hDc hKc hS hA hN (va_recv hKc hPc (ci := 19) (q0 := 0) rfl rfl) rfl hl.1 rfl (Nat.le_of_ble_eq_true rfl) dX18_first_54 (fun H locs hP1 hD1 hk1 hS => ?_)
  have hP := hP1
  have hD := hD1.weaken (fun k q _ h => hFc q.1 h)
  refine lv_iconst (v := 3) hx hb dX18_first_57 (by decide) ?_
  refine lv_ishl hx hb dX18_first_58 ?_
  refine lv_ior hx hb dX18_first_59 ?_
  refine lv_topi (fun z21 ez21 => ?_)
  have h := nd_at h ez21
  refine lv_istore_n (lv' := [(3, .int z21), (2, .int z8), (1, .int z4), (0, .ref (a 0))]) hx hb dX18_first_60 rfl hl (by decide) rfl (fun ls hl => ?_)
  refine lv_aload_n hx hb dX18_first_61 rfl (lv_at hl 3 rfl) ?_
  refine lv_bipush (v := 10) hx hb dX18_first_62 (by decide) ?_
  refine lv_iconst (v := 3) hx hb dX18_first_64 (by decide) ?_
  obtain ⟨q22, s23, hq, h⟩ := nd_b2_e h
  have hPc := hP
  have hDc := hD
  have hKc := hK
  have hFc := nd_rs hD hS hA
  refine nd_cVi (As := [.int 10, .int 3]) (rest := []) (q := q22) (w' := dw_X18 a ac s23) ⟨hx, hb, hml, hown, hts⟩ (fun sz => dm_X18_part l hlt dC dI a ac n (10) (3) s19 hq sz) (cwV 2 hts gi_dm_X18_first_0 rfl rfl rfl (by decide +kernel) ⟨Nat.le_of_ble_eq_true rfl, Nat.le_of_ble_eq_true rfl⟩) hPc hDc hKc hS hA hN (va_recv hKc hPc (ci := 19) (q0 := 0) rfl rfl) rfl hl.1 rfl (Nat.le_of_ble_eq_true rfl) dX18_first_65 (fun H locs hP1 hD1 hk1 hS => ?_)
  have hP := hP1
  have hD := hD1.weaken (fun k q _ h => hFc q.1 h)
  refine lv_iconst (v := 3) hx hb dX18_first_68 (by decide) ?_
  refine lv_ishl hx hb dX18_first_69 ?_
  refine lv_aload_n hx hb dX18_first_70 rfl (lv_at hl 3 rfl) ?_
  refine lv_bipush (v := 6) hx hb dX18_first_71 (by decide) ?_
  refine lv_iconst (v := 1) hx hb dX18_first_73 (by decide) ?_
  obtain ⟨q25, s26, hq, h⟩ := nd_b2_e h
  have hPc := hP
  have hDc := hD
  have hKc := hK
  have hFc := nd_rs hD hS hA
  refine nd_cVi (As := [.int 6, .int 1]) (rest := [.int ((q22 : Int32) <<< ((3 : Int32) &&& 31))]) (q := q25) (w' := dw_X18 a ac s26) ⟨hx, hb, hml, hown, hts⟩ (fun sz => dm_X18_part l hlt dC dI a ac n (6) (1) s23 hq sz) (cwV 2 hts gi_dm_X18_first_0 rfl rfl rfl (by decide +kernel) ⟨Nat.le_of_ble_eq_true rfl, Nat.le_of_ble_eq_true rfl⟩) hPc hDc hKc hS hA hN (va_recv hKc hPc (ci := 19) (q0 := 0) rfl rfl) rfl hl.1 rfl (Nat.le_of_ble_eq_true rfl) dX18_first_74 (fun H locs hP1 hD1 hk1 hS => ?_)
  have hP := hP1
  have hD := hD1.weaken (fun k q _ h => hFc q.1 h)
  refine lv_iconst (v := 2) hx hb dX18_first_77 (by decide) ?_
  refine lv_ishl hx hb dX18_first_78 ?_
  refine lv_ior hx hb dX18_first_79 ?_
  refine lv_aload_n hx hb dX18_first_80 rfl (lv_at hl 3 rfl) ?_
  refine lv_iconst (v := 5) hx hb dX18_first_81 (by decide) ?_
  refine lv_iconst (v := 1) hx hb dX18_first_82 (by decide) ?_
  obtain ⟨q28, s29, hq, h⟩ := nd_b2_e h
  have hPc := hP
  have hDc := hD
  have hKc := hK
  have hFc := nd_rs hD hS hA
  refine nd_cVi (As := [.int 5, .int 1]) (rest := [.int (((q22 : Int32) <<< ((3 : Int32) &&& 31)) ||| ((q25 : Int32) <<< ((2 : Int32) &&& 31)))]) (q := q28) (w' := dw_X18 a ac s29) ⟨hx, hb, hml, hown, hts⟩ (fun sz => dm_X18_part l hlt dC dI a ac n (5) (1) s26 hq sz) (cwV 2 hts gi_dm_X18_first_0 rfl rfl rfl (by decide +kernel) ⟨Nat.le_of_ble_eq_true rfl, Nat.le_of_ble_eq_true rfl⟩) hPc hDc hKc hS hA hN (va_recv hKc hPc (ci := 19) (q0 := 0) rfl rfl) rfl hl.1 rfl (Nat.le_of_ble_eq_true rfl) dX18_first_83 (fun H locs hP1 hD1 hk1 hS => ?_)
  have hP := hP1
  have hD := hD1.weaken (fun k q _ h => hFc q.1 h)
  refine lv_bipush (v := 6) hx hb dX18_first_86 (by decide) ?_
  refine lv_ishl hx hb dX18_first_88 ?_
  refine lv_ior hx hb dX18_first_89 ?_
  refine lv_topi (fun z31 ez31 => ?_)
  have h := nd_at h ez31
  refine lv_istore (lv' := [(4, .int z31), (3, .int z21), (2, .int z8), (1, .int z4), (0, .ref (a 0))]) hx hb dX18_first_90 hl (by decide) rfl (fun ls hl => ?_)
  refine lv_aload_n hx hb dX18_first_92 rfl (lv_at hl 4 rfl) ?_
  refine va_get (D := (dC, dI)) (ci := 19) (v := .int (sI s29 7)) (C := RX18) (T := TX18) (N := 10) hx hb hts hi_dm_X18_first_X18 hown hK hP 0 rfl rfl 8 (by decide) (hts (.fieldLink RX18 80 "TimeMachineModel$Reader" "f" "I") (List.mem_of_getElem? (i := 5) rfl)) (fun _ h9 => h9) rfl dX18_first_93 ?_
  refine lv_if_ne (tgt := 130) hx hb dX18_first_96 (by decide) (fun c32 => ?_) (fun c32 => ?_)
  · have h := nd_neg h c32
    exact (db_X18_first_130 C K) (z4) (z8) (z31) s29 _ _ _ h hP hD hS (lv_sub hl [4, 3, 2, 0] rfl)
  · have h := nd_pos h c32
    refine lv_iload_n hx hb dX18_first_99 rfl (lv_at hl 1 rfl) ?_
    refine lv_if_le (tgt := 130) hx hb dX18_first_100 (by decide) (fun c45 => ?_) (fun c45 => ?_)
    · have h := nd_pos h c45
      exact (db_X18_first_130 C K) (z4) (z8) (z31) s29 _ _ _ h hP hD hS (lv_sub hl [4, 3, 2, 0] rfl)
    · have h := nd_neg h c45
      refine lv_aload_n hx hb dX18_first_103 rfl (lv_at hl 4 rfl) ?_
      refine lv_ldc2 hx hb hown (hts (.constantLong RX18 253 (8301375893052403299)) (List.mem_of_getElem? (i := 17) rfl)) dX18_first_104 ?_
      obtain ⟨s47, hq, h⟩ := nd_b1_e h
      have hPc := hP
      have hDc := hD
      have hKc := hK
      have hFc := nd_rs hD hS hA
      refine nd_cVv (As := [.long 8301375893052403299]) (rest := []) (w' := dw_X18 a ac s47) ⟨hx, hb, hml, hown, hts⟩ (fun sz => dm_X18_name l hlt dC dI a ac n (8301375893052403299) s29 hq sz) (cwV 1 hts gi_dm_X18_first_1 rfl rfl rfl (by decide +kernel) ⟨Nat.le_of_ble_eq_true rfl, Nat.le_of_ble_eq_true rfl⟩) hPc hDc hKc hS hA hN (va_recv hKc hPc (ci := 19) (q0 := 0) rfl rfl) rfl hl.1 rfl (Nat.le_of_ble_eq_true rfl) dX18_first_107 (fun H locs hP1 hD1 hk1 hS => ?_)
      have hP := hP1
      have hD := hD1.weaken (fun k q _ h => hFc q.1 h)
      refine lv_aload_n hx hb dX18_first_110 rfl (lv_at hl 4 rfl) ?_
      refine lv_ldc2 hx hb hown (hts (.constantLong RX18 255 (28272)) (List.mem_of_getElem? (i := 18) rfl)) dX18_first_111 ?_
      obtain ⟨s50, hq, h⟩ := nd_b1_e h
      have hPc := hP
      have hDc := hD
      have hKc := hK
      have hFc := nd_rs hD hS hA
      refine nd_cVv (As := [.long 28272]) (rest := []) (w' := dw_X18 a ac s50) ⟨hx, hb, hml, hown, hts⟩ (fun sz => dm_X18_say l hlt dC dI a ac n (28272) s47 hq sz) (cwV 1 hts gi_dm_X18_first_4 rfl rfl rfl (by decide +kernel) ⟨Nat.le_of_ble_eq_true rfl, Nat.le_of_ble_eq_true rfl⟩) hPc hDc hKc hS hA hN (va_recv hKc hPc (ci := 19) (q0 := 0) rfl rfl) rfl hl.1 rfl (Nat.le_of_ble_eq_true rfl) dX18_first_114 (fun H locs hP1 hD1 hk1 hS => ?_)
      have hP := hP1
      have hD := hD1.weaken (fun k q _ h => hFc q.1 h)
      refine lv_aload_n hx hb dX18_first_117 rfl (lv_at hl 4 rfl) ?_
      refine lv_iload_n hx hb dX18_first_118 rfl (lv_at hl 3 rfl) ?_
      obtain ⟨s53, hq, h⟩ := nd_b1_e h
      have hPc := hP
      have hDc := hD
      have hKc := hK
      have hFc := nd_rs hD hS hA
      refine nd_cVv (As := [.int z4]) (rest := []) (w' := dw_X18 a ac s53) ⟨hx, hb, hml, hown, hts⟩ (fun sz => dm_X18_register l hlt dC dI a ac n (z4) s50 hq sz) (cwV 1 hts gi_dm_X18_first_2 rfl rfl rfl (by decide +kernel) ⟨Nat.le_of_ble_eq_true rfl, Nat.le_of_ble_eq_true rfl⟩) hPc hDc hKc hS hA hN (va_recv hKc hPc (ci := 19) (q0 := 0) rfl rfl) rfl hl.1 rfl (Nat.le_of_ble_eq_true rfl) dX18_first_119 (fun H locs hP1 hD1 hk1 hS => ?_)
      have hP := hP1
      have hD := hD1.weaken (fun k q _ h => hFc q.1 h)
      refine lv_aload_n hx hb dX18_first_122 rfl (lv_at hl 4 rfl) ?_
      refine lv_iload_n hx hb dX18_first_123 rfl (lv_at hl 1 rfl) ?_
      obtain ⟨s56, hq, h⟩ := nd_b1_e h
      have hPc := hP
      have hDc := hD
      have hKc := hK
      have hFc := nd_rs hD hS hA
      refine nd_cVv (As := [.int z21]) (rest := []) (w' := dw_X18 a ac s56) ⟨hx, hb, hml, hown, hts⟩ (fun sz => dm_X18_immediate l hlt dC dI a ac n (z21) s53 hq sz) (cwV 1 hts gi_dm_X18_first_5 rfl rfl rfl (by decide +kernel) ⟨Nat.le_of_ble_eq_true rfl, Nat.le_of_ble_eq_true rfl⟩) hPc hDc hKc hS hA hN (va_recv hKc hPc (ci := 19) (q0 := 0) rfl rfl) rfl hl.1 rfl (Nat.le_of_ble_eq_true rfl) dX18_first_124 (fun H locs hP1 hD1 hk1 hS => ?_)
      have hP := hP1
      have hD := hD1.weaken (fun k q _ h => hFc q.1 h)
      refine lv_goto (tgt := 180) hx hb dX18_first_127 (by decide) ?_
      exact (db_X18_first_180 C K)  s56 _ _ _ h hP hD hS (lv_sub hl [] rfl)
set_option maxHeartbeats 40000000 in
set_option maxRecDepth 100000 in
theorem dm_X18_first (l : Launch) (hlt : l.stackTraces = false) (dC : Nat → ClassId) (dI : Nat → Nat → Nat) (a : Nat → Nat) (ac : Nat → ClassId) (n : Nat) (s0 : St) {r : St} (h : df_X18_first n s0 = some r) (sz : Nat) : Met l yX18_first ow_dm_X18_first ({ frames := 5, cells := 0, slots := 0, locals := 111 }) (va_Pc [.ref (a 0)] (fun U => U.heap.size = sz ∧ va_P (dC, dI) vwCl (dw_X18 a ac s0) U.heap ∧ va_K (dC, dI) vwCl (dk_X18 ac) U ∧ va_D (fun _ => True) (dw_X18 a ac s0) ∧ nv_E dI (va_A (dw_X18 a ac s0) sz) U)) (va_Qv (fun _ => True) (fun (_ : Unit) t => va_P (dC, dI) vwCl (dw_X18 a ac r) t.heap ∧ va_K (dC, dI) vwCl (dk_X18 ac) t ∧ va_D (va_A (dw_X18 a ac s0) sz) (dw_X18 a ac r)) (va_A (dw_X18 a ac s0) sz)) 0 0 (va_A (dw_X18 a ac s0) sz) := by
  refine Met.ofW (cc := cX18_first) (maxL := 5) (ret := none) (by decide) rfl ?_
  intro p e s m args below meth c s₁ B hml hv
  obtain ⟨rfl, hsz, hP, hK, hD0, hN⟩ := hv
  have hx := B.exec
  have hb := B.bytes
  have hr := B.returns
  have hts := atoms_spec (ws := ow_dm_X18_first) B.pre
  have hown : s.vm.findClass RX18 = some m.cls := findClass_of_methodNamed B.named
  have hlocks := B.notSynchronized
  subst hsz
  have hD := hD0.self (sz := s.heap.size)
  generalize hAe : va_A (dw_X18 a ac s0) s.heap.size = A at hD hN ⊢
  have hA : ∀ q : Nat, s.heap.size ≤ q → A q := fun q h => by rw [← hAe]; exact Or.inr h
  have hl := lv_entry ([.ref (a 0)]) (n := 5) (Nat.le_of_ble_eq_true rfl)
  rw [lg_entry_eq]
  generalize (lg_sl ([.ref (a 0)]) ++ List.replicate (5 - (lg_sl ([.ref (a 0)])).length) Slot.unset).toArray = ls at hl ⊢
  have hl : lv_has ls 5 [(0, .ref (a 0))] := hl
  exact db_X18_first_0 (dC := dC) (dI := dI) (a := a) (ac := ac) (n := n) (r := r) ⟨hlt, hx, hb, hml, hown, hts, hN, hA, hK⟩ (fun pc τ H locs ls d er hP hD hS => by subst er; exact W.vret hx hb hr (fun t ht hW => ⟨⟨(), rfl, trivial, by rw [ht]; exact hP, va_K.moved hW.alike hK, hD⟩, hS.F ht⟩) hS.2.2 d) s0 _ _ _ h hP hD va_S.rf (lv_sub hl [0] rfl)
def ow_dm_X18_jump : List Cond := Cond.code yX18_jump cX18_jump 3 none :: ([Cond.methodLink RX18 65 yX18_name, Cond.instanceMethod yX18_name, Cond.selects RX18 yX18_name yX18_name, Cond.initialized RX18, Cond.methodLink RX18 172 yX18_part, Cond.instanceMethod yX18_part, Cond.selects RX18 yX18_part yX18_part, Cond.methodLink RX18 176 yX18_target, Cond.instanceMethod yX18_target, Cond.selects RX18 yX18_target yX18_target] ++ (ow_dm_X18_name ++ (ow_dm_X18_part ++ (ow_dm_X18_target ++ []))))
theorem gd_dm_X18_jump : ∀ w ∈ ow_dm_X18_jump, (w.onTables && w.keeps) = true ∨ ∃ ty, w = Cond.arrayClass ty := List.forall_mem_cons.mpr ⟨good_of_word rfl, List.forall_mem_append.mpr ⟨fun w h => good_of_word (List.all_eq_true.mp (by decide +kernel) w h), List.forall_mem_append.mpr ⟨gd_dm_X18_name, List.forall_mem_append.mpr ⟨gd_dm_X18_part, List.forall_mem_append.mpr ⟨gd_dm_X18_target, fun _ h => nomatch h⟩⟩⟩⟩⟩
theorem gi_dm_X18_jump_0 : GoodIn ow_dm_X18_jump (wsV RX18 65 RX18 yX18_name ow_dm_X18_name) := goodIn_app (goodIn_of _ (by decide +kernel)) (fun w h => ⟨List.mem_cons_of_mem _ (List.mem_append_right _ (List.mem_append_left _ h)), gd_dm_X18_name w h⟩)
theorem gi_dm_X18_jump_1 : GoodIn ow_dm_X18_jump (wsV RX18 172 RX18 yX18_part ow_dm_X18_part) := goodIn_app (goodIn_of _ (by decide +kernel)) (fun w h => ⟨List.mem_cons_of_mem _ (List.mem_append_right _ (List.mem_append_right _ (List.mem_append_left _ h))), gd_dm_X18_part w h⟩)
theorem gi_dm_X18_jump_2 : GoodIn ow_dm_X18_jump (wsV RX18 176 RX18 yX18_target ow_dm_X18_target) := goodIn_app (goodIn_of _ (by decide +kernel)) (fun w h => ⟨List.mem_cons_of_mem _ (List.mem_append_right _ (List.mem_append_right _ (List.mem_append_right _ (List.mem_append_left _ h)))), gd_dm_X18_target w h⟩)
def dj_X18_jump_0 (p : Program) (l : Launch) (e : Env) (s : State) (m : MethodId) (args : Array Value) (below : List Frame) (meth : Method) (c : Code) (Q : State → Prop) (A : Nat → Prop) (dC : Nat → ClassId) (dI : Nat → Nat → Nat) (a : Nat → Nat) (ac : Nat → ClassId) (g : Int64 → (St) → Option (St)) (r : St) : Prop := ∀ (v0 : Int64) (s0 : St) (H : Heap) (locs : List Loc) (ls : Array Slot), g v0 s0 = some r → va_P (dC, dI) vwCl (dw_X18 a ac s0) H → va_D A (dw_X18 a ac s0) → va_S A s.heap H locs → lv_has ls 3 [(0, .ref (a 0)), (1, .long v0)] → W p l e (headSpec ow_dm_X18_jump ({ frames := 4, cells := 0, slots := 0, locals := 89 })).room s m args below meth c H locs 0 0 Q (F0 m 0 ls [])
set_option maxHeartbeats 40000000 in
set_option maxRecDepth 100000 in
theorem db_X18_jump_0 {p : Program} {l : Launch} {e : Env} {s : State} {m : MethodId} {args : Array Value} {below : List Frame} {meth : Method} {c : Code} {Q : State → Prop} {A : Nat → Prop} {dC : Nat → ClassId} {dI : Nat → Nat → Nat} {a : Nat → Nat} {ac : Nat → ClassId} {n : Nat} {r : St} (C : nd_C p l s m args c A (dC, dI) cX18_jump 3 RX18 ow_dm_X18_jump (dk_X18 ac)) (K : nd_Kv p l e (headSpec ow_dm_X18_jump ({ frames := 4, cells := 0, slots := 0, locals := 89 })).room s m args below meth c Q A (dC, dI) cX18_jump (St) (dw_X18 a ac) r) : dj_X18_jump_0 p l e s m args below meth c Q A dC dI a ac (df_X18_jump_0 n) r := by
  obtain ⟨hlt, hx, hb, hml, hown, hts, hN, hA, hK⟩ := id C
  intro v0 s0 H locs ls h hP hD hS hl
  unfold df_X18_jump_0 at h
  refine lv_aload_n hx hb dX18_jump_0 rfl (lv_at hl 0 rfl) ?_
  refine lv_lload_n hx hb dX18_jump_1 rfl (lv_at hl 1 rfl) ?_
  obtain ⟨s2, hq, h⟩ := nd_b1_e h
  have hPc := hP
  have hDc := hD
  have hKc := hK
  have hFc := nd_rs hD hS hA
  refine nd_cVv (As := [.long v0]) (rest := []) (w' := dw_X18 a ac s2) ⟨hx, hb, hml, hown, hts⟩ (fun sz => dm_X18_name l hlt dC dI a ac n (v0) s0 hq sz) (cwV 1 hts gi_dm_X18_jump_0 rfl rfl rfl (by decide +kernel) ⟨Nat.le_of_ble_eq_true rfl, Nat.le_of_ble_eq_true rfl⟩) hPc hDc hKc hS hA hN (va_recv hKc hPc (ci := 19) (q0 := 0) rfl rfl) rfl hl.1 rfl (Nat.le_of_ble_eq_true rfl) dX18_jump_2 (fun H locs hP1 hD1 hk1 hS => ?_)
  have hP := hP1
  have hD := hD1.weaken (fun k q _ h => hFc q.1 h)
  refine lv_aload_n hx hb dX18_jump_5 rfl (lv_at hl 0 rfl) ?_
  refine lv_aload_n hx hb dX18_jump_6 rfl (lv_at hl 0 rfl) ?_
  refine lv_iconst (v := 3) hx hb dX18_jump_7 (by decide) ?_
  refine lv_iconst (v := 3) hx hb dX18_jump_8 (by decide) ?_
  obtain ⟨q4, s5, hq, h⟩ := nd_b2_e h
  have hPc := hP
  have hDc := hD
  have hKc := hK
  have hFc := nd_rs hD hS hA
  refine nd_cVi (As := [.int 3, .int 3]) (rest := [.ref (a 0)]) (q := q4) (w' := dw_X18 a ac s5) ⟨hx, hb, hml, hown, hts⟩ (fun sz => dm_X18_part l hlt dC dI a ac n (3) (3) s2 hq sz) (cwV 2 hts gi_dm_X18_jump_1 rfl rfl rfl (by decide +kernel) ⟨Nat.le_of_ble_eq_true rfl, Nat.le_of_ble_eq_true rfl⟩) hPc hDc hKc hS hA hN (va_recv hKc hPc (ci := 19) (q0 := 0) rfl rfl) rfl hl.1 rfl (Nat.le_of_ble_eq_true rfl) dX18_jump_9 (fun H locs hP1 hD1 hk1 hS => ?_)
  have hP := hP1
  have hD := hD1.weaken (fun k q _ h => hFc q.1 h)
  refine lv_iconst (v := 1) hx hb dX18_jump_12 (by decide) ?_
  refine lv_ishl hx hb dX18_jump_13 ?_
  refine lv_aload_n hx hb dX18_jump_14 rfl (lv_at hl 0 rfl) ?_
  refine lv_bipush (v := 11) hx hb dX18_jump_15 (by decide) ?_
  refine lv_iconst (v := 1) hx hb dX18_jump_17 (by decide) ?_
  obtain ⟨q7, s8, hq, h⟩ := nd_b2_e h
  have hPc := hP
  have hDc := hD
  have hKc := hK
  have hFc := nd_rs hD hS hA
  refine nd_cVi (As := [.int 11, .int 1]) (rest := [.int ((q4 : Int32) <<< ((1 : Int32) &&& 31)), .ref (a 0)]) (q := q7) (w' := dw_X18 a ac s8) ⟨hx, hb, hml, hown, hts⟩ (fun sz => dm_X18_part l hlt dC dI a ac n (11) (1) s5 hq sz) (cwV 2 hts gi_dm_X18_jump_1 rfl rfl rfl (by decide +kernel) ⟨Nat.le_of_ble_eq_true rfl, Nat.le_of_ble_eq_true rfl⟩) hPc hDc hKc hS hA hN (va_recv hKc hPc (ci := 19) (q0 := 0) rfl rfl) rfl hl.1 rfl (Nat.le_of_ble_eq_true rfl) dX18_jump_18 (fun H locs hP1 hD1 hk1 hS => ?_)
  have hP := hP1
  have hD := hD1.weaken (fun k q _ h => hFc q.1 h)
  refine lv_iconst (v := 4) hx hb dX18_jump_21 (by decide) ?_
  refine lv_ishl hx hb dX18_jump_22 ?_
  refine lv_ior hx hb dX18_jump_23 ?_
  refine lv_aload_n hx hb dX18_jump_24 rfl (lv_at hl 0 rfl) ?_
  refine lv_iconst (v := 2) hx hb dX18_jump_25 (by decide) ?_
  refine lv_iconst (v := 1) hx hb dX18_jump_26 (by decide) ?_
  obtain ⟨q10, s11, hq, h⟩ := nd_b2_e h
  have hPc := hP
  have hDc := hD
  have hKc := hK
  have hFc := nd_rs hD hS hA
  refine nd_cVi (As := [.int 2, .int 1]) (rest := [.int (((q4 : Int32) <<< ((1 : Int32) &&& 31)) ||| ((q7 : Int32) <<< ((4 : Int32) &&& 31))), .ref (a 0)]) (q := q10) (w' := dw_X18 a ac s11) ⟨hx, hb, hml, hown, hts⟩ (fun sz => dm_X18_part l hlt dC dI a ac n (2) (1) s8 hq sz) (cwV 2 hts gi_dm_X18_jump_1 rfl rfl rfl (by decide +kernel) ⟨Nat.le_of_ble_eq_true rfl, Nat.le_of_ble_eq_true rfl⟩) hPc hDc hKc hS hA hN (va_recv hKc hPc (ci := 19) (q0 := 0) rfl rfl) rfl hl.1 rfl (Nat.le_of_ble_eq_true rfl) dX18_jump_27 (fun H locs hP1 hD1 hk1 hS => ?_)
  have hP := hP1
  have hD := hD1.weaken (fun k q _ h => hFc q.1 h)
  refine lv_iconst (v := 5) hx hb dX18_jump_30 (by decide) ?_
  refine lv_ishl hx hb dX18_jump_31 ?_
  refine lv_ior hx hb dX18_jump_32 ?_
  refine lv_aload_n hx hb dX18_jump_33 rfl (lv_at hl 0 rfl) ?_
  refine lv_bipush (v := 7) hx hb dX18_jump_34 (by decide) ?_
  refine lv_iconst (v := 1) hx hb dX18_jump_36 (by decide) ?_
  obtain ⟨q13, s14, hq, h⟩ := nd_b2_e h
  have hPc := hP
  have hDc := hD
  have hKc := hK
  have hFc := nd_rs hD hS hA
  refine nd_cVi (As := [.int 7, .int 1]) (rest := [.int ((((q4 : Int32) <<< ((1 : Int32) &&& 31)) ||| ((q7 : Int32) <<< ((4 : Int32) &&& 31))) ||| ((q10 : Int32) <<< ((5 : Int32) &&& 31))), .ref (a 0)]) (q := q13) (w' := dw_X18 a ac s14) ⟨hx, hb, hml, hown, hts⟩ (fun sz => dm_X18_part l hlt dC dI a ac n (7) (1) s11 hq sz) (cwV 2 hts gi_dm_X18_jump_1 rfl rfl rfl (by decide +kernel) ⟨Nat.le_of_ble_eq_true rfl, Nat.le_of_ble_eq_true rfl⟩) hPc hDc hKc hS hA hN (va_recv hKc hPc (ci := 19) (q0 := 0) rfl rfl) rfl hl.1 rfl (Nat.le_of_ble_eq_true rfl) dX18_jump_37 (fun H locs hP1 hD1 hk1 hS => ?_)
  have hP := hP1
  have hD := hD1.weaken (fun k q _ h => hFc q.1 h)
  refine lv_bipush (v := 6) hx hb dX18_jump_40 (by decide) ?_
  refine lv_ishl hx hb dX18_jump_42 ?_
  refine lv_ior hx hb dX18_jump_43 ?_
  refine lv_aload_n hx hb dX18_jump_44 rfl (lv_at hl 0 rfl) ?_
  refine lv_bipush (v := 6) hx hb dX18_jump_45 (by decide) ?_
  refine lv_iconst (v := 1) hx hb dX18_jump_47 (by decide) ?_
  obtain ⟨q16, s17, hq, h⟩ := nd_b2_e h
  have hPc := hP
  have hDc := hD
  have hKc := hK
  have hFc := nd_rs hD hS hA
  refine nd_cVi (As := [.int 6, .int 1]) (rest := [.int (((((q4 : Int32) <<< ((1 : Int32) &&& 31)) ||| ((q7 : Int32) <<< ((4 : Int32) &&& 31))) ||| ((q10 : Int32) <<< ((5 : Int32) &&& 31))) ||| ((q13 : Int32) <<< ((6 : Int32) &&& 31))), .ref (a 0)]) (q := q16) (w' := dw_X18 a ac s17) ⟨hx, hb, hml, hown, hts⟩ (fun sz => dm_X18_part l hlt dC dI a ac n (6) (1) s14 hq sz) (cwV 2 hts gi_dm_X18_jump_1 rfl rfl rfl (by decide +kernel) ⟨Nat.le_of_ble_eq_true rfl, Nat.le_of_ble_eq_true rfl⟩) hPc hDc hKc hS hA hN (va_recv hKc hPc (ci := 19) (q0 := 0) rfl rfl) rfl hl.1 rfl (Nat.le_of_ble_eq_true rfl) dX18_jump_48 (fun H locs hP1 hD1 hk1 hS => ?_)
  have hP := hP1
  have hD := hD1.weaken (fun k q _ h => hFc q.1 h)
  refine lv_bipush (v := 7) hx hb dX18_jump_51 (by decide) ?_
  refine lv_ishl hx hb dX18_jump_53 ?_
  refine lv_ior hx hb dX18_jump_54 ?_
  refine lv_aload_n hx hb dX18_jump_55 rfl (lv_at hl 0 rfl) ?_
  refine lv_bipush (v := 9) hx hb dX18_jump_56 (by decide) ?_
  refine lv_iconst (v := 2) hx hb dX18_jump_58 (by decide) ?_
  obtain ⟨q19, s20, hq, h⟩ := nd_b2_e h
  have hPc := hP
  have hDc := hD
  have hKc := hK
  have hFc := nd_rs hD hS hA
  refine nd_cVi (As := [.int 9, .int 2]) (rest := [.int ((((((q4 : Int32) <<< ((1 : Int32) &&& 31)) ||| ((q7 : Int32) <<< ((4 : Int32) &&& 31))) ||| ((q10 : Int32) <<< ((5 : Int32) &&& 31))) ||| ((q13 : Int32) <<< ((6 : Int32) &&& 31))) ||| ((q16 : Int32) <<< ((7 : Int32) &&& 31))), .ref (a 0)]) (q := q19) (w' := dw_X18 a ac s20) ⟨hx, hb, hml, hown, hts⟩ (fun sz => dm_X18_part l hlt dC dI a ac n (9) (2) s17 hq sz) (cwV 2 hts gi_dm_X18_jump_1 rfl rfl rfl (by decide +kernel) ⟨Nat.le_of_ble_eq_true rfl, Nat.le_of_ble_eq_true rfl⟩) hPc hDc hKc hS hA hN (va_recv hKc hPc (ci := 19) (q0 := 0) rfl rfl) rfl hl.1 rfl (Nat.le_of_ble_eq_true rfl) dX18_jump_59 (fun H locs hP1 hD1 hk1 hS => ?_)
  have hP := hP1
  have hD := hD1.weaken (fun k q _ h => hFc q.1 h)
  refine lv_bipush (v := 8) hx hb dX18_jump_62 (by decide) ?_
  refine lv_ishl hx hb dX18_jump_64 ?_
  refine lv_ior hx hb dX18_jump_65 ?_
  refine lv_aload_n hx hb dX18_jump_66 rfl (lv_at hl 0 rfl) ?_
  refine lv_bipush (v := 8) hx hb dX18_jump_67 (by decide) ?_
  refine lv_iconst (v := 1) hx hb dX18_jump_69 (by decide) ?_
  obtain ⟨q22, s23, hq, h⟩ := nd_b2_e h
  have hPc := hP
  have hDc := hD
  have hKc := hK
  have hFc := nd_rs hD hS hA
  refine nd_cVi (As := [.int 8, .int 1]) (rest := [.int (((((((q4 : Int32) <<< ((1 : Int32) &&& 31)) ||| ((q7 : Int32) <<< ((4 : Int32) &&& 31))) ||| ((q10 : Int32) <<< ((5 : Int32) &&& 31))) ||| ((q13 : Int32) <<< ((6 : Int32) &&& 31))) ||| ((q16 : Int32) <<< ((7 : Int32) &&& 31))) ||| ((q19 : Int32) <<< ((8 : Int32) &&& 31))), .ref (a 0)]) (q := q22) (w' := dw_X18 a ac s23) ⟨hx, hb, hml, hown, hts⟩ (fun sz => dm_X18_part l hlt dC dI a ac n (8) (1) s20 hq sz) (cwV 2 hts gi_dm_X18_jump_1 rfl rfl rfl (by decide +kernel) ⟨Nat.le_of_ble_eq_true rfl, Nat.le_of_ble_eq_true rfl⟩) hPc hDc hKc hS hA hN (va_recv hKc hPc (ci := 19) (q0 := 0) rfl rfl) rfl hl.1 rfl (Nat.le_of_ble_eq_true rfl) dX18_jump_70 (fun H locs hP1 hD1 hk1 hS => ?_)
  have hP := hP1
  have hD := hD1.weaken (fun k q _ h => hFc q.1 h)
  refine lv_bipush (v := 10) hx hb dX18_jump_73 (by decide) ?_
  refine lv_ishl hx hb dX18_jump_75 ?_
  refine lv_ior hx hb dX18_jump_76 ?_
  refine lv_aload_n hx hb dX18_jump_77 rfl (lv_at hl 0 rfl) ?_
  refine lv_bipush (v := 12) hx hb dX18_jump_78 (by decide) ?_
  refine lv_iconst (v := 1) hx hb dX18_jump_80 (by decide) ?_
  obtain ⟨q25, s26, hq, h⟩ := nd_b2_e h
  have hPc := hP
  have hDc := hD
  have hKc := hK
  have hFc := nd_rs hD hS hA
  refine nd_cVi (As := [.int 12, .int 1]) (rest := [.int ((((((((q4 : Int32) <<< ((1 : Int32) &&& 31)) ||| ((q7 : Int32) <<< ((4 : Int32) &&& 31))) ||| ((q10 : Int32) <<< ((5 : Int32) &&& 31))) ||| ((q13 : Int32) <<< ((6 : Int32) &&& 31))) ||| ((q16 : Int32) <<< ((7 : Int32) &&& 31))) ||| ((q19 : Int32) <<< ((8 : Int32) &&& 31))) ||| ((q22 : Int32) <<< ((10 : Int32) &&& 31))), .ref (a 0)]) (q := q25) (w' := dw_X18 a ac s26) ⟨hx, hb, hml, hown, hts⟩ (fun sz => dm_X18_part l hlt dC dI a ac n (12) (1) s23 hq sz) (cwV 2 hts gi_dm_X18_jump_1 rfl rfl rfl (by decide +kernel) ⟨Nat.le_of_ble_eq_true rfl, Nat.le_of_ble_eq_true rfl⟩) hPc hDc hKc hS hA hN (va_recv hKc hPc (ci := 19) (q0 := 0) rfl rfl) rfl hl.1 rfl (Nat.le_of_ble_eq_true rfl) dX18_jump_81 (fun H locs hP1 hD1 hk1 hS => ?_)
  have hP := hP1
  have hD := hD1.weaken (fun k q _ h => hFc q.1 h)
  refine lv_ineg hx hb dX18_jump_84 ?_
  refine lv_bipush (v := 11) hx hb dX18_jump_85 (by decide) ?_
  refine lv_ishl hx hb dX18_jump_87 ?_
  refine lv_ior hx hb dX18_jump_88 ?_
  obtain ⟨s29, hq, h⟩ := nd_b1_e h
  have hPc := hP
  have hDc := hD
  have hKc := hK
  have hFc := nd_rs hD hS hA
  refine nd_cVv (As := [.int (((((((((q4 : Int32) <<< ((1 : Int32) &&& 31)) ||| ((q7 : Int32) <<< ((4 : Int32) &&& 31))) ||| ((q10 : Int32) <<< ((5 : Int32) &&& 31))) ||| ((q13 : Int32) <<< ((6 : Int32) &&& 31))) ||| ((q16 : Int32) <<< ((7 : Int32) &&& 31))) ||| ((q19 : Int32) <<< ((8 : Int32) &&& 31))) ||| ((q22 : Int32) <<< ((10 : Int32) &&& 31))) ||| (((-q25) : Int32) <<< ((11 : Int32) &&& 31)))]) (rest := []) (w' := dw_X18 a ac s29) ⟨hx, hb, hml, hown, hts⟩ (fun sz => dm_X18_target l hlt dC dI a ac n ((((((((((q4 : Int32) <<< ((1 : Int32) &&& 31)) ||| ((q7 : Int32) <<< ((4 : Int32) &&& 31))) ||| ((q10 : Int32) <<< ((5 : Int32) &&& 31))) ||| ((q13 : Int32) <<< ((6 : Int32) &&& 31))) ||| ((q16 : Int32) <<< ((7 : Int32) &&& 31))) ||| ((q19 : Int32) <<< ((8 : Int32) &&& 31))) ||| ((q22 : Int32) <<< ((10 : Int32) &&& 31))) ||| (((-q25) : Int32) <<< ((11 : Int32) &&& 31)))) s26 hq sz) (cwV 1 hts gi_dm_X18_jump_2 rfl rfl rfl (by decide +kernel) ⟨Nat.le_of_ble_eq_true rfl, Nat.le_of_ble_eq_true rfl⟩) hPc hDc hKc hS hA hN (va_recv hKc hPc (ci := 19) (q0 := 0) rfl rfl) rfl hl.1 rfl (Nat.le_of_ble_eq_true rfl) dX18_jump_89 (fun H locs hP1 hD1 hk1 hS => ?_)
  have hP := hP1
  have hD := hD1.weaken (fun k q _ h => hFc q.1 h)
  exact K _ _ _ _ _ dX18_jump_92 (Option.some.inj h).symm hP hD hS
set_option maxHeartbeats 40000000 in
set_option maxRecDepth 100000 in
theorem dm_X18_jump (l : Launch) (hlt : l.stackTraces = false) (dC : Nat → ClassId) (dI : Nat → Nat → Nat) (a : Nat → Nat) (ac : Nat → ClassId) (n : Nat) (v0 : Int64) (s0 : St) {r : St} (h : df_X18_jump n v0 s0 = some r) (sz : Nat) : Met l yX18_jump ow_dm_X18_jump ({ frames := 4, cells := 0, slots := 0, locals := 89 }) (va_Pc [.ref (a 0), .long v0] (fun U => U.heap.size = sz ∧ va_P (dC, dI) vwCl (dw_X18 a ac s0) U.heap ∧ va_K (dC, dI) vwCl (dk_X18 ac) U ∧ va_D (fun _ => True) (dw_X18 a ac s0) ∧ nv_E dI (va_A (dw_X18 a ac s0) sz) U)) (va_Qv (fun _ => True) (fun (_ : Unit) t => va_P (dC, dI) vwCl (dw_X18 a ac r) t.heap ∧ va_K (dC, dI) vwCl (dk_X18 ac) t ∧ va_D (va_A (dw_X18 a ac s0) sz) (dw_X18 a ac r)) (va_A (dw_X18 a ac s0) sz)) 0 0 (va_A (dw_X18 a ac s0) sz) := by
  refine Met.ofW (cc := cX18_jump) (maxL := 3) (ret := none) (by decide) rfl ?_
  intro p e s m args below meth c s₁ B hml hv
  obtain ⟨rfl, hsz, hP, hK, hD0, hN⟩ := hv
  have hx := B.exec
  have hb := B.bytes
  have hr := B.returns
  have hts := atoms_spec (ws := ow_dm_X18_jump) B.pre
  have hown : s.vm.findClass RX18 = some m.cls := findClass_of_methodNamed B.named
  have hlocks := B.notSynchronized
  subst hsz
  have hD := hD0.self (sz := s.heap.size)
  generalize hAe : va_A (dw_X18 a ac s0) s.heap.size = A at hD hN ⊢
  have hA : ∀ q : Nat, s.heap.size ≤ q → A q := fun q h => by rw [← hAe]; exact Or.inr h
  have hl := lv_entry ([.ref (a 0), .long v0]) (n := 3) (Nat.le_of_ble_eq_true rfl)
  rw [lg_entry_eq]
  generalize (lg_sl ([.ref (a 0), .long v0]) ++ List.replicate (3 - (lg_sl ([.ref (a 0), .long v0])).length) Slot.unset).toArray = ls at hl ⊢
  have hl : lv_has ls 3 [(0, .ref (a 0)), (1, .long v0)] := hl
  exact db_X18_jump_0 (dC := dC) (dI := dI) (a := a) (ac := ac) (n := n) (r := r) ⟨hlt, hx, hb, hml, hown, hts, hN, hA, hK⟩ (fun pc τ H locs ls d er hP hD hS => by subst er; exact W.vret hx hb hr (fun t ht hW => ⟨⟨(), rfl, trivial, by rw [ht]; exact hP, va_K.moved hW.alike hK, hD⟩, hS.F ht⟩) hS.2.2 d) v0 s0 _ _ _ h hP hD va_S.rf (lv_sub hl [0, 1] rfl)
def ow_dm_X18_reckon : List Cond := Cond.code yX18_reckon cX18_reckon 5 none :: ([Cond.methodLink RX18 172 yX18_part, Cond.instanceMethod yX18_part, Cond.selects RX18 yX18_part yX18_part, Cond.initialized RX18, Cond.constantLong RX18 277 (431348592227), Cond.methodLink RX18 65 yX18_name, Cond.instanceMethod yX18_name, Cond.selects RX18 yX18_name yX18_name, Cond.methodLink RX18 71 yX18_register, Cond.instanceMethod yX18_register, Cond.selects RX18 yX18_register yX18_register, Cond.constantLong RX18 275 (1919888995), Cond.constantLong RX18 273 (491496418915), Cond.constantLong RX18 271 (422877277795), Cond.constantLong RX18 265 (115880069508707), Cond.methodLink RX18 59 yX18_immediate, Cond.instanceMethod yX18_immediate, Cond.selects RX18 yX18_immediate yX18_immediate, Cond.methodLink RX18 267 yX18_six, Cond.instanceMethod yX18_six, Cond.selects RX18 yX18_six yX18_six, Cond.constantLong RX18 263 (115867252895331), Cond.constantLong RX18 261 (115914497535587)] ++ (ow_dm_X18_part ++ (ow_dm_X18_name ++ (ow_dm_X18_register ++ (ow_dm_X18_immediate ++ (ow_dm_X18_six ++ []))))))
theorem gd_dm_X18_reckon : ∀ w ∈ ow_dm_X18_reckon, (w.onTables && w.keeps) = true ∨ ∃ ty, w = Cond.arrayClass ty := List.forall_mem_cons.mpr ⟨good_of_word rfl, List.forall_mem_append.mpr ⟨fun w h => good_of_word (List.all_eq_true.mp (by decide +kernel) w h), List.forall_mem_append.mpr ⟨gd_dm_X18_part, List.forall_mem_append.mpr ⟨gd_dm_X18_name, List.forall_mem_append.mpr ⟨gd_dm_X18_register, List.forall_mem_append.mpr ⟨gd_dm_X18_immediate, List.forall_mem_append.mpr ⟨gd_dm_X18_six, fun _ h => nomatch h⟩⟩⟩⟩⟩⟩⟩
theorem gi_dm_X18_reckon_0 : GoodIn ow_dm_X18_reckon (wsV RX18 172 RX18 yX18_part ow_dm_X18_part) := goodIn_app (goodIn_of _ (by decide +kernel)) (fun w h => ⟨List.mem_cons_of_mem _ (List.mem_append_right _ (List.mem_append_left _ h)), gd_dm_X18_part w h⟩)
theorem gi_dm_X18_reckon_1 : GoodIn ow_dm_X18_reckon (wsV RX18 65 RX18 yX18_name ow_dm_X18_name) := goodIn_app (goodIn_of _ (by decide +kernel)) (fun w h => ⟨List.mem_cons_of_mem _ (List.mem_append_right _ (List.mem_append_right _ (List.mem_append_left _ h))), gd_dm_X18_name w h⟩)
theorem gi_dm_X18_reckon_2 : GoodIn ow_dm_X18_reckon (wsV RX18 71 RX18 yX18_register ow_dm_X18_register) := goodIn_app (goodIn_of _ (by decide +kernel)) (fun w h => ⟨List.mem_cons_of_mem _ (List.mem_append_right _ (List.mem_append_right _ (List.mem_append_right _ (List.mem_append_left _ h)))), gd_dm_X18_register w h⟩)
theorem gi_dm_X18_reckon_3 : GoodIn ow_dm_X18_reckon (wsV RX18 59 RX18 yX18_immediate ow_dm_X18_immediate) := goodIn_app (goodIn_of _ (by decide +kernel)) (fun w h => ⟨List.mem_cons_of_mem _ (List.mem_append_right _ (List.mem_append_right _ (List.mem_append_right _ (List.mem_append_right _ (List.mem_append_left _ h))))), gd_dm_X18_immediate w h⟩)
theorem gi_dm_X18_reckon_4 : GoodIn ow_dm_X18_reckon (wsV RX18 267 RX18 yX18_six ow_dm_X18_six) := goodIn_app (goodIn_of _ (by decide +kernel)) (fun w h => ⟨List.mem_cons_of_mem _ (List.mem_append_right _ (List.mem_append_right _ (List.mem_append_right _ (List.mem_append_right _ (List.mem_append_right _ (List.mem_append_left _ h)))))), gd_dm_X18_six w h⟩)
def dj_X18_reckon_146 (p : Program) (l : Launch) (e : Env) (s : State) (m : MethodId) (args : Array Value) (below : List Frame) (meth : Method) (c : Code) (Q : State → Prop) (A : Nat → Prop) (dC : Nat → ClassId) (dI : Nat → Nat → Nat) (a : Nat → Nat) (ac : Nat → ClassId) (g : Int32 → Int32 → Int64 → (St) → Option (St)) (r : St) : Prop := ∀ (x2 : Int32) (x3 : Int32) (y1 : Int64) (s0 : St) (H : Heap) (locs : List Loc) (ls : Array Slot), g x2 x3 y1 s0 = some r → va_P (dC, dI) vwCl (dw_X18 a ac s0) H → va_D A (dw_X18 a ac s0) → va_S A s.heap H locs → lv_has ls 5 [(0, .ref (a 0)), (2, .int x2), (3, .int x3)] → W p l e (headSpec ow_dm_X18_reckon ({ frames := 4, cells := 0, slots := 0, locals := 89 })).room s m args below meth c H locs 0 0 Q (F0 m 146 ls [.long y1, .ref (a 0)])
def dj_X18_reckon_95 (p : Program) (l : Launch) (e : Env) (s : State) (m : MethodId) (args : Array Value) (below : List Frame) (meth : Method) (c : Code) (Q : State → Prop) (A : Nat → Prop) (dC : Nat → ClassId) (dI : Nat → Nat → Nat) (a : Nat → Nat) (ac : Nat → ClassId) (g : Int32 → (St) → Option (St)) (r : St) : Prop := ∀ (y1 : Int32) (s0 : St) (H : Heap) (locs : List Loc) (ls : Array Slot), g y1 s0 = some r → va_P (dC, dI) vwCl (dw_X18 a ac s0) H → va_D A (dw_X18 a ac s0) → va_S A s.heap H locs → lv_has ls 5 [] → W p l e (headSpec ow_dm_X18_reckon ({ frames := 4, cells := 0, slots := 0, locals := 89 })).room s m args below meth c H locs 0 0 Q (F0 m 95 ls [.int y1, .ref (a 0)])
def dj_X18_reckon_68 (p : Program) (l : Launch) (e : Env) (s : State) (m : MethodId) (args : Array Value) (below : List Frame) (meth : Method) (c : Code) (Q : State → Prop) (A : Nat → Prop) (dC : Nat → ClassId) (dI : Nat → Nat → Nat) (a : Nat → Nat) (ac : Nat → ClassId) (g : Int32 → Int32 → Int64 → (St) → Option (St)) (r : St) : Prop := ∀ (x1 : Int32) (x3 : Int32) (y1 : Int64) (s0 : St) (H : Heap) (locs : List Loc) (ls : Array Slot), g x1 x3 y1 s0 = some r → va_P (dC, dI) vwCl (dw_X18 a ac s0) H → va_D A (dw_X18 a ac s0) → va_S A s.heap H locs → lv_has ls 5 [(0, .ref (a 0)), (1, .int x1), (3, .int x3)] → W p l e (headSpec ow_dm_X18_reckon ({ frames := 4, cells := 0, slots := 0, locals := 89 })).room s m args below meth c H locs 0 0 Q (F0 m 68 ls [.long y1, .ref (a 0)])
def dj_X18_reckon_38 (p : Program) (l : Launch) (e : Env) (s : State) (m : MethodId) (args : Array Value) (below : List Frame) (meth : Method) (c : Code) (Q : State → Prop) (A : Nat → Prop) (dC : Nat → ClassId) (dI : Nat → Nat → Nat) (a : Nat → Nat) (ac : Nat → ClassId) (g : Int32 → Int32 → Int32 → (St) → Option (St)) (r : St) : Prop := ∀ (x1 : Int32) (x2 : Int32) (x3 : Int32) (s0 : St) (H : Heap) (locs : List Loc) (ls : Array Slot), g x1 x2 x3 s0 = some r → va_P (dC, dI) vwCl (dw_X18 a ac s0) H → va_D A (dw_X18 a ac s0) → va_S A s.heap H locs → lv_has ls 5 [(0, .ref (a 0)), (1, .int x1), (2, .int x2), (3, .int x3)] → W p l e (headSpec ow_dm_X18_reckon ({ frames := 4, cells := 0, slots := 0, locals := 89 })).room s m args below meth c H locs 0 0 Q (F0 m 38 ls [])
def dj_X18_reckon_0 (p : Program) (l : Launch) (e : Env) (s : State) (m : MethodId) (args : Array Value) (below : List Frame) (meth : Method) (c : Code) (Q : State → Prop) (A : Nat → Prop) (dC : Nat → ClassId) (dI : Nat → Nat → Nat) (a : Nat → Nat) (ac : Nat → ClassId) (g : Int32 → (St) → Option (St)) (r : St) : Prop := ∀ (v0 : Int32) (s0 : St) (H : Heap) (locs : List Loc) (ls : Array Slot), g v0 s0 = some r → va_P (dC, dI) vwCl (dw_X18 a ac s0) H → va_D A (dw_X18 a ac s0) → va_S A s.heap H locs → lv_has ls 5 [(0, .ref (a 0)), (1, .int v0)] → W p l e (headSpec ow_dm_X18_reckon ({ frames := 4, cells := 0, slots := 0, locals := 89 })).room s m args below meth c H locs 0 0 Q (F0 m 0 ls [])
set_option maxHeartbeats 40000000 in
set_option maxRecDepth 100000 in
theorem db_X18_reckon_146 {p : Program} {l : Launch} {e : Env} {s : State} {m : MethodId} {args : Array Value} {below : List Frame} {meth : Method} {c : Code} {Q : State → Prop} {A : Nat → Prop} {dC : Nat → ClassId} {dI : Nat → Nat → Nat} {a : Nat → Nat} {ac : Nat → ClassId} {n : Nat} {r : St} (C : nd_C p l s m args c A (dC, dI) cX18_reckon 5 RX18 ow_dm_X18_reckon (dk_X18 ac)) (K : nd_Kv p l e (headSpec ow_dm_X18_reckon ({ frames := 4, cells := 0, slots := 0, locals := 89 })).room s m args below meth c Q A (dC, dI) cX18_reckon (St) (dw_X18 a ac) r) : dj_X18_reckon_146 p l e s m args below meth c Q A dC dI a ac (df_X18_reckon_146 n) r := by
  obtain ⟨hlt, hx, hb, hml, hown, hts, hN, hA, hK⟩ := id C
  intro x2 x3 y1 s0 H locs ls h hP hD hS hl
  unfold df_X18_reckon_146 at h
  obtain ⟨s18, hq, h⟩ := nd_b1_e h
  have hPc := hP
  have hDc := hD
  have hKc := hK
  have hFc := nd_rs hD hS hA
  refine nd_cVv (As := [.long y1]) (rest := []) (w' := dw_X18 a ac s18) ⟨hx, hb, hml, hown, hts⟩ (fun sz => dm_X18_name l hlt dC dI a ac n (y1) s0 hq sz) (cwV 1 hts gi_dm_X18_reckon_1 rfl rfl rfl (by decide +kernel) ⟨Nat.le_of_ble_eq_true rfl, Nat.le_of_ble_eq_true rfl⟩) hPc hDc hKc hS hA hN (va_recv hKc hPc (ci := 19) (q0 := 0) rfl rfl) rfl hl.1 rfl (Nat.le_of_ble_eq_true rfl) dX18_reckon_146 (fun H locs hP1 hD1 hk1 hS => ?_)
  have hP := hP1
  have hD := hD1.weaken (fun k q _ h => hFc q.1 h)
  refine lv_aload_n hx hb dX18_reckon_149 rfl (lv_at hl 0 rfl) ?_
  refine lv_iload_n hx hb dX18_reckon_150 rfl (lv_at hl 2 rfl) ?_
  obtain ⟨s21, hq, h⟩ := nd_b1_e h
  have hPc := hP
  have hDc := hD
  have hKc := hK
  have hFc := nd_rs hD hS hA
  refine nd_cVv (As := [.int x3]) (rest := []) (w' := dw_X18 a ac s21) ⟨hx, hb, hml, hown, hts⟩ (fun sz => dm_X18_register l hlt dC dI a ac n (x3) s18 hq sz) (cwV 1 hts gi_dm_X18_reckon_2 rfl rfl rfl (by decide +kernel) ⟨Nat.le_of_ble_eq_true rfl, Nat.le_of_ble_eq_true rfl⟩) hPc hDc hKc hS hA hN (va_recv hKc hPc (ci := 19) (q0 := 0) rfl rfl) rfl hl.1 rfl (Nat.le_of_ble_eq_true rfl) dX18_reckon_151 (fun H locs hP1 hD1 hk1 hS => ?_)
  have hP := hP1
  have hD := hD1.weaken (fun k q _ h => hFc q.1 h)
  refine lv_aload_n hx hb dX18_reckon_154 rfl (lv_at hl 0 rfl) ?_
  refine lv_iload_n hx hb dX18_reckon_155 rfl (lv_at hl 1 rfl) ?_
  obtain ⟨s24, hq, h⟩ := nd_b1_e h
  have hPc := hP
  have hDc := hD
  have hKc := hK
  have hFc := nd_rs hD hS hA
  refine nd_cVv (As := [.int x2]) (rest := []) (w' := dw_X18 a ac s24) ⟨hx, hb, hml, hown, hts⟩ (fun sz => dm_X18_register l hlt dC dI a ac n (x2) s21 hq sz) (cwV 1 hts gi_dm_X18_reckon_2 rfl rfl rfl (by decide +kernel) ⟨Nat.le_of_ble_eq_true rfl, Nat.le_of_ble_eq_true rfl⟩) hPc hDc hKc hS hA hN (va_recv hKc hPc (ci := 19) (q0 := 0) rfl rfl) rfl hl.1 rfl (Nat.le_of_ble_eq_true rfl) dX18_reckon_156 (fun H locs hP1 hD1 hk1 hS => ?_)
  have hP := hP1
  have hD := hD1.weaken (fun k q _ h => hFc q.1 h)
  exact K _ _ _ _ _ dX18_reckon_159 (Option.some.inj h).symm hP hD hS
set_option maxHeartbeats 40000000 in
set_option maxRecDepth 100000 in
theorem db_X18_reckon_95 {p : Program} {l : Launch} {e : Env} {s : State} {m : MethodId} {args : Array Value} {below : List Frame} {meth : Method} {c : Code} {Q : State → Prop} {A : Nat → Prop} {dC : Nat → ClassId} {dI : Nat → Nat → Nat} {a : Nat → Nat} {ac : Nat → ClassId} {n : Nat} {r : St} (C : nd_C p l s m args c A (dC, dI) cX18_reckon 5 RX18 ow_dm_X18_reckon (dk_X18 ac)) (K : nd_Kv p l e (headSpec ow_dm_X18_reckon ({ frames := 4, cells := 0, slots := 0, locals := 89 })).room s m args below meth c Q A (dC, dI) cX18_reckon (St) (dw_X18 a ac) r) : dj_X18_reckon_95 p l e s m args below meth c Q A dC dI a ac (df_X18_reckon_95 n) r := by
  obtain ⟨hlt, hx, hb, hml, hown, hts, hN, hA, hK⟩ := id C
  intro y1 s0 H locs ls h hP hD hS hl
  unfold df_X18_reckon_95 at h
  obtain ⟨s39, hq, h⟩ := nd_b1_e h
  have hPc := hP
  have hDc := hD
  have hKc := hK
  have hFc := nd_rs hD hS hA
  refine nd_cVv (As := [.int y1]) (rest := []) (w' := dw_X18 a ac s39) ⟨hx, hb, hml, hown, hts⟩ (fun sz => dm_X18_immediate l hlt dC dI a ac n (y1) s0 hq sz) (cwV 1 hts gi_dm_X18_reckon_3 rfl rfl rfl (by decide +kernel) ⟨Nat.le_of_ble_eq_true rfl, Nat.le_of_ble_eq_true rfl⟩) hPc hDc hKc hS hA hN (va_recv hKc hPc (ci := 19) (q0 := 0) rfl rfl) rfl hl.1 rfl (Nat.le_of_ble_eq_true rfl) dX18_reckon_95 (fun H locs hP1 hD1 hk1 hS => ?_)
  have hP := hP1
  have hD := hD1.weaken (fun k q _ h => hFc q.1 h)
  exact K _ _ _ _ _ dX18_reckon_98 (Option.some.inj h).symm hP hD hS
set_option maxHeartbeats 40000000 in
set_option maxRecDepth 100000 in
theorem db_X18_reckon_68 {p : Program} {l : Launch} {e : Env} {s : State} {m : MethodId} {args : Array Value} {below : List Frame} {meth : Method} {c : Code} {Q : State → Prop} {A : Nat → Prop} {dC : Nat → ClassId} {dI : Nat → Nat → Nat} {a : Nat → Nat} {ac : Nat → ClassId} {n : Nat} {r : St} (C : nd_C p l s m args c A (dC, dI) cX18_reckon 5 RX18 ow_dm_X18_reckon (dk_X18 ac)) (K : nd_Kv p l e (headSpec ow_dm_X18_reckon ({ frames := 4, cells := 0, slots := 0, locals := 89 })).room s m args below meth c Q A (dC, dI) cX18_reckon (St) (dw_X18 a ac) r) : dj_X18_reckon_68 p l e s m args below meth c Q A dC dI a ac (df_X18_reckon_68 n) r := by
  obtain ⟨hlt, hx, hb, hml, hown, hts, hN, hA, hK⟩ := id C
  intro x1 x3 y1 s0 H locs ls h hP hD hS hl
  unfold df_X18_reckon_68 at h
  obtain ⟨s29, hq, h⟩ := nd_b1_e h
  have hPc := hP
  have hDc := hD
  have hKc := hK
  have hFc := nd_rs hD hS hA
  refine nd_cVv (As := [.long y1]) (rest := []) (w' := dw_X18 a ac s29) ⟨hx, hb, hml, hown, hts⟩ (fun sz => dm_X18_name l hlt dC dI a ac n (y1) s0 hq sz) (cwV 1 hts gi_dm_X18_reckon_1 rfl rfl rfl (by decide +kernel) ⟨Nat.le_of_ble_eq_true rfl, Nat.le_of_ble_eq_true rfl⟩) hPc hDc hKc hS hA hN (va_recv hKc hPc (ci := 19) (q0 := 0) rfl rfl) rfl hl.1 rfl (Nat.le_of_ble_eq_true rfl) dX18_reckon_68 (fun H locs hP1 hD1 hk1 hS => ?_)
  have hP := hP1
  have hD := hD1.weaken (fun k q _ h => hFc q.1 h)
  refine lv_aload_n hx hb dX18_reckon_71 rfl (lv_at hl 0 rfl) ?_
  refine lv_iload_n hx hb dX18_reckon_72 rfl (lv_at hl 2 rfl) ?_
  obtain ⟨s32, hq, h⟩ := nd_b1_e h
  have hPc := hP
  have hDc := hD
  have hKc := hK
  have hFc := nd_rs hD hS hA
  refine nd_cVv (As := [.int x3]) (rest := []) (w' := dw_X18 a ac s32) ⟨hx, hb, hml, hown, hts⟩ (fun sz => dm_X18_register l hlt dC dI a ac n (x3) s29 hq sz) (cwV 1 hts gi_dm_X18_reckon_2 rfl rfl rfl (by decide +kernel) ⟨Nat.le_of_ble_eq_true rfl, Nat.le_of_ble_eq_true rfl⟩) hPc hDc hKc hS hA hN (va_recv hKc hPc (ci := 19) (q0 := 0) rfl rfl) rfl hl.1 rfl (Nat.le_of_ble_eq_true rfl) dX18_reckon_73 (fun H locs hP1 hD1 hk1 hS => ?_)
  have hP := hP1
  have hD := hD1.weaken (fun k q _ h => hFc q.1 h)
  refine lv_aload_n hx hb dX18_reckon_76 rfl (lv_at hl 0 rfl) ?_
  refine lv_iload_n hx hb dX18_reckon_77 rfl (lv_at hl 1 rfl) ?_
  refine lv_iconst (v := 2) hx hb dX18_reckon_78 (by decide) ?_
  refine lv_icmp_ne (tgt := 89) hx hb dX18_reckon_79 (by decide) (fun c34 => ?_) (fun c34 => ?_)
  · have h := nd_neg h c34
    refine lv_aload_n hx hb dX18_reckon_89 rfl (lv_at hl 0 rfl) ?_
    refine lv_iconst (v := 2) hx hb dX18_reckon_90 (by decide) ?_
    refine lv_iconst (v := 5) hx hb dX18_reckon_91 (by decide) ?_
    obtain ⟨q35, s36, hq, h⟩ := nd_b2_e h
    have hPc := hP
    have hDc := hD
    have hKc := hK
    have hFc := nd_rs hD hS hA
    refine nd_cVi (As := [.int 2, .int 5]) (rest := [.ref (a 0)]) (q := q35) (w' := dw_X18 a ac s36) ⟨hx, hb, hml, hown, hts⟩ (fun sz => dm_X18_part l hlt dC dI a ac n (2) (5) s32 hq sz) (cwV 2 hts gi_dm_X18_reckon_0 rfl rfl rfl (by decide +kernel) ⟨Nat.le_of_ble_eq_true rfl, Nat.le_of_ble_eq_true rfl⟩) hPc hDc hKc hS hA hN (va_recv hKc hPc (ci := 19) (q0 := 0) rfl rfl) rfl hl.1 rfl (Nat.le_of_ble_eq_true rfl) dX18_reckon_92 (fun H locs hP1 hD1 hk1 hS => ?_)
    have hP := hP1
    have hD := hD1.weaken (fun k q _ h => hFc q.1 h)
    exact (db_X18_reckon_95 C K) (q35) s36 _ _ _ h hP hD hS (lv_sub hl [] rfl)
  · have h := nd_pos h c34
    refine lv_aload_n hx hb dX18_reckon_82 rfl (lv_at hl 0 rfl) ?_
    obtain ⟨q41, s42, hq, h⟩ := nd_b2_e h
    have hPc := hP
    have hDc := hD
    have hKc := hK
    have hFc := nd_rs hD hS hA
    refine nd_cVi (As := []) (rest := [.ref (a 0)]) (q := q41) (w' := dw_X18 a ac s42) ⟨hx, hb, hml, hown, hts⟩ (fun sz => dm_X18_six l hlt dC dI a ac n  s32 hq sz) (cwV 0 hts gi_dm_X18_reckon_4 rfl rfl rfl (by decide +kernel) ⟨Nat.le_of_ble_eq_true rfl, Nat.le_of_ble_eq_true rfl⟩) hPc hDc hKc hS hA hN (va_recv hKc hPc (ci := 19) (q0 := 0) rfl rfl) rfl hl.1 rfl (Nat.le_of_ble_eq_true rfl) dX18_reckon_83 (fun H locs hP1 hD1 hk1 hS => ?_)
    have hP := hP1
    have hD := hD1.weaken (fun k q _ h => hFc q.1 h)
    refine lv_goto (tgt := 95) hx hb dX18_reckon_86 (by decide) ?_
    exact (db_X18_reckon_95 C K) (q41) s42 _ _ _ h hP hD hS (lv_sub hl [] rfl)
set_option maxHeartbeats 40000000 in
set_option maxRecDepth 100000 in
theorem db_X18_reckon_38 {p : Program} {l : Launch} {e : Env} {s : State} {m : MethodId} {args : Array Value} {below : List Frame} {meth : Method} {c : Code} {Q : State → Prop} {A : Nat → Prop} {dC : Nat → ClassId} {dI : Nat → Nat → Nat} {a : Nat → Nat} {ac : Nat → ClassId} {n : Nat} {r : St} (C : nd_C p l s m args c A (dC, dI) cX18_reckon 5 RX18 ow_dm_X18_reckon (dk_X18 ac)) (K : nd_Kv p l e (headSpec ow_dm_X18_reckon ({ frames := 4, cells := 0, slots := 0, locals := 89 })).room s m args below meth c Q A (dC, dI) cX18_reckon (St) (dw_X18 a ac) r) : dj_X18_reckon_38 p l e s m args below meth c Q A dC dI a ac (df_X18_reckon_38 n) r := by
  obtain ⟨hlt, hx, hb, hml, hown, hts, hN, hA, hK⟩ := id C
  intro x1 x2 x3 s0 H locs ls h hP hD hS hl
  unfold df_X18_reckon_38 at h
  refine lv_iload_n hx hb dX18_reckon_38 rfl (lv_at hl 1 rfl) ?_
  refine lv_iconst (v := 3) hx hb dX18_reckon_39 (by decide) ?_
  refine lv_icmp_ge (tgt := 99) hx hb dX18_reckon_40 (by decide) (fun c10 => ?_) (fun c10 => ?_)
  · have h := nd_pos h c10
    refine lv_aload_n hx hb dX18_reckon_99 rfl (lv_at hl 0 rfl) ?_
    refine lv_iconst (v := 5) hx hb dX18_reckon_100 (by decide) ?_
    refine lv_iconst (v := 2) hx hb dX18_reckon_101 (by decide) ?_
    obtain ⟨q11, s12, hq, h⟩ := nd_b2_e h
    have hPc := hP
    have hDc := hD
    have hKc := hK
    have hFc := nd_rs hD hS hA
    refine nd_cVi (As := [.int 5, .int 2]) (rest := []) (q := q11) (w' := dw_X18 a ac s12) ⟨hx, hb, hml, hown, hts⟩ (fun sz => dm_X18_part l hlt dC dI a ac n (5) (2) s0 hq sz) (cwV 2 hts gi_dm_X18_reckon_0 rfl rfl rfl (by decide +kernel) ⟨Nat.le_of_ble_eq_true rfl, Nat.le_of_ble_eq_true rfl⟩) hPc hDc hKc hS hA hN (va_recv hKc hPc (ci := 19) (q0 := 0) rfl rfl) rfl hl.1 rfl (Nat.le_of_ble_eq_true rfl) dX18_reckon_102 (fun H locs hP1 hD1 hk1 hS => ?_)
    have hP := hP1
    have hD := hD1.weaken (fun k q _ h => hFc q.1 h)
    refine lv_istore (lv' := [(4, .int q11), (0, .ref (a 0)), (1, .int x1), (2, .int x2), (3, .int x3)]) hx hb dX18_reckon_105 hl (by decide) rfl (fun ls hl => ?_)
    refine lv_aload_n hx hb dX18_reckon_107 rfl (lv_at hl 1 rfl) ?_
    refine lv_iload hx hb dX18_reckon_108 (lv_at hl 0 rfl) ?_
    refine lv_if_ne (tgt := 119) hx hb dX18_reckon_110 (by decide) (fun c14 => ?_) (fun c14 => ?_)
    · have h := nd_neg h c14
      refine lv_iload hx hb dX18_reckon_119 (lv_at hl 0 rfl) ?_
      refine lv_iconst (v := 1) hx hb dX18_reckon_121 (by decide) ?_
      refine lv_icmp_ne (tgt := 131) hx hb dX18_reckon_122 (by decide) (fun c15 => ?_) (fun c15 => ?_)
      · have h := nd_neg h c15
        refine lv_iload hx hb dX18_reckon_131 (lv_at hl 0 rfl) ?_
        refine lv_iconst (v := 2) hx hb dX18_reckon_133 (by decide) ?_
        refine lv_icmp_ne (tgt := 143) hx hb dX18_reckon_134 (by decide) (fun c16 => ?_) (fun c16 => ?_)
        · have h := nd_neg h c16
          refine lv_ldc2 hx hb hown (hts (.constantLong RX18 277 (431348592227)) (List.mem_of_getElem? (i := 5) rfl)) dX18_reckon_143 ?_
          exact (db_X18_reckon_146 C K) (x2) (x3) (431348592227) s12 _ _ _ h hP hD hS (lv_sub hl [1, 3, 4] rfl)
        · have h := nd_pos h c16
          refine lv_ldc2 hx hb hown (hts (.constantLong RX18 275 (1919888995)) (List.mem_of_getElem? (i := 12) rfl)) dX18_reckon_137 ?_
          refine lv_goto (tgt := 146) hx hb dX18_reckon_140 (by decide) ?_
          exact (db_X18_reckon_146 C K) (x2) (x3) (1919888995) s12 _ _ _ h hP hD hS (lv_sub hl [1, 3, 4] rfl)
      · have h := nd_pos h c15
        refine lv_ldc2 hx hb hown (hts (.constantLong RX18 273 (491496418915)) (List.mem_of_getElem? (i := 13) rfl)) dX18_reckon_125 ?_
        refine lv_goto (tgt := 146) hx hb dX18_reckon_128 (by decide) ?_
        exact (db_X18_reckon_146 C K) (x2) (x3) (491496418915) s12 _ _ _ h hP hD hS (lv_sub hl [1, 3, 4] rfl)
    · have h := nd_pos h c14
      refine lv_ldc2 hx hb hown (hts (.constantLong RX18 271 (422877277795)) (List.mem_of_getElem? (i := 14) rfl)) dX18_reckon_113 ?_
      refine lv_goto (tgt := 146) hx hb dX18_reckon_116 (by decide) ?_
      exact (db_X18_reckon_146 C K) (x2) (x3) (422877277795) s12 _ _ _ h hP hD hS (lv_sub hl [1, 3, 4] rfl)
  · have h := nd_neg h c10
    refine lv_aload_n hx hb dX18_reckon_43 rfl (lv_at hl 0 rfl) ?_
    refine lv_iload_n hx hb dX18_reckon_44 rfl (lv_at hl 1 rfl) ?_
    refine lv_if_ne (tgt := 54) hx hb dX18_reckon_45 (by decide) (fun c26 => ?_) (fun c26 => ?_)
    · have h := nd_neg h c26
      refine lv_iload_n hx hb dX18_reckon_54 rfl (lv_at hl 1 rfl) ?_
      refine lv_iconst (v := 1) hx hb dX18_reckon_55 (by decide) ?_
      refine lv_icmp_ne (tgt := 65) hx hb dX18_reckon_56 (by decide) (fun c27 => ?_) (fun c27 => ?_)
      · have h := nd_neg h c27
        refine lv_ldc2 hx hb hown (hts (.constantLong RX18 265 (115880069508707)) (List.mem_of_getElem? (i := 15) rfl)) dX18_reckon_65 ?_
        exact (db_X18_reckon_68 C K) (x1) (x3) (115880069508707) s0 _ _ _ h hP hD hS (lv_sub hl [0, 1, 3] rfl)
      · have h := nd_pos h c27
        refine lv_ldc2 hx hb hown (hts (.constantLong RX18 263 (115867252895331)) (List.mem_of_getElem? (i := 22) rfl)) dX18_reckon_59 ?_
        refine lv_goto (tgt := 68) hx hb dX18_reckon_62 (by decide) ?_
        exact (db_X18_reckon_68 C K) (x1) (x3) (115867252895331) s0 _ _ _ h hP hD hS (lv_sub hl [0, 1, 3] rfl)
    · have h := nd_pos h c26
      refine lv_ldc2 hx hb hown (hts (.constantLong RX18 261 (115914497535587)) (List.mem_of_getElem? (i := 23) rfl)) dX18_reckon_48 ?_
      refine lv_goto (tgt := 68) hx hb dX18_reckon_51 (by decide) ?_
      exact (db_X18_reckon_68 C K) (x1) (x3) (115914497535587) s0 _ _ _ h hP hD hS (lv_sub hl [0, 1, 3] rfl)
set_option maxHeartbeats 40000000 in
set_option maxRecDepth 100000 in
theorem db_X18_reckon_0 {p : Program} {l : Launch} {e : Env} {s : State} {m : MethodId} {args : Array Value} {below : List Frame} {meth : Method} {c : Code} {Q : State → Prop} {A : Nat → Prop} {dC : Nat → ClassId} {dI : Nat → Nat → Nat} {a : Nat → Nat} {ac : Nat → ClassId} {n : Nat} {r : St} (C : nd_C p l s m args c A (dC, dI) cX18_reckon 5 RX18 ow_dm_X18_reckon (dk_X18 ac)) (K : nd_Kv p l e (headSpec ow_dm_X18_reckon ({ frames := 4, cells := 0, slots := 0, locals := 89 })).room s m args below meth c Q A (dC, dI) cX18_reckon (St) (dw_X18 a ac) r) : dj_X18_reckon_0 p l e s m args below meth c Q A dC dI a ac (df_X18_reckon_0 n) r := by
  obtain ⟨hlt, hx, hb, hml, hown, hts, hN, hA, hK⟩ := id C
  intro v0 s0 H locs ls h hP hD hS hl
  unfold df_X18_reckon_0 at h
  refine lv_bipush (v := 8) hx hb dX18_reckon_0 (by decide) ?_
  refine lv_aload_n hx hb dX18_reckon_2 rfl (lv_at hl 0 rfl) ?_
  refine lv_iconst (v := 2) hx hb dX18_reckon_3 (by decide) ?_
  refine lv_iconst (v := 3) hx hb dX18_reckon_4 (by decide) ?_
  obtain ⟨q1, s2, hq, h⟩ := nd_b2_e h
  have hPc := hP
  have hDc := hD
  have hKc := hK
  have hFc := nd_rs hD hS hA
  refine nd_cVi (As := [.int 2, .int 3]) (rest := [.int 8]) (q := q1) (w' := dw_X18 a ac s2) ⟨hx, hb, hml, hown, hts⟩ (fun sz => dm_X18_part l hlt dC dI a ac n (2) (3) s0 hq sz) (cwV 2 hts gi_dm_X18_reckon_0 rfl rfl rfl (by decide +kernel) ⟨Nat.le_of_ble_eq_true rfl, Nat.le_of_ble_eq_true rfl⟩) hPc hDc hKc hS hA hN (va_recv hKc hPc (ci := 19) (q0 := 0) rfl rfl) rfl hl.1 rfl (Nat.le_of_ble_eq_true rfl) dX18_reckon_5 (fun H locs hP1 hD1 hk1 hS => ?_)
  have hP := hP1
  have hD := hD1.weaken (fun k q _ h => hFc q.1 h)
  refine lv_iadd hx hb dX18_reckon_8 ?_
  refine lv_topi (fun z4 ez4 => ?_)
  have h := nd_at h ez4
  refine lv_istore_n (lv' := [(2, .int z4), (0, .ref (a 0)), (1, .int v0)]) hx hb dX18_reckon_9 rfl hl (by decide) rfl (fun ls hl => ?_)
  refine lv_bipush (v := 8) hx hb dX18_reckon_10 (by decide) ?_
  refine lv_aload_n hx hb dX18_reckon_12 rfl (lv_at hl 1 rfl) ?_
  refine lv_bipush (v := 7) hx hb dX18_reckon_13 (by decide) ?_
  refine lv_iconst (v := 3) hx hb dX18_reckon_15 (by decide) ?_
  obtain ⟨q5, s6, hq, h⟩ := nd_b2_e h
  have hPc := hP
  have hDc := hD
  have hKc := hK
  have hFc := nd_rs hD hS hA
  refine nd_cVi (As := [.int 7, .int 3]) (rest := [.int 8]) (q := q5) (w' := dw_X18 a ac s6) ⟨hx, hb, hml, hown, hts⟩ (fun sz => dm_X18_part l hlt dC dI a ac n (7) (3) s2 hq sz) (cwV 2 hts gi_dm_X18_reckon_0 rfl rfl rfl (by decide +kernel) ⟨Nat.le_of_ble_eq_true rfl, Nat.le_of_ble_eq_true rfl⟩) hPc hDc hKc hS hA hN (va_recv hKc hPc (ci := 19) (q0 := 0) rfl rfl) rfl hl.1 rfl (Nat.le_of_ble_eq_true rfl) dX18_reckon_16 (fun H locs hP1 hD1 hk1 hS => ?_)
  have hP := hP1
  have hD := hD1.weaken (fun k q _ h => hFc q.1 h)
  refine lv_iadd hx hb dX18_reckon_19 ?_
  refine lv_topi (fun z8 ez8 => ?_)
  have h := nd_at h ez8
  refine lv_istore_n (lv' := [(3, .int z8), (2, .int z4), (0, .ref (a 0)), (1, .int v0)]) hx hb dX18_reckon_20 rfl hl (by decide) rfl (fun ls hl => ?_)
  refine lv_iload_n hx hb dX18_reckon_21 rfl (lv_at hl 3 rfl) ?_
  refine lv_iconst (v := 2) hx hb dX18_reckon_22 (by decide) ?_
  refine lv_icmp_eq (tgt := 38) hx hb dX18_reckon_23 (by decide) (fun c9 => ?_) (fun c9 => ?_)
  · have h := nd_pos h c9
    exact (db_X18_reckon_38 C K) (v0) (z4) (z8) s6 _ _ _ h hP hD hS (lv_sub hl [2, 3, 1, 0] rfl)
  · have h := nd_neg h c9
    refine lv_aload_n hx hb dX18_reckon_26 rfl (lv_at hl 2 rfl) ?_
    refine lv_bipush (v := 12) hx hb dX18_reckon_27 (by decide) ?_
    refine lv_iconst (v := 1) hx hb dX18_reckon_29 (by decide) ?_
    obtain ⟨q44, s45, hq, h⟩ := nd_b2_e h
    have hPc := hP
    have hDc := hD
    have hKc := hK
    have hFc := nd_rs hD hS hA
    refine nd_cVi (As := [.int 12, .int 1]) (rest := []) (q := q44) (w' := dw_X18 a ac s45) ⟨hx, hb, hml, hown, hts⟩ (fun sz => dm_X18_part l hlt dC dI a ac n (12) (1) s6 hq sz) (cwV 2 hts gi_dm_X18_reckon_0 rfl rfl rfl (by decide +kernel) ⟨Nat.le_of_ble_eq_true rfl, Nat.le_of_ble_eq_true rfl⟩) hPc hDc hKc hS hA hN (va_recv hKc hPc (ci := 19) (q0 := 0) rfl rfl) rfl hl.1 rfl (Nat.le_of_ble_eq_true rfl) dX18_reckon_30 (fun H locs hP1 hD1 hk1 hS => ?_)
    have hP := hP1
    have hD := hD1.weaken (fun k q _ h => hFc q.1 h)
    refine lv_iconst (v := 1) hx hb dX18_reckon_33 (by decide) ?_
    refine lv_icmp_ne (tgt := 38) hx hb dX18_reckon_34 (by decide) (fun c47 => ?_) (fun c47 => ?_)
    · have h := nd_neg h c47
      exact (db_X18_reckon_38 C K) (v0) (z4) (z8) s45 _ _ _ h hP hD hS (lv_sub hl [2, 3, 1, 0] rfl)
    · have h := nd_pos h c47
      exact K _ _ _ _ _ dX18_reckon_37 (Option.some.inj h).symm hP hD hS
set_option maxHeartbeats 40000000 in
set_option maxRecDepth 100000 in
theorem dm_X18_reckon (l : Launch) (hlt : l.stackTraces = false) (dC : Nat → ClassId) (dI : Nat → Nat → Nat) (a : Nat → Nat) (ac : Nat → ClassId) (n : Nat) (v0 : Int32) (s0 : St) {r : St} (h : df_X18_reckon n v0 s0 = some r) (sz : Nat) : Met l yX18_reckon ow_dm_X18_reckon ({ frames := 4, cells := 0, slots := 0, locals := 89 }) (va_Pc [.ref (a 0), .int v0] (fun U => U.heap.size = sz ∧ va_P (dC, dI) vwCl (dw_X18 a ac s0) U.heap ∧ va_K (dC, dI) vwCl (dk_X18 ac) U ∧ va_D (fun _ => True) (dw_X18 a ac s0) ∧ nv_E dI (va_A (dw_X18 a ac s0) sz) U)) (va_Qv (fun _ => True) (fun (_ : Unit) t => va_P (dC, dI) vwCl (dw_X18 a ac r) t.heap ∧ va_K (dC, dI) vwCl (dk_X18 ac) t ∧ va_D (va_A (dw_X18 a ac s0) sz) (dw_X18 a ac r)) (va_A (dw_X18 a ac s0) sz)) 0 0 (va_A (dw_X18 a ac s0) sz) := by
  refine Met.ofW (cc := cX18_reckon) (maxL := 5) (ret := none) (by decide) rfl ?_
  intro p e s m args below meth c s₁ B hml hv
  obtain ⟨rfl, hsz, hP, hK, hD0, hN⟩ := hv
  have hx := B.exec
  have hb := B.bytes
  have hr := B.returns
  have hts := atoms_spec (ws := ow_dm_X18_reckon) B.pre
  have hown : s.vm.findClass RX18 = some m.cls := findClass_of_methodNamed B.named
  have hlocks := B.notSynchronized
  subst hsz
  have hD := hD0.self (sz := s.heap.size)
  generalize hAe : va_A (dw_X18 a ac s0) s.heap.size = A at hD hN ⊢
  have hA : ∀ q : Nat, s.heap.size ≤ q → A q := fun q h => by rw [← hAe]; exact Or.inr h
  have hl := lv_entry ([.ref (a 0), .int v0]) (n := 5) (Nat.le_of_ble_eq_true rfl)
  rw [lg_entry_eq]
  generalize (lg_sl ([.ref (a 0), .int v0]) ++ List.replicate (5 - (lg_sl ([.ref (a 0), .int v0])).length) Slot.unset).toArray = ls at hl ⊢
  have hl : lv_has ls 5 [(0, .ref (a 0)), (1, .int v0)] := hl
  exact db_X18_reckon_0 (dC := dC) (dI := dI) (a := a) (ac := ac) (n := n) (r := r) ⟨hlt, hx, hb, hml, hown, hts, hN, hA, hK⟩ (fun pc τ H locs ls d er hP hD hS => by subst er; exact W.vret hx hb hr (fun t ht hW => ⟨⟨(), rfl, trivial, by rw [ht]; exact hP, va_K.moved hW.alike hK, hD⟩, hS.F ht⟩) hS.2.2 d) v0 s0 _ _ _ h hP hD va_S.rf (lv_sub hl [0, 1] rfl)
def ow_dm_X18_upper : List Cond := Cond.code yX18_upper cX18_upper 2 none :: ([Cond.methodLink RX18 172 yX18_part, Cond.instanceMethod yX18_part, Cond.selects RX18 yX18_part yX18_part, Cond.initialized RX18, Cond.fieldLink RX18 68 "TimeMachineModel$Reader" "d" "I", Cond.methodLink RX18 267 yX18_six, Cond.instanceMethod yX18_six, Cond.selects RX18 yX18_six yX18_six, Cond.constantLong RX18 283 (452941590115), Cond.methodLink RX18 65 yX18_name, Cond.instanceMethod yX18_name, Cond.selects RX18 yX18_name yX18_name, Cond.methodLink RX18 71 yX18_register, Cond.instanceMethod yX18_register, Cond.selects RX18 yX18_register yX18_register, Cond.methodLink RX18 59 yX18_immediate, Cond.instanceMethod yX18_immediate, Cond.selects RX18 yX18_immediate yX18_immediate, Cond.constantLong RX18 279 (3905018231808667235), Cond.constantLong RX18 281 (28787), Cond.methodLink RX18 50 yX18_say, Cond.instanceMethod yX18_say, Cond.selects RX18 yX18_say yX18_say] ++ (u_ws RX18 TX18 10 ++ (ow_dm_X18_part ++ (ow_dm_X18_six ++ (ow_dm_X18_name ++ (ow_dm_X18_register ++ (ow_dm_X18_immediate ++ (ow_dm_X18_say ++ []))))))))
theorem gd_dm_X18_upper : ∀ w ∈ ow_dm_X18_upper, (w.onTables && w.keeps) = true ∨ ∃ ty, w = Cond.arrayClass ty := List.forall_mem_cons.mpr ⟨good_of_word rfl, List.forall_mem_append.mpr ⟨fun w h => good_of_word (List.all_eq_true.mp (by decide +kernel) w h), List.forall_mem_append.mpr ⟨gu_X18, List.forall_mem_append.mpr ⟨gd_dm_X18_part, List.forall_mem_append.mpr ⟨gd_dm_X18_six, List.forall_mem_append.mpr ⟨gd_dm_X18_name, List.forall_mem_append.mpr ⟨gd_dm_X18_register, List.forall_mem_append.mpr ⟨gd_dm_X18_immediate, List.forall_mem_append.mpr ⟨gd_dm_X18_say, fun _ h => nomatch h⟩⟩⟩⟩⟩⟩⟩⟩⟩
theorem hi_dm_X18_upper_X18 : ∀ w ∈ u_ws RX18 TX18 10, w ∈ ow_dm_X18_upper := fun w h => List.mem_cons_of_mem _ (List.mem_append_right _ (List.mem_append_left _ h))
theorem gi_dm_X18_upper_0 : GoodIn ow_dm_X18_upper (wsV RX18 172 RX18 yX18_part ow_dm_X18_part) := goodIn_app (goodIn_of _ (by decide +kernel)) (fun w h => ⟨List.mem_cons_of_mem _ (List.mem_append_right _ (List.mem_append_right _ (List.mem_append_left _ h))), gd_dm_X18_part w h⟩)
theorem gi_dm_X18_upper_1 : GoodIn ow_dm_X18_upper (wsV RX18 267 RX18 yX18_six ow_dm_X18_six) := goodIn_app (goodIn_of _ (by decide +kernel)) (fun w h => ⟨List.mem_cons_of_mem _ (List.mem_append_right _ (List.mem_append_right _ (List.mem_append_right _ (List.mem_append_left _ h)))), gd_dm_X18_six w h⟩)
theorem gi_dm_X18_upper_2 : GoodIn ow_dm_X18_upper (wsV RX18 65 RX18 yX18_name ow_dm_X18_name) := goodIn_app (goodIn_of _ (by decide +kernel)) (fun w h => ⟨List.mem_cons_of_mem _ (List.mem_append_right _ (List.mem_append_right _ (List.mem_append_right _ (List.mem_append_right _ (List.mem_append_left _ h))))), gd_dm_X18_name w h⟩)
theorem gi_dm_X18_upper_3 : GoodIn ow_dm_X18_upper (wsV RX18 71 RX18 yX18_register ow_dm_X18_register) := goodIn_app (goodIn_of _ (by decide +kernel)) (fun w h => ⟨List.mem_cons_of_mem _ (List.mem_append_right _ (List.mem_append_right _ (List.mem_append_right _ (List.mem_append_right _ (List.mem_append_right _ (List.mem_append_left _ h)))))), gd_dm_X18_register w h⟩)
theorem gi_dm_X18_upper_4 : GoodIn ow_dm_X18_upper (wsV RX18 59 RX18 yX18_immediate ow_dm_X18_immediate) := goodIn_app (goodIn_of _ (by decide +kernel)) (fun w h => ⟨List.mem_cons_of_mem _ (List.mem_append_right _ (List.mem_append_right _ (List.mem_append_right _ (List.mem_append_right _ (List.mem_append_right _ (List.mem_append_right _ (List.mem_append_left _ h))))))), gd_dm_X18_immediate w h⟩)
theorem gi_dm_X18_upper_5 : GoodIn ow_dm_X18_upper (wsV RX18 50 RX18 yX18_say ow_dm_X18_say) := goodIn_app (goodIn_of _ (by decide +kernel)) (fun w h => ⟨List.mem_cons_of_mem _ (List.mem_append_right _ (List.mem_append_right _ (List.mem_append_right _ (List.mem_append_right _ (List.mem_append_right _ (List.mem_append_right _ (List.mem_append_right _ (List.mem_append_left _ h)))))))), gd_dm_X18_say w h⟩)
def dj_X18_upper_74 (p : Program) (l : Launch) (e : Env) (s : State) (m : MethodId) (args : Array Value) (below : List Frame) (meth : Method) (c : Code) (Q : State → Prop) (A : Nat → Prop) (dC : Nat → ClassId) (dI : Nat → Nat → Nat) (a : Nat → Nat) (ac : Nat → ClassId) (g : Int32 → (St) → Option (St)) (r : St) : Prop := ∀ (x1 : Int32) (s0 : St) (H : Heap) (locs : List Loc) (ls : Array Slot), g x1 s0 = some r → va_P (dC, dI) vwCl (dw_X18 a ac s0) H → va_D A (dw_X18 a ac s0) → va_S A s.heap H locs → lv_has ls 2 [(0, .ref (a 0)), (1, .int x1)] → W p l e (headSpec ow_dm_X18_upper ({ frames := 4, cells := 0, slots := 0, locals := 89 })).room s m args below meth c H locs 0 0 Q (F0 m 74 ls [])
def dj_X18_upper_73 (p : Program) (l : Launch) (e : Env) (s : State) (m : MethodId) (args : Array Value) (below : List Frame) (meth : Method) (c : Code) (Q : State → Prop) (A : Nat → Prop) (dC : Nat → ClassId) (dI : Nat → Nat → Nat) (a : Nat → Nat) (ac : Nat → ClassId) (g : (St) → Option (St)) (r : St) : Prop := ∀ (s0 : St) (H : Heap) (locs : List Loc) (ls : Array Slot), g s0 = some r → va_P (dC, dI) vwCl (dw_X18 a ac s0) H → va_D A (dw_X18 a ac s0) → va_S A s.heap H locs → lv_has ls 2 [] → W p l e (headSpec ow_dm_X18_upper ({ frames := 4, cells := 0, slots := 0, locals := 89 })).room s m args below meth c H locs 0 0 Q (F0 m 73 ls [])
def dj_X18_upper_0 (p : Program) (l : Launch) (e : Env) (s : State) (m : MethodId) (args : Array Value) (below : List Frame) (meth : Method) (c : Code) (Q : State → Prop) (A : Nat → Prop) (dC : Nat → ClassId) (dI : Nat → Nat → Nat) (a : Nat → Nat) (ac : Nat → ClassId) (g : (St) → Option (St)) (r : St) : Prop := ∀ (s0 : St) (H : Heap) (locs : List Loc) (ls : Array Slot), g s0 = some r → va_P (dC, dI) vwCl (dw_X18 a ac s0) H → va_D A (dw_X18 a ac s0) → va_S A s.heap H locs → lv_has ls 2 [(0, .ref (a 0))] → W p l e (headSpec ow_dm_X18_upper ({ frames := 4, cells := 0, slots := 0, locals := 89 })).room s m args below meth c H locs 0 0 Q (F0 m 0 ls [])
set_option maxHeartbeats 40000000 in
set_option maxRecDepth 100000 in
theorem db_X18_upper_74 {p : Program} {l : Launch} {e : Env} {s : State} {m : MethodId} {args : Array Value} {below : List Frame} {meth : Method} {c : Code} {Q : State → Prop} {A : Nat → Prop} {dC : Nat → ClassId} {dI : Nat → Nat → Nat} {a : Nat → Nat} {ac : Nat → ClassId} {n : Nat} {r : St} (C : nd_C p l s m args c A (dC, dI) cX18_upper 2 RX18 ow_dm_X18_upper (dk_X18 ac)) (K : nd_Kv p l e (headSpec ow_dm_X18_upper ({ frames := 4, cells := 0, slots := 0, locals := 89 })).room s m args below meth c Q A (dC, dI) cX18_upper (St) (dw_X18 a ac) r) : dj_X18_upper_74 p l e s m args below meth c Q A dC dI a ac (df_X18_upper_74 n) r := by
  obtain ⟨hlt, hx, hb, hml, hown, hts, hN, hA, hK⟩ := id C
  intro x1 s0 H locs ls h hP hD hS hl
  unfold df_X18_upper_74 at h
  refine lv_aload_n hx hb dX18_upper_74 rfl (lv_at hl 0 rfl) ?_
  refine va_get (D := (dC, dI)) (ci := 19) (v := .int (sI s0 4)) (C := RX18) (T := TX18) (N := 10) hx hb hts hi_dm_X18_upper_X18 hown hK hP 0 rfl rfl 5 (by decide) (hts (.fieldLink RX18 68 "TimeMachineModel$Reader" "d" "I") (List.mem_of_getElem? (i := 5) rfl)) (fun _ h9 => h9) rfl dX18_upper_75 ?_
  refine lv_iconst (v := 2) hx hb dX18_upper_78 (by decide) ?_
  refine lv_icmp_ne (tgt := 102) hx hb dX18_upper_79 (by decide) (fun c22 => ?_) (fun c22 => ?_)
  · have h := nd_neg h c22
    refine lv_aload_n hx hb dX18_upper_102 rfl (lv_at hl 0 rfl) ?_
    refine lv_ldc2 hx hb hown (hts (.constantLong RX18 283 (452941590115)) (List.mem_of_getElem? (i := 9) rfl)) dX18_upper_103 ?_
    obtain ⟨s24, hq, h⟩ := nd_b1_e h
    have hPc := hP
    have hDc := hD
    have hKc := hK
    have hFc := nd_rs hD hS hA
    refine nd_cVv (As := [.long 452941590115]) (rest := []) (w' := dw_X18 a ac s24) ⟨hx, hb, hml, hown, hts⟩ (fun sz => dm_X18_name l hlt dC dI a ac n (452941590115) s0 hq sz) (cwV 1 hts gi_dm_X18_upper_2 rfl rfl rfl (by decide +kernel) ⟨Nat.le_of_ble_eq_true rfl, Nat.le_of_ble_eq_true rfl⟩) hPc hDc hKc hS hA hN (va_recv hKc hPc (ci := 19) (q0 := 0) rfl rfl) rfl hl.1 rfl (Nat.le_of_ble_eq_true rfl) dX18_upper_106 (fun H locs hP1 hD1 hk1 hS => ?_)
    have hP := hP1
    have hD := hD1.weaken (fun k q _ h => hFc q.1 h)
    refine lv_aload_n hx hb dX18_upper_109 rfl (lv_at hl 0 rfl) ?_
    refine lv_aload_n hx hb dX18_upper_110 rfl (lv_at hl 0 rfl) ?_
    refine va_get (D := (dC, dI)) (ci := 19) (v := .int (sI s24 4)) (C := RX18) (T := TX18) (N := 10) hx hb hts hi_dm_X18_upper_X18 hown hK hP 0 rfl rfl 5 (by decide) (hts (.fieldLink RX18 68 "TimeMachineModel$Reader" "d" "I") (List.mem_of_getElem? (i := 5) rfl)) (fun _ h9 => h9) rfl dX18_upper_111 ?_
    obtain ⟨s27, hq, h⟩ := nd_b1_e h
    have hPc := hP
    have hDc := hD
    have hKc := hK
    have hFc := nd_rs hD hS hA
    refine nd_cVv (As := [.int (sI s24 4)]) (rest := []) (w' := dw_X18 a ac s27) ⟨hx, hb, hml, hown, hts⟩ (fun sz => dm_X18_register l hlt dC dI a ac n ((sI s24 4)) s24 hq sz) (cwV 1 hts gi_dm_X18_upper_3 rfl rfl rfl (by decide +kernel) ⟨Nat.le_of_ble_eq_true rfl, Nat.le_of_ble_eq_true rfl⟩) hPc hDc hKc hS hA hN (va_recv hKc hPc (ci := 19) (q0 := 0) rfl rfl) rfl hl.1 rfl (Nat.le_of_ble_eq_true rfl) dX18_upper_114 (fun H locs hP1 hD1 hk1 hS => ?_)
    have hP := hP1
    have hD := hD1.weaken (fun k q _ h => hFc q.1 h)
    refine lv_aload_n hx hb dX18_upper_117 rfl (lv_at hl 0 rfl) ?_
    refine lv_aload_n hx hb dX18_upper_118 rfl (lv_at hl 0 rfl) ?_
    obtain ⟨q29, s30, hq, h⟩ := nd_b2_e h
    have hPc := hP
    have hDc := hD
    have hKc := hK
    have hFc := nd_rs hD hS hA
    refine nd_cVi (As := []) (rest := [.ref (a 0)]) (q := q29) (w' := dw_X18 a ac s30) ⟨hx, hb, hml, hown, hts⟩ (fun sz => dm_X18_six l hlt dC dI a ac n  s27 hq sz) (cwV 0 hts gi_dm_X18_upper_1 rfl rfl rfl (by decide +kernel) ⟨Nat.le_of_ble_eq_true rfl, Nat.le_of_ble_eq_true rfl⟩) hPc hDc hKc hS hA hN (va_recv hKc hPc (ci := 19) (q0 := 0) rfl rfl) rfl hl.1 rfl (Nat.le_of_ble_eq_true rfl) dX18_upper_119 (fun H locs hP1 hD1 hk1 hS => ?_)
    have hP := hP1
    have hD := hD1.weaken (fun k q _ h => hFc q.1 h)
    obtain ⟨s33, hq, h⟩ := nd_b1_e h
    have hPc := hP
    have hDc := hD
    have hKc := hK
    have hFc := nd_rs hD hS hA
    refine nd_cVv (As := [.int q29]) (rest := []) (w' := dw_X18 a ac s33) ⟨hx, hb, hml, hown, hts⟩ (fun sz => dm_X18_immediate l hlt dC dI a ac n (q29) s30 hq sz) (cwV 1 hts gi_dm_X18_upper_4 rfl rfl rfl (by decide +kernel) ⟨Nat.le_of_ble_eq_true rfl, Nat.le_of_ble_eq_true rfl⟩) hPc hDc hKc hS hA hN (va_recv hKc hPc (ci := 19) (q0 := 0) rfl rfl) rfl hl.1 rfl (Nat.le_of_ble_eq_true rfl) dX18_upper_122 (fun H locs hP1 hD1 hk1 hS => ?_)
    have hP := hP1
    have hD := hD1.weaken (fun k q _ h => hFc q.1 h)
    exact K _ _ _ _ _ dX18_upper_125 (Option.some.inj h).symm hP hD hS
  · have h := nd_pos h c22
    refine lv_aload_n hx hb dX18_upper_82 rfl (lv_at hl 0 rfl) ?_
    refine lv_ldc2 hx hb hown (hts (.constantLong RX18 279 (3905018231808667235)) (List.mem_of_getElem? (i := 19) rfl)) dX18_upper_83 ?_
    obtain ⟨s36, hq, h⟩ := nd_b1_e h
    have hPc := hP
    have hDc := hD
    have hKc := hK
    have hFc := nd_rs hD hS hA
    refine nd_cVv (As := [.long 3905018231808667235]) (rest := []) (w' := dw_X18 a ac s36) ⟨hx, hb, hml, hown, hts⟩ (fun sz => dm_X18_name l hlt dC dI a ac n (3905018231808667235) s0 hq sz) (cwV 1 hts gi_dm_X18_upper_2 rfl rfl rfl (by decide +kernel) ⟨Nat.le_of_ble_eq_true rfl, Nat.le_of_ble_eq_true rfl⟩) hPc hDc hKc hS hA hN (va_recv hKc hPc (ci := 19) (q0 := 0) rfl rfl) rfl hl.1 rfl (Nat.le_of_ble_eq_true rfl) dX18_upper_86 (fun H locs hP1 hD1 hk1 hS => ?_)
    have hP := hP1
    have hD := hD1.weaken (fun k q _ h => hFc q.1 h)
    refine lv_aload_n hx hb dX18_upper_89 rfl (lv_at hl 0 rfl) ?_
    refine lv_ldc2 hx hb hown (hts (.constantLong RX18 281 (28787)) (List.mem_of_getElem? (i := 20) rfl)) dX18_upper_90 ?_
    obtain ⟨s39, hq, h⟩ := nd_b1_e h
    have hPc := hP
    have hDc := hD
    have hKc := hK
    have hFc := nd_rs hD hS hA
    refine nd_cVv (As := [.long 28787]) (rest := []) (w' := dw_X18 a ac s39) ⟨hx, hb, hml, hown, hts⟩ (fun sz => dm_X18_say l hlt dC dI a ac n (28787) s36 hq sz) (cwV 1 hts gi_dm_X18_upper_5 rfl rfl rfl (by decide +kernel) ⟨Nat.le_of_ble_eq_true rfl, Nat.le_of_ble_eq_true rfl⟩) hPc hDc hKc hS hA hN (va_recv hKc hPc (ci := 19) (q0 := 0) rfl rfl) rfl hl.1 rfl (Nat.le_of_ble_eq_true rfl) dX18_upper_93 (fun H locs hP1 hD1 hk1 hS => ?_)
    have hP := hP1
    have hD := hD1.weaken (fun k q _ h => hFc q.1 h)
    refine lv_aload_n hx hb dX18_upper_96 rfl (lv_at hl 0 rfl) ?_
    refine lv_iload_n hx hb dX18_upper_97 rfl (lv_at hl 1 rfl) ?_
    obtain ⟨s42, hq, h⟩ := nd_b1_e h
    have hPc := hP
    have hDc := hD
    have hKc := hK
    have hFc := nd_rs hD hS hA
    refine nd_cVv (As := [.int x1]) (rest := []) (w' := dw_X18 a ac s42) ⟨hx, hb, hml, hown, hts⟩ (fun sz => dm_X18_immediate l hlt dC dI a ac n (x1) s39 hq sz) (cwV 1 hts gi_dm_X18_upper_4 rfl rfl rfl (by decide +kernel) ⟨Nat.le_of_ble_eq_true rfl, Nat.le_of_ble_eq_true rfl⟩) hPc hDc hKc hS hA hN (va_recv hKc hPc (ci := 19) (q0 := 0) rfl rfl) rfl hl.1 rfl (Nat.le_of_ble_eq_true rfl) dX18_upper_98 (fun H locs hP1 hD1 hk1 hS => ?_)
    have hP := hP1
    have hD := hD1.weaken (fun k q _ h => hFc q.1 h)
    exact K _ _ _ _ _ dX18_upper_101 (Option.some.inj h).symm hP hD hS
set_option maxHeartbeats 40000000 in
set_option maxRecDepth 100000 in
theorem db_X18_upper_73 {p : Program} {l : Launch} {e : Env} {s : State} {m : MethodId} {args : Array Value} {below : List Frame} {meth : Method} {c : Code} {Q : State → Prop} {A : Nat → Prop} {dC : Nat → ClassId} {dI : Nat → Nat → Nat} {a : Nat → Nat} {ac : Nat → ClassId} {n : Nat} {r : St} (C : nd_C p l s m args c A (dC, dI) cX18_upper 2 RX18 ow_dm_X18_upper (dk_X18 ac)) (K : nd_Kv p l e (headSpec ow_dm_X18_upper ({ frames := 4, cells := 0, slots := 0, locals := 89 })).room s m args below meth c Q A (dC, dI) cX18_upper (St) (dw_X18 a ac) r) : dj_X18_upper_73 p l e s m args below meth c Q A dC dI a ac (df_X18_upper_73 n) r := by
  obtain ⟨hlt, hx, hb, hml, hown, hts, hN, hA, hK⟩ := id C
  intro s0 H locs ls h hP hD hS hl
  unfold df_X18_upper_73 at h
  exact K _ _ _ _ _ dX18_upper_73 (Option.some.inj h).symm hP hD hS
set_option maxHeartbeats 40000000 in
set_option maxRecDepth 100000 in
theorem db_X18_upper_0 {p : Program} {l : Launch} {e : Env} {s : State} {m : MethodId} {args : Array Value} {below : List Frame} {meth : Method} {c : Code} {Q : State → Prop} {A : Nat → Prop} {dC : Nat → ClassId} {dI : Nat → Nat → Nat} {a : Nat → Nat} {ac : Nat → ClassId} {n : Nat} {r : St} (C : nd_C p l s m args c A (dC, dI) cX18_upper 2 RX18 ow_dm_X18_upper (dk_X18 ac)) (K : nd_Kv p l e (headSpec ow_dm_X18_upper ({ frames := 4, cells := 0, slots := 0, locals := 89 })).room s m args below meth c Q A (dC, dI) cX18_upper (St) (dw_X18 a ac) r) : dj_X18_upper_0 p l e s m args below meth c Q A dC dI a ac (df_X18_upper_0 n) r := by
  obtain ⟨hlt, hx, hb, hml, hown, hts, hN, hA, hK⟩ := id C
  intro s0 H locs ls h hP hD hS hl
  unfold df_X18_upper_0 at h
  refine lv_aload_n hx hb dX18_upper_0 rfl (lv_at hl 0 rfl) ?_
  refine lv_bipush (v := 6) hx hb dX18_upper_1 (by decide) ?_
  refine lv_iconst (v := 1) hx hb dX18_upper_3 (by decide) ?_
  obtain ⟨q1, s2, hq, h⟩ := nd_b2_e h
  have hPc := hP
  have hDc := hD
  have hKc := hK
  have hFc := nd_rs hD hS hA
  refine nd_cVi (As := [.int 6, .int 1]) (rest := []) (q := q1) (w' := dw_X18 a ac s2) ⟨hx, hb, hml, hown, hts⟩ (fun sz => dm_X18_part l hlt dC dI a ac n (6) (1) s0 hq sz) (cwV 2 hts gi_dm_X18_upper_0 rfl rfl rfl (by decide +kernel) ⟨Nat.le_of_ble_eq_true rfl, Nat.le_of_ble_eq_true rfl⟩) hPc hDc hKc hS hA hN (va_recv hKc hPc (ci := 19) (q0 := 0) rfl rfl) rfl hl.1 rfl (Nat.le_of_ble_eq_true rfl) dX18_upper_4 (fun H locs hP1 hD1 hk1 hS => ?_)
  have hP := hP1
  have hD := hD1.weaken (fun k q _ h => hFc q.1 h)
  refine lv_iconst (v := 4) hx hb dX18_upper_7 (by decide) ?_
  refine lv_ishl hx hb dX18_upper_8 ?_
  refine lv_aload_n hx hb dX18_upper_9 rfl (lv_at hl 0 rfl) ?_
  refine lv_iconst (v := 5) hx hb dX18_upper_10 (by decide) ?_
  refine lv_iconst (v := 1) hx hb dX18_upper_11 (by decide) ?_
  obtain ⟨q4, s5, hq, h⟩ := nd_b2_e h
  have hPc := hP
  have hDc := hD
  have hKc := hK
  have hFc := nd_rs hD hS hA
  refine nd_cVi (As := [.int 5, .int 1]) (rest := [.int ((q1 : Int32) <<< ((4 : Int32) &&& 31))]) (q := q4) (w' := dw_X18 a ac s5) ⟨hx, hb, hml, hown, hts⟩ (fun sz => dm_X18_part l hlt dC dI a ac n (5) (1) s2 hq sz) (cwV 2 hts gi_dm_X18_upper_0 rfl rfl rfl (by decide +kernel) ⟨Nat.le_of_ble_eq_true rfl, Nat.le_of_ble_eq_true rfl⟩) hPc hDc hKc hS hA hN (va_recv hKc hPc (ci := 19) (q0 := 0) rfl rfl) rfl hl.1 rfl (Nat.le_of_ble_eq_true rfl) dX18_upper_12 (fun H locs hP1 hD1 hk1 hS => ?_)
  have hP := hP1
  have hD := hD1.weaken (fun k q _ h => hFc q.1 h)
  refine lv_bipush (v := 6) hx hb dX18_upper_15 (by decide) ?_
  refine lv_ishl hx hb dX18_upper_17 ?_
  refine lv_ior hx hb dX18_upper_18 ?_
  refine lv_aload_n hx hb dX18_upper_19 rfl (lv_at hl 0 rfl) ?_
  refine lv_iconst (v := 3) hx hb dX18_upper_20 (by decide) ?_
  refine lv_iconst (v := 2) hx hb dX18_upper_21 (by decide) ?_
  obtain ⟨q7, s8, hq, h⟩ := nd_b2_e h
  have hPc := hP
  have hDc := hD
  have hKc := hK
  have hFc := nd_rs hD hS hA
  refine nd_cVi (As := [.int 3, .int 2]) (rest := [.int (((q1 : Int32) <<< ((4 : Int32) &&& 31)) ||| ((q4 : Int32) <<< ((6 : Int32) &&& 31)))]) (q := q7) (w' := dw_X18 a ac s8) ⟨hx, hb, hml, hown, hts⟩ (fun sz => dm_X18_part l hlt dC dI a ac n (3) (2) s5 hq sz) (cwV 2 hts gi_dm_X18_upper_0 rfl rfl rfl (by decide +kernel) ⟨Nat.le_of_ble_eq_true rfl, Nat.le_of_ble_eq_true rfl⟩) hPc hDc hKc hS hA hN (va_recv hKc hPc (ci := 19) (q0 := 0) rfl rfl) rfl hl.1 rfl (Nat.le_of_ble_eq_true rfl) dX18_upper_22 (fun H locs hP1 hD1 hk1 hS => ?_)
  have hP := hP1
  have hD := hD1.weaken (fun k q _ h => hFc q.1 h)
  refine lv_bipush (v := 7) hx hb dX18_upper_25 (by decide) ?_
  refine lv_ishl hx hb dX18_upper_27 ?_
  refine lv_ior hx hb dX18_upper_28 ?_
  refine lv_aload_n hx hb dX18_upper_29 rfl (lv_at hl 0 rfl) ?_
  refine lv_iconst (v := 2) hx hb dX18_upper_30 (by decide) ?_
  refine lv_iconst (v := 1) hx hb dX18_upper_31 (by decide) ?_
  obtain ⟨q10, s11, hq, h⟩ := nd_b2_e h
  have hPc := hP
  have hDc := hD
  have hKc := hK
  have hFc := nd_rs hD hS hA
  refine nd_cVi (As := [.int 2, .int 1]) (rest := [.int ((((q1 : Int32) <<< ((4 : Int32) &&& 31)) ||| ((q4 : Int32) <<< ((6 : Int32) &&& 31))) ||| ((q7 : Int32) <<< ((7 : Int32) &&& 31)))]) (q := q10) (w' := dw_X18 a ac s11) ⟨hx, hb, hml, hown, hts⟩ (fun sz => dm_X18_part l hlt dC dI a ac n (2) (1) s8 hq sz) (cwV 2 hts gi_dm_X18_upper_0 rfl rfl rfl (by decide +kernel) ⟨Nat.le_of_ble_eq_true rfl, Nat.le_of_ble_eq_true rfl⟩) hPc hDc hKc hS hA hN (va_recv hKc hPc (ci := 19) (q0 := 0) rfl rfl) rfl hl.1 rfl (Nat.le_of_ble_eq_true rfl) dX18_upper_32 (fun H locs hP1 hD1 hk1 hS => ?_)
  have hP := hP1
  have hD := hD1.weaken (fun k q _ h => hFc q.1 h)
  refine lv_iconst (v := 5) hx hb dX18_upper_35 (by decide) ?_
  refine lv_ishl hx hb dX18_upper_36 ?_
  refine lv_ior hx hb dX18_upper_37 ?_
  refine lv_aload_n hx hb dX18_upper_38 rfl (lv_at hl 0 rfl) ?_
  refine lv_bipush (v := 12) hx hb dX18_upper_39 (by decide) ?_
  refine lv_iconst (v := 1) hx hb dX18_upper_41 (by decide) ?_
  obtain ⟨q13, s14, hq, h⟩ := nd_b2_e h
  have hPc := hP
  have hDc := hD
  have hKc := hK
  have hFc := nd_rs hD hS hA
  refine nd_cVi (As := [.int 12, .int 1]) (rest := [.int (((((q1 : Int32) <<< ((4 : Int32) &&& 31)) ||| ((q4 : Int32) <<< ((6 : Int32) &&& 31))) ||| ((q7 : Int32) <<< ((7 : Int32) &&& 31))) ||| ((q10 : Int32) <<< ((5 : Int32) &&& 31)))]) (q := q13) (w' := dw_X18 a ac s14) ⟨hx, hb, hml, hown, hts⟩ (fun sz => dm_X18_part l hlt dC dI a ac n (12) (1) s11 hq sz) (cwV 2 hts gi_dm_X18_upper_0 rfl rfl rfl (by decide +kernel) ⟨Nat.le_of_ble_eq_true rfl, Nat.le_of_ble_eq_true rfl⟩) hPc hDc hKc hS hA hN (va_recv hKc hPc (ci := 19) (q0 := 0) rfl rfl) rfl hl.1 rfl (Nat.le_of_ble_eq_true rfl) dX18_upper_42 (fun H locs hP1 hD1 hk1 hS => ?_)
  have hP := hP1
  have hD := hD1.weaken (fun k q _ h => hFc q.1 h)
  refine lv_ineg hx hb dX18_upper_45 ?_
  refine lv_bipush (v := 9) hx hb dX18_upper_46 (by decide) ?_
  refine lv_ishl hx hb dX18_upper_48 ?_
  refine lv_ior hx hb dX18_upper_49 ?_
  refine lv_topi (fun z16 ez16 => ?_)
  have h := nd_at h ez16
  refine lv_istore_n (lv' := [(1, .int z16), (0, .ref (a 0))]) hx hb dX18_upper_50 rfl hl (by decide) rfl (fun ls hl => ?_)
  refine lv_aload_n hx hb dX18_upper_51 rfl (lv_at hl 1 rfl) ?_
  refine va_get (D := (dC, dI)) (ci := 19) (v := .int (sI s14 4)) (C := RX18) (T := TX18) (N := 10) hx hb hts hi_dm_X18_upper_X18 hown hK hP 0 rfl rfl 5 (by decide) (hts (.fieldLink RX18 68 "TimeMachineModel$Reader" "d" "I") (List.mem_of_getElem? (i := 5) rfl)) (fun _ h9 => h9) rfl dX18_upper_52 ?_
  refine lv_iconst (v := 2) hx hb dX18_upper_55 (by decide) ?_
  refine lv_icmp_ne (tgt := 66) hx hb dX18_upper_56 (by decide) (fun c17 => ?_) (fun c17 => ?_)
  · have h := nd_neg h c17
    refine lv_aload_n hx hb dX18_upper_66 rfl (lv_at hl 1 rfl) ?_
    obtain ⟨q18, s19, hq, h⟩ := nd_b2_e h
    have hPc := hP
    have hDc := hD
    have hKc := hK
    have hFc := nd_rs hD hS hA
    refine nd_cVi (As := []) (rest := []) (q := q18) (w' := dw_X18 a ac s19) ⟨hx, hb, hml, hown, hts⟩ (fun sz => dm_X18_six l hlt dC dI a ac n  s14 hq sz) (cwV 0 hts gi_dm_X18_upper_1 rfl rfl rfl (by decide +kernel) ⟨Nat.le_of_ble_eq_true rfl, Nat.le_of_ble_eq_true rfl⟩) hPc hDc hKc hS hA hN (va_recv hKc hPc (ci := 19) (q0 := 0) rfl rfl) rfl hl.1 rfl (Nat.le_of_ble_eq_true rfl) dX18_upper_67 (fun H locs hP1 hD1 hk1 hS => ?_)
    have hP := hP1
    have hD := hD1.weaken (fun k q _ h => hFc q.1 h)
    refine lv_if_ne (tgt := 74) hx hb dX18_upper_70 (by decide) (fun c21 => ?_) (fun c21 => ?_)
    · have h := nd_neg h c21
      exact (db_X18_upper_74 C K) (z16) s19 _ _ _ h hP hD hS (lv_sub hl [1, 0] rfl)
    · have h := nd_pos h c21
      exact (db_X18_upper_73 C K)  s19 _ _ _ h hP hD hS (lv_sub hl [] rfl)
  · have h := nd_pos h c17
    refine lv_iload_n hx hb dX18_upper_59 rfl (lv_at hl 0 rfl) ?_
    refine lv_if_ne (tgt := 74) hx hb dX18_upper_60 (by decide) (fun c44 => ?_) (fun c44 => ?_)
    · have h := nd_neg h c44
      exact (db_X18_upper_74 C K) (z16) s14 _ _ _ h hP hD hS (lv_sub hl [1, 0] rfl)
    · have h := nd_pos h c44
      refine lv_goto (tgt := 73) hx hb dX18_upper_63 (by decide) ?_
      exact (db_X18_upper_73 C K)  s14 _ _ _ h hP hD hS (lv_sub hl [] rfl)
set_option maxHeartbeats 40000000 in
set_option maxRecDepth 100000 in
theorem dm_X18_upper (l : Launch) (hlt : l.stackTraces = false) (dC : Nat → ClassId) (dI : Nat → Nat → Nat) (a : Nat → Nat) (ac : Nat → ClassId) (n : Nat) (s0 : St) {r : St} (h : df_X18_upper n s0 = some r) (sz : Nat) : Met l yX18_upper ow_dm_X18_upper ({ frames := 4, cells := 0, slots := 0, locals := 89 }) (va_Pc [.ref (a 0)] (fun U => U.heap.size = sz ∧ va_P (dC, dI) vwCl (dw_X18 a ac s0) U.heap ∧ va_K (dC, dI) vwCl (dk_X18 ac) U ∧ va_D (fun _ => True) (dw_X18 a ac s0) ∧ nv_E dI (va_A (dw_X18 a ac s0) sz) U)) (va_Qv (fun _ => True) (fun (_ : Unit) t => va_P (dC, dI) vwCl (dw_X18 a ac r) t.heap ∧ va_K (dC, dI) vwCl (dk_X18 ac) t ∧ va_D (va_A (dw_X18 a ac s0) sz) (dw_X18 a ac r)) (va_A (dw_X18 a ac s0) sz)) 0 0 (va_A (dw_X18 a ac s0) sz) := by
  refine Met.ofW (cc := cX18_upper) (maxL := 2) (ret := none) (by decide) rfl ?_
  intro p e s m args below meth c s₁ B hml hv
  obtain ⟨rfl, hsz, hP, hK, hD0, hN⟩ := hv
  have hx := B.exec
  have hb := B.bytes
  have hr := B.returns
  have hts := atoms_spec (ws := ow_dm_X18_upper) B.pre
  have hown : s.vm.findClass RX18 = some m.cls := findClass_of_methodNamed B.named
  have hlocks := B.notSynchronized
  subst hsz
  have hD := hD0.self (sz := s.heap.size)
  generalize hAe : va_A (dw_X18 a ac s0) s.heap.size = A at hD hN ⊢
  have hA : ∀ q : Nat, s.heap.size ≤ q → A q := fun q h => by rw [← hAe]; exact Or.inr h
  have hl := lv_entry ([.ref (a 0)]) (n := 2) (Nat.le_of_ble_eq_true rfl)
  rw [lg_entry_eq]
  generalize (lg_sl ([.ref (a 0)]) ++ List.replicate (2 - (lg_sl ([.ref (a 0)])).length) Slot.unset).toArray = ls at hl ⊢
  have hl : lv_has ls 2 [(0, .ref (a 0))] := hl
  exact db_X18_upper_0 (dC := dC) (dI := dI) (a := a) (ac := ac) (n := n) (r := r) ⟨hlt, hx, hb, hml, hown, hts, hN, hA, hK⟩ (fun pc τ H locs ls d er hP hD hS => by subst er; exact W.vret hx hb hr (fun t ht hW => ⟨⟨(), rfl, trivial, by rw [ht]; exact hP, va_K.moved hW.alike hK, hD⟩, hS.F ht⟩) hS.2.2 d) s0 _ _ _ h hP hD va_S.rf (lv_sub hl [0] rfl)
def ow_dm_X18_second : List Cond := Cond.code yX18_second cX18_second 1 none :: ([Cond.fieldLink RX18 20 "TimeMachineModel$Reader" "bits" "I", Cond.fieldLink RX18 80 "TimeMachineModel$Reader" "f" "I", Cond.constantLong RX18 289 (1768697443), Cond.methodLink RX18 65 yX18_name, Cond.instanceMethod yX18_name, Cond.selects RX18 yX18_name yX18_name, Cond.initialized RX18, Cond.fieldLink RX18 68 "TimeMachineModel$Reader" "d" "I", Cond.methodLink RX18 71 yX18_register, Cond.instanceMethod yX18_register, Cond.selects RX18 yX18_register yX18_register, Cond.methodLink RX18 267 yX18_six, Cond.instanceMethod yX18_six, Cond.selects RX18 yX18_six yX18_six, Cond.methodLink RX18 59 yX18_immediate, Cond.instanceMethod yX18_immediate, Cond.selects RX18 yX18_immediate yX18_immediate, Cond.constantLong RX18 287 (115879901736547), Cond.constantLong RX18 293 (6958691), Cond.methodLink RX18 295 yX18_jump, Cond.instanceMethod yX18_jump, Cond.selects RX18 yX18_jump yX18_jump, Cond.constantLong RX18 291 (465490816611), Cond.constantLong RX18 306 (134576062213731), Cond.methodLink RX18 172 yX18_part, Cond.instanceMethod yX18_part, Cond.selects RX18 yX18_part yX18_part, Cond.methodLink RX18 176 yX18_target, Cond.instanceMethod yX18_target, Cond.selects RX18 yX18_target yX18_target, Cond.constantLong RX18 304 (134627450826339), Cond.methodLink RX18 301 yX18_reckon, Cond.instanceMethod yX18_reckon, Cond.selects RX18 yX18_reckon yX18_reckon, Cond.methodLink RX18 298 yX18_upper, Cond.instanceMethod yX18_upper, Cond.selects RX18 yX18_upper yX18_upper, Cond.constantLong RX18 285 (482905828963)] ++ (u_ws RX18 TX18 10 ++ (ow_dm_X18_name ++ (ow_dm_X18_register ++ (ow_dm_X18_six ++ (ow_dm_X18_immediate ++ (ow_dm_X18_jump ++ (ow_dm_X18_part ++ (ow_dm_X18_target ++ (ow_dm_X18_reckon ++ (ow_dm_X18_upper ++ [])))))))))))
theorem gd_dm_X18_second : ∀ w ∈ ow_dm_X18_second, (w.onTables && w.keeps) = true ∨ ∃ ty, w = Cond.arrayClass ty := List.forall_mem_cons.mpr ⟨good_of_word rfl, List.forall_mem_append.mpr ⟨fun w h => good_of_word (List.all_eq_true.mp (by decide +kernel) w h), List.forall_mem_append.mpr ⟨gu_X18, List.forall_mem_append.mpr ⟨gd_dm_X18_name, List.forall_mem_append.mpr ⟨gd_dm_X18_register, List.forall_mem_append.mpr ⟨gd_dm_X18_six, List.forall_mem_append.mpr ⟨gd_dm_X18_immediate, List.forall_mem_append.mpr ⟨gd_dm_X18_jump, List.forall_mem_append.mpr ⟨gd_dm_X18_part, List.forall_mem_append.mpr ⟨gd_dm_X18_target, List.forall_mem_append.mpr ⟨gd_dm_X18_reckon, List.forall_mem_append.mpr ⟨gd_dm_X18_upper, fun _ h => nomatch h⟩⟩⟩⟩⟩⟩⟩⟩⟩⟩⟩⟩
theorem hi_dm_X18_second_X18 : ∀ w ∈ u_ws RX18 TX18 10, w ∈ ow_dm_X18_second := fun w h => List.mem_cons_of_mem _ (List.mem_append_right _ (List.mem_append_left _ h))
theorem gi_dm_X18_second_0 : GoodIn ow_dm_X18_second (wsV RX18 65 RX18 yX18_name ow_dm_X18_name) := goodIn_app (goodIn_of _ (by decide +kernel)) (fun w h => ⟨List.mem_cons_of_mem _ (List.mem_append_right _ (List.mem_append_right _ (List.mem_append_left _ h))), gd_dm_X18_name w h⟩)
theorem gi_dm_X18_second_1 : GoodIn ow_dm_X18_second (wsV RX18 71 RX18 yX18_register ow_dm_X18_register) := goodIn_app (goodIn_of _ (by decide +kernel)) (fun w h => ⟨List.mem_cons_of_mem _ (List.mem_append_right _ (List.mem_append_right _ (List.mem_append_right _ (List.mem_append_left _ h)))), gd_dm_X18_register w h⟩)
theorem gi_dm_X18_second_2 : GoodIn ow_dm_X18_second (wsV RX18 267 RX18 yX18_six ow_dm_X18_six) := goodIn_app (goodIn_of _ (by decide +kernel)) (fun w h => ⟨List.mem_cons_of_mem _ (List.mem_append_right _ (List.mem_append_right _ (List.mem_append_right _ (List.mem_append_right _ (List.mem_append_left _ h))))), gd_dm_X18_six w h⟩)
theorem gi_dm_X18_second_3 : GoodIn ow_dm_X18_second (wsV RX18 59 RX18 yX18_immediate ow_dm_X18_immediate) := goodIn_app (goodIn_of _ (by decide +kernel)) (fun w h => ⟨List.mem_cons_of_mem _ (List.mem_append_right _ (List.mem_append_right _ (List.mem_append_right _ (List.mem_append_right _ (List.mem_append_right _ (List.mem_append_left _ h)))))), gd_dm_X18_immediate w h⟩)
theorem gi_dm_X18_second_4 : GoodIn ow_dm_X18_second (wsV RX18 295 RX18 yX18_jump ow_dm_X18_jump) := goodIn_app (goodIn_of _ (by decide +kernel)) (fun w h => ⟨List.mem_cons_of_mem _ (List.mem_append_right _ (List.mem_append_right _ (List.mem_append_right _ (List.mem_append_right _ (List.mem_append_right _ (List.mem_append_right _ (List.mem_append_left _ h))))))), gd_dm_X18_jump w h⟩)
theorem gi_dm_X18_second_5 : GoodIn ow_dm_X18_second (wsV RX18 172 RX18 yX18_part ow_dm_X18_part) := goodIn_app (goodIn_of _ (by decide +kernel)) (fun w h => ⟨List.mem_cons_of_mem _ (List.mem_append_right _ (List.mem_append_right _ (List.mem_append_right _ (List.mem_append_right _ (List.mem_append_right _ (List.mem_append_right _ (List.mem_append_right _ (List.mem_append_left _ h)))))))), gd_dm_X18_part w h⟩)
theorem gi_dm_X18_second_6 : GoodIn ow_dm_X18_second (wsV RX18 176 RX18 yX18_target ow_dm_X18_target) := goodIn_app (goodIn_of _ (by decide +kernel)) (fun w h => ⟨List.mem_cons_of_mem _ (List.mem_append_right _ (List.mem_append_right _ (List.mem_append_right _ (List.mem_append_right _ (List.mem_append_right _ (List.mem_append_right _ (List.mem_append_right _ (List.mem_append_right _ (List.mem_append_left _ h))))))))), gd_dm_X18_target w h⟩)
theorem gi_dm_X18_second_7 : GoodIn ow_dm_X18_second (wsV RX18 301 RX18 yX18_reckon ow_dm_X18_reckon) := goodIn_app (goodIn_of _ (by decide +kernel)) (fun w h => ⟨List.mem_cons_of_mem _ (List.mem_append_right _ (List.mem_append_right _ (List.mem_append_right _ (List.mem_append_right _ (List.mem_append_right _ (List.mem_append_right _ (List.mem_append_right _ (List.mem_append_right _ (List.mem_append_right _ (List.mem_append_left _ h)))))))))), gd_dm_X18_reckon w h⟩)
theorem gi_dm_X18_second_8 : GoodIn ow_dm_X18_second (wsV RX18 298 RX18 yX18_upper ow_dm_X18_upper) := goodIn_app (goodIn_of _ (by decide +kernel)) (fun w h => ⟨List.mem_cons_of_mem _ (List.mem_append_right _ (List.mem_append_right _ (List.mem_append_right _ (List.mem_append_right _ (List.mem_append_right _ (List.mem_append_right _ (List.mem_append_right _ (List.mem_append_right _ (List.mem_append_right _ (List.mem_append_right _ (List.mem_append_left _ h))))))))))), gd_dm_X18_upper w h⟩)
def dj_X18_second_238 (p : Program) (l : Launch) (e : Env) (s : State) (m : MethodId) (args : Array Value) (below : List Frame) (meth : Method) (c : Code) (Q : State → Prop) (A : Nat → Prop) (dC : Nat → ClassId) (dI : Nat → Nat → Nat) (a : Nat → Nat) (ac : Nat → ClassId) (g : (St) → Option (St)) (r : St) : Prop := ∀ (s0 : St) (H : Heap) (locs : List Loc) (ls : Array Slot), g s0 = some r → va_P (dC, dI) vwCl (dw_X18 a ac s0) H → va_D A (dw_X18 a ac s0) → va_S A s.heap H locs → lv_has ls 1 [] → W p l e (headSpec ow_dm_X18_second ({ frames := 5, cells := 0, slots := 0, locals := 113 })).room s m args below meth c H locs 0 0 Q (F0 m 238 ls [])
def dj_X18_second_50 (p : Program) (l : Launch) (e : Env) (s : State) (m : MethodId) (args : Array Value) (below : List Frame) (meth : Method) (c : Code) (Q : State → Prop) (A : Nat → Prop) (dC : Nat → ClassId) (dI : Nat → Nat → Nat) (a : Nat → Nat) (ac : Nat → ClassId) (g : Int64 → (St) → Option (St)) (r : St) : Prop := ∀ (y1 : Int64) (s0 : St) (H : Heap) (locs : List Loc) (ls : Array Slot), g y1 s0 = some r → va_P (dC, dI) vwCl (dw_X18 a ac s0) H → va_D A (dw_X18 a ac s0) → va_S A s.heap H locs → lv_has ls 1 [(0, .ref (a 0))] → W p l e (headSpec ow_dm_X18_second ({ frames := 5, cells := 0, slots := 0, locals := 113 })).room s m args below meth c H locs 0 0 Q (F0 m 50 ls [.long y1, .ref (a 0)])
def dj_X18_second_33 (p : Program) (l : Launch) (e : Env) (s : State) (m : MethodId) (args : Array Value) (below : List Frame) (meth : Method) (c : Code) (Q : State → Prop) (A : Nat → Prop) (dC : Nat → ClassId) (dI : Nat → Nat → Nat) (a : Nat → Nat) (ac : Nat → ClassId) (g : (St) → Option (St)) (r : St) : Prop := ∀ (s0 : St) (H : Heap) (locs : List Loc) (ls : Array Slot), g s0 = some r → va_P (dC, dI) vwCl (dw_X18 a ac s0) H → va_D A (dw_X18 a ac s0) → va_S A s.heap H locs → lv_has ls 1 [(0, .ref (a 0))] → W p l e (headSpec ow_dm_X18_second ({ frames := 5, cells := 0, slots := 0, locals := 113 })).room s m args below meth c H locs 0 0 Q (F0 m 33 ls [])
def dj_X18_second_106 (p : Program) (l : Launch) (e : Env) (s : State) (m : MethodId) (args : Array Value) (below : List Frame) (meth : Method) (c : Code) (Q : State → Prop) (A : Nat → Prop) (dC : Nat → ClassId) (dI : Nat → Nat → Nat) (a : Nat → Nat) (ac : Nat → ClassId) (g : Int64 → (St) → Option (St)) (r : St) : Prop := ∀ (y1 : Int64) (s0 : St) (H : Heap) (locs : List Loc) (ls : Array Slot), g y1 s0 = some r → va_P (dC, dI) vwCl (dw_X18 a ac s0) H → va_D A (dw_X18 a ac s0) → va_S A s.heap H locs → lv_has ls 1 [] → W p l e (headSpec ow_dm_X18_second ({ frames := 5, cells := 0, slots := 0, locals := 113 })).room s m args below meth c H locs 0 0 Q (F0 m 106 ls [.long y1, .ref (a 0)])
def dj_X18_second_88 (p : Program) (l : Launch) (e : Env) (s : State) (m : MethodId) (args : Array Value) (below : List Frame) (meth : Method) (c : Code) (Q : State → Prop) (A : Nat → Prop) (dC : Nat → ClassId) (dI : Nat → Nat → Nat) (a : Nat → Nat) (ac : Nat → ClassId) (g : (St) → Option (St)) (r : St) : Prop := ∀ (s0 : St) (H : Heap) (locs : List Loc) (ls : Array Slot), g s0 = some r → va_P (dC, dI) vwCl (dw_X18 a ac s0) H → va_D A (dw_X18 a ac s0) → va_S A s.heap H locs → lv_has ls 1 [(0, .ref (a 0))] → W p l e (headSpec ow_dm_X18_second ({ frames := 5, cells := 0, slots := 0, locals := 113 })).room s m args below meth c H locs 0 0 Q (F0 m 88 ls [])
def dj_X18_second_168 (p : Program) (l : Launch) (e : Env) (s : State) (m : MethodId) (args : Array Value) (below : List Frame) (meth : Method) (c : Code) (Q : State → Prop) (A : Nat → Prop) (dC : Nat → ClassId) (dI : Nat → Nat → Nat) (a : Nat → Nat) (ac : Nat → ClassId) (g : Int64 → (St) → Option (St)) (r : St) : Prop := ∀ (y1 : Int64) (s0 : St) (H : Heap) (locs : List Loc) (ls : Array Slot), g y1 s0 = some r → va_P (dC, dI) vwCl (dw_X18 a ac s0) H → va_D A (dw_X18 a ac s0) → va_S A s.heap H locs → lv_has ls 1 [(0, .ref (a 0))] → W p l e (headSpec ow_dm_X18_second ({ frames := 5, cells := 0, slots := 0, locals := 113 })).room s m args below meth c H locs 0 0 Q (F0 m 168 ls [.long y1, .ref (a 0)])
def dj_X18_second_0 (p : Program) (l : Launch) (e : Env) (s : State) (m : MethodId) (args : Array Value) (below : List Frame) (meth : Method) (c : Code) (Q : State → Prop) (A : Nat → Prop) (dC : Nat → ClassId) (dI : Nat → Nat → Nat) (a : Nat → Nat) (ac : Nat → ClassId) (g : (St) → Option (St)) (r : St) : Prop := ∀ (s0 : St) (H : Heap) (locs : List Loc) (ls : Array Slot), g s0 = some r → va_P (dC, dI) vwCl (dw_X18 a ac s0) H → va_D A (dw_X18 a ac s0) → va_S A s.heap H locs → lv_has ls 1 [(0, .ref (a 0))] → W p l e (headSpec ow_dm_X18_second ({ frames := 5, cells := 0, slots := 0, locals := 113 })).room s m args below meth c H locs 0 0 Q (F0 m 0 ls [])
set_option maxHeartbeats 40000000 in
set_option maxRecDepth 100000 in
theorem db_X18_second_238 {p : Program} {l : Launch} {e : Env} {s : State} {m : MethodId} {args : Array Value} {below : List Frame} {meth : Method} {c : Code} {Q : State → Prop} {A : Nat → Prop} {dC : Nat → ClassId} {dI : Nat → Nat → Nat} {a : Nat → Nat} {ac : Nat → ClassId} {n : Nat} {r : St} (C : nd_C p l s m args c A (dC, dI) cX18_second 1 RX18 ow_dm_X18_second (dk_X18 ac)) (K : nd_Kv p l e (headSpec ow_dm_X18_second ({ frames := 5, cells := 0, slots := 0, locals := 113 })).room s m args below meth c Q A (dC, dI) cX18_second (St) (dw_X18 a ac) r) : dj_X18_second_238 p l e s m args below meth c Q A dC dI a ac (df_X18_second_238 n) r := by
  obtain ⟨hlt, hx, hb, hml, hown, hts, hN, hA, hK⟩ := id C
  intro s0 H locs ls h hP hD hS hl
  unfold df_X18_second_238 at h
  exact K _ _ _ _ _ dX18_second_238 (Option.some.inj h).symm hP hD hS
set_option maxHeartbeats 40000000 in
set_option maxRecDepth 100000 in
theorem db_X18_second_50 {p : Program} {l : Launch} {e : Env} {s : State} {m : MethodId} {args : Array Value} {below : List Frame} {meth : Method} {c : Code} {Q : State → Prop} {A : Nat → Prop} {dC : Nat → ClassId} {dI : Nat → Nat → Nat} {a : Nat → Nat} {ac : Nat → ClassId} {n : Nat} {r : St} (C : nd_C p l s m args c A (dC, dI) cX18_second 1 RX18 ow_dm_X18_second (dk_X18 ac)) (K : nd_Kv p l e (headSpec ow_dm_X18_second ({ frames := 5, cells := 0, slots := 0, locals := 113 })).room s m args below meth c Q A (dC, dI) cX18_second (St) (dw_X18 a ac) r) : dj_X18_second_50 p l e s m args below meth c Q A dC dI a ac (df_X18_second_50 n) r := by
  obtain ⟨hlt, hx, hb, hml, hown, hts, hN, hA, hK⟩ := id C
  intro y1 s0 H locs ls h hP hD hS hl
  unfold df_X18_second_50 at h
  obtain ⟨s5, hq, h⟩ := nd_b1_e h
  have hPc := hP
  have hDc := hD
  have hKc := hK
  have hFc := nd_rs hD hS hA
  refine nd_cVv (As := [.long y1]) (rest := []) (w' := dw_X18 a ac s5) ⟨hx, hb, hml, hown, hts⟩ (fun sz => dm_X18_name l hlt dC dI a ac n (y1) s0 hq sz) (cwV 1 hts gi_dm_X18_second_0 rfl rfl rfl (by decide +kernel) ⟨Nat.le_of_ble_eq_true rfl, Nat.le_of_ble_eq_true rfl⟩) hPc hDc hKc hS hA hN (va_recv hKc hPc (ci := 19) (q0 := 0) rfl rfl) rfl hl.1 rfl (Nat.le_of_ble_eq_true rfl) dX18_second_50 (fun H locs hP1 hD1 hk1 hS => ?_)
  have hP := hP1
  have hD := hD1.weaken (fun k q _ h => hFc q.1 h)
  refine lv_aload_n hx hb dX18_second_53 rfl (lv_at hl 0 rfl) ?_
  refine lv_aload_n hx hb dX18_second_54 rfl (lv_at hl 0 rfl) ?_
  refine va_get (D := (dC, dI)) (ci := 19) (v := .int (sI s5 4)) (C := RX18) (T := TX18) (N := 10) hx hb hts hi_dm_X18_second_X18 hown hK hP 0 rfl rfl 5 (by decide) (hts (.fieldLink RX18 68 "TimeMachineModel$Reader" "d" "I") (List.mem_of_getElem? (i := 8) rfl)) (fun _ h9 => h9) rfl dX18_second_55 ?_
  obtain ⟨s8, hq, h⟩ := nd_b1_e h
  have hPc := hP
  have hDc := hD
  have hKc := hK
  have hFc := nd_rs hD hS hA
  refine nd_cVv (As := [.int (sI s5 4)]) (rest := []) (w' := dw_X18 a ac s8) ⟨hx, hb, hml, hown, hts⟩ (fun sz => dm_X18_register l hlt dC dI a ac n ((sI s5 4)) s5 hq sz) (cwV 1 hts gi_dm_X18_second_1 rfl rfl rfl (by decide +kernel) ⟨Nat.le_of_ble_eq_true rfl, Nat.le_of_ble_eq_true rfl⟩) hPc hDc hKc hS hA hN (va_recv hKc hPc (ci := 19) (q0 := 0) rfl rfl) rfl hl.1 rfl (Nat.le_of_ble_eq_true rfl) dX18_second_58 (fun H locs hP1 hD1 hk1 hS => ?_)
  have hP := hP1
  have hD := hD1.weaken (fun k q _ h => hFc q.1 h)
  refine lv_aload_n hx hb dX18_second_61 rfl (lv_at hl 0 rfl) ?_
  refine lv_aload_n hx hb dX18_second_62 rfl (lv_at hl 0 rfl) ?_
  obtain ⟨q10, s11, hq, h⟩ := nd_b2_e h
  have hPc := hP
  have hDc := hD
  have hKc := hK
  have hFc := nd_rs hD hS hA
  refine nd_cVi (As := []) (rest := [.ref (a 0)]) (q := q10) (w' := dw_X18 a ac s11) ⟨hx, hb, hml, hown, hts⟩ (fun sz => dm_X18_six l hlt dC dI a ac n  s8 hq sz) (cwV 0 hts gi_dm_X18_second_2 rfl rfl rfl (by decide +kernel) ⟨Nat.le_of_ble_eq_true rfl, Nat.le_of_ble_eq_true rfl⟩) hPc hDc hKc hS hA hN (va_recv hKc hPc (ci := 19) (q0 := 0) rfl rfl) rfl hl.1 rfl (Nat.le_of_ble_eq_true rfl) dX18_second_63 (fun H locs hP1 hD1 hk1 hS => ?_)
  have hP := hP1
  have hD := hD1.weaken (fun k q _ h => hFc q.1 h)
  obtain ⟨s14, hq, h⟩ := nd_b1_e h
  have hPc := hP
  have hDc := hD
  have hKc := hK
  have hFc := nd_rs hD hS hA
  refine nd_cVv (As := [.int q10]) (rest := []) (w' := dw_X18 a ac s14) ⟨hx, hb, hml, hown, hts⟩ (fun sz => dm_X18_immediate l hlt dC dI a ac n (q10) s11 hq sz) (cwV 1 hts gi_dm_X18_second_3 rfl rfl rfl (by decide +kernel) ⟨Nat.le_of_ble_eq_true rfl, Nat.le_of_ble_eq_true rfl⟩) hPc hDc hKc hS hA hN (va_recv hKc hPc (ci := 19) (q0 := 0) rfl rfl) rfl hl.1 rfl (Nat.le_of_ble_eq_true rfl) dX18_second_66 (fun H locs hP1 hD1 hk1 hS => ?_)
  have hP := hP1
  have hD := hD1.weaken (fun k q _ h => hFc q.1 h)
  refine lv_goto (tgt := 238) hx hb dX18_second_69 (by decide) ?_
  exact (db_X18_second_238 C K)  s14 _ _ _ h hP hD hS (lv_sub hl [] rfl)
set_option maxHeartbeats 40000000 in
set_option maxRecDepth 100000 in
theorem db_X18_second_33 {p : Program} {l : Launch} {e : Env} {s : State} {m : MethodId} {args : Array Value} {below : List Frame} {meth : Method} {c : Code} {Q : State → Prop} {A : Nat → Prop} {dC : Nat → ClassId} {dI : Nat → Nat → Nat} {a : Nat → Nat} {ac : Nat → ClassId} {n : Nat} {r : St} (C : nd_C p l s m args c A (dC, dI) cX18_second 1 RX18 ow_dm_X18_second (dk_X18 ac)) (K : nd_Kv p l e (headSpec ow_dm_X18_second ({ frames := 5, cells := 0, slots := 0, locals := 113 })).room s m args below meth c Q A (dC, dI) cX18_second (St) (dw_X18 a ac) r) : dj_X18_second_33 p l e s m args below meth c Q A dC dI a ac (df_X18_second_33 n) r := by
  obtain ⟨hlt, hx, hb, hml, hown, hts, hN, hA, hK⟩ := id C
  intro s0 H locs ls h hP hD hS hl
  unfold df_X18_second_33 at h
  refine lv_aload_n hx hb dX18_second_33 rfl (lv_at hl 0 rfl) ?_
  refine lv_aload_n hx hb dX18_second_34 rfl (lv_at hl 0 rfl) ?_
  refine va_get (D := (dC, dI)) (ci := 19) (v := .int (sI s0 7)) (C := RX18) (T := TX18) (N := 10) hx hb hts hi_dm_X18_second_X18 hown hK hP 0 rfl rfl 8 (by decide) (hts (.fieldLink RX18 80 "TimeMachineModel$Reader" "f" "I") (List.mem_of_getElem? (i := 2) rfl)) (fun _ h9 => h9) rfl dX18_second_35 ?_
  refine lv_if_ne (tgt := 47) hx hb dX18_second_38 (by decide) (fun c3 => ?_) (fun c3 => ?_)
  · have h := nd_neg h c3
    refine lv_ldc2 hx hb hown (hts (.constantLong RX18 289 (1768697443)) (List.mem_of_getElem? (i := 3) rfl)) dX18_second_47 ?_
    exact (db_X18_second_50 C K) (1768697443) s0 _ _ _ h hP hD hS (lv_sub hl [0] rfl)
  · have h := nd_pos h c3
    refine lv_ldc2 hx hb hown (hts (.constantLong RX18 287 (115879901736547)) (List.mem_of_getElem? (i := 18) rfl)) dX18_second_41 ?_
    refine lv_goto (tgt := 50) hx hb dX18_second_44 (by decide) ?_
    exact (db_X18_second_50 C K) (115879901736547) s0 _ _ _ h hP hD hS (lv_sub hl [0] rfl)
set_option maxHeartbeats 40000000 in
set_option maxRecDepth 100000 in
theorem db_X18_second_106 {p : Program} {l : Launch} {e : Env} {s : State} {m : MethodId} {args : Array Value} {below : List Frame} {meth : Method} {c : Code} {Q : State → Prop} {A : Nat → Prop} {dC : Nat → ClassId} {dI : Nat → Nat → Nat} {a : Nat → Nat} {ac : Nat → ClassId} {n : Nat} {r : St} (C : nd_C p l s m args c A (dC, dI) cX18_second 1 RX18 ow_dm_X18_second (dk_X18 ac)) (K : nd_Kv p l e (headSpec ow_dm_X18_second ({ frames := 5, cells := 0, slots := 0, locals := 113 })).room s m args below meth c Q A (dC, dI) cX18_second (St) (dw_X18 a ac) r) : dj_X18_second_106 p l e s m args below meth c Q A dC dI a ac (df_X18_second_106 n) r := by
  obtain ⟨hlt, hx, hb, hml, hown, hts, hN, hA, hK⟩ := id C
  intro y1 s0 H locs ls h hP hD hS hl
  unfold df_X18_second_106 at h
  obtain ⟨s20, hq, h⟩ := nd_b1_e h
  have hPc := hP
  have hDc := hD
  have hKc := hK
  have hFc := nd_rs hD hS hA
  refine nd_cVv (As := [.long y1]) (rest := []) (w' := dw_X18 a ac s20) ⟨hx, hb, hml, hown, hts⟩ (fun sz => dm_X18_jump l hlt dC dI a ac n (y1) s0 hq sz) (cwV 1 hts gi_dm_X18_second_4 rfl rfl rfl (by decide +kernel) ⟨Nat.le_of_ble_eq_true rfl, Nat.le_of_ble_eq_true rfl⟩) hPc hDc hKc hS hA hN (va_recv hKc hPc (ci := 19) (q0 := 0) rfl rfl) rfl hl.1 rfl (Nat.le_of_ble_eq_true rfl) dX18_second_106 (fun H locs hP1 hD1 hk1 hS => ?_)
  have hP := hP1
  have hD := hD1.weaken (fun k q _ h => hFc q.1 h)
  refine lv_goto (tgt := 238) hx hb dX18_second_109 (by decide) ?_
  exact (db_X18_second_238 C K)  s20 _ _ _ h hP hD hS (lv_sub hl [] rfl)
set_option maxHeartbeats 40000000 in
set_option maxRecDepth 100000 in
theorem db_X18_second_88 {p : Program} {l : Launch} {e : Env} {s : State} {m : MethodId} {args : Array Value} {below : List Frame} {meth : Method} {c : Code} {Q : State → Prop} {A : Nat → Prop} {dC : Nat → ClassId} {dI : Nat → Nat → Nat} {a : Nat → Nat} {ac : Nat → ClassId} {n : Nat} {r : St} (C : nd_C p l s m args c A (dC, dI) cX18_second 1 RX18 ow_dm_X18_second (dk_X18 ac)) (K : nd_Kv p l e (headSpec ow_dm_X18_second ({ frames := 5, cells := 0, slots := 0, locals := 113 })).room s m args below meth c Q A (dC, dI) cX18_second (St) (dw_X18 a ac) r) : dj_X18_second_88 p l e s m args below meth c Q A dC dI a ac (df_X18_second_88 n) r := by
  obtain ⟨hlt, hx, hb, hml, hown, hts, hN, hA, hK⟩ := id C
  intro s0 H locs ls h hP hD hS hl
  unfold df_X18_second_88 at h
  refine lv_aload_n hx hb dX18_second_88 rfl (lv_at hl 0 rfl) ?_
  refine lv_aload_n hx hb dX18_second_89 rfl (lv_at hl 0 rfl) ?_
  refine va_get (D := (dC, dI)) (ci := 19) (v := .int (sI s0 7)) (C := RX18) (T := TX18) (N := 10) hx hb hts hi_dm_X18_second_X18 hown hK hP 0 rfl rfl 8 (by decide) (hts (.fieldLink RX18 80 "TimeMachineModel$Reader" "f" "I") (List.mem_of_getElem? (i := 2) rfl)) (fun _ h9 => h9) rfl dX18_second_90 ?_
  refine lv_iconst (v := 1) hx hb dX18_second_93 (by decide) ?_
  refine lv_icmp_ne (tgt := 103) hx hb dX18_second_94 (by decide) (fun c18 => ?_) (fun c18 => ?_)
  · have h := nd_neg h c18
    refine lv_ldc2 hx hb hown (hts (.constantLong RX18 293 (6958691)) (List.mem_of_getElem? (i := 19) rfl)) dX18_second_103 ?_
    exact (db_X18_second_106 C K) (6958691) s0 _ _ _ h hP hD hS (lv_sub hl [] rfl)
  · have h := nd_pos h c18
    refine lv_ldc2 hx hb hown (hts (.constantLong RX18 291 (465490816611)) (List.mem_of_getElem? (i := 23) rfl)) dX18_second_97 ?_
    refine lv_goto (tgt := 106) hx hb dX18_second_100 (by decide) ?_
    exact (db_X18_second_106 C K) (465490816611) s0 _ _ _ h hP hD hS (lv_sub hl [] rfl)
set_option maxHeartbeats 40000000 in
set_option maxRecDepth 100000 in
theorem db_X18_second_168 {p : Program} {l : Launch} {e : Env} {s : State} {m : MethodId} {args : Array Value} {below : List Frame} {meth : Method} {c : Code} {Q : State → Prop} {A : Nat → Prop} {dC : Nat → ClassId} {dI : Nat → Nat → Nat} {a : Nat → Nat} {ac : Nat → ClassId} {n : Nat} {r : St} (C : nd_C p l s m args c A (dC, dI) cX18_second 1 RX18 ow_dm_X18_second (dk_X18 ac)) (K : nd_Kv p l e (headSpec ow_dm_X18_second ({ frames := 5, cells := 0, slots := 0, locals := 113 })).room s m args below meth c Q A (dC, dI) cX18_second (St) (dw_X18 a ac) r) : dj_X18_second_168 p l e s m args below meth c Q A dC dI a ac (df_X18_second_168 n) r := by
  obtain ⟨hlt, hx, hb, hml, hown, hts, hN, hA, hK⟩ := id C
  intro y1 s0 H locs ls h hP hD hS hl
  unfold df_X18_second_168 at h
  obtain ⟨s27, hq, h⟩ := nd_b1_e h
  have hPc := hP
  have hDc := hD
  have hKc := hK
  have hFc := nd_rs hD hS hA
  refine nd_cVv (As := [.long y1]) (rest := []) (w' := dw_X18 a ac s27) ⟨hx, hb, hml, hown, hts⟩ (fun sz => dm_X18_name l hlt dC dI a ac n (y1) s0 hq sz) (cwV 1 hts gi_dm_X18_second_0 rfl rfl rfl (by decide +kernel) ⟨Nat.le_of_ble_eq_true rfl, Nat.le_of_ble_eq_true rfl⟩) hPc hDc hKc hS hA hN (va_recv hKc hPc (ci := 19) (q0 := 0) rfl rfl) rfl hl.1 rfl (Nat.le_of_ble_eq_true rfl) dX18_second_168 (fun H locs hP1 hD1 hk1 hS => ?_)
  have hP := hP1
  have hD := hD1.weaken (fun k q _ h => hFc q.1 h)
  refine lv_aload_n hx hb dX18_second_171 rfl (lv_at hl 0 rfl) ?_
  refine lv_bipush (v := 8) hx hb dX18_second_172 (by decide) ?_
  refine lv_aload_n hx hb dX18_second_174 rfl (lv_at hl 0 rfl) ?_
  refine lv_bipush (v := 7) hx hb dX18_second_175 (by decide) ?_
  refine lv_iconst (v := 3) hx hb dX18_second_177 (by decide) ?_
  obtain ⟨q29, s30, hq, h⟩ := nd_b2_e h
  have hPc := hP
  have hDc := hD
  have hKc := hK
  have hFc := nd_rs hD hS hA
  refine nd_cVi (As := [.int 7, .int 3]) (rest := [.int 8, .ref (a 0)]) (q := q29) (w' := dw_X18 a ac s30) ⟨hx, hb, hml, hown, hts⟩ (fun sz => dm_X18_part l hlt dC dI a ac n (7) (3) s27 hq sz) (cwV 2 hts gi_dm_X18_second_5 rfl rfl rfl (by decide +kernel) ⟨Nat.le_of_ble_eq_true rfl, Nat.le_of_ble_eq_true rfl⟩) hPc hDc hKc hS hA hN (va_recv hKc hPc (ci := 19) (q0 := 0) rfl rfl) rfl hl.1 rfl (Nat.le_of_ble_eq_true rfl) dX18_second_178 (fun H locs hP1 hD1 hk1 hS => ?_)
  have hP := hP1
  have hD := hD1.weaken (fun k q _ h => hFc q.1 h)
  refine lv_iadd hx hb dX18_second_181 ?_
  obtain ⟨s33, hq, h⟩ := nd_b1_e h
  have hPc := hP
  have hDc := hD
  have hKc := hK
  have hFc := nd_rs hD hS hA
  refine nd_cVv (As := [.int (8 + q29)]) (rest := []) (w' := dw_X18 a ac s33) ⟨hx, hb, hml, hown, hts⟩ (fun sz => dm_X18_register l hlt dC dI a ac n ((8 + q29)) s30 hq sz) (cwV 1 hts gi_dm_X18_second_1 rfl rfl rfl (by decide +kernel) ⟨Nat.le_of_ble_eq_true rfl, Nat.le_of_ble_eq_true rfl⟩) hPc hDc hKc hS hA hN (va_recv hKc hPc (ci := 19) (q0 := 0) rfl rfl) rfl hl.1 rfl (Nat.le_of_ble_eq_true rfl) dX18_second_182 (fun H locs hP1 hD1 hk1 hS => ?_)
  have hP := hP1
  have hD := hD1.weaken (fun k q _ h => hFc q.1 h)
  refine lv_aload_n hx hb dX18_second_185 rfl (lv_at hl 0 rfl) ?_
  refine lv_aload_n hx hb dX18_second_186 rfl (lv_at hl 0 rfl) ?_
  refine lv_iconst (v := 3) hx hb dX18_second_187 (by decide) ?_
  refine lv_iconst (v := 2) hx hb dX18_second_188 (by decide) ?_
  obtain ⟨q35, s36, hq, h⟩ := nd_b2_e h
  have hPc := hP
  have hDc := hD
  have hKc := hK
  have hFc := nd_rs hD hS hA
  refine nd_cVi (As := [.int 3, .int 2]) (rest := [.ref (a 0)]) (q := q35) (w' := dw_X18 a ac s36) ⟨hx, hb, hml, hown, hts⟩ (fun sz => dm_X18_part l hlt dC dI a ac n (3) (2) s33 hq sz) (cwV 2 hts gi_dm_X18_second_5 rfl rfl rfl (by decide +kernel) ⟨Nat.le_of_ble_eq_true rfl, Nat.le_of_ble_eq_true rfl⟩) hPc hDc hKc hS hA hN (va_recv hKc hPc (ci := 19) (q0 := 0) rfl rfl) rfl hl.1 rfl (Nat.le_of_ble_eq_true rfl) dX18_second_189 (fun H locs hP1 hD1 hk1 hS => ?_)
  have hP := hP1
  have hD := hD1.weaken (fun k q _ h => hFc q.1 h)
  refine lv_iconst (v := 1) hx hb dX18_second_192 (by decide) ?_
  refine lv_ishl hx hb dX18_second_193 ?_
  refine lv_aload_n hx hb dX18_second_194 rfl (lv_at hl 0 rfl) ?_
  refine lv_bipush (v := 10) hx hb dX18_second_195 (by decide) ?_
  refine lv_iconst (v := 2) hx hb dX18_second_197 (by decide) ?_
  obtain ⟨q38, s39, hq, h⟩ := nd_b2_e h
  have hPc := hP
  have hDc := hD
  have hKc := hK
  have hFc := nd_rs hD hS hA
  refine nd_cVi (As := [.int 10, .int 2]) (rest := [.int ((q35 : Int32) <<< ((1 : Int32) &&& 31)), .ref (a 0)]) (q := q38) (w' := dw_X18 a ac s39) ⟨hx, hb, hml, hown, hts⟩ (fun sz => dm_X18_part l hlt dC dI a ac n (10) (2) s36 hq sz) (cwV 2 hts gi_dm_X18_second_5 rfl rfl rfl (by decide +kernel) ⟨Nat.le_of_ble_eq_true rfl, Nat.le_of_ble_eq_true rfl⟩) hPc hDc hKc hS hA hN (va_recv hKc hPc (ci := 19) (q0 := 0) rfl rfl) rfl hl.1 rfl (Nat.le_of_ble_eq_true rfl) dX18_second_198 (fun H locs hP1 hD1 hk1 hS => ?_)
  have hP := hP1
  have hD := hD1.weaken (fun k q _ h => hFc q.1 h)
  refine lv_iconst (v := 3) hx hb dX18_second_201 (by decide) ?_
  refine lv_ishl hx hb dX18_second_202 ?_
  refine lv_ior hx hb dX18_second_203 ?_
  refine lv_aload_n hx hb dX18_second_204 rfl (lv_at hl 0 rfl) ?_
  refine lv_iconst (v := 2) hx hb dX18_second_205 (by decide) ?_
  refine lv_iconst (v := 1) hx hb dX18_second_206 (by decide) ?_
  obtain ⟨q41, s42, hq, h⟩ := nd_b2_e h
  have hPc := hP
  have hDc := hD
  have hKc := hK
  have hFc := nd_rs hD hS hA
  refine nd_cVi (As := [.int 2, .int 1]) (rest := [.int (((q35 : Int32) <<< ((1 : Int32) &&& 31)) ||| ((q38 : Int32) <<< ((3 : Int32) &&& 31))), .ref (a 0)]) (q := q41) (w' := dw_X18 a ac s42) ⟨hx, hb, hml, hown, hts⟩ (fun sz => dm_X18_part l hlt dC dI a ac n (2) (1) s39 hq sz) (cwV 2 hts gi_dm_X18_second_5 rfl rfl rfl (by decide +kernel) ⟨Nat.le_of_ble_eq_true rfl, Nat.le_of_ble_eq_true rfl⟩) hPc hDc hKc hS hA hN (va_recv hKc hPc (ci := 19) (q0 := 0) rfl rfl) rfl hl.1 rfl (Nat.le_of_ble_eq_true rfl) dX18_second_207 (fun H locs hP1 hD1 hk1 hS => ?_)
  have hP := hP1
  have hD := hD1.weaken (fun k q _ h => hFc q.1 h)
  refine lv_iconst (v := 5) hx hb dX18_second_210 (by decide) ?_
  refine lv_ishl hx hb dX18_second_211 ?_
  refine lv_ior hx hb dX18_second_212 ?_
  refine lv_aload_n hx hb dX18_second_213 rfl (lv_at hl 0 rfl) ?_
  refine lv_iconst (v := 5) hx hb dX18_second_214 (by decide) ?_
  refine lv_iconst (v := 2) hx hb dX18_second_215 (by decide) ?_
  obtain ⟨q44, s45, hq, h⟩ := nd_b2_e h
  have hPc := hP
  have hDc := hD
  have hKc := hK
  have hFc := nd_rs hD hS hA
  refine nd_cVi (As := [.int 5, .int 2]) (rest := [.int ((((q35 : Int32) <<< ((1 : Int32) &&& 31)) ||| ((q38 : Int32) <<< ((3 : Int32) &&& 31))) ||| ((q41 : Int32) <<< ((5 : Int32) &&& 31))), .ref (a 0)]) (q := q44) (w' := dw_X18 a ac s45) ⟨hx, hb, hml, hown, hts⟩ (fun sz => dm_X18_part l hlt dC dI a ac n (5) (2) s42 hq sz) (cwV 2 hts gi_dm_X18_second_5 rfl rfl rfl (by decide +kernel) ⟨Nat.le_of_ble_eq_true rfl, Nat.le_of_ble_eq_true rfl⟩) hPc hDc hKc hS hA hN (va_recv hKc hPc (ci := 19) (q0 := 0) rfl rfl) rfl hl.1 rfl (Nat.le_of_ble_eq_true rfl) dX18_second_216 (fun H locs hP1 hD1 hk1 hS => ?_)
  have hP := hP1
  have hD := hD1.weaken (fun k q _ h => hFc q.1 h)
  refine lv_bipush (v := 6) hx hb dX18_second_219 (by decide) ?_
  refine lv_ishl hx hb dX18_second_221 ?_
  refine lv_ior hx hb dX18_second_222 ?_
  refine lv_aload_n hx hb dX18_second_223 rfl (lv_at hl 0 rfl) ?_
  refine lv_bipush (v := 12) hx hb dX18_second_224 (by decide) ?_
  refine lv_iconst (v := 1) hx hb dX18_second_226 (by decide) ?_
  obtain ⟨q47, s48, hq, h⟩ := nd_b2_e h
  have hPc := hP
  have hDc := hD
  have hKc := hK
  have hFc := nd_rs hD hS hA
  refine nd_cVi (As := [.int 12, .int 1]) (rest := [.int (((((q35 : Int32) <<< ((1 : Int32) &&& 31)) ||| ((q38 : Int32) <<< ((3 : Int32) &&& 31))) ||| ((q41 : Int32) <<< ((5 : Int32) &&& 31))) ||| ((q44 : Int32) <<< ((6 : Int32) &&& 31))), .ref (a 0)]) (q := q47) (w' := dw_X18 a ac s48) ⟨hx, hb, hml, hown, hts⟩ (fun sz => dm_X18_part l hlt dC dI a ac n (12) (1) s45 hq sz) (cwV 2 hts gi_dm_X18_second_5 rfl rfl rfl (by decide +kernel) ⟨Nat.le_of_ble_eq_true rfl, Nat.le_of_ble_eq_true rfl⟩) hPc hDc hKc hS hA hN (va_recv hKc hPc (ci := 19) (q0 := 0) rfl rfl) rfl hl.1 rfl (Nat.le_of_ble_eq_true rfl) dX18_second_227 (fun H locs hP1 hD1 hk1 hS => ?_)
  have hP := hP1
  have hD := hD1.weaken (fun k q _ h => hFc q.1 h)
  refine lv_ineg hx hb dX18_second_230 ?_
  refine lv_bipush (v := 8) hx hb dX18_second_231 (by decide) ?_
  refine lv_ishl hx hb dX18_second_233 ?_
  refine lv_ior hx hb dX18_second_234 ?_
  obtain ⟨s51, hq, h⟩ := nd_b1_e h
  have hPc := hP
  have hDc := hD
  have hKc := hK
  have hFc := nd_rs hD hS hA
  refine nd_cVv (As := [.int ((((((q35 : Int32) <<< ((1 : Int32) &&& 31)) ||| ((q38 : Int32) <<< ((3 : Int32) &&& 31))) ||| ((q41 : Int32) <<< ((5 : Int32) &&& 31))) ||| ((q44 : Int32) <<< ((6 : Int32) &&& 31))) ||| (((-q47) : Int32) <<< ((8 : Int32) &&& 31)))]) (rest := []) (w' := dw_X18 a ac s51) ⟨hx, hb, hml, hown, hts⟩ (fun sz => dm_X18_target l hlt dC dI a ac n (((((((q35 : Int32) <<< ((1 : Int32) &&& 31)) ||| ((q38 : Int32) <<< ((3 : Int32) &&& 31))) ||| ((q41 : Int32) <<< ((5 : Int32) &&& 31))) ||| ((q44 : Int32) <<< ((6 : Int32) &&& 31))) ||| (((-q47) : Int32) <<< ((8 : Int32) &&& 31)))) s48 hq sz) (cwV 1 hts gi_dm_X18_second_6 rfl rfl rfl (by decide +kernel) ⟨Nat.le_of_ble_eq_true rfl, Nat.le_of_ble_eq_true rfl⟩) hPc hDc hKc hS hA hN (va_recv hKc hPc (ci := 19) (q0 := 0) rfl rfl) rfl hl.1 rfl (Nat.le_of_ble_eq_true rfl) dX18_second_235 (fun H locs hP1 hD1 hk1 hS => ?_)
  have hP := hP1
  have hD := hD1.weaken (fun k q _ h => hFc q.1 h)
  exact (db_X18_second_238 C K)  s51 _ _ _ h hP hD hS (lv_sub hl [] rfl)
set_option maxHeartbeats 40000000 in
set_option maxRecDepth 100000 in
theorem db_X18_second_0 {p : Program} {l : Launch} {e : Env} {s : State} {m : MethodId} {args : Array Value} {below : List Frame} {meth : Method} {c : Code} {Q : State → Prop} {A : Nat → Prop} {dC : Nat → ClassId} {dI : Nat → Nat → Nat} {a : Nat → Nat} {ac : Nat → ClassId} {n : Nat} {r : St} (C : nd_C p l s m args c A (dC, dI) cX18_second 1 RX18 ow_dm_X18_second (dk_X18 ac)) (K : nd_Kv p l e (headSpec ow_dm_X18_second ({ frames := 5, cells := 0, slots := 0, locals := 113 })).room s m args below meth c Q A (dC, dI) cX18_second (St) (dw_X18 a ac) r) : dj_X18_second_0 p l e s m args below meth c Q A dC dI a ac (df_X18_second_0 n) r := by
  obtain ⟨hlt, hx, hb, hml, hown, hts, hN, hA, hK⟩ := id C
  intro s0 H locs ls h hP hD hS hl
  unfold df_X18_second_0 at h
  refine lv_aload_n hx hb dX18_second_0 rfl (lv_at hl 0 rfl) ?_
  refine va_get (D := (dC, dI)) (ci := 19) (v := .int (sI s0 3)) (C := RX18) (T := TX18) (N := 10) hx hb hts hi_dm_X18_second_X18 hown hK hP 0 rfl rfl 4 (by decide) (hts (.fieldLink RX18 20 "TimeMachineModel$Reader" "bits" "I") (List.mem_of_getElem? (i := 1) rfl)) (fun _ h9 => h9) rfl dX18_second_1 ?_
  refine lv_iconst (v := 1) hx hb dX18_second_4 (by decide) ?_
  refine lv_icmp_ne (tgt := 18) hx hb dX18_second_5 (by decide) (fun c1 => ?_) (fun c1 => ?_)
  · have h := nd_neg h c1
    refine lv_aload_n hx hb dX18_second_18 rfl (lv_at hl 0 rfl) ?_
    refine va_get (D := (dC, dI)) (ci := 19) (v := .int (sI s0 7)) (C := RX18) (T := TX18) (N := 10) hx hb hts hi_dm_X18_second_X18 hown hK hP 0 rfl rfl 8 (by decide) (hts (.fieldLink RX18 80 "TimeMachineModel$Reader" "f" "I") (List.mem_of_getElem? (i := 2) rfl)) (fun _ h9 => h9) rfl dX18_second_19 ?_
    refine lv_if_eq (tgt := 33) hx hb dX18_second_22 (by decide) (fun c2 => ?_) (fun c2 => ?_)
    · have h := nd_pos h c2
      exact (db_X18_second_33 C K)  s0 _ _ _ h hP hD hS (lv_sub hl [0] rfl)
    · have h := nd_neg h c2
      refine lv_aload_n hx hb dX18_second_25 rfl (lv_at hl 0 rfl) ?_
      refine va_get (D := (dC, dI)) (ci := 19) (v := .int (sI s0 7)) (C := RX18) (T := TX18) (N := 10) hx hb hts hi_dm_X18_second_X18 hown hK hP 0 rfl rfl 8 (by decide) (hts (.fieldLink RX18 80 "TimeMachineModel$Reader" "f" "I") (List.mem_of_getElem? (i := 2) rfl)) (fun _ h9 => h9) rfl dX18_second_26 ?_
      refine lv_iconst (v := 2) hx hb dX18_second_29 (by decide) ?_
      refine lv_icmp_ne (tgt := 72) hx hb dX18_second_30 (by decide) (fun c16 => ?_) (fun c16 => ?_)
      · have h := nd_neg h c16
        refine lv_aload_n hx hb dX18_second_72 rfl (lv_at hl 0 rfl) ?_
        refine va_get (D := (dC, dI)) (ci := 19) (v := .int (sI s0 7)) (C := RX18) (T := TX18) (N := 10) hx hb hts hi_dm_X18_second_X18 hown hK hP 0 rfl rfl 8 (by decide) (hts (.fieldLink RX18 80 "TimeMachineModel$Reader" "f" "I") (List.mem_of_getElem? (i := 2) rfl)) (fun _ h9 => h9) rfl dX18_second_73 ?_
        refine lv_iconst (v := 1) hx hb dX18_second_76 (by decide) ?_
        refine lv_icmp_eq (tgt := 88) hx hb dX18_second_77 (by decide) (fun c17 => ?_) (fun c17 => ?_)
        · have h := nd_pos h c17
          exact (db_X18_second_88 C K)  s0 _ _ _ h hP hD hS (lv_sub hl [0] rfl)
        · have h := nd_neg h c17
          refine lv_aload_n hx hb dX18_second_80 rfl (lv_at hl 0 rfl) ?_
          refine va_get (D := (dC, dI)) (ci := 19) (v := .int (sI s0 7)) (C := RX18) (T := TX18) (N := 10) hx hb hts hi_dm_X18_second_X18 hown hK hP 0 rfl rfl 8 (by decide) (hts (.fieldLink RX18 80 "TimeMachineModel$Reader" "f" "I") (List.mem_of_getElem? (i := 2) rfl)) (fun _ h9 => h9) rfl dX18_second_81 ?_
          refine lv_iconst (v := 5) hx hb dX18_second_84 (by decide) ?_
          refine lv_icmp_ne (tgt := 112) hx hb dX18_second_85 (by decide) (fun c22 => ?_) (fun c22 => ?_)
          · have h := nd_neg h c22
            refine lv_aload_n hx hb dX18_second_112 rfl (lv_at hl 0 rfl) ?_
            refine va_get (D := (dC, dI)) (ci := 19) (v := .int (sI s0 7)) (C := RX18) (T := TX18) (N := 10) hx hb hts hi_dm_X18_second_X18 hown hK hP 0 rfl rfl 8 (by decide) (hts (.fieldLink RX18 80 "TimeMachineModel$Reader" "f" "I") (List.mem_of_getElem? (i := 2) rfl)) (fun _ h9 => h9) rfl dX18_second_113 ?_
            refine lv_iconst (v := 3) hx hb dX18_second_116 (by decide) ?_
            refine lv_icmp_ne (tgt := 127) hx hb dX18_second_117 (by decide) (fun c23 => ?_) (fun c23 => ?_)
            · have h := nd_neg h c23
              refine lv_aload_n hx hb dX18_second_127 rfl (lv_at hl 0 rfl) ?_
              refine va_get (D := (dC, dI)) (ci := 19) (v := .int (sI s0 7)) (C := RX18) (T := TX18) (N := 10) hx hb hts hi_dm_X18_second_X18 hown hK hP 0 rfl rfl 8 (by decide) (hts (.fieldLink RX18 80 "TimeMachineModel$Reader" "f" "I") (List.mem_of_getElem? (i := 2) rfl)) (fun _ h9 => h9) rfl dX18_second_128 ?_
              refine lv_iconst (v := 4) hx hb dX18_second_131 (by decide) ?_
              refine lv_icmp_ne (tgt := 149) hx hb dX18_second_132 (by decide) (fun c24 => ?_) (fun c24 => ?_)
              · have h := nd_neg h c24
                refine lv_aload_n hx hb dX18_second_149 rfl (lv_at hl 0 rfl) ?_
                refine lv_aload_n hx hb dX18_second_150 rfl (lv_at hl 0 rfl) ?_
                refine va_get (D := (dC, dI)) (ci := 19) (v := .int (sI s0 7)) (C := RX18) (T := TX18) (N := 10) hx hb hts hi_dm_X18_second_X18 hown hK hP 0 rfl rfl 8 (by decide) (hts (.fieldLink RX18 80 "TimeMachineModel$Reader" "f" "I") (List.mem_of_getElem? (i := 2) rfl)) (fun _ h9 => h9) rfl dX18_second_151 ?_
                refine lv_bipush (v := 6) hx hb dX18_second_154 (by decide) ?_
                refine lv_icmp_ne (tgt := 165) hx hb dX18_second_156 (by decide) (fun c25 => ?_) (fun c25 => ?_)
                · have h := nd_neg h c25
                  refine lv_ldc2 hx hb hown (hts (.constantLong RX18 306 (134576062213731)) (List.mem_of_getElem? (i := 24) rfl)) dX18_second_165 ?_
                  exact (db_X18_second_168 C K) (134576062213731) s0 _ _ _ h hP hD hS (lv_sub hl [0] rfl)
                · have h := nd_pos h c25
                  refine lv_ldc2 hx hb hown (hts (.constantLong RX18 304 (134627450826339)) (List.mem_of_getElem? (i := 31) rfl)) dX18_second_159 ?_
                  refine lv_goto (tgt := 168) hx hb dX18_second_162 (by decide) ?_
                  exact (db_X18_second_168 C K) (134627450826339) s0 _ _ _ h hP hD hS (lv_sub hl [0] rfl)
              · have h := nd_pos h c24
                refine lv_aload_n hx hb dX18_second_135 rfl (lv_at hl 0 rfl) ?_
                refine lv_aload_n hx hb dX18_second_136 rfl (lv_at hl 0 rfl) ?_
                refine lv_bipush (v := 10) hx hb dX18_second_137 (by decide) ?_
                refine lv_iconst (v := 2) hx hb dX18_second_139 (by decide) ?_
                obtain ⟨q53, s54, hq, h⟩ := nd_b2_e h
                have hPc := hP
                have hDc := hD
                have hKc := hK
                have hFc := nd_rs hD hS hA
                refine nd_cVi (As := [.int 10, .int 2]) (rest := [.ref (a 0)]) (q := q53) (w' := dw_X18 a ac s54) ⟨hx, hb, hml, hown, hts⟩ (fun sz => dm_X18_part l hlt dC dI a ac n (10) (2) s0 hq sz) (cwV 2 hts gi_dm_X18_second_5 rfl rfl rfl (by decide +kernel) ⟨Nat.le_of_ble_eq_true rfl, Nat.le_of_ble_eq_true rfl⟩) hPc hDc hKc hS hA hN (va_recv hKc hPc (ci := 19) (q0 := 0) rfl rfl) rfl hl.1 rfl (Nat.le_of_ble_eq_true rfl) dX18_second_140 (fun H locs hP1 hD1 hk1 hS => ?_)
                have hP := hP1
                have hD := hD1.weaken (fun k q _ h => hFc q.1 h)
                obtain ⟨s57, hq, h⟩ := nd_b1_e h
                have hPc := hP
                have hDc := hD
                have hKc := hK
                have hFc := nd_rs hD hS hA
                refine nd_cVv (As := [.int q53]) (rest := []) (w' := dw_X18 a ac s57) ⟨hx, hb, hml, hown, hts⟩ (fun sz => dm_X18_reckon l hlt dC dI a ac n (q53) s54 hq sz) (cwV 1 hts gi_dm_X18_second_7 rfl rfl rfl (by decide +kernel) ⟨Nat.le_of_ble_eq_true rfl, Nat.le_of_ble_eq_true rfl⟩) hPc hDc hKc hS hA hN (va_recv hKc hPc (ci := 19) (q0 := 0) rfl rfl) rfl hl.1 rfl (Nat.le_of_ble_eq_true rfl) dX18_second_143 (fun H locs hP1 hD1 hk1 hS => ?_)
                have hP := hP1
                have hD := hD1.weaken (fun k q _ h => hFc q.1 h)
                refine lv_goto (tgt := 238) hx hb dX18_second_146 (by decide) ?_
                exact (db_X18_second_238 C K)  s57 _ _ _ h hP hD hS (lv_sub hl [] rfl)
            · have h := nd_pos h c23
              refine lv_aload_n hx hb dX18_second_120 rfl (lv_at hl 0 rfl) ?_
              obtain ⟨s60, hq, h⟩ := nd_b1_e h
              have hPc := hP
              have hDc := hD
              have hKc := hK
              have hFc := nd_rs hD hS hA
              refine nd_cVv (As := []) (rest := []) (w' := dw_X18 a ac s60) ⟨hx, hb, hml, hown, hts⟩ (fun sz => dm_X18_upper l hlt dC dI a ac n  s0 hq sz) (cwV 0 hts gi_dm_X18_second_8 rfl rfl rfl (by decide +kernel) ⟨Nat.le_of_ble_eq_true rfl, Nat.le_of_ble_eq_true rfl⟩) hPc hDc hKc hS hA hN (va_recv hKc hPc (ci := 19) (q0 := 0) rfl rfl) rfl hl.1 rfl (Nat.le_of_ble_eq_true rfl) dX18_second_121 (fun H locs hP1 hD1 hk1 hS => ?_)
              have hP := hP1
              have hD := hD1.weaken (fun k q _ h => hFc q.1 h)
              refine lv_goto (tgt := 238) hx hb dX18_second_124 (by decide) ?_
              exact (db_X18_second_238 C K)  s60 _ _ _ h hP hD hS (lv_sub hl [] rfl)
          · have h := nd_pos h c22
            exact (db_X18_second_88 C K)  s0 _ _ _ h hP hD hS (lv_sub hl [0] rfl)
      · have h := nd_pos h c16
        exact (db_X18_second_33 C K)  s0 _ _ _ h hP hD hS (lv_sub hl [0] rfl)
  · have h := nd_pos h c1
    refine lv_aload_n hx hb dX18_second_8 rfl (lv_at hl 0 rfl) ?_
    refine lv_ldc2 hx hb hown (hts (.constantLong RX18 285 (482905828963)) (List.mem_of_getElem? (i := 38) rfl)) dX18_second_9 ?_
    obtain ⟨s63, hq, h⟩ := nd_b1_e h
    have hPc := hP
    have hDc := hD
    have hKc := hK
    have hFc := nd_rs hD hS hA
    refine nd_cVv (As := [.long 482905828963]) (rest := []) (w' := dw_X18 a ac s63) ⟨hx, hb, hml, hown, hts⟩ (fun sz => dm_X18_name l hlt dC dI a ac n (482905828963) s0 hq sz) (cwV 1 hts gi_dm_X18_second_0 rfl rfl rfl (by decide +kernel) ⟨Nat.le_of_ble_eq_true rfl, Nat.le_of_ble_eq_true rfl⟩) hPc hDc hKc hS hA hN (va_recv hKc hPc (ci := 19) (q0 := 0) rfl rfl) rfl hl.1 rfl (Nat.le_of_ble_eq_true rfl) dX18_second_12 (fun H locs hP1 hD1 hk1 hS => ?_)
    have hP := hP1
    have hD := hD1.weaken (fun k q _ h => hFc q.1 h)
    refine lv_goto (tgt := 238) hx hb dX18_second_15 (by decide) ?_
    exact (db_X18_second_238 C K)  s63 _ _ _ h hP hD hS (lv_sub hl [] rfl)
set_option maxHeartbeats 40000000 in
set_option maxRecDepth 100000 in
theorem dm_X18_second (l : Launch) (hlt : l.stackTraces = false) (dC : Nat → ClassId) (dI : Nat → Nat → Nat) (a : Nat → Nat) (ac : Nat → ClassId) (n : Nat) (s0 : St) {r : St} (h : df_X18_second n s0 = some r) (sz : Nat) : Met l yX18_second ow_dm_X18_second ({ frames := 5, cells := 0, slots := 0, locals := 113 }) (va_Pc [.ref (a 0)] (fun U => U.heap.size = sz ∧ va_P (dC, dI) vwCl (dw_X18 a ac s0) U.heap ∧ va_K (dC, dI) vwCl (dk_X18 ac) U ∧ va_D (fun _ => True) (dw_X18 a ac s0) ∧ nv_E dI (va_A (dw_X18 a ac s0) sz) U)) (va_Qv (fun _ => True) (fun (_ : Unit) t => va_P (dC, dI) vwCl (dw_X18 a ac r) t.heap ∧ va_K (dC, dI) vwCl (dk_X18 ac) t ∧ va_D (va_A (dw_X18 a ac s0) sz) (dw_X18 a ac r)) (va_A (dw_X18 a ac s0) sz)) 0 0 (va_A (dw_X18 a ac s0) sz) := by
  refine Met.ofW (cc := cX18_second) (maxL := 1) (ret := none) (by decide) rfl ?_
  intro p e s m args below meth c s₁ B hml hv
  obtain ⟨rfl, hsz, hP, hK, hD0, hN⟩ := hv
  have hx := B.exec
  have hb := B.bytes
  have hr := B.returns
  have hts := atoms_spec (ws := ow_dm_X18_second) B.pre
  have hown : s.vm.findClass RX18 = some m.cls := findClass_of_methodNamed B.named
  have hlocks := B.notSynchronized
  subst hsz
  have hD := hD0.self (sz := s.heap.size)
  generalize hAe : va_A (dw_X18 a ac s0) s.heap.size = A at hD hN ⊢
  have hA : ∀ q : Nat, s.heap.size ≤ q → A q := fun q h => by rw [← hAe]; exact Or.inr h
  have hl := lv_entry ([.ref (a 0)]) (n := 1) (Nat.le_of_ble_eq_true rfl)
  rw [lg_entry_eq]
  generalize (lg_sl ([.ref (a 0)]) ++ List.replicate (1 - (lg_sl ([.ref (a 0)])).length) Slot.unset).toArray = ls at hl ⊢
  have hl : lv_has ls 1 [(0, .ref (a 0))] := hl
  exact db_X18_second_0 (dC := dC) (dI := dI) (a := a) (ac := ac) (n := n) (r := r) ⟨hlt, hx, hb, hml, hown, hts, hN, hA, hK⟩ (fun pc τ H locs ls d er hP hD hS => by subst er; exact W.vret hx hb hr (fun t ht hW => ⟨⟨(), rfl, trivial, by rw [ht]; exact hP, va_K.moved hW.alike hK, hD⟩, hS.F ht⟩) hS.2.2 d) s0 _ _ _ h hP hD va_S.rf (lv_sub hl [0] rfl)
def ow_dm_X18_third : List Cond := Cond.code yX18_third cX18_third 2 none :: ([Cond.methodLink RX18 172 yX18_part, Cond.instanceMethod yX18_part, Cond.selects RX18 yX18_part yX18_part, Cond.initialized RX18, Cond.fieldLink RX18 77 "TimeMachineModel$Reader" "b" "I", Cond.fieldLink RX18 80 "TimeMachineModel$Reader" "f" "I", Cond.constantLong RX18 322 (7737577176750698083), Cond.methodLink RX18 65 yX18_name, Cond.instanceMethod yX18_name, Cond.selects RX18 yX18_name yX18_name, Cond.fieldLink RX18 68 "TimeMachineModel$Reader" "d" "I", Cond.constantLong RX18 320 (1919561315), Cond.methodLink RX18 71 yX18_register, Cond.instanceMethod yX18_register, Cond.selects RX18 yX18_register yX18_register, Cond.constantLong RX18 318 (125809816383075), Cond.constantLong RX18 316 (1986866787), Cond.constantLong RX18 314 (431180820067), Cond.constantLong RX18 312 (123641227587171), Cond.methodLink RX18 59 yX18_immediate, Cond.instanceMethod yX18_immediate, Cond.selects RX18 yX18_immediate yX18_immediate, Cond.constantLong RX18 310 (123641227128419), Cond.constantLong RX18 308 (115914396872291)] ++ (u_ws RX18 TX18 10 ++ (ow_dm_X18_part ++ (ow_dm_X18_name ++ (ow_dm_X18_register ++ (ow_dm_X18_immediate ++ []))))))
theorem gd_dm_X18_third : ∀ w ∈ ow_dm_X18_third, (w.onTables && w.keeps) = true ∨ ∃ ty, w = Cond.arrayClass ty := List.forall_mem_cons.mpr ⟨good_of_word rfl, List.forall_mem_append.mpr ⟨fun w h => good_of_word (List.all_eq_true.mp (by decide +kernel) w h), List.forall_mem_append.mpr ⟨gu_X18, List.forall_mem_append.mpr ⟨gd_dm_X18_part, List.forall_mem_append.mpr ⟨gd_dm_X18_name, List.forall_mem_append.mpr ⟨gd_dm_X18_register, List.forall_mem_append.mpr ⟨gd_dm_X18_immediate, fun _ h => nomatch h⟩⟩⟩⟩⟩⟩⟩
theorem hi_dm_X18_third_X18 : ∀ w ∈ u_ws RX18 TX18 10, w ∈ ow_dm_X18_third := fun w h => List.mem_cons_of_mem _ (List.mem_append_right _ (List.mem_append_left _ h))
theorem gi_dm_X18_third_0 : GoodIn ow_dm_X18_third (wsV RX18 172 RX18 yX18_part ow_dm_X18_part) := goodIn_app (goodIn_of _ (by decide +kernel)) (fun w h => ⟨List.mem_cons_of_mem _ (List.mem_append_right _ (List.mem_append_right _ (List.mem_append_left _ h))), gd_dm_X18_part w h⟩)
theorem gi_dm_X18_third_1 : GoodIn ow_dm_X18_third (wsV RX18 65 RX18 yX18_name ow_dm_X18_name) := goodIn_app (goodIn_of _ (by decide +kernel)) (fun w h => ⟨List.mem_cons_of_mem _ (List.mem_append_right _ (List.mem_append_right _ (List.mem_append_right _ (List.mem_append_left _ h)))), gd_dm_X18_name w h⟩)
theorem gi_dm_X18_third_2 : GoodIn ow_dm_X18_third (wsV RX18 71 RX18 yX18_register ow_dm_X18_register) := goodIn_app (goodIn_of _ (by decide +kernel)) (fun w h => ⟨List.mem_cons_of_mem _ (List.mem_append_right _ (List.mem_append_right _ (List.mem_append_right _ (List.mem_append_right _ (List.mem_append_left _ h))))), gd_dm_X18_register w h⟩)
theorem gi_dm_X18_third_3 : GoodIn ow_dm_X18_third (wsV RX18 59 RX18 yX18_immediate ow_dm_X18_immediate) := goodIn_app (goodIn_of _ (by decide +kernel)) (fun w h => ⟨List.mem_cons_of_mem _ (List.mem_append_right _ (List.mem_append_right _ (List.mem_append_right _ (List.mem_append_right _ (List.mem_append_right _ (List.mem_append_left _ h)))))), gd_dm_X18_immediate w h⟩)
def dj_X18_third_293 (p : Program) (l : Launch) (e : Env) (s : State) (m : MethodId) (args : Array Value) (below : List Frame) (meth : Method) (c : Code) (Q : State → Prop) (A : Nat → Prop) (dC : Nat → ClassId) (dI : Nat → Nat → Nat) (a : Nat → Nat) (ac : Nat → ClassId) (g : (St) → Option (St)) (r : St) : Prop := ∀ (s0 : St) (H : Heap) (locs : List Loc) (ls : Array Slot), g s0 = some r → va_P (dC, dI) vwCl (dw_X18 a ac s0) H → va_D A (dw_X18 a ac s0) → va_S A s.heap H locs → lv_has ls 2 [] → W p l e (headSpec ow_dm_X18_third ({ frames := 4, cells := 0, slots := 0, locals := 89 })).room s m args below meth c H locs 0 0 Q (F0 m 293 ls [])
def dj_X18_third_274 (p : Program) (l : Launch) (e : Env) (s : State) (m : MethodId) (args : Array Value) (below : List Frame) (meth : Method) (c : Code) (Q : State → Prop) (A : Nat → Prop) (dC : Nat → ClassId) (dI : Nat → Nat → Nat) (a : Nat → Nat) (ac : Nat → ClassId) (g : Int32 → (St) → Option (St)) (r : St) : Prop := ∀ (x1 : Int32) (s0 : St) (H : Heap) (locs : List Loc) (ls : Array Slot), g x1 s0 = some r → va_P (dC, dI) vwCl (dw_X18 a ac s0) H → va_D A (dw_X18 a ac s0) → va_S A s.heap H locs → lv_has ls 2 [(0, .ref (a 0)), (1, .int x1)] → W p l e (headSpec ow_dm_X18_third ({ frames := 4, cells := 0, slots := 0, locals := 89 })).room s m args below meth c H locs 0 0 Q (F0 m 274 ls [])
def dj_X18_third_260 (p : Program) (l : Launch) (e : Env) (s : State) (m : MethodId) (args : Array Value) (below : List Frame) (meth : Method) (c : Code) (Q : State → Prop) (A : Nat → Prop) (dC : Nat → ClassId) (dI : Nat → Nat → Nat) (a : Nat → Nat) (ac : Nat → ClassId) (g : Int64 → (St) → Option (St)) (r : St) : Prop := ∀ (y1 : Int64) (s0 : St) (H : Heap) (locs : List Loc) (ls : Array Slot), g y1 s0 = some r → va_P (dC, dI) vwCl (dw_X18 a ac s0) H → va_D A (dw_X18 a ac s0) → va_S A s.heap H locs → lv_has ls 2 [(0, .ref (a 0))] → W p l e (headSpec ow_dm_X18_third ({ frames := 4, cells := 0, slots := 0, locals := 89 })).room s m args below meth c H locs 0 0 Q (F0 m 260 ls [.long y1, .ref (a 0)])
def dj_X18_third_231 (p : Program) (l : Launch) (e : Env) (s : State) (m : MethodId) (args : Array Value) (below : List Frame) (meth : Method) (c : Code) (Q : State → Prop) (A : Nat → Prop) (dC : Nat → ClassId) (dI : Nat → Nat → Nat) (a : Nat → Nat) (ac : Nat → ClassId) (g : Int32 → (St) → Option (St)) (r : St) : Prop := ∀ (x1 : Int32) (s0 : St) (H : Heap) (locs : List Loc) (ls : Array Slot), g x1 s0 = some r → va_P (dC, dI) vwCl (dw_X18 a ac s0) H → va_D A (dw_X18 a ac s0) → va_S A s.heap H locs → lv_has ls 2 [(0, .ref (a 0)), (1, .int x1)] → W p l e (headSpec ow_dm_X18_third ({ frames := 4, cells := 0, slots := 0, locals := 89 })).room s m args below meth c H locs 0 0 Q (F0 m 231 ls [])
def dj_X18_third_209 (p : Program) (l : Launch) (e : Env) (s : State) (m : MethodId) (args : Array Value) (below : List Frame) (meth : Method) (c : Code) (Q : State → Prop) (A : Nat → Prop) (dC : Nat → ClassId) (dI : Nat → Nat → Nat) (a : Nat → Nat) (ac : Nat → ClassId) (g : Int64 → (St) → Option (St)) (r : St) : Prop := ∀ (y1 : Int64) (s0 : St) (H : Heap) (locs : List Loc) (ls : Array Slot), g y1 s0 = some r → va_P (dC, dI) vwCl (dw_X18 a ac s0) H → va_D A (dw_X18 a ac s0) → va_S A s.heap H locs → lv_has ls 2 [(0, .ref (a 0))] → W p l e (headSpec ow_dm_X18_third ({ frames := 4, cells := 0, slots := 0, locals := 89 })).room s m args below meth c H locs 0 0 Q (F0 m 209 ls [.long y1, .ref (a 0)])
def dj_X18_third_129 (p : Program) (l : Launch) (e : Env) (s : State) (m : MethodId) (args : Array Value) (below : List Frame) (meth : Method) (c : Code) (Q : State → Prop) (A : Nat → Prop) (dC : Nat → ClassId) (dI : Nat → Nat → Nat) (a : Nat → Nat) (ac : Nat → ClassId) (g : Int32 → (St) → Option (St)) (r : St) : Prop := ∀ (x1 : Int32) (s0 : St) (H : Heap) (locs : List Loc) (ls : Array Slot), g x1 s0 = some r → va_P (dC, dI) vwCl (dw_X18 a ac s0) H → va_D A (dw_X18 a ac s0) → va_S A s.heap H locs → lv_has ls 2 [(0, .ref (a 0)), (1, .int x1)] → W p l e (headSpec ow_dm_X18_third ({ frames := 4, cells := 0, slots := 0, locals := 89 })).room s m args below meth c H locs 0 0 Q (F0 m 129 ls [])
def dj_X18_third_64 (p : Program) (l : Launch) (e : Env) (s : State) (m : MethodId) (args : Array Value) (below : List Frame) (meth : Method) (c : Code) (Q : State → Prop) (A : Nat → Prop) (dC : Nat → ClassId) (dI : Nat → Nat → Nat) (a : Nat → Nat) (ac : Nat → ClassId) (g : Int32 → (St) → Option (St)) (r : St) : Prop := ∀ (x1 : Int32) (s0 : St) (H : Heap) (locs : List Loc) (ls : Array Slot), g x1 s0 = some r → va_P (dC, dI) vwCl (dw_X18 a ac s0) H → va_D A (dw_X18 a ac s0) → va_S A s.heap H locs → lv_has ls 2 [(0, .ref (a 0)), (1, .int x1)] → W p l e (headSpec ow_dm_X18_third ({ frames := 4, cells := 0, slots := 0, locals := 89 })).room s m args below meth c H locs 0 0 Q (F0 m 64 ls [])
def dj_X18_third_16 (p : Program) (l : Launch) (e : Env) (s : State) (m : MethodId) (args : Array Value) (below : List Frame) (meth : Method) (c : Code) (Q : State → Prop) (A : Nat → Prop) (dC : Nat → ClassId) (dI : Nat → Nat → Nat) (a : Nat → Nat) (ac : Nat → ClassId) (g : Int32 → (St) → Option (St)) (r : St) : Prop := ∀ (y0 : Int32) (s0 : St) (H : Heap) (locs : List Loc) (ls : Array Slot), g y0 s0 = some r → va_P (dC, dI) vwCl (dw_X18 a ac s0) H → va_D A (dw_X18 a ac s0) → va_S A s.heap H locs → lv_has ls 2 [(0, .ref (a 0))] → W p l e (headSpec ow_dm_X18_third ({ frames := 4, cells := 0, slots := 0, locals := 89 })).room s m args below meth c H locs 0 0 Q (F0 m 16 ls [.int y0])
def dj_X18_third_0 (p : Program) (l : Launch) (e : Env) (s : State) (m : MethodId) (args : Array Value) (below : List Frame) (meth : Method) (c : Code) (Q : State → Prop) (A : Nat → Prop) (dC : Nat → ClassId) (dI : Nat → Nat → Nat) (a : Nat → Nat) (ac : Nat → ClassId) (g : (St) → Option (St)) (r : St) : Prop := ∀ (s0 : St) (H : Heap) (locs : List Loc) (ls : Array Slot), g s0 = some r → va_P (dC, dI) vwCl (dw_X18 a ac s0) H → va_D A (dw_X18 a ac s0) → va_S A s.heap H locs → lv_has ls 2 [(0, .ref (a 0))] → W p l e (headSpec ow_dm_X18_third ({ frames := 4, cells := 0, slots := 0, locals := 89 })).room s m args below meth c H locs 0 0 Q (F0 m 0 ls [])
set_option maxHeartbeats 40000000 in
set_option maxRecDepth 100000 in
theorem db_X18_third_293 {p : Program} {l : Launch} {e : Env} {s : State} {m : MethodId} {args : Array Value} {below : List Frame} {meth : Method} {c : Code} {Q : State → Prop} {A : Nat → Prop} {dC : Nat → ClassId} {dI : Nat → Nat → Nat} {a : Nat → Nat} {ac : Nat → ClassId} {n : Nat} {r : St} (C : nd_C p l s m args c A (dC, dI) cX18_third 2 RX18 ow_dm_X18_third (dk_X18 ac)) (K : nd_Kv p l e (headSpec ow_dm_X18_third ({ frames := 4, cells := 0, slots := 0, locals := 89 })).room s m args below meth c Q A (dC, dI) cX18_third (St) (dw_X18 a ac) r) : dj_X18_third_293 p l e s m args below meth c Q A dC dI a ac (df_X18_third_293 n) r := by
  obtain ⟨hlt, hx, hb, hml, hown, hts, hN, hA, hK⟩ := id C
  intro s0 H locs ls h hP hD hS hl
  unfold df_X18_third_293 at h
  exact K _ _ _ _ _ dX18_third_293 (Option.some.inj h).symm hP hD hS
set_option maxHeartbeats 40000000 in
set_option maxRecDepth 100000 in
theorem db_X18_third_274 {p : Program} {l : Launch} {e : Env} {s : State} {m : MethodId} {args : Array Value} {below : List Frame} {meth : Method} {c : Code} {Q : State → Prop} {A : Nat → Prop} {dC : Nat → ClassId} {dI : Nat → Nat → Nat} {a : Nat → Nat} {ac : Nat → ClassId} {n : Nat} {r : St} (C : nd_C p l s m args c A (dC, dI) cX18_third 2 RX18 ow_dm_X18_third (dk_X18 ac)) (K : nd_Kv p l e (headSpec ow_dm_X18_third ({ frames := 4, cells := 0, slots := 0, locals := 89 })).room s m args below meth c Q A (dC, dI) cX18_third (St) (dw_X18 a ac) r) : dj_X18_third_274 p l e s m args below meth c Q A dC dI a ac (df_X18_third_274 n) r := by
  obtain ⟨hlt, hx, hb, hml, hown, hts, hN, hA, hK⟩ := id C
  intro x1 s0 H locs ls h hP hD hS hl
  unfold df_X18_third_274 at h
  refine lv_aload_n hx hb dX18_third_274 rfl (lv_at hl 0 rfl) ?_
  refine va_get (D := (dC, dI)) (ci := 19) (v := .int (sI s0 7)) (C := RX18) (T := TX18) (N := 10) hx hb hts hi_dm_X18_third_X18 hown hK hP 0 rfl rfl 8 (by decide) (hts (.fieldLink RX18 80 "TimeMachineModel$Reader" "f" "I") (List.mem_of_getElem? (i := 6) rfl)) (fun _ h9 => h9) rfl dX18_third_275 ?_
  refine lv_iconst (v := 4) hx hb dX18_third_278 (by decide) ?_
  refine lv_icmp_ne (tgt := 293) hx hb dX18_third_279 (by decide) (fun c14 => ?_) (fun c14 => ?_)
  · have h := nd_neg h c14
    exact (db_X18_third_293 C K)  s0 _ _ _ h hP hD hS (lv_sub hl [] rfl)
  · have h := nd_pos h c14
    refine lv_iload_n hx hb dX18_third_282 rfl (lv_at hl 1 rfl) ?_
    refine lv_if_eq (tgt := 293) hx hb dX18_third_283 (by decide) (fun c15 => ?_) (fun c15 => ?_)
    · have h := nd_pos h c15
      exact (db_X18_third_293 C K)  s0 _ _ _ h hP hD hS (lv_sub hl [] rfl)
    · have h := nd_neg h c15
      refine lv_aload_n hx hb dX18_third_286 rfl (lv_at hl 0 rfl) ?_
      refine lv_ldc2 hx hb hown (hts (.constantLong RX18 322 (7737577176750698083)) (List.mem_of_getElem? (i := 7) rfl)) dX18_third_287 ?_
      obtain ⟨s17, hq, h⟩ := nd_b1_e h
      have hPc := hP
      have hDc := hD
      have hKc := hK
      have hFc := nd_rs hD hS hA
      refine nd_cVv (As := [.long 7737577176750698083]) (rest := []) (w' := dw_X18 a ac s17) ⟨hx, hb, hml, hown, hts⟩ (fun sz => dm_X18_name l hlt dC dI a ac n (7737577176750698083) s0 hq sz) (cwV 1 hts gi_dm_X18_third_1 rfl rfl rfl (by decide +kernel) ⟨Nat.le_of_ble_eq_true rfl, Nat.le_of_ble_eq_true rfl⟩) hPc hDc hKc hS hA hN (va_recv hKc hPc (ci := 19) (q0 := 0) rfl rfl) rfl hl.1 rfl (Nat.le_of_ble_eq_true rfl) dX18_third_290 (fun H locs hP1 hD1 hk1 hS => ?_)
      have hP := hP1
      have hD := hD1.weaken (fun k q _ h => hFc q.1 h)
      exact (db_X18_third_293 C K)  s17 _ _ _ h hP hD hS (lv_sub hl [] rfl)
set_option maxHeartbeats 40000000 in
set_option maxRecDepth 100000 in
theorem db_X18_third_260 {p : Program} {l : Launch} {e : Env} {s : State} {m : MethodId} {args : Array Value} {below : List Frame} {meth : Method} {c : Code} {Q : State → Prop} {A : Nat → Prop} {dC : Nat → ClassId} {dI : Nat → Nat → Nat} {a : Nat → Nat} {ac : Nat → ClassId} {n : Nat} {r : St} (C : nd_C p l s m args c A (dC, dI) cX18_third 2 RX18 ow_dm_X18_third (dk_X18 ac)) (K : nd_Kv p l e (headSpec ow_dm_X18_third ({ frames := 4, cells := 0, slots := 0, locals := 89 })).room s m args below meth c Q A (dC, dI) cX18_third (St) (dw_X18 a ac) r) : dj_X18_third_260 p l e s m args below meth c Q A dC dI a ac (df_X18_third_260 n) r := by
  obtain ⟨hlt, hx, hb, hml, hown, hts, hN, hA, hK⟩ := id C
  intro y1 s0 H locs ls h hP hD hS hl
  unfold df_X18_third_260 at h
  obtain ⟨s22, hq, h⟩ := nd_b1_e h
  have hPc := hP
  have hDc := hD
  have hKc := hK
  have hFc := nd_rs hD hS hA
  refine nd_cVv (As := [.long y1]) (rest := []) (w' := dw_X18 a ac s22) ⟨hx, hb, hml, hown, hts⟩ (fun sz => dm_X18_name l hlt dC dI a ac n (y1) s0 hq sz) (cwV 1 hts gi_dm_X18_third_1 rfl rfl rfl (by decide +kernel) ⟨Nat.le_of_ble_eq_true rfl, Nat.le_of_ble_eq_true rfl⟩) hPc hDc hKc hS hA hN (va_recv hKc hPc (ci := 19) (q0 := 0) rfl rfl) rfl hl.1 rfl (Nat.le_of_ble_eq_true rfl) dX18_third_260 (fun H locs hP1 hD1 hk1 hS => ?_)
  have hP := hP1
  have hD := hD1.weaken (fun k q _ h => hFc q.1 h)
  refine lv_aload_n hx hb dX18_third_263 rfl (lv_at hl 0 rfl) ?_
  refine lv_aload_n hx hb dX18_third_264 rfl (lv_at hl 0 rfl) ?_
  refine va_get (D := (dC, dI)) (ci := 19) (v := .int (sI s22 4)) (C := RX18) (T := TX18) (N := 10) hx hb hts hi_dm_X18_third_X18 hown hK hP 0 rfl rfl 5 (by decide) (hts (.fieldLink RX18 68 "TimeMachineModel$Reader" "d" "I") (List.mem_of_getElem? (i := 11) rfl)) (fun _ h9 => h9) rfl dX18_third_265 ?_
  obtain ⟨s25, hq, h⟩ := nd_b1_e h
  have hPc := hP
  have hDc := hD
  have hKc := hK
  have hFc := nd_rs hD hS hA
  refine nd_cVv (As := [.int (sI s22 4)]) (rest := []) (w' := dw_X18 a ac s25) ⟨hx, hb, hml, hown, hts⟩ (fun sz => dm_X18_register l hlt dC dI a ac n ((sI s22 4)) s22 hq sz) (cwV 1 hts gi_dm_X18_third_2 rfl rfl rfl (by decide +kernel) ⟨Nat.le_of_ble_eq_true rfl, Nat.le_of_ble_eq_true rfl⟩) hPc hDc hKc hS hA hN (va_recv hKc hPc (ci := 19) (q0 := 0) rfl rfl) rfl hl.1 rfl (Nat.le_of_ble_eq_true rfl) dX18_third_268 (fun H locs hP1 hD1 hk1 hS => ?_)
  have hP := hP1
  have hD := hD1.weaken (fun k q _ h => hFc q.1 h)
  refine lv_goto (tgt := 293) hx hb dX18_third_271 (by decide) ?_
  exact (db_X18_third_293 C K)  s25 _ _ _ h hP hD hS (lv_sub hl [] rfl)
set_option maxHeartbeats 40000000 in
set_option maxRecDepth 100000 in
theorem db_X18_third_231 {p : Program} {l : Launch} {e : Env} {s : State} {m : MethodId} {args : Array Value} {below : List Frame} {meth : Method} {c : Code} {Q : State → Prop} {A : Nat → Prop} {dC : Nat → ClassId} {dI : Nat → Nat → Nat} {a : Nat → Nat} {ac : Nat → ClassId} {n : Nat} {r : St} (C : nd_C p l s m args c A (dC, dI) cX18_third 2 RX18 ow_dm_X18_third (dk_X18 ac)) (K : nd_Kv p l e (headSpec ow_dm_X18_third ({ frames := 4, cells := 0, slots := 0, locals := 89 })).room s m args below meth c Q A (dC, dI) cX18_third (St) (dw_X18 a ac) r) : dj_X18_third_231 p l e s m args below meth c Q A dC dI a ac (df_X18_third_231 n) r := by
  obtain ⟨hlt, hx, hb, hml, hown, hts, hN, hA, hK⟩ := id C
  intro x1 s0 H locs ls h hP hD hS hl
  unfold df_X18_third_231 at h
  refine lv_aload_n hx hb dX18_third_231 rfl (lv_at hl 0 rfl) ?_
  refine va_get (D := (dC, dI)) (ci := 19) (v := .int (sI s0 7)) (C := RX18) (T := TX18) (N := 10) hx hb hts hi_dm_X18_third_X18 hown hK hP 0 rfl rfl 8 (by decide) (hts (.fieldLink RX18 80 "TimeMachineModel$Reader" "f" "I") (List.mem_of_getElem? (i := 6) rfl)) (fun _ h9 => h9) rfl dX18_third_232 ?_
  refine lv_iconst (v := 4) hx hb dX18_third_235 (by decide) ?_
  refine lv_icmp_ne (tgt := 274) hx hb dX18_third_236 (by decide) (fun c13 => ?_) (fun c13 => ?_)
  · have h := nd_neg h c13
    exact (db_X18_third_274 C K) (x1) s0 _ _ _ h hP hD hS (lv_sub hl [0, 1] rfl)
  · have h := nd_pos h c13
    refine lv_aload_n hx hb dX18_third_239 rfl (lv_at hl 0 rfl) ?_
    refine va_get (D := (dC, dI)) (ci := 19) (v := .int (sI s0 4)) (C := RX18) (T := TX18) (N := 10) hx hb hts hi_dm_X18_third_X18 hown hK hP 0 rfl rfl 5 (by decide) (hts (.fieldLink RX18 68 "TimeMachineModel$Reader" "d" "I") (List.mem_of_getElem? (i := 11) rfl)) (fun _ h9 => h9) rfl dX18_third_240 ?_
    refine lv_if_eq (tgt := 274) hx hb dX18_third_243 (by decide) (fun c19 => ?_) (fun c19 => ?_)
    · have h := nd_pos h c19
      exact (db_X18_third_274 C K) (x1) s0 _ _ _ h hP hD hS (lv_sub hl [0, 1] rfl)
    · have h := nd_neg h c19
      refine lv_aload_n hx hb dX18_third_246 rfl (lv_at hl 0 rfl) ?_
      refine lv_iload_n hx hb dX18_third_247 rfl (lv_at hl 1 rfl) ?_
      refine lv_if_eq (tgt := 257) hx hb dX18_third_248 (by decide) (fun c20 => ?_) (fun c20 => ?_)
      · have h := nd_pos h c20
        refine lv_ldc2 hx hb hown (hts (.constantLong RX18 320 (1919561315)) (List.mem_of_getElem? (i := 12) rfl)) dX18_third_257 ?_
        exact (db_X18_third_260 C K) (1919561315) s0 _ _ _ h hP hD hS (lv_sub hl [0] rfl)
      · have h := nd_neg h c20
        refine lv_ldc2 hx hb hown (hts (.constantLong RX18 318 (125809816383075)) (List.mem_of_getElem? (i := 16) rfl)) dX18_third_251 ?_
        refine lv_goto (tgt := 260) hx hb dX18_third_254 (by decide) ?_
        exact (db_X18_third_260 C K) (125809816383075) s0 _ _ _ h hP hD hS (lv_sub hl [0] rfl)
set_option maxHeartbeats 40000000 in
set_option maxRecDepth 100000 in
theorem db_X18_third_209 {p : Program} {l : Launch} {e : Env} {s : State} {m : MethodId} {args : Array Value} {below : List Frame} {meth : Method} {c : Code} {Q : State → Prop} {A : Nat → Prop} {dC : Nat → ClassId} {dI : Nat → Nat → Nat} {a : Nat → Nat} {ac : Nat → ClassId} {n : Nat} {r : St} (C : nd_C p l s m args c A (dC, dI) cX18_third 2 RX18 ow_dm_X18_third (dk_X18 ac)) (K : nd_Kv p l e (headSpec ow_dm_X18_third ({ frames := 4, cells := 0, slots := 0, locals := 89 })).room s m args below meth c Q A (dC, dI) cX18_third (St) (dw_X18 a ac) r) : dj_X18_third_209 p l e s m args below meth c Q A dC dI a ac (df_X18_third_209 n) r := by
  obtain ⟨hlt, hx, hb, hml, hown, hts, hN, hA, hK⟩ := id C
  intro y1 s0 H locs ls h hP hD hS hl
  unfold df_X18_third_209 at h
  obtain ⟨s30, hq, h⟩ := nd_b1_e h
  have hPc := hP
  have hDc := hD
  have hKc := hK
  have hFc := nd_rs hD hS hA
  refine nd_cVv (As := [.long y1]) (rest := []) (w' := dw_X18 a ac s30) ⟨hx, hb, hml, hown, hts⟩ (fun sz => dm_X18_name l hlt dC dI a ac n (y1) s0 hq sz) (cwV 1 hts gi_dm_X18_third_1 rfl rfl rfl (by decide +kernel) ⟨Nat.le_of_ble_eq_true rfl, Nat.le_of_ble_eq_true rfl⟩) hPc hDc hKc hS hA hN (va_recv hKc hPc (ci := 19) (q0 := 0) rfl rfl) rfl hl.1 rfl (Nat.le_of_ble_eq_true rfl) dX18_third_209 (fun H locs hP1 hD1 hk1 hS => ?_)
  have hP := hP1
  have hD := hD1.weaken (fun k q _ h => hFc q.1 h)
  refine lv_aload_n hx hb dX18_third_212 rfl (lv_at hl 0 rfl) ?_
  refine lv_aload_n hx hb dX18_third_213 rfl (lv_at hl 0 rfl) ?_
  refine va_get (D := (dC, dI)) (ci := 19) (v := .int (sI s30 4)) (C := RX18) (T := TX18) (N := 10) hx hb hts hi_dm_X18_third_X18 hown hK hP 0 rfl rfl 5 (by decide) (hts (.fieldLink RX18 68 "TimeMachineModel$Reader" "d" "I") (List.mem_of_getElem? (i := 11) rfl)) (fun _ h9 => h9) rfl dX18_third_214 ?_
  obtain ⟨s33, hq, h⟩ := nd_b1_e h
  have hPc := hP
  have hDc := hD
  have hKc := hK
  have hFc := nd_rs hD hS hA
  refine nd_cVv (As := [.int (sI s30 4)]) (rest := []) (w' := dw_X18 a ac s33) ⟨hx, hb, hml, hown, hts⟩ (fun sz => dm_X18_register l hlt dC dI a ac n ((sI s30 4)) s30 hq sz) (cwV 1 hts gi_dm_X18_third_2 rfl rfl rfl (by decide +kernel) ⟨Nat.le_of_ble_eq_true rfl, Nat.le_of_ble_eq_true rfl⟩) hPc hDc hKc hS hA hN (va_recv hKc hPc (ci := 19) (q0 := 0) rfl rfl) rfl hl.1 rfl (Nat.le_of_ble_eq_true rfl) dX18_third_217 (fun H locs hP1 hD1 hk1 hS => ?_)
  have hP := hP1
  have hD := hD1.weaken (fun k q _ h => hFc q.1 h)
  refine lv_aload_n hx hb dX18_third_220 rfl (lv_at hl 0 rfl) ?_
  refine lv_aload_n hx hb dX18_third_221 rfl (lv_at hl 0 rfl) ?_
  refine va_get (D := (dC, dI)) (ci := 19) (v := .int (sI s33 6)) (C := RX18) (T := TX18) (N := 10) hx hb hts hi_dm_X18_third_X18 hown hK hP 0 rfl rfl 7 (by decide) (hts (.fieldLink RX18 77 "TimeMachineModel$Reader" "b" "I") (List.mem_of_getElem? (i := 5) rfl)) (fun _ h9 => h9) rfl dX18_third_222 ?_
  obtain ⟨s36, hq, h⟩ := nd_b1_e h
  have hPc := hP
  have hDc := hD
  have hKc := hK
  have hFc := nd_rs hD hS hA
  refine nd_cVv (As := [.int (sI s33 6)]) (rest := []) (w' := dw_X18 a ac s36) ⟨hx, hb, hml, hown, hts⟩ (fun sz => dm_X18_register l hlt dC dI a ac n ((sI s33 6)) s33 hq sz) (cwV 1 hts gi_dm_X18_third_2 rfl rfl rfl (by decide +kernel) ⟨Nat.le_of_ble_eq_true rfl, Nat.le_of_ble_eq_true rfl⟩) hPc hDc hKc hS hA hN (va_recv hKc hPc (ci := 19) (q0 := 0) rfl rfl) rfl hl.1 rfl (Nat.le_of_ble_eq_true rfl) dX18_third_225 (fun H locs hP1 hD1 hk1 hS => ?_)
  have hP := hP1
  have hD := hD1.weaken (fun k q _ h => hFc q.1 h)
  refine lv_goto (tgt := 293) hx hb dX18_third_228 (by decide) ?_
  exact (db_X18_third_293 C K)  s36 _ _ _ h hP hD hS (lv_sub hl [] rfl)
set_option maxHeartbeats 40000000 in
set_option maxRecDepth 100000 in
theorem db_X18_third_129 {p : Program} {l : Launch} {e : Env} {s : State} {m : MethodId} {args : Array Value} {below : List Frame} {meth : Method} {c : Code} {Q : State → Prop} {A : Nat → Prop} {dC : Nat → ClassId} {dI : Nat → Nat → Nat} {a : Nat → Nat} {ac : Nat → ClassId} {n : Nat} {r : St} (C : nd_C p l s m args c A (dC, dI) cX18_third 2 RX18 ow_dm_X18_third (dk_X18 ac)) (K : nd_Kv p l e (headSpec ow_dm_X18_third ({ frames := 4, cells := 0, slots := 0, locals := 89 })).room s m args below meth c Q A (dC, dI) cX18_third (St) (dw_X18 a ac) r) : dj_X18_third_129 p l e s m args below meth c Q A dC dI a ac (df_X18_third_129 n) r := by
  obtain ⟨hlt, hx, hb, hml, hown, hts, hN, hA, hK⟩ := id C
  intro x1 s0 H locs ls h hP hD hS hl
  unfold df_X18_third_129 at h
  refine lv_aload_n hx hb dX18_third_129 rfl (lv_at hl 0 rfl) ?_
  refine va_get (D := (dC, dI)) (ci := 19) (v := .int (sI s0 7)) (C := RX18) (T := TX18) (N := 10) hx hb hts hi_dm_X18_third_X18 hown hK hP 0 rfl rfl 8 (by decide) (hts (.fieldLink RX18 80 "TimeMachineModel$Reader" "f" "I") (List.mem_of_getElem? (i := 6) rfl)) (fun _ h9 => h9) rfl dX18_third_130 ?_
  refine lv_bipush (v := 6) hx hb dX18_third_133 (by decide) ?_
  refine lv_icmp_ne (tgt := 180) hx hb dX18_third_135 (by decide) (fun c11 => ?_) (fun c11 => ?_)
  · have h := nd_neg h c11
    refine lv_aload_n hx hb dX18_third_180 rfl (lv_at hl 0 rfl) ?_
    refine va_get (D := (dC, dI)) (ci := 19) (v := .int (sI s0 7)) (C := RX18) (T := TX18) (N := 10) hx hb hts hi_dm_X18_third_X18 hown hK hP 0 rfl rfl 8 (by decide) (hts (.fieldLink RX18 80 "TimeMachineModel$Reader" "f" "I") (List.mem_of_getElem? (i := 6) rfl)) (fun _ h9 => h9) rfl dX18_third_181 ?_
    refine lv_iconst (v := 4) hx hb dX18_third_184 (by decide) ?_
    refine lv_icmp_ne (tgt := 231) hx hb dX18_third_185 (by decide) (fun c12 => ?_) (fun c12 => ?_)
    · have h := nd_neg h c12
      exact (db_X18_third_231 C K) (x1) s0 _ _ _ h hP hD hS (lv_sub hl [0, 1] rfl)
    · have h := nd_pos h c12
      refine lv_aload_n hx hb dX18_third_188 rfl (lv_at hl 0 rfl) ?_
      refine va_get (D := (dC, dI)) (ci := 19) (v := .int (sI s0 6)) (C := RX18) (T := TX18) (N := 10) hx hb hts hi_dm_X18_third_X18 hown hK hP 0 rfl rfl 7 (by decide) (hts (.fieldLink RX18 77 "TimeMachineModel$Reader" "b" "I") (List.mem_of_getElem? (i := 5) rfl)) (fun _ h9 => h9) rfl dX18_third_189 ?_
      refine lv_if_eq (tgt := 231) hx hb dX18_third_192 (by decide) (fun c27 => ?_) (fun c27 => ?_)
      · have h := nd_pos h c27
        exact (db_X18_third_231 C K) (x1) s0 _ _ _ h hP hD hS (lv_sub hl [0, 1] rfl)
      · have h := nd_neg h c27
        refine lv_aload_n hx hb dX18_third_195 rfl (lv_at hl 0 rfl) ?_
        refine lv_iload_n hx hb dX18_third_196 rfl (lv_at hl 1 rfl) ?_
        refine lv_if_eq (tgt := 206) hx hb dX18_third_197 (by decide) (fun c28 => ?_) (fun c28 => ?_)
        · have h := nd_pos h c28
          refine lv_ldc2 hx hb hown (hts (.constantLong RX18 316 (1986866787)) (List.mem_of_getElem? (i := 17) rfl)) dX18_third_206 ?_
          exact (db_X18_third_209 C K) (1986866787) s0 _ _ _ h hP hD hS (lv_sub hl [0] rfl)
        · have h := nd_neg h c28
          refine lv_ldc2 hx hb hown (hts (.constantLong RX18 314 (431180820067)) (List.mem_of_getElem? (i := 18) rfl)) dX18_third_200 ?_
          refine lv_goto (tgt := 209) hx hb dX18_third_203 (by decide) ?_
          exact (db_X18_third_209 C K) (431180820067) s0 _ _ _ h hP hD hS (lv_sub hl [0] rfl)
  · have h := nd_pos h c11
    refine lv_aload_n hx hb dX18_third_138 rfl (lv_at hl 0 rfl) ?_
    refine lv_ldc2 hx hb hown (hts (.constantLong RX18 312 (123641227587171)) (List.mem_of_getElem? (i := 19) rfl)) dX18_third_139 ?_
    obtain ⟨s39, hq, h⟩ := nd_b1_e h
    have hPc := hP
    have hDc := hD
    have hKc := hK
    have hFc := nd_rs hD hS hA
    refine nd_cVv (As := [.long 123641227587171]) (rest := []) (w' := dw_X18 a ac s39) ⟨hx, hb, hml, hown, hts⟩ (fun sz => dm_X18_name l hlt dC dI a ac n (123641227587171) s0 hq sz) (cwV 1 hts gi_dm_X18_third_1 rfl rfl rfl (by decide +kernel) ⟨Nat.le_of_ble_eq_true rfl, Nat.le_of_ble_eq_true rfl⟩) hPc hDc hKc hS hA hN (va_recv hKc hPc (ci := 19) (q0 := 0) rfl rfl) rfl hl.1 rfl (Nat.le_of_ble_eq_true rfl) dX18_third_142 (fun H locs hP1 hD1 hk1 hS => ?_)
    have hP := hP1
    have hD := hD1.weaken (fun k q _ h => hFc q.1 h)
    refine lv_aload_n hx hb dX18_third_145 rfl (lv_at hl 0 rfl) ?_
    refine lv_aload_n hx hb dX18_third_146 rfl (lv_at hl 0 rfl) ?_
    refine va_get (D := (dC, dI)) (ci := 19) (v := .int (sI s39 6)) (C := RX18) (T := TX18) (N := 10) hx hb hts hi_dm_X18_third_X18 hown hK hP 0 rfl rfl 7 (by decide) (hts (.fieldLink RX18 77 "TimeMachineModel$Reader" "b" "I") (List.mem_of_getElem? (i := 5) rfl)) (fun _ h9 => h9) rfl dX18_third_147 ?_
    obtain ⟨s42, hq, h⟩ := nd_b1_e h
    have hPc := hP
    have hDc := hD
    have hKc := hK
    have hFc := nd_rs hD hS hA
    refine nd_cVv (As := [.int (sI s39 6)]) (rest := []) (w' := dw_X18 a ac s42) ⟨hx, hb, hml, hown, hts⟩ (fun sz => dm_X18_register l hlt dC dI a ac n ((sI s39 6)) s39 hq sz) (cwV 1 hts gi_dm_X18_third_2 rfl rfl rfl (by decide +kernel) ⟨Nat.le_of_ble_eq_true rfl, Nat.le_of_ble_eq_true rfl⟩) hPc hDc hKc hS hA hN (va_recv hKc hPc (ci := 19) (q0 := 0) rfl rfl) rfl hl.1 rfl (Nat.le_of_ble_eq_true rfl) dX18_third_150 (fun H locs hP1 hD1 hk1 hS => ?_)
    have hP := hP1
    have hD := hD1.weaken (fun k q _ h => hFc q.1 h)
    refine lv_aload_n hx hb dX18_third_153 rfl (lv_at hl 0 rfl) ?_
    refine lv_aload_n hx hb dX18_third_154 rfl (lv_at hl 0 rfl) ?_
    refine lv_bipush (v := 9) hx hb dX18_third_155 (by decide) ?_
    refine lv_iconst (v := 4) hx hb dX18_third_157 (by decide) ?_
    obtain ⟨q44, s45, hq, h⟩ := nd_b2_e h
    have hPc := hP
    have hDc := hD
    have hKc := hK
    have hFc := nd_rs hD hS hA
    refine nd_cVi (As := [.int 9, .int 4]) (rest := [.ref (a 0)]) (q := q44) (w' := dw_X18 a ac s45) ⟨hx, hb, hml, hown, hts⟩ (fun sz => dm_X18_part l hlt dC dI a ac n (9) (4) s42 hq sz) (cwV 2 hts gi_dm_X18_third_0 rfl rfl rfl (by decide +kernel) ⟨Nat.le_of_ble_eq_true rfl, Nat.le_of_ble_eq_true rfl⟩) hPc hDc hKc hS hA hN (va_recv hKc hPc (ci := 19) (q0 := 0) rfl rfl) rfl hl.1 rfl (Nat.le_of_ble_eq_true rfl) dX18_third_158 (fun H locs hP1 hD1 hk1 hS => ?_)
    have hP := hP1
    have hD := hD1.weaken (fun k q _ h => hFc q.1 h)
    refine lv_iconst (v := 2) hx hb dX18_third_161 (by decide) ?_
    refine lv_ishl hx hb dX18_third_162 ?_
    refine lv_aload_n hx hb dX18_third_163 rfl (lv_at hl 0 rfl) ?_
    refine lv_bipush (v := 7) hx hb dX18_third_164 (by decide) ?_
    refine lv_iconst (v := 2) hx hb dX18_third_166 (by decide) ?_
    obtain ⟨q47, s48, hq, h⟩ := nd_b2_e h
    have hPc := hP
    have hDc := hD
    have hKc := hK
    have hFc := nd_rs hD hS hA
    refine nd_cVi (As := [.int 7, .int 2]) (rest := [.int ((q44 : Int32) <<< ((2 : Int32) &&& 31)), .ref (a 0)]) (q := q47) (w' := dw_X18 a ac s48) ⟨hx, hb, hml, hown, hts⟩ (fun sz => dm_X18_part l hlt dC dI a ac n (7) (2) s45 hq sz) (cwV 2 hts gi_dm_X18_third_0 rfl rfl rfl (by decide +kernel) ⟨Nat.le_of_ble_eq_true rfl, Nat.le_of_ble_eq_true rfl⟩) hPc hDc hKc hS hA hN (va_recv hKc hPc (ci := 19) (q0 := 0) rfl rfl) rfl hl.1 rfl (Nat.le_of_ble_eq_true rfl) dX18_third_167 (fun H locs hP1 hD1 hk1 hS => ?_)
    have hP := hP1
    have hD := hD1.weaken (fun k q _ h => hFc q.1 h)
    refine lv_bipush (v := 6) hx hb dX18_third_170 (by decide) ?_
    refine lv_ishl hx hb dX18_third_172 ?_
    refine lv_ior hx hb dX18_third_173 ?_
    obtain ⟨s51, hq, h⟩ := nd_b1_e h
    have hPc := hP
    have hDc := hD
    have hKc := hK
    have hFc := nd_rs hD hS hA
    refine nd_cVv (As := [.int (((q44 : Int32) <<< ((2 : Int32) &&& 31)) ||| ((q47 : Int32) <<< ((6 : Int32) &&& 31)))]) (rest := []) (w' := dw_X18 a ac s51) ⟨hx, hb, hml, hown, hts⟩ (fun sz => dm_X18_immediate l hlt dC dI a ac n ((((q44 : Int32) <<< ((2 : Int32) &&& 31)) ||| ((q47 : Int32) <<< ((6 : Int32) &&& 31)))) s48 hq sz) (cwV 1 hts gi_dm_X18_third_3 rfl rfl rfl (by decide +kernel) ⟨Nat.le_of_ble_eq_true rfl, Nat.le_of_ble_eq_true rfl⟩) hPc hDc hKc hS hA hN (va_recv hKc hPc (ci := 19) (q0 := 0) rfl rfl) rfl hl.1 rfl (Nat.le_of_ble_eq_true rfl) dX18_third_174 (fun H locs hP1 hD1 hk1 hS => ?_)
    have hP := hP1
    have hD := hD1.weaken (fun k q _ h => hFc q.1 h)
    refine lv_goto (tgt := 293) hx hb dX18_third_177 (by decide) ?_
    exact (db_X18_third_293 C K)  s51 _ _ _ h hP hD hS (lv_sub hl [] rfl)
set_option maxHeartbeats 40000000 in
set_option maxRecDepth 100000 in
theorem db_X18_third_64 {p : Program} {l : Launch} {e : Env} {s : State} {m : MethodId} {args : Array Value} {below : List Frame} {meth : Method} {c : Code} {Q : State → Prop} {A : Nat → Prop} {dC : Nat → ClassId} {dI : Nat → Nat → Nat} {a : Nat → Nat} {ac : Nat → ClassId} {n : Nat} {r : St} (C : nd_C p l s m args c A (dC, dI) cX18_third 2 RX18 ow_dm_X18_third (dk_X18 ac)) (K : nd_Kv p l e (headSpec ow_dm_X18_third ({ frames := 4, cells := 0, slots := 0, locals := 89 })).room s m args below meth c Q A (dC, dI) cX18_third (St) (dw_X18 a ac) r) : dj_X18_third_64 p l e s m args below meth c Q A dC dI a ac (df_X18_third_64 n) r := by
  obtain ⟨hlt, hx, hb, hml, hown, hts, hN, hA, hK⟩ := id C
  intro x1 s0 H locs ls h hP hD hS hl
  unfold df_X18_third_64 at h
  refine lv_aload_n hx hb dX18_third_64 rfl (lv_at hl 0 rfl) ?_
  refine va_get (D := (dC, dI)) (ci := 19) (v := .int (sI s0 7)) (C := RX18) (T := TX18) (N := 10) hx hb hts hi_dm_X18_third_X18 hown hK hP 0 rfl rfl 8 (by decide) (hts (.fieldLink RX18 80 "TimeMachineModel$Reader" "f" "I") (List.mem_of_getElem? (i := 6) rfl)) (fun _ h9 => h9) rfl dX18_third_65 ?_
  refine lv_iconst (v := 2) hx hb dX18_third_68 (by decide) ?_
  refine lv_icmp_ne (tgt := 129) hx hb dX18_third_69 (by decide) (fun c10 => ?_) (fun c10 => ?_)
  · have h := nd_neg h c10
    exact (db_X18_third_129 C K) (x1) s0 _ _ _ h hP hD hS (lv_sub hl [0, 1] rfl)
  · have h := nd_pos h c10
    refine lv_aload_n hx hb dX18_third_72 rfl (lv_at hl 0 rfl) ?_
    refine va_get (D := (dC, dI)) (ci := 19) (v := .int (sI s0 4)) (C := RX18) (T := TX18) (N := 10) hx hb hts hi_dm_X18_third_X18 hown hK hP 0 rfl rfl 5 (by decide) (hts (.fieldLink RX18 68 "TimeMachineModel$Reader" "d" "I") (List.mem_of_getElem? (i := 11) rfl)) (fun _ h9 => h9) rfl dX18_third_73 ?_
    refine lv_if_eq (tgt := 129) hx hb dX18_third_76 (by decide) (fun c53 => ?_) (fun c53 => ?_)
    · have h := nd_pos h c53
      exact (db_X18_third_129 C K) (x1) s0 _ _ _ h hP hD hS (lv_sub hl [0, 1] rfl)
    · have h := nd_neg h c53
      refine lv_aload_n hx hb dX18_third_79 rfl (lv_at hl 0 rfl) ?_
      refine lv_ldc2 hx hb hown (hts (.constantLong RX18 310 (123641227128419)) (List.mem_of_getElem? (i := 23) rfl)) dX18_third_80 ?_
      obtain ⟨s55, hq, h⟩ := nd_b1_e h
      have hPc := hP
      have hDc := hD
      have hKc := hK
      have hFc := nd_rs hD hS hA
      refine nd_cVv (As := [.long 123641227128419]) (rest := []) (w' := dw_X18 a ac s55) ⟨hx, hb, hml, hown, hts⟩ (fun sz => dm_X18_name l hlt dC dI a ac n (123641227128419) s0 hq sz) (cwV 1 hts gi_dm_X18_third_1 rfl rfl rfl (by decide +kernel) ⟨Nat.le_of_ble_eq_true rfl, Nat.le_of_ble_eq_true rfl⟩) hPc hDc hKc hS hA hN (va_recv hKc hPc (ci := 19) (q0 := 0) rfl rfl) rfl hl.1 rfl (Nat.le_of_ble_eq_true rfl) dX18_third_83 (fun H locs hP1 hD1 hk1 hS => ?_)
      have hP := hP1
      have hD := hD1.weaken (fun k q _ h => hFc q.1 h)
      refine lv_aload_n hx hb dX18_third_86 rfl (lv_at hl 0 rfl) ?_
      refine lv_aload_n hx hb dX18_third_87 rfl (lv_at hl 0 rfl) ?_
      refine va_get (D := (dC, dI)) (ci := 19) (v := .int (sI s55 4)) (C := RX18) (T := TX18) (N := 10) hx hb hts hi_dm_X18_third_X18 hown hK hP 0 rfl rfl 5 (by decide) (hts (.fieldLink RX18 68 "TimeMachineModel$Reader" "d" "I") (List.mem_of_getElem? (i := 11) rfl)) (fun _ h9 => h9) rfl dX18_third_88 ?_
      obtain ⟨s58, hq, h⟩ := nd_b1_e h
      have hPc := hP
      have hDc := hD
      have hKc := hK
      have hFc := nd_rs hD hS hA
      refine nd_cVv (As := [.int (sI s55 4)]) (rest := []) (w' := dw_X18 a ac s58) ⟨hx, hb, hml, hown, hts⟩ (fun sz => dm_X18_register l hlt dC dI a ac n ((sI s55 4)) s55 hq sz) (cwV 1 hts gi_dm_X18_third_2 rfl rfl rfl (by decide +kernel) ⟨Nat.le_of_ble_eq_true rfl, Nat.le_of_ble_eq_true rfl⟩) hPc hDc hKc hS hA hN (va_recv hKc hPc (ci := 19) (q0 := 0) rfl rfl) rfl hl.1 rfl (Nat.le_of_ble_eq_true rfl) dX18_third_91 (fun H locs hP1 hD1 hk1 hS => ?_)
      have hP := hP1
      have hD := hD1.weaken (fun k q _ h => hFc q.1 h)
      refine lv_aload_n hx hb dX18_third_94 rfl (lv_at hl 0 rfl) ?_
      refine lv_aload_n hx hb dX18_third_95 rfl (lv_at hl 0 rfl) ?_
      refine lv_bipush (v := 12) hx hb dX18_third_96 (by decide) ?_
      refine lv_iconst (v := 1) hx hb dX18_third_98 (by decide) ?_
      obtain ⟨q60, s61, hq, h⟩ := nd_b2_e h
      have hPc := hP
      have hDc := hD
      have hKc := hK
      have hFc := nd_rs hD hS hA
      refine nd_cVi (As := [.int 12, .int 1]) (rest := [.ref (a 0)]) (q := q60) (w' := dw_X18 a ac s61) ⟨hx, hb, hml, hown, hts⟩ (fun sz => dm_X18_part l hlt dC dI a ac n (12) (1) s58 hq sz) (cwV 2 hts gi_dm_X18_third_0 rfl rfl rfl (by decide +kernel) ⟨Nat.le_of_ble_eq_true rfl, Nat.le_of_ble_eq_true rfl⟩) hPc hDc hKc hS hA hN (va_recv hKc hPc (ci := 19) (q0 := 0) rfl rfl) rfl hl.1 rfl (Nat.le_of_ble_eq_true rfl) dX18_third_99 (fun H locs hP1 hD1 hk1 hS => ?_)
      have hP := hP1
      have hD := hD1.weaken (fun k q _ h => hFc q.1 h)
      refine lv_iconst (v := 5) hx hb dX18_third_102 (by decide) ?_
      refine lv_ishl hx hb dX18_third_103 ?_
      refine lv_aload_n hx hb dX18_third_104 rfl (lv_at hl 0 rfl) ?_
      refine lv_iconst (v := 4) hx hb dX18_third_105 (by decide) ?_
      refine lv_iconst (v := 3) hx hb dX18_third_106 (by decide) ?_
      obtain ⟨q63, s64, hq, h⟩ := nd_b2_e h
      have hPc := hP
      have hDc := hD
      have hKc := hK
      have hFc := nd_rs hD hS hA
      refine nd_cVi (As := [.int 4, .int 3]) (rest := [.int ((q60 : Int32) <<< ((5 : Int32) &&& 31)), .ref (a 0)]) (q := q63) (w' := dw_X18 a ac s64) ⟨hx, hb, hml, hown, hts⟩ (fun sz => dm_X18_part l hlt dC dI a ac n (4) (3) s61 hq sz) (cwV 2 hts gi_dm_X18_third_0 rfl rfl rfl (by decide +kernel) ⟨Nat.le_of_ble_eq_true rfl, Nat.le_of_ble_eq_true rfl⟩) hPc hDc hKc hS hA hN (va_recv hKc hPc (ci := 19) (q0 := 0) rfl rfl) rfl hl.1 rfl (Nat.le_of_ble_eq_true rfl) dX18_third_107 (fun H locs hP1 hD1 hk1 hS => ?_)
      have hP := hP1
      have hD := hD1.weaken (fun k q _ h => hFc q.1 h)
      refine lv_iconst (v := 2) hx hb dX18_third_110 (by decide) ?_
      refine lv_ishl hx hb dX18_third_111 ?_
      refine lv_ior hx hb dX18_third_112 ?_
      refine lv_aload_n hx hb dX18_third_113 rfl (lv_at hl 0 rfl) ?_
      refine lv_iconst (v := 2) hx hb dX18_third_114 (by decide) ?_
      refine lv_iconst (v := 2) hx hb dX18_third_115 (by decide) ?_
      obtain ⟨q66, s67, hq, h⟩ := nd_b2_e h
      have hPc := hP
      have hDc := hD
      have hKc := hK
      have hFc := nd_rs hD hS hA
      refine nd_cVi (As := [.int 2, .int 2]) (rest := [.int (((q60 : Int32) <<< ((5 : Int32) &&& 31)) ||| ((q63 : Int32) <<< ((2 : Int32) &&& 31))), .ref (a 0)]) (q := q66) (w' := dw_X18 a ac s67) ⟨hx, hb, hml, hown, hts⟩ (fun sz => dm_X18_part l hlt dC dI a ac n (2) (2) s64 hq sz) (cwV 2 hts gi_dm_X18_third_0 rfl rfl rfl (by decide +kernel) ⟨Nat.le_of_ble_eq_true rfl, Nat.le_of_ble_eq_true rfl⟩) hPc hDc hKc hS hA hN (va_recv hKc hPc (ci := 19) (q0 := 0) rfl rfl) rfl hl.1 rfl (Nat.le_of_ble_eq_true rfl) dX18_third_116 (fun H locs hP1 hD1 hk1 hS => ?_)
      have hP := hP1
      have hD := hD1.weaken (fun k q _ h => hFc q.1 h)
      refine lv_bipush (v := 6) hx hb dX18_third_119 (by decide) ?_
      refine lv_ishl hx hb dX18_third_121 ?_
      refine lv_ior hx hb dX18_third_122 ?_
      obtain ⟨s70, hq, h⟩ := nd_b1_e h
      have hPc := hP
      have hDc := hD
      have hKc := hK
      have hFc := nd_rs hD hS hA
      refine nd_cVv (As := [.int ((((q60 : Int32) <<< ((5 : Int32) &&& 31)) ||| ((q63 : Int32) <<< ((2 : Int32) &&& 31))) ||| ((q66 : Int32) <<< ((6 : Int32) &&& 31)))]) (rest := []) (w' := dw_X18 a ac s70) ⟨hx, hb, hml, hown, hts⟩ (fun sz => dm_X18_immediate l hlt dC dI a ac n (((((q60 : Int32) <<< ((5 : Int32) &&& 31)) ||| ((q63 : Int32) <<< ((2 : Int32) &&& 31))) ||| ((q66 : Int32) <<< ((6 : Int32) &&& 31)))) s67 hq sz) (cwV 1 hts gi_dm_X18_third_3 rfl rfl rfl (by decide +kernel) ⟨Nat.le_of_ble_eq_true rfl, Nat.le_of_ble_eq_true rfl⟩) hPc hDc hKc hS hA hN (va_recv hKc hPc (ci := 19) (q0 := 0) rfl rfl) rfl hl.1 rfl (Nat.le_of_ble_eq_true rfl) dX18_third_123 (fun H locs hP1 hD1 hk1 hS => ?_)
      have hP := hP1
      have hD := hD1.weaken (fun k q _ h => hFc q.1 h)
      refine lv_goto (tgt := 293) hx hb dX18_third_126 (by decide) ?_
      exact (db_X18_third_293 C K)  s70 _ _ _ h hP hD hS (lv_sub hl [] rfl)
set_option maxHeartbeats 40000000 in
set_option maxRecDepth 100000 in
theorem db_X18_third_16 {p : Program} {l : Launch} {e : Env} {s : State} {m : MethodId} {args : Array Value} {below : List Frame} {meth : Method} {c : Code} {Q : State → Prop} {A : Nat → Prop} {dC : Nat → ClassId} {dI : Nat → Nat → Nat} {a : Nat → Nat} {ac : Nat → ClassId} {n : Nat} {r : St} (C : nd_C p l s m args c A (dC, dI) cX18_third 2 RX18 ow_dm_X18_third (dk_X18 ac)) (K : nd_Kv p l e (headSpec ow_dm_X18_third ({ frames := 4, cells := 0, slots := 0, locals := 89 })).room s m args below meth c Q A (dC, dI) cX18_third (St) (dw_X18 a ac) r) : dj_X18_third_16 p l e s m args below meth c Q A dC dI a ac (df_X18_third_16 n) r := by
  obtain ⟨hlt, hx, hb, hml, hown, hts, hN, hA, hK⟩ := id C
  intro y0 s0 H locs ls h hP hD hS hl
  unfold df_X18_third_16 at h
  refine lv_istore_n (lv' := [(1, .int y0), (0, .ref (a 0))]) hx hb dX18_third_16 rfl hl (by decide) rfl (fun ls hl => ?_)
  refine lv_aload_n hx hb dX18_third_17 rfl (lv_at hl 1 rfl) ?_
  refine lv_aload_n hx hb dX18_third_18 rfl (lv_at hl 1 rfl) ?_
  refine lv_iconst (v := 2) hx hb dX18_third_19 (by decide) ?_
  refine lv_iconst (v := 5) hx hb dX18_third_20 (by decide) ?_
  obtain ⟨q5, s6, hq, h⟩ := nd_b2_e h
  have hPc := hP
  have hDc := hD
  have hKc := hK
  have hFc := nd_rs hD hS hA
  refine nd_cVi (As := [.int 2, .int 5]) (rest := [.ref (a 0)]) (q := q5) (w' := dw_X18 a ac s6) ⟨hx, hb, hml, hown, hts⟩ (fun sz => dm_X18_part l hlt dC dI a ac n (2) (5) s0 hq sz) (cwV 2 hts gi_dm_X18_third_0 rfl rfl rfl (by decide +kernel) ⟨Nat.le_of_ble_eq_true rfl, Nat.le_of_ble_eq_true rfl⟩) hPc hDc hKc hS hA hN (va_recv hKc hPc (ci := 19) (q0 := 0) rfl rfl) rfl hl.1 rfl (Nat.le_of_ble_eq_true rfl) dX18_third_21 (fun H locs hP1 hD1 hk1 hS => ?_)
  have hP := hP1
  have hD := hD1.weaken (fun k q _ h => hFc q.1 h)
  refine va_put (D := (dC, dI)) (ci := 19) (v := .int q5) (ty := .int) (C := RX18) (T := TX18) (N := 10) hx hb hts hi_dm_X18_third_X18 tyX18 tyX18_ok nmX18 hown hK hP hD hS 0 rfl rfl 7 (by decide) (hts (.fieldLink RX18 77 "TimeMachineModel$Reader" "b" "I") (List.mem_of_getElem? (i := 5) rfl)) (fun _ h9 => h9) rfl (by decide +kernel) rfl rfl (Nat.le_of_ble_eq_true rfl) dX18_third_24 (fun H locs hP hD hS => ?_)
  obtain ⟨s8, es8, h⟩ := nd_let_e h
  have hP : va_P (dC, dI) vwCl (dw_X18 a ac s8) H := by rw [es8]; exact hP
  have hD : va_D A (dw_X18 a ac s8) := by rw [es8]; exact hD
  refine lv_aload_n hx hb dX18_third_27 rfl (lv_at hl 1 rfl) ?_
  refine va_get (D := (dC, dI)) (ci := 19) (v := .int (sI s8 7)) (C := RX18) (T := TX18) (N := 10) hx hb hts hi_dm_X18_third_X18 hown hK hP 0 rfl rfl 8 (by decide) (hts (.fieldLink RX18 80 "TimeMachineModel$Reader" "f" "I") (List.mem_of_getElem? (i := 6) rfl)) (fun _ h9 => h9) rfl dX18_third_28 ?_
  refine lv_if_ne (tgt := 64) hx hb dX18_third_31 (by decide) (fun c9 => ?_) (fun c9 => ?_)
  · have h := nd_neg h c9
    exact (db_X18_third_64 C K) (y0) s8 _ _ _ h hP hD hS (lv_sub hl [1, 0] rfl)
  · have h := nd_pos h c9
    refine lv_iload_n hx hb dX18_third_34 rfl (lv_at hl 0 rfl) ?_
    refine lv_if_ne (tgt := 64) hx hb dX18_third_35 (by decide) (fun c72 => ?_) (fun c72 => ?_)
    · have h := nd_neg h c72
      exact (db_X18_third_64 C K) (y0) s8 _ _ _ h hP hD hS (lv_sub hl [1, 0] rfl)
    · have h := nd_pos h c72
      refine lv_aload_n hx hb dX18_third_38 rfl (lv_at hl 1 rfl) ?_
      refine lv_ldc2 hx hb hown (hts (.constantLong RX18 308 (115914396872291)) (List.mem_of_getElem? (i := 24) rfl)) dX18_third_39 ?_
      obtain ⟨s74, hq, h⟩ := nd_b1_e h
      have hPc := hP
      have hDc := hD
      have hKc := hK
      have hFc := nd_rs hD hS hA
      refine nd_cVv (As := [.long 115914396872291]) (rest := []) (w' := dw_X18 a ac s74) ⟨hx, hb, hml, hown, hts⟩ (fun sz => dm_X18_name l hlt dC dI a ac n (115914396872291) s8 hq sz) (cwV 1 hts gi_dm_X18_third_1 rfl rfl rfl (by decide +kernel) ⟨Nat.le_of_ble_eq_true rfl, Nat.le_of_ble_eq_true rfl⟩) hPc hDc hKc hS hA hN (va_recv hKc hPc (ci := 19) (q0 := 0) rfl rfl) rfl hl.1 rfl (Nat.le_of_ble_eq_true rfl) dX18_third_42 (fun H locs hP1 hD1 hk1 hS => ?_)
      have hP := hP1
      have hD := hD1.weaken (fun k q _ h => hFc q.1 h)
      refine lv_aload_n hx hb dX18_third_45 rfl (lv_at hl 1 rfl) ?_
      refine lv_aload_n hx hb dX18_third_46 rfl (lv_at hl 1 rfl) ?_
      refine va_get (D := (dC, dI)) (ci := 19) (v := .int (sI s74 4)) (C := RX18) (T := TX18) (N := 10) hx hb hts hi_dm_X18_third_X18 hown hK hP 0 rfl rfl 5 (by decide) (hts (.fieldLink RX18 68 "TimeMachineModel$Reader" "d" "I") (List.mem_of_getElem? (i := 11) rfl)) (fun _ h9 => h9) rfl dX18_third_47 ?_
      obtain ⟨s77, hq, h⟩ := nd_b1_e h
      have hPc := hP
      have hDc := hD
      have hKc := hK
      have hFc := nd_rs hD hS hA
      refine nd_cVv (As := [.int (sI s74 4)]) (rest := []) (w' := dw_X18 a ac s77) ⟨hx, hb, hml, hown, hts⟩ (fun sz => dm_X18_register l hlt dC dI a ac n ((sI s74 4)) s74 hq sz) (cwV 1 hts gi_dm_X18_third_2 rfl rfl rfl (by decide +kernel) ⟨Nat.le_of_ble_eq_true rfl, Nat.le_of_ble_eq_true rfl⟩) hPc hDc hKc hS hA hN (va_recv hKc hPc (ci := 19) (q0 := 0) rfl rfl) rfl hl.1 rfl (Nat.le_of_ble_eq_true rfl) dX18_third_50 (fun H locs hP1 hD1 hk1 hS => ?_)
      have hP := hP1
      have hD := hD1.weaken (fun k q _ h => hFc q.1 h)
      refine lv_aload_n hx hb dX18_third_53 rfl (lv_at hl 1 rfl) ?_
      refine lv_aload_n hx hb dX18_third_54 rfl (lv_at hl 1 rfl) ?_
      refine va_get (D := (dC, dI)) (ci := 19) (v := .int (sI s77 6)) (C := RX18) (T := TX18) (N := 10) hx hb hts hi_dm_X18_third_X18 hown hK hP 0 rfl rfl 7 (by decide) (hts (.fieldLink RX18 77 "TimeMachineModel$Reader" "b" "I") (List.mem_of_getElem? (i := 5) rfl)) (fun _ h9 => h9) rfl dX18_third_55 ?_
      obtain ⟨s80, hq, h⟩ := nd_b1_e h
      have hPc := hP
      have hDc := hD
      have hKc := hK
      have hFc := nd_rs hD hS hA
      refine nd_cVv (As := [.int (sI s77 6)]) (rest := []) (w' := dw_X18 a ac s80) ⟨hx, hb, hml, hown, hts⟩ (fun sz => dm_X18_immediate l hlt dC dI a ac n ((sI s77 6)) s77 hq sz) (cwV 1 hts gi_dm_X18_third_3 rfl rfl rfl (by decide +kernel) ⟨Nat.le_of_ble_eq_true rfl, Nat.le_of_ble_eq_true rfl⟩) hPc hDc hKc hS hA hN (va_recv hKc hPc (ci := 19) (q0 := 0) rfl rfl) rfl hl.1 rfl (Nat.le_of_ble_eq_true rfl) dX18_third_58 (fun H locs hP1 hD1 hk1 hS => ?_)
      have hP := hP1
      have hD := hD1.weaken (fun k q _ h => hFc q.1 h)
      refine lv_goto (tgt := 293) hx hb dX18_third_61 (by decide) ?_
      exact (db_X18_third_293 C K)  s80 _ _ _ h hP hD hS (lv_sub hl [] rfl)
set_option maxHeartbeats 40000000 in
set_option maxRecDepth 100000 in
theorem db_X18_third_0 {p : Program} {l : Launch} {e : Env} {s : State} {m : MethodId} {args : Array Value} {below : List Frame} {meth : Method} {c : Code} {Q : State → Prop} {A : Nat → Prop} {dC : Nat → ClassId} {dI : Nat → Nat → Nat} {a : Nat → Nat} {ac : Nat → ClassId} {n : Nat} {r : St} (C : nd_C p l s m args c A (dC, dI) cX18_third 2 RX18 ow_dm_X18_third (dk_X18 ac)) (K : nd_Kv p l e (headSpec ow_dm_X18_third ({ frames := 4, cells := 0, slots := 0, locals := 89 })).room s m args below meth c Q A (dC, dI) cX18_third (St) (dw_X18 a ac) r) : dj_X18_third_0 p l e s m args below meth c Q A dC dI a ac (df_X18_third_0 n) r := by
  obtain ⟨hlt, hx, hb, hml, hown, hts, hN, hA, hK⟩ := id C
  intro s0 H locs ls h hP hD hS hl
  unfold df_X18_third_0 at h
  refine lv_aload_n hx hb dX18_third_0 rfl (lv_at hl 0 rfl) ?_
  refine lv_bipush (v := 12) hx hb dX18_third_1 (by decide) ?_
  refine lv_iconst (v := 1) hx hb dX18_third_3 (by decide) ?_
  obtain ⟨q1, s2, hq, h⟩ := nd_b2_e h
  have hPc := hP
  have hDc := hD
  have hKc := hK
  have hFc := nd_rs hD hS hA
  refine nd_cVi (As := [.int 12, .int 1]) (rest := []) (q := q1) (w' := dw_X18 a ac s2) ⟨hx, hb, hml, hown, hts⟩ (fun sz => dm_X18_part l hlt dC dI a ac n (12) (1) s0 hq sz) (cwV 2 hts gi_dm_X18_third_0 rfl rfl rfl (by decide +kernel) ⟨Nat.le_of_ble_eq_true rfl, Nat.le_of_ble_eq_true rfl⟩) hPc hDc hKc hS hA hN (va_recv hKc hPc (ci := 19) (q0 := 0) rfl rfl) rfl hl.1 rfl (Nat.le_of_ble_eq_true rfl) dX18_third_4 (fun H locs hP1 hD1 hk1 hS => ?_)
  have hP := hP1
  have hD := hD1.weaken (fun k q _ h => hFc q.1 h)
  refine lv_iconst (v := 1) hx hb dX18_third_7 (by decide) ?_
  refine lv_icmp_ne (tgt := 15) hx hb dX18_third_8 (by decide) (fun c4 => ?_) (fun c4 => ?_)
  · have h := nd_neg h c4
    refine lv_iconst (v := 0) hx hb dX18_third_15 (by decide) ?_
    exact (db_X18_third_16 C K) (0) s2 _ _ _ h hP hD hS (lv_sub hl [0] rfl)
  · have h := nd_pos h c4
    refine lv_iconst (v := 1) hx hb dX18_third_11 (by decide) ?_
    refine lv_goto (tgt := 16) hx hb dX18_third_12 (by decide) ?_
    exact (db_X18_third_16 C K) (1) s2 _ _ _ h hP hD hS (lv_sub hl [0] rfl)
set_option maxHeartbeats 40000000 in
set_option maxRecDepth 100000 in
theorem dm_X18_third (l : Launch) (hlt : l.stackTraces = false) (dC : Nat → ClassId) (dI : Nat → Nat → Nat) (a : Nat → Nat) (ac : Nat → ClassId) (n : Nat) (s0 : St) {r : St} (h : df_X18_third n s0 = some r) (sz : Nat) : Met l yX18_third ow_dm_X18_third ({ frames := 4, cells := 0, slots := 0, locals := 89 }) (va_Pc [.ref (a 0)] (fun U => U.heap.size = sz ∧ va_P (dC, dI) vwCl (dw_X18 a ac s0) U.heap ∧ va_K (dC, dI) vwCl (dk_X18 ac) U ∧ va_D (fun _ => True) (dw_X18 a ac s0) ∧ nv_E dI (va_A (dw_X18 a ac s0) sz) U)) (va_Qv (fun _ => True) (fun (_ : Unit) t => va_P (dC, dI) vwCl (dw_X18 a ac r) t.heap ∧ va_K (dC, dI) vwCl (dk_X18 ac) t ∧ va_D (va_A (dw_X18 a ac s0) sz) (dw_X18 a ac r)) (va_A (dw_X18 a ac s0) sz)) 0 0 (va_A (dw_X18 a ac s0) sz) := by
  refine Met.ofW (cc := cX18_third) (maxL := 2) (ret := none) (by decide) rfl ?_
  intro p e s m args below meth c s₁ B hml hv
  obtain ⟨rfl, hsz, hP, hK, hD0, hN⟩ := hv
  have hx := B.exec
  have hb := B.bytes
  have hr := B.returns
  have hts := atoms_spec (ws := ow_dm_X18_third) B.pre
  have hown : s.vm.findClass RX18 = some m.cls := findClass_of_methodNamed B.named
  have hlocks := B.notSynchronized
  subst hsz
  have hD := hD0.self (sz := s.heap.size)
  generalize hAe : va_A (dw_X18 a ac s0) s.heap.size = A at hD hN ⊢
  have hA : ∀ q : Nat, s.heap.size ≤ q → A q := fun q h => by rw [← hAe]; exact Or.inr h
  have hl := lv_entry ([.ref (a 0)]) (n := 2) (Nat.le_of_ble_eq_true rfl)
  rw [lg_entry_eq]
  generalize (lg_sl ([.ref (a 0)]) ++ List.replicate (2 - (lg_sl ([.ref (a 0)])).length) Slot.unset).toArray = ls at hl ⊢
  have hl : lv_has ls 2 [(0, .ref (a 0))] := hl
  exact db_X18_third_0 (dC := dC) (dI := dI) (a := a) (ac := ac) (n := n) (r := r) ⟨hlt, hx, hb, hml, hown, hts, hN, hA, hK⟩ (fun pc τ H locs ls d er hP hD hS => by subst er; exact W.vret hx hb hr (fun t ht hW => ⟨⟨(), rfl, trivial, by rw [ht]; exact hP, va_K.moved hW.alike hK, hD⟩, hS.F ht⟩) hS.2.2 d) s0 _ _ _ h hP hD va_S.rf (lv_sub hl [0] rfl)
def ow_dm_X18_understand : List Cond := Cond.code yX18_understand cX18_understand 2 none :: ([Cond.fieldLink RX18 20 "TimeMachineModel$Reader" "bits" "I", Cond.fieldLink RX18 24 "TimeMachineModel$Reader" "size" "I", Cond.fieldLink RX18 43 "TimeMachineModel$Reader" "line" "Z", Cond.fieldLink RX18 47 "TimeMachineModel$Reader" "operands" "I", Cond.methodLink RX18 172 yX18_part, Cond.instanceMethod yX18_part, Cond.selects RX18 yX18_part yX18_part, Cond.initialized RX18, Cond.fieldLink RX18 68 "TimeMachineModel$Reader" "d" "I", Cond.fieldLink RX18 80 "TimeMachineModel$Reader" "f" "I", Cond.methodLink RX18 333 yX18_third, Cond.instanceMethod yX18_third, Cond.selects RX18 yX18_third yX18_third, Cond.constantLong RX18 338 (439904987182), Cond.methodLink RX18 50 yX18_say, Cond.instanceMethod yX18_say, Cond.selects RX18 yX18_say yX18_say, Cond.methodLink RX18 53 yX18_next, Cond.instanceMethod yX18_next, Cond.selects RX18 yX18_next yX18_next, Cond.constantLong RX18 340 (4294967295), Cond.methodLink RX18 39 yX18_digits, Cond.instanceMethod yX18_digits, Cond.selects RX18 yX18_digits yX18_digits, Cond.constantLong RX18 336 (431416637230), Cond.methodLink RX18 330 yX18_second, Cond.instanceMethod yX18_second, Cond.selects RX18 yX18_second yX18_second, Cond.methodLink RX18 327 yX18_first, Cond.instanceMethod yX18_first, Cond.selects RX18 yX18_first yX18_first, Cond.methodLink RX18 324 yX18_longOne, Cond.instanceMethod yX18_longOne, Cond.selects RX18 yX18_longOne yX18_longOne] ++ (u_ws RX18 TX18 10 ++ (ow_dm_X18_part ++ (ow_dm_X18_third ++ (ow_dm_X18_say ++ (ow_dm_X18_next ++ (ow_dm_X18_digits ++ (ow_dm_X18_second ++ (ow_dm_X18_first ++ (ow_dm_X18_longOne ++ []))))))))))
theorem gd_dm_X18_understand : ∀ w ∈ ow_dm_X18_understand, (w.onTables && w.keeps) = true ∨ ∃ ty, w = Cond.arrayClass ty := List.forall_mem_cons.mpr ⟨good_of_word rfl, List.forall_mem_append.mpr ⟨fun w h => good_of_word (List.all_eq_true.mp (by decide +kernel) w h), List.forall_mem_append.mpr ⟨gu_X18, List.forall_mem_append.mpr ⟨gd_dm_X18_part, List.forall_mem_append.mpr ⟨gd_dm_X18_third, List.forall_mem_append.mpr ⟨gd_dm_X18_say, List.forall_mem_append.mpr ⟨gd_dm_X18_next, List.forall_mem_append.mpr ⟨gd_dm_X18_digits, List.forall_mem_append.mpr ⟨gd_dm_X18_second, List.forall_mem_append.mpr ⟨gd_dm_X18_first, List.forall_mem_append.mpr ⟨gd_dm_X18_longOne, fun _ h => nomatch h⟩⟩⟩⟩⟩⟩⟩⟩⟩⟩⟩
theorem hi_dm_X18_understand_X18 : ∀ w ∈ u_ws RX18 TX18 10, w ∈ ow_dm_X18_understand := fun w h => List.mem_cons_of_mem _ (List.mem_append_right _ (List.mem_append_left _ h))
theorem gi_dm_X18_understand_0 : GoodIn ow_dm_X18_understand (wsV RX18 172 RX18 yX18_part ow_dm_X18_part) := goodIn_app (goodIn_of _ (by decide +kernel)) (fun w h => ⟨List.mem_cons_of_mem _ (List.mem_append_right _ (List.mem_append_right _ (List.mem_append_left _ h))), gd_dm_X18_part w h⟩)
theorem gi_dm_X18_understand_1 : GoodIn ow_dm_X18_understand (wsV RX18 333 RX18 yX18_third ow_dm_X18_third) := goodIn_app (goodIn_of _ (by decide +kernel)) (fun w h => ⟨List.mem_cons_of_mem _ (List.mem_append_right _ (List.mem_append_right _ (List.mem_append_right _ (List.mem_append_left _ h)))), gd_dm_X18_third w h⟩)
theorem gi_dm_X18_understand_2 : GoodIn ow_dm_X18_understand (wsV RX18 50 RX18 yX18_say ow_dm_X18_say) := goodIn_app (goodIn_of _ (by decide +kernel)) (fun w h => ⟨List.mem_cons_of_mem _ (List.mem_append_right _ (List.mem_append_right _ (List.mem_append_right _ (List.mem_append_right _ (List.mem_append_left _ h))))), gd_dm_X18_say w h⟩)
theorem gi_dm_X18_understand_3 : GoodIn ow_dm_X18_understand (wsV RX18 53 RX18 yX18_next ow_dm_X18_next) := goodIn_app (goodIn_of _ (by decide +kernel)) (fun w h => ⟨List.mem_cons_of_mem _ (List.mem_append_right _ (List.mem_append_right _ (List.mem_append_right _ (List.mem_append_right _ (List.mem_append_right _ (List.mem_append_left _ h)))))), gd_dm_X18_next w h⟩)
theorem gi_dm_X18_understand_4 : GoodIn ow_dm_X18_understand (wsV RX18 39 RX18 yX18_digits ow_dm_X18_digits) := goodIn_app (goodIn_of _ (by decide +kernel)) (fun w h => ⟨List.mem_cons_of_mem _ (List.mem_append_right _ (List.mem_append_right _ (List.mem_append_right _ (List.mem_append_right _ (List.mem_append_right _ (List.mem_append_right _ (List.mem_append_left _ h))))))), gd_dm_X18_digits w h⟩)
theorem gi_dm_X18_understand_5 : GoodIn ow_dm_X18_understand (wsV RX18 330 RX18 yX18_second ow_dm_X18_second) := goodIn_app (goodIn_of _ (by decide +kernel)) (fun w h => ⟨List.mem_cons_of_mem _ (List.mem_append_right _ (List.mem_append_right _ (List.mem_append_right _ (List.mem_append_right _ (List.mem_append_right _ (List.mem_append_right _ (List.mem_append_right _ (List.mem_append_left _ h)))))))), gd_dm_X18_second w h⟩)
theorem gi_dm_X18_understand_6 : GoodIn ow_dm_X18_understand (wsV RX18 327 RX18 yX18_first ow_dm_X18_first) := goodIn_app (goodIn_of _ (by decide +kernel)) (fun w h => ⟨List.mem_cons_of_mem _ (List.mem_append_right _ (List.mem_append_right _ (List.mem_append_right _ (List.mem_append_right _ (List.mem_append_right _ (List.mem_append_right _ (List.mem_append_right _ (List.mem_append_right _ (List.mem_append_left _ h))))))))), gd_dm_X18_first w h⟩)
theorem gi_dm_X18_understand_7 : GoodIn ow_dm_X18_understand (wsV RX18 324 RX18 yX18_longOne ow_dm_X18_longOne) := goodIn_app (goodIn_of _ (by decide +kernel)) (fun w h => ⟨List.mem_cons_of_mem _ (List.mem_append_right _ (List.mem_append_right _ (List.mem_append_right _ (List.mem_append_right _ (List.mem_append_right _ (List.mem_append_right _ (List.mem_append_right _ (List.mem_append_right _ (List.mem_append_right _ (List.mem_append_left _ h)))))))))), gd_dm_X18_longOne w h⟩)
def dj_X18_understand_123 (p : Program) (l : Launch) (e : Env) (s : State) (m : MethodId) (args : Array Value) (below : List Frame) (meth : Method) (c : Code) (Q : State → Prop) (A : Nat → Prop) (dC : Nat → ClassId) (dI : Nat → Nat → Nat) (a : Nat → Nat) (ac : Nat → ClassId) (g : Int64 → (St) → Option (St)) (r : St) : Prop := ∀ (y1 : Int64) (s0 : St) (H : Heap) (locs : List Loc) (ls : Array Slot), g y1 s0 = some r → va_P (dC, dI) vwCl (dw_X18 a ac s0) H → va_D A (dw_X18 a ac s0) → va_S A s.heap H locs → lv_has ls 2 [(0, .ref (a 0))] → W p l e (headSpec ow_dm_X18_understand ({ frames := 7, cells := 0, slots := 0, locals := 153 })).room s m args below meth c H locs 0 0 Q (F0 m 123 ls [.long y1, .ref (a 0)])
def dj_X18_understand_101 (p : Program) (l : Launch) (e : Env) (s : State) (m : MethodId) (args : Array Value) (below : List Frame) (meth : Method) (c : Code) (Q : State → Prop) (A : Nat → Prop) (dC : Nat → ClassId) (dI : Nat → Nat → Nat) (a : Nat → Nat) (ac : Nat → ClassId) (g : Int32 → (St) → Option (St)) (r : St) : Prop := ∀ (x1 : Int32) (s0 : St) (H : Heap) (locs : List Loc) (ls : Array Slot), g x1 s0 = some r → va_P (dC, dI) vwCl (dw_X18 a ac s0) H → va_D A (dw_X18 a ac s0) → va_S A s.heap H locs → lv_has ls 2 [(0, .ref (a 0)), (1, .int x1)] → W p l e (headSpec ow_dm_X18_understand ({ frames := 7, cells := 0, slots := 0, locals := 153 })).room s m args below meth c H locs 0 0 Q (F0 m 101 ls [])
def dj_X18_understand_15 (p : Program) (l : Launch) (e : Env) (s : State) (m : MethodId) (args : Array Value) (below : List Frame) (meth : Method) (c : Code) (Q : State → Prop) (A : Nat → Prop) (dC : Nat → ClassId) (dI : Nat → Nat → Nat) (a : Nat → Nat) (ac : Nat → ClassId) (g : Int32 → (St) → Option (St)) (r : St) : Prop := ∀ (y0 : Int32) (s0 : St) (H : Heap) (locs : List Loc) (ls : Array Slot), g y0 s0 = some r → va_P (dC, dI) vwCl (dw_X18 a ac s0) H → va_D A (dw_X18 a ac s0) → va_S A s.heap H locs → lv_has ls 2 [(0, .ref (a 0))] → W p l e (headSpec ow_dm_X18_understand ({ frames := 7, cells := 0, slots := 0, locals := 153 })).room s m args below meth c H locs 0 0 Q (F0 m 15 ls [.int y0])
def dj_X18_understand_0 (p : Program) (l : Launch) (e : Env) (s : State) (m : MethodId) (args : Array Value) (below : List Frame) (meth : Method) (c : Code) (Q : State → Prop) (A : Nat → Prop) (dC : Nat → ClassId) (dI : Nat → Nat → Nat) (a : Nat → Nat) (ac : Nat → ClassId) (g : (St) → Option (St)) (r : St) : Prop := ∀ (s0 : St) (H : Heap) (locs : List Loc) (ls : Array Slot), g s0 = some r → va_P (dC, dI) vwCl (dw_X18 a ac s0) H → va_D A (dw_X18 a ac s0) → va_S A s.heap H locs → lv_has ls 2 [(0, .ref (a 0))] → W p l e (headSpec ow_dm_X18_understand ({ frames := 7, cells := 0, slots := 0, locals := 153 })).room s m args below meth c H locs 0 0 Q (F0 m 0 ls [])
set_option maxHeartbeats 40000000 in
set_option maxRecDepth 100000 in
theorem db_X18_understand_123 {p : Program} {l : Launch} {e : Env} {s : State} {m : MethodId} {args : Array Value} {below : List Frame} {meth : Method} {c : Code} {Q : State → Prop} {A : Nat → Prop} {dC : Nat → ClassId} {dI : Nat → Nat → Nat} {a : Nat → Nat} {ac : Nat → ClassId} {n : Nat} {r : St} (C : nd_C p l s m args c A (dC, dI) cX18_understand 2 RX18 ow_dm_X18_understand (dk_X18 ac)) (K : nd_Kv p l e (headSpec ow_dm_X18_understand ({ frames := 7, cells := 0, slots := 0, locals := 153 })).room s m args below meth c Q A (dC, dI) cX18_understand (St) (dw_X18 a ac) r) : dj_X18_understand_123 p l e s m args below meth c Q A dC dI a ac (df_X18_understand_123 n) r := by
  obtain ⟨hlt, hx, hb, hml, hown, hts, hN, hA, hK⟩ := id C
  intro y1 s0 H locs ls h hP hD hS hl
  unfold df_X18_understand_123 at h
  obtain ⟨s22, hq, h⟩ := nd_b1_e h
  have hPc := hP
  have hDc := hD
  have hKc := hK
  have hFc := nd_rs hD hS hA
  refine nd_cVv (As := [.long y1]) (rest := []) (w' := dw_X18 a ac s22) ⟨hx, hb, hml, hown, hts⟩ (fun sz => dm_X18_say l hlt dC dI a ac n (y1) s0 hq sz) (cwV 1 hts gi_dm_X18_understand_2 rfl rfl rfl (by decide +kernel) ⟨Nat.le_of_ble_eq_true rfl, Nat.le_of_ble_eq_true rfl⟩) hPc hDc hKc hS hA hN (va_recv hKc hPc (ci := 19) (q0 := 0) rfl rfl) rfl hl.1 rfl (Nat.le_of_ble_eq_true rfl) dX18_understand_123 (fun H locs hP1 hD1 hk1 hS => ?_)
  have hP := hP1
  have hD := hD1.weaken (fun k q _ h => hFc q.1 h)
  refine lv_aload_n hx hb dX18_understand_126 rfl (lv_at hl 0 rfl) ?_
  obtain ⟨s25, hq, h⟩ := nd_b1_e h
  have hPc := hP
  have hDc := hD
  have hKc := hK
  have hFc := nd_rs hD hS hA
  refine nd_cVv (As := []) (rest := []) (w' := dw_X18 a ac s25) ⟨hx, hb, hml, hown, hts⟩ (fun sz => dm_X18_next l hlt dC dI a ac n  s22 hq sz) (cwV 0 hts gi_dm_X18_understand_3 rfl rfl rfl (by decide +kernel) ⟨Nat.le_of_ble_eq_true rfl, Nat.le_of_ble_eq_true rfl⟩) hPc hDc hKc hS hA hN (va_recv hKc hPc (ci := 19) (q0 := 0) rfl rfl) rfl hl.1 rfl (Nat.le_of_ble_eq_true rfl) dX18_understand_127 (fun H locs hP1 hD1 hk1 hS => ?_)
  have hP := hP1
  have hD := hD1.weaken (fun k q _ h => hFc q.1 h)
  refine lv_aload_n hx hb dX18_understand_130 rfl (lv_at hl 0 rfl) ?_
  refine lv_aload_n hx hb dX18_understand_131 rfl (lv_at hl 0 rfl) ?_
  refine va_get (D := (dC, dI)) (ci := 19) (v := .int (sI s25 3)) (C := RX18) (T := TX18) (N := 10) hx hb hts hi_dm_X18_understand_X18 hown hK hP 0 rfl rfl 4 (by decide) (hts (.fieldLink RX18 20 "TimeMachineModel$Reader" "bits" "I") (List.mem_of_getElem? (i := 1) rfl)) (fun _ h9 => h9) rfl dX18_understand_132 ?_
  refine lv_i2l hx hb dX18_understand_135 rfl ?_
  refine lv_ldc2 hx hb hown (hts (.constantLong RX18 340 (4294967295)) (List.mem_of_getElem? (i := 21) rfl)) dX18_understand_136 ?_
  refine lv_land hx hb dX18_understand_139 ?_
  obtain ⟨s28, hq, h⟩ := nd_b1_e h
  have hPc := hP
  have hDc := hD
  have hKc := hK
  have hFc := nd_rs hD hS hA
  refine nd_cVv (As := [.long (((((sI s25 3) : Int32).toInt64) : Int64) &&& 4294967295)]) (rest := []) (w' := dw_X18 a ac s28) ⟨hx, hb, hml, hown, hts⟩ (fun sz => dm_X18_digits l hlt dC dI a ac n ((((((sI s25 3) : Int32).toInt64) : Int64) &&& 4294967295)) s25 hq sz) (cwV 1 hts gi_dm_X18_understand_4 rfl rfl rfl (by decide +kernel) ⟨Nat.le_of_ble_eq_true rfl, Nat.le_of_ble_eq_true rfl⟩) hPc hDc hKc hS hA hN (va_recv hKc hPc (ci := 19) (q0 := 0) rfl rfl) rfl hl.1 rfl (Nat.le_of_ble_eq_true rfl) dX18_understand_140 (fun H locs hP1 hD1 hk1 hS => ?_)
  have hP := hP1
  have hD := hD1.weaken (fun k q _ h => hFc q.1 h)
  exact K _ _ _ _ _ dX18_understand_143 (Option.some.inj h).symm hP hD hS
set_option maxHeartbeats 40000000 in
set_option maxRecDepth 100000 in
theorem db_X18_understand_101 {p : Program} {l : Launch} {e : Env} {s : State} {m : MethodId} {args : Array Value} {below : List Frame} {meth : Method} {c : Code} {Q : State → Prop} {A : Nat → Prop} {dC : Nat → ClassId} {dI : Nat → Nat → Nat} {a : Nat → Nat} {ac : Nat → ClassId} {n : Nat} {r : St} (C : nd_C p l s m args c A (dC, dI) cX18_understand 2 RX18 ow_dm_X18_understand (dk_X18 ac)) (K : nd_Kv p l e (headSpec ow_dm_X18_understand ({ frames := 7, cells := 0, slots := 0, locals := 153 })).room s m args below meth c Q A (dC, dI) cX18_understand (St) (dw_X18 a ac) r) : dj_X18_understand_101 p l e s m args below meth c Q A dC dI a ac (df_X18_understand_101 n) r := by
  obtain ⟨hlt, hx, hb, hml, hown, hts, hN, hA, hK⟩ := id C
  intro x1 s0 H locs ls h hP hD hS hl
  unfold df_X18_understand_101 at h
  refine lv_aload_n hx hb dX18_understand_101 rfl (lv_at hl 0 rfl) ?_
  refine va_get (D := (dC, dI)) (ci := 19) (v := .int (sI s0 2)) (C := RX18) (T := TX18) (N := 10) hx hb hts hi_dm_X18_understand_X18 hown hK hP 0 rfl rfl 3 (by decide) (hts (.fieldLink RX18 43 "TimeMachineModel$Reader" "line" "Z") (List.mem_of_getElem? (i := 3) rfl)) (fun _ h9 => h9) rfl dX18_understand_102 ?_
  refine lv_if_eq (tgt := 109) hx hb dX18_understand_105 (by decide) (fun c19 => ?_) (fun c19 => ?_)
  · have h := nd_pos h c19
    refine lv_aload_n hx hb dX18_understand_109 rfl (lv_at hl 0 rfl) ?_
    refine lv_iload_n hx hb dX18_understand_110 rfl (lv_at hl 1 rfl) ?_
    refine lv_if_eq (tgt := 120) hx hb dX18_understand_111 (by decide) (fun c20 => ?_) (fun c20 => ?_)
    · have h := nd_pos h c20
      refine lv_ldc2 hx hb hown (hts (.constantLong RX18 338 (439904987182)) (List.mem_of_getElem? (i := 14) rfl)) dX18_understand_120 ?_
      exact (db_X18_understand_123 C K) (439904987182) s0 _ _ _ h hP hD hS (lv_sub hl [0] rfl)
    · have h := nd_neg h c20
      refine lv_ldc2 hx hb hown (hts (.constantLong RX18 336 (431416637230)) (List.mem_of_getElem? (i := 25) rfl)) dX18_understand_114 ?_
      refine lv_goto (tgt := 123) hx hb dX18_understand_117 (by decide) ?_
      exact (db_X18_understand_123 C K) (431416637230) s0 _ _ _ h hP hD hS (lv_sub hl [0] rfl)
  · have h := nd_neg h c19
    exact K _ _ _ _ _ dX18_understand_108 (Option.some.inj h).symm hP hD hS
set_option maxHeartbeats 40000000 in
set_option maxRecDepth 100000 in
theorem db_X18_understand_15 {p : Program} {l : Launch} {e : Env} {s : State} {m : MethodId} {args : Array Value} {below : List Frame} {meth : Method} {c : Code} {Q : State → Prop} {A : Nat → Prop} {dC : Nat → ClassId} {dI : Nat → Nat → Nat} {a : Nat → Nat} {ac : Nat → ClassId} {n : Nat} {r : St} (C : nd_C p l s m args c A (dC, dI) cX18_understand 2 RX18 ow_dm_X18_understand (dk_X18 ac)) (K : nd_Kv p l e (headSpec ow_dm_X18_understand ({ frames := 7, cells := 0, slots := 0, locals := 153 })).room s m args below meth c Q A (dC, dI) cX18_understand (St) (dw_X18 a ac) r) : dj_X18_understand_15 p l e s m args below meth c Q A dC dI a ac (df_X18_understand_15 n) r := by
  obtain ⟨hlt, hx, hb, hml, hown, hts, hN, hA, hK⟩ := id C
  intro y0 s0 H locs ls h hP hD hS hl
  unfold df_X18_understand_15 at h
  refine lv_istore_n (lv' := [(1, .int y0), (0, .ref (a 0))]) hx hb dX18_understand_15 rfl hl (by decide) rfl (fun ls hl => ?_)
  refine lv_aload_n hx hb dX18_understand_16 rfl (lv_at hl 1 rfl) ?_
  refine lv_iconst (v := 0) hx hb dX18_understand_17 (by decide) ?_
  refine va_put (D := (dC, dI)) (ci := 19) (v := .int 0) (ty := .int) (C := RX18) (T := TX18) (N := 10) hx hb hts hi_dm_X18_understand_X18 tyX18 tyX18_ok nmX18 hown hK hP hD hS 0 rfl rfl 1 (by decide) (hts (.fieldLink RX18 24 "TimeMachineModel$Reader" "size" "I") (List.mem_of_getElem? (i := 2) rfl)) (fun _ h9 => h9) rfl (by decide +kernel) rfl rfl (Nat.le_of_ble_eq_true rfl) dX18_understand_18 (fun H locs hP hD hS => ?_)
  obtain ⟨s2, es2, h⟩ := nd_let_e h
  have hP : va_P (dC, dI) vwCl (dw_X18 a ac s2) H := by rw [es2]; exact hP
  have hD : va_D A (dw_X18 a ac s2) := by rw [es2]; exact hD
  refine lv_aload_n hx hb dX18_understand_21 rfl (lv_at hl 1 rfl) ?_
  refine lv_iconst (v := 0) hx hb dX18_understand_22 (by decide) ?_
  refine va_put (D := (dC, dI)) (ci := 19) (v := .int 0) (ty := .boolean) (C := RX18) (T := TX18) (N := 10) hx hb hts hi_dm_X18_understand_X18 tyX18 tyX18_ok nmX18 hown hK hP hD hS 0 rfl rfl 3 (by decide) (hts (.fieldLink RX18 43 "TimeMachineModel$Reader" "line" "Z") (List.mem_of_getElem? (i := 3) rfl)) (fun _ h9 => h9) rfl (by decide +kernel) (by first | rfl | decide) rfl (Nat.le_of_ble_eq_true rfl) dX18_understand_23 (fun H locs hP hD hS => ?_)
  obtain ⟨s3, es3, h⟩ := nd_let_e h
  have hP : va_P (dC, dI) vwCl (dw_X18 a ac s3) H := by rw [es3]; exact hP
  have hD : va_D A (dw_X18 a ac s3) := by rw [es3]; exact hD
  refine lv_aload_n hx hb dX18_understand_26 rfl (lv_at hl 1 rfl) ?_
  refine lv_iconst (v := 0) hx hb dX18_understand_27 (by decide) ?_
  refine va_put (D := (dC, dI)) (ci := 19) (v := .int 0) (ty := .int) (C := RX18) (T := TX18) (N := 10) hx hb hts hi_dm_X18_understand_X18 tyX18 tyX18_ok nmX18 hown hK hP hD hS 0 rfl rfl 2 (by decide) (hts (.fieldLink RX18 47 "TimeMachineModel$Reader" "operands" "I") (List.mem_of_getElem? (i := 4) rfl)) (fun _ h9 => h9) rfl (by decide +kernel) rfl rfl (Nat.le_of_ble_eq_true rfl) dX18_understand_28 (fun H locs hP hD hS => ?_)
  obtain ⟨s4, es4, h⟩ := nd_let_e h
  have hP : va_P (dC, dI) vwCl (dw_X18 a ac s4) H := by rw [es4]; exact hP
  have hD : va_D A (dw_X18 a ac s4) := by rw [es4]; exact hD
  refine lv_aload_n hx hb dX18_understand_31 rfl (lv_at hl 1 rfl) ?_
  refine lv_aload_n hx hb dX18_understand_32 rfl (lv_at hl 1 rfl) ?_
  refine lv_bipush (v := 7) hx hb dX18_understand_33 (by decide) ?_
  refine lv_iconst (v := 5) hx hb dX18_understand_35 (by decide) ?_
  obtain ⟨q5, s6, hq, h⟩ := nd_b2_e h
  have hPc := hP
  have hDc := hD
  have hKc := hK
  have hFc := nd_rs hD hS hA
  refine nd_cVi (As := [.int 7, .int 5]) (rest := [.ref (a 0)]) (q := q5) (w' := dw_X18 a ac s6) ⟨hx, hb, hml, hown, hts⟩ (fun sz => dm_X18_part l hlt dC dI a ac n (7) (5) s4 hq sz) (cwV 2 hts gi_dm_X18_understand_0 rfl rfl rfl (by decide +kernel) ⟨Nat.le_of_ble_eq_true rfl, Nat.le_of_ble_eq_true rfl⟩) hPc hDc hKc hS hA hN (va_recv hKc hPc (ci := 19) (q0 := 0) rfl rfl) rfl hl.1 rfl (Nat.le_of_ble_eq_true rfl) dX18_understand_36 (fun H locs hP1 hD1 hk1 hS => ?_)
  have hP := hP1
  have hD := hD1.weaken (fun k q _ h => hFc q.1 h)
  refine va_put (D := (dC, dI)) (ci := 19) (v := .int q5) (ty := .int) (C := RX18) (T := TX18) (N := 10) hx hb hts hi_dm_X18_understand_X18 tyX18 tyX18_ok nmX18 hown hK hP hD hS 0 rfl rfl 5 (by decide) (hts (.fieldLink RX18 68 "TimeMachineModel$Reader" "d" "I") (List.mem_of_getElem? (i := 9) rfl)) (fun _ h9 => h9) rfl (by decide +kernel) rfl rfl (Nat.le_of_ble_eq_true rfl) dX18_understand_39 (fun H locs hP hD hS => ?_)
  obtain ⟨s8, es8, h⟩ := nd_let_e h
  have hP : va_P (dC, dI) vwCl (dw_X18 a ac s8) H := by rw [es8]; exact hP
  have hD : va_D A (dw_X18 a ac s8) := by rw [es8]; exact hD
  refine lv_aload_n hx hb dX18_understand_42 rfl (lv_at hl 1 rfl) ?_
  refine lv_aload_n hx hb dX18_understand_43 rfl (lv_at hl 1 rfl) ?_
  refine lv_bipush (v := 13) hx hb dX18_understand_44 (by decide) ?_
  refine lv_iconst (v := 3) hx hb dX18_understand_46 (by decide) ?_
  obtain ⟨q9, s10, hq, h⟩ := nd_b2_e h
  have hPc := hP
  have hDc := hD
  have hKc := hK
  have hFc := nd_rs hD hS hA
  refine nd_cVi (As := [.int 13, .int 3]) (rest := [.ref (a 0)]) (q := q9) (w' := dw_X18 a ac s10) ⟨hx, hb, hml, hown, hts⟩ (fun sz => dm_X18_part l hlt dC dI a ac n (13) (3) s8 hq sz) (cwV 2 hts gi_dm_X18_understand_0 rfl rfl rfl (by decide +kernel) ⟨Nat.le_of_ble_eq_true rfl, Nat.le_of_ble_eq_true rfl⟩) hPc hDc hKc hS hA hN (va_recv hKc hPc (ci := 19) (q0 := 0) rfl rfl) rfl hl.1 rfl (Nat.le_of_ble_eq_true rfl) dX18_understand_47 (fun H locs hP1 hD1 hk1 hS => ?_)
  have hP := hP1
  have hD := hD1.weaken (fun k q _ h => hFc q.1 h)
  refine va_put (D := (dC, dI)) (ci := 19) (v := .int q9) (ty := .int) (C := RX18) (T := TX18) (N := 10) hx hb hts hi_dm_X18_understand_X18 tyX18 tyX18_ok nmX18 hown hK hP hD hS 0 rfl rfl 8 (by decide) (hts (.fieldLink RX18 80 "TimeMachineModel$Reader" "f" "I") (List.mem_of_getElem? (i := 10) rfl)) (fun _ h9 => h9) rfl (by decide +kernel) rfl rfl (Nat.le_of_ble_eq_true rfl) dX18_understand_50 (fun H locs hP hD hS => ?_)
  obtain ⟨s12, es12, h⟩ := nd_let_e h
  have hP : va_P (dC, dI) vwCl (dw_X18 a ac s12) H := by rw [es12]; exact hP
  have hD : va_D A (dw_X18 a ac s12) := by rw [es12]; exact hD
  refine lv_iload_n hx hb dX18_understand_53 rfl (lv_at hl 0 rfl) ?_
  refine lv_if_eq (tgt := 64) hx hb dX18_understand_54 (by decide) (fun c13 => ?_) (fun c13 => ?_)
  · have h := nd_pos h c13
    refine lv_aload_n hx hb dX18_understand_64 rfl (lv_at hl 1 rfl) ?_
    refine va_get (D := (dC, dI)) (ci := 19) (v := .int (sI s12 3)) (C := RX18) (T := TX18) (N := 10) hx hb hts hi_dm_X18_understand_X18 hown hK hP 0 rfl rfl 4 (by decide) (hts (.fieldLink RX18 20 "TimeMachineModel$Reader" "bits" "I") (List.mem_of_getElem? (i := 1) rfl)) (fun _ h9 => h9) rfl dX18_understand_65 ?_
    refine lv_iconst (v := 3) hx hb dX18_understand_68 (by decide) ?_
    refine lv_iand hx hb dX18_understand_69 ?_
    refine lv_if_ne (tgt := 80) hx hb dX18_understand_70 (by decide) (fun c14 => ?_) (fun c14 => ?_)
    · have h := nd_neg h c14
      refine lv_aload_n hx hb dX18_understand_80 rfl (lv_at hl 1 rfl) ?_
      refine va_get (D := (dC, dI)) (ci := 19) (v := .int (sI s12 3)) (C := RX18) (T := TX18) (N := 10) hx hb hts hi_dm_X18_understand_X18 hown hK hP 0 rfl rfl 4 (by decide) (hts (.fieldLink RX18 20 "TimeMachineModel$Reader" "bits" "I") (List.mem_of_getElem? (i := 1) rfl)) (fun _ h9 => h9) rfl dX18_understand_81 ?_
      refine lv_iconst (v := 3) hx hb dX18_understand_84 (by decide) ?_
      refine lv_iand hx hb dX18_understand_85 ?_
      refine lv_iconst (v := 1) hx hb dX18_understand_86 (by decide) ?_
      refine lv_icmp_ne (tgt := 97) hx hb dX18_understand_87 (by decide) (fun c15 => ?_) (fun c15 => ?_)
      · have h := nd_neg h c15
        refine lv_aload_n hx hb dX18_understand_97 rfl (lv_at hl 1 rfl) ?_
        obtain ⟨s17, hq, h⟩ := nd_b1_e h
        have hPc := hP
        have hDc := hD
        have hKc := hK
        have hFc := nd_rs hD hS hA
        refine nd_cVv (As := []) (rest := []) (w' := dw_X18 a ac s17) ⟨hx, hb, hml, hown, hts⟩ (fun sz => dm_X18_third l hlt dC dI a ac n  s12 hq sz) (cwV 0 hts gi_dm_X18_understand_1 rfl rfl rfl (by decide +kernel) ⟨Nat.le_of_ble_eq_true rfl, Nat.le_of_ble_eq_true rfl⟩) hPc hDc hKc hS hA hN (va_recv hKc hPc (ci := 19) (q0 := 0) rfl rfl) rfl hl.1 rfl (Nat.le_of_ble_eq_true rfl) dX18_understand_98 (fun H locs hP1 hD1 hk1 hS => ?_)
        have hP := hP1
        have hD := hD1.weaken (fun k q _ h => hFc q.1 h)
        exact (db_X18_understand_101 C K) (y0) s17 _ _ _ h hP hD hS (lv_sub hl [1, 0] rfl)
      · have h := nd_pos h c15
        refine lv_aload_n hx hb dX18_understand_90 rfl (lv_at hl 1 rfl) ?_
        obtain ⟨s31, hq, h⟩ := nd_b1_e h
        have hPc := hP
        have hDc := hD
        have hKc := hK
        have hFc := nd_rs hD hS hA
        refine nd_cVv (As := []) (rest := []) (w' := dw_X18 a ac s31) ⟨hx, hb, hml, hown, hts⟩ (fun sz => dm_X18_second l hlt dC dI a ac n  s12 hq sz) (cwV 0 hts gi_dm_X18_understand_5 rfl rfl rfl (by decide +kernel) ⟨Nat.le_of_ble_eq_true rfl, Nat.le_of_ble_eq_true rfl⟩) hPc hDc hKc hS hA hN (va_recv hKc hPc (ci := 19) (q0 := 0) rfl rfl) rfl hl.1 rfl (Nat.le_of_ble_eq_true rfl) dX18_understand_91 (fun H locs hP1 hD1 hk1 hS => ?_)
        have hP := hP1
        have hD := hD1.weaken (fun k q _ h => hFc q.1 h)
        refine lv_goto (tgt := 101) hx hb dX18_understand_94 (by decide) ?_
        exact (db_X18_understand_101 C K) (y0) s31 _ _ _ h hP hD hS (lv_sub hl [1, 0] rfl)
    · have h := nd_pos h c14
      refine lv_aload_n hx hb dX18_understand_73 rfl (lv_at hl 1 rfl) ?_
      obtain ⟨s34, hq, h⟩ := nd_b1_e h
      have hPc := hP
      have hDc := hD
      have hKc := hK
      have hFc := nd_rs hD hS hA
      refine nd_cVv (As := []) (rest := []) (w' := dw_X18 a ac s34) ⟨hx, hb, hml, hown, hts⟩ (fun sz => dm_X18_first l hlt dC dI a ac n  s12 hq sz) (cwV 0 hts gi_dm_X18_understand_6 rfl rfl rfl (by decide +kernel) ⟨Nat.le_of_ble_eq_true rfl, Nat.le_of_ble_eq_true rfl⟩) hPc hDc hKc hS hA hN (va_recv hKc hPc (ci := 19) (q0 := 0) rfl rfl) rfl hl.1 rfl (Nat.le_of_ble_eq_true rfl) dX18_understand_74 (fun H locs hP1 hD1 hk1 hS => ?_)
      have hP := hP1
      have hD := hD1.weaken (fun k q _ h => hFc q.1 h)
      refine lv_goto (tgt := 101) hx hb dX18_understand_77 (by decide) ?_
      exact (db_X18_understand_101 C K) (y0) s34 _ _ _ h hP hD hS (lv_sub hl [1, 0] rfl)
  · have h := nd_neg h c13
    refine lv_aload_n hx hb dX18_understand_57 rfl (lv_at hl 1 rfl) ?_
    obtain ⟨s37, hq, h⟩ := nd_b1_e h
    have hPc := hP
    have hDc := hD
    have hKc := hK
    have hFc := nd_rs hD hS hA
    refine nd_cVv (As := []) (rest := []) (w' := dw_X18 a ac s37) ⟨hx, hb, hml, hown, hts⟩ (fun sz => dm_X18_longOne l hlt dC dI a ac n  s12 hq sz) (cwV 0 hts gi_dm_X18_understand_7 rfl rfl rfl (by decide +kernel) ⟨Nat.le_of_ble_eq_true rfl, Nat.le_of_ble_eq_true rfl⟩) hPc hDc hKc hS hA hN (va_recv hKc hPc (ci := 19) (q0 := 0) rfl rfl) rfl hl.1 rfl (Nat.le_of_ble_eq_true rfl) dX18_understand_58 (fun H locs hP1 hD1 hk1 hS => ?_)
    have hP := hP1
    have hD := hD1.weaken (fun k q _ h => hFc q.1 h)
    refine lv_goto (tgt := 101) hx hb dX18_understand_61 (by decide) ?_
    exact (db_X18_understand_101 C K) (y0) s37 _ _ _ h hP hD hS (lv_sub hl [1, 0] rfl)
set_option maxHeartbeats 40000000 in
set_option maxRecDepth 100000 in
theorem db_X18_understand_0 {p : Program} {l : Launch} {e : Env} {s : State} {m : MethodId} {args : Array Value} {below : List Frame} {meth : Method} {c : Code} {Q : State → Prop} {A : Nat → Prop} {dC : Nat → ClassId} {dI : Nat → Nat → Nat} {a : Nat → Nat} {ac : Nat → ClassId} {n : Nat} {r : St} (C : nd_C p l s m args c A (dC, dI) cX18_understand 2 RX18 ow_dm_X18_understand (dk_X18 ac)) (K : nd_Kv p l e (headSpec ow_dm_X18_understand ({ frames := 7, cells := 0, slots := 0, locals := 153 })).room s m args below meth c Q A (dC, dI) cX18_understand (St) (dw_X18 a ac) r) : dj_X18_understand_0 p l e s m args below meth c Q A dC dI a ac (df_X18_understand_0 n) r := by
  obtain ⟨hlt, hx, hb, hml, hown, hts, hN, hA, hK⟩ := id C
  intro s0 H locs ls h hP hD hS hl
  unfold df_X18_understand_0 at h
  refine lv_aload_n hx hb dX18_understand_0 rfl (lv_at hl 0 rfl) ?_
  refine va_get (D := (dC, dI)) (ci := 19) (v := .int (sI s0 3)) (C := RX18) (T := TX18) (N := 10) hx hb hts hi_dm_X18_understand_X18 hown hK hP 0 rfl rfl 4 (by decide) (hts (.fieldLink RX18 20 "TimeMachineModel$Reader" "bits" "I") (List.mem_of_getElem? (i := 1) rfl)) (fun _ h9 => h9) rfl dX18_understand_1 ?_
  refine lv_iconst (v := 3) hx hb dX18_understand_4 (by decide) ?_
  refine lv_iand hx hb dX18_understand_5 ?_
  refine lv_iconst (v := 3) hx hb dX18_understand_6 (by decide) ?_
  refine lv_icmp_ne (tgt := 14) hx hb dX18_understand_7 (by decide) (fun c1 => ?_) (fun c1 => ?_)
  · have h := nd_neg h c1
    refine lv_iconst (v := 0) hx hb dX18_understand_14 (by decide) ?_
    exact (db_X18_understand_15 C K) (0) s0 _ _ _ h hP hD hS (lv_sub hl [0] rfl)
  · have h := nd_pos h c1
    refine lv_iconst (v := 1) hx hb dX18_understand_10 (by decide) ?_
    refine lv_goto (tgt := 15) hx hb dX18_understand_11 (by decide) ?_
    exact (db_X18_understand_15 C K) (1) s0 _ _ _ h hP hD hS (lv_sub hl [0] rfl)
set_option maxHeartbeats 40000000 in
set_option maxRecDepth 100000 in
theorem dm_X18_understand (l : Launch) (hlt : l.stackTraces = false) (dC : Nat → ClassId) (dI : Nat → Nat → Nat) (a : Nat → Nat) (ac : Nat → ClassId) (n : Nat) (s0 : St) {r : St} (h : df_X18_understand n s0 = some r) (sz : Nat) : Met l yX18_understand ow_dm_X18_understand ({ frames := 7, cells := 0, slots := 0, locals := 153 }) (va_Pc [.ref (a 0)] (fun U => U.heap.size = sz ∧ va_P (dC, dI) vwCl (dw_X18 a ac s0) U.heap ∧ va_K (dC, dI) vwCl (dk_X18 ac) U ∧ va_D (fun _ => True) (dw_X18 a ac s0) ∧ nv_E dI (va_A (dw_X18 a ac s0) sz) U)) (va_Qv (fun _ => True) (fun (_ : Unit) t => va_P (dC, dI) vwCl (dw_X18 a ac r) t.heap ∧ va_K (dC, dI) vwCl (dk_X18 ac) t ∧ va_D (va_A (dw_X18 a ac s0) sz) (dw_X18 a ac r)) (va_A (dw_X18 a ac s0) sz)) 0 0 (va_A (dw_X18 a ac s0) sz) := by
  refine Met.ofW (cc := cX18_understand) (maxL := 2) (ret := none) (by decide) rfl ?_
  intro p e s m args below meth c s₁ B hml hv
  obtain ⟨rfl, hsz, hP, hK, hD0, hN⟩ := hv
  have hx := B.exec
  have hb := B.bytes
  have hr := B.returns
  have hts := atoms_spec (ws := ow_dm_X18_understand) B.pre
  have hown : s.vm.findClass RX18 = some m.cls := findClass_of_methodNamed B.named
  have hlocks := B.notSynchronized
  subst hsz
  have hD := hD0.self (sz := s.heap.size)
  generalize hAe : va_A (dw_X18 a ac s0) s.heap.size = A at hD hN ⊢
  have hA : ∀ q : Nat, s.heap.size ≤ q → A q := fun q h => by rw [← hAe]; exact Or.inr h
  have hl := lv_entry ([.ref (a 0)]) (n := 2) (Nat.le_of_ble_eq_true rfl)
  rw [lg_entry_eq]
  generalize (lg_sl ([.ref (a 0)]) ++ List.replicate (2 - (lg_sl ([.ref (a 0)])).length) Slot.unset).toArray = ls at hl ⊢
  have hl : lv_has ls 2 [(0, .ref (a 0))] := hl
  exact db_X18_understand_0 (dC := dC) (dI := dI) (a := a) (ac := ac) (n := n) (r := r) ⟨hlt, hx, hb, hml, hown, hts, hN, hA, hK⟩ (fun pc τ H locs ls d er hP hD hS => by subst er; exact W.vret hx hb hr (fun t ht hW => ⟨⟨(), rfl, trivial, by rw [ht]; exact hP, va_K.moved hW.alike hK, hD⟩, hS.F ht⟩) hS.2.2 d) s0 _ _ _ h hP hD va_S.rf (lv_sub hl [0] rfl)
def ow_dm_X18_read : List Cond := Cond.code yX18_read cX18_read 2 (some .int) :: ([Cond.constant RX18 342 (65535), Cond.fieldLink RX18 20 "TimeMachineModel$Reader" "bits" "I", Cond.methodLink RX18 343 yX18_understand, Cond.instanceMethod yX18_understand, Cond.selects RX18 yX18_understand yX18_understand, Cond.initialized RX18, Cond.fieldLink RX18 24 "TimeMachineModel$Reader" "size" "I"] ++ (u_ws RX18 TX18 10 ++ (ow_dm_X18_understand ++ [])))
theorem gd_dm_X18_read : ∀ w ∈ ow_dm_X18_read, (w.onTables && w.keeps) = true ∨ ∃ ty, w = Cond.arrayClass ty := List.forall_mem_cons.mpr ⟨good_of_word rfl, List.forall_mem_append.mpr ⟨fun w h => good_of_word (List.all_eq_true.mp (by decide +kernel) w h), List.forall_mem_append.mpr ⟨gu_X18, List.forall_mem_append.mpr ⟨gd_dm_X18_understand, fun _ h => nomatch h⟩⟩⟩⟩
theorem hi_dm_X18_read_X18 : ∀ w ∈ u_ws RX18 TX18 10, w ∈ ow_dm_X18_read := fun w h => List.mem_cons_of_mem _ (List.mem_append_right _ (List.mem_append_left _ h))
theorem gi_dm_X18_read_0 : GoodIn ow_dm_X18_read (wsV RX18 343 RX18 yX18_understand ow_dm_X18_understand) := goodIn_app (goodIn_of _ (by decide +kernel)) (fun w h => ⟨List.mem_cons_of_mem _ (List.mem_append_right _ (List.mem_append_right _ (List.mem_append_left _ h))), gd_dm_X18_understand w h⟩)
def dj_X18_read_17 (p : Program) (l : Launch) (e : Env) (s : State) (m : MethodId) (args : Array Value) (below : List Frame) (meth : Method) (c : Code) (Q : State → Prop) (A : Nat → Prop) (dC : Nat → ClassId) (dI : Nat → Nat → Nat) (a : Nat → Nat) (ac : Nat → ClassId) (g : Int32 → (St) → Option (Int32 × (St))) (r : Int32 × (St)) : Prop := ∀ (y1 : Int32) (s0 : St) (H : Heap) (locs : List Loc) (ls : Array Slot), g y1 s0 = some r → va_P (dC, dI) vwCl (dw_X18 a ac s0) H → va_D A (dw_X18 a ac s0) → va_S A s.heap H locs → lv_has ls 2 [(0, .ref (a 0))] → W p l e (headSpec ow_dm_X18_read ({ frames := 8, cells := 0, slots := 0, locals := 174 })).room s m args below meth c H locs 0 0 Q (F0 m 17 ls [.int y1, .ref (a 0)])
def dj_X18_read_0 (p : Program) (l : Launch) (e : Env) (s : State) (m : MethodId) (args : Array Value) (below : List Frame) (meth : Method) (c : Code) (Q : State → Prop) (A : Nat → Prop) (dC : Nat → ClassId) (dI : Nat → Nat → Nat) (a : Nat → Nat) (ac : Nat → ClassId) (g : Int32 → (St) → Option (Int32 × (St))) (r : Int32 × (St)) : Prop := ∀ (v0 : Int32) (s0 : St) (H : Heap) (locs : List Loc) (ls : Array Slot), g v0 s0 = some r → va_P (dC, dI) vwCl (dw_X18 a ac s0) H → va_D A (dw_X18 a ac s0) → va_S A s.heap H locs → lv_has ls 2 [(0, .ref (a 0)), (1, .int v0)] → W p l e (headSpec ow_dm_X18_read ({ frames := 8, cells := 0, slots := 0, locals := 174 })).room s m args below meth c H locs 0 0 Q (F0 m 0 ls [])
set_option maxHeartbeats 40000000 in
set_option maxRecDepth 100000 in
theorem db_X18_read_17 {p : Program} {l : Launch} {e : Env} {s : State} {m : MethodId} {args : Array Value} {below : List Frame} {meth : Method} {c : Code} {Q : State → Prop} {A : Nat → Prop} {dC : Nat → ClassId} {dI : Nat → Nat → Nat} {a : Nat → Nat} {ac : Nat → ClassId} {n : Nat} {r : Int32 × (St)} (C : nd_C p l s m args c A (dC, dI) cX18_read 2 RX18 ow_dm_X18_read (dk_X18 ac)) (K : nd_Ki p l e (headSpec ow_dm_X18_read ({ frames := 8, cells := 0, slots := 0, locals := 174 })).room s m args below meth c Q A (dC, dI) cX18_read .int (St) (dw_X18 a ac) r) : dj_X18_read_17 p l e s m args below meth c Q A dC dI a ac (df_X18_read_17 n) r := by
  obtain ⟨hlt, hx, hb, hml, hown, hts, hN, hA, hK⟩ := id C
  intro y1 s0 H locs ls h hP hD hS hl
  unfold df_X18_read_17 at h
  refine va_put (D := (dC, dI)) (ci := 19) (v := .int y1) (ty := .int) (C := RX18) (T := TX18) (N := 10) hx hb hts hi_dm_X18_read_X18 tyX18 tyX18_ok nmX18 hown hK hP hD hS 0 rfl rfl 4 (by decide) (hts (.fieldLink RX18 20 "TimeMachineModel$Reader" "bits" "I") (List.mem_of_getElem? (i := 2) rfl)) (fun _ h9 => h9) rfl (by decide +kernel) rfl rfl (Nat.le_of_ble_eq_true rfl) dX18_read_17 (fun H locs hP hD hS => ?_)
  obtain ⟨s2, es2, h⟩ := nd_let_e h
  have hP : va_P (dC, dI) vwCl (dw_X18 a ac s2) H := by rw [es2]; exact hP
  have hD : va_D A (dw_X18 a ac s2) := by rw [es2]; exact hD
  refine lv_aload_n hx hb dX18_read_20 rfl (lv_at hl 0 rfl) ?_
  obtain ⟨s4, hq, h⟩ := nd_b1_e h
  have hPc := hP
  have hDc := hD
  have hKc := hK
  have hFc := nd_rs hD hS hA
  refine nd_cVv (As := []) (rest := []) (w' := dw_X18 a ac s4) ⟨hx, hb, hml, hown, hts⟩ (fun sz => dm_X18_understand l hlt dC dI a ac n  s2 hq sz) (cwV 0 hts gi_dm_X18_read_0 rfl rfl rfl (by decide +kernel) ⟨Nat.le_of_ble_eq_true rfl, Nat.le_of_ble_eq_true rfl⟩) hPc hDc hKc hS hA hN (va_recv hKc hPc (ci := 19) (q0 := 0) rfl rfl) rfl hl.1 rfl (Nat.le_of_ble_eq_true rfl) dX18_read_21 (fun H locs hP1 hD1 hk1 hS => ?_)
  have hP := hP1
  have hD := hD1.weaken (fun k q _ h => hFc q.1 h)
  refine lv_aload_n hx hb dX18_read_24 rfl (lv_at hl 0 rfl) ?_
  refine va_get (D := (dC, dI)) (ci := 19) (v := .int (sI s4 0)) (C := RX18) (T := TX18) (N := 10) hx hb hts hi_dm_X18_read_X18 hown hK hP 0 rfl rfl 1 (by decide) (hts (.fieldLink RX18 24 "TimeMachineModel$Reader" "size" "I") (List.mem_of_getElem? (i := 7) rfl)) (fun _ h9 => h9) rfl dX18_read_25 ?_
  exact K _ _ _ _ _ _ dX18_read_28 rfl (Option.some.inj h).symm hP hD hS
set_option maxHeartbeats 40000000 in
set_option maxRecDepth 100000 in
theorem db_X18_read_0 {p : Program} {l : Launch} {e : Env} {s : State} {m : MethodId} {args : Array Value} {below : List Frame} {meth : Method} {c : Code} {Q : State → Prop} {A : Nat → Prop} {dC : Nat → ClassId} {dI : Nat → Nat → Nat} {a : Nat → Nat} {ac : Nat → ClassId} {n : Nat} {r : Int32 × (St)} (C : nd_C p l s m args c A (dC, dI) cX18_read 2 RX18 ow_dm_X18_read (dk_X18 ac)) (K : nd_Ki p l e (headSpec ow_dm_X18_read ({ frames := 8, cells := 0, slots := 0, locals := 174 })).room s m args below meth c Q A (dC, dI) cX18_read .int (St) (dw_X18 a ac) r) : dj_X18_read_0 p l e s m args below meth c Q A dC dI a ac (df_X18_read_0 n) r := by
  obtain ⟨hlt, hx, hb, hml, hown, hts, hN, hA, hK⟩ := id C
  intro v0 s0 H locs ls h hP hD hS hl
  unfold df_X18_read_0 at h
  refine lv_aload_n hx hb dX18_read_0 rfl (lv_at hl 0 rfl) ?_
  refine lv_iload_n hx hb dX18_read_1 rfl (lv_at hl 1 rfl) ?_
  refine lv_iconst (v := 3) hx hb dX18_read_2 (by decide) ?_
  refine lv_iand hx hb dX18_read_3 ?_
  refine lv_iconst (v := 3) hx hb dX18_read_4 (by decide) ?_
  refine lv_icmp_ne (tgt := 12) hx hb dX18_read_5 (by decide) (fun c1 => ?_) (fun c1 => ?_)
  · have h := nd_neg h c1
    refine lv_iload_n hx hb dX18_read_12 rfl (lv_at hl 1 rfl) ?_
    refine lv_ldcw hx hb hown (hts (.constant RX18 342 (65535)) (List.mem_of_getElem? (i := 1) rfl)) dX18_read_13 ?_
    refine lv_iand hx hb dX18_read_16 ?_
    exact (db_X18_read_17 C K) ((v0 &&& 65535)) s0 _ _ _ h hP hD hS (lv_sub hl [0] rfl)
  · have h := nd_pos h c1
    refine lv_iload_n hx hb dX18_read_8 rfl (lv_at hl 1 rfl) ?_
    refine lv_goto (tgt := 17) hx hb dX18_read_9 (by decide) ?_
    exact (db_X18_read_17 C K) (v0) s0 _ _ _ h hP hD hS (lv_sub hl [0] rfl)
set_option maxHeartbeats 40000000 in
set_option maxRecDepth 100000 in
theorem dm_X18_read (l : Launch) (hlt : l.stackTraces = false) (dC : Nat → ClassId) (dI : Nat → Nat → Nat) (a : Nat → Nat) (ac : Nat → ClassId) (n : Nat) (v0 : Int32) (s0 : St) {r : Int32 × (St)} (h : df_X18_read n v0 s0 = some r) (sz : Nat) : Met l yX18_read ow_dm_X18_read ({ frames := 8, cells := 0, slots := 0, locals := 174 }) (va_Pc [.ref (a 0), .int v0] (fun U => U.heap.size = sz ∧ va_P (dC, dI) vwCl (dw_X18 a ac s0) U.heap ∧ va_K (dC, dI) vwCl (dk_X18 ac) U ∧ va_D (fun _ => True) (dw_X18 a ac s0) ∧ nv_E dI (va_A (dw_X18 a ac s0) sz) U)) (va_Qi (fun x _ => x = r.1) (fun (_ : Unit) t => va_P (dC, dI) vwCl (dw_X18 a ac r.2) t.heap ∧ va_K (dC, dI) vwCl (dk_X18 ac) t ∧ va_D (va_A (dw_X18 a ac s0) sz) (dw_X18 a ac r.2)) (va_A (dw_X18 a ac s0) sz)) 0 0 (va_A (dw_X18 a ac s0) sz) := by
  refine Met.ofW (cc := cX18_read) (maxL := 2) (ret := (some .int)) (by decide) rfl ?_
  intro p e s m args below meth c s₁ B hml hv
  obtain ⟨rfl, hsz, hP, hK, hD0, hN⟩ := hv
  have hx := B.exec
  have hb := B.bytes
  have hr := B.returns
  have hts := atoms_spec (ws := ow_dm_X18_read) B.pre
  have hown : s.vm.findClass RX18 = some m.cls := findClass_of_methodNamed B.named
  have hlocks := B.notSynchronized
  subst hsz
  have hD := hD0.self (sz := s.heap.size)
  generalize hAe : va_A (dw_X18 a ac s0) s.heap.size = A at hD hN ⊢
  have hA : ∀ q : Nat, s.heap.size ≤ q → A q := fun q h => by rw [← hAe]; exact Or.inr h
  have hl := lv_entry ([.ref (a 0), .int v0]) (n := 2) (Nat.le_of_ble_eq_true rfl)
  rw [lg_entry_eq]
  generalize (lg_sl ([.ref (a 0), .int v0]) ++ List.replicate (2 - (lg_sl ([.ref (a 0), .int v0])).length) Slot.unset).toArray = ls at hl ⊢
  have hl : lv_has ls 2 [(0, .ref (a 0)), (1, .int v0)] := hl
  exact db_X18_read_0 (dC := dC) (dI := dI) (a := a) (ac := ac) (n := n) (r := r) ⟨hlt, hx, hb, hml, hown, hts, hN, hA, hK⟩ (fun pc v τ H locs ls d z er hP hD hS => by subst er; exact W.zret (v := v) hx hb hr z (fun t ht hW => ⟨⟨v, (), rfl, rfl, by rw [ht]; exact hP, va_K.moved hW.alike hK, hD⟩, hS.F ht⟩) hS.2.2 d) v0 s0 _ _ _ h hP hD va_S.rf (lv_sub hl [0, 1] rfl)
def ow_dm_X18_letter : List Cond := Cond.code yX18_letter cX18_letter 2 (some .int) :: ([Cond.fieldLink RX18 7 "TimeMachineModel$Reader" "text" "[C"] ++ (u_ws RX18 TX18 10 ++ []))
theorem gd_dm_X18_letter : ∀ w ∈ ow_dm_X18_letter, (w.onTables && w.keeps) = true ∨ ∃ ty, w = Cond.arrayClass ty := List.forall_mem_cons.mpr ⟨good_of_word rfl, List.forall_mem_append.mpr ⟨fun w h => good_of_word (List.all_eq_true.mp (by decide +kernel) w h), List.forall_mem_append.mpr ⟨gu_X18, fun _ h => nomatch h⟩⟩⟩
theorem hi_dm_X18_letter_X18 : ∀ w ∈ u_ws RX18 TX18 10, w ∈ ow_dm_X18_letter := fun w h => List.mem_cons_of_mem _ (List.mem_append_right _ (List.mem_append_left _ h))
def dj_X18_letter_0 (p : Program) (l : Launch) (e : Env) (s : State) (m : MethodId) (args : Array Value) (below : List Frame) (meth : Method) (c : Code) (Q : State → Prop) (A : Nat → Prop) (dC : Nat → ClassId) (dI : Nat → Nat → Nat) (a : Nat → Nat) (ac : Nat → ClassId) (g : Int32 → (St) → Option (Int32 × (St))) (r : Int32 × (St)) : Prop := ∀ (v0 : Int32) (s0 : St) (H : Heap) (locs : List Loc) (ls : Array Slot), g v0 s0 = some r → va_P (dC, dI) vwCl (dw_X18 a ac s0) H → va_D A (dw_X18 a ac s0) → va_S A s.heap H locs → lv_has ls 2 [(0, .ref (a 0)), (1, .int v0)] → W p l e (headSpec ow_dm_X18_letter ({ frames := 0, cells := 0, slots := 0, locals := 0 })).room s m args below meth c H locs 0 0 Q (F0 m 0 ls [])
set_option maxHeartbeats 40000000 in
set_option maxRecDepth 100000 in
theorem db_X18_letter_0 {p : Program} {l : Launch} {e : Env} {s : State} {m : MethodId} {args : Array Value} {below : List Frame} {meth : Method} {c : Code} {Q : State → Prop} {A : Nat → Prop} {dC : Nat → ClassId} {dI : Nat → Nat → Nat} {a : Nat → Nat} {ac : Nat → ClassId} {n : Nat} {r : Int32 × (St)} (C : nd_C p l s m args c A (dC, dI) cX18_letter 2 RX18 ow_dm_X18_letter (dk_X18 ac)) (K : nd_Ki p l e (headSpec ow_dm_X18_letter ({ frames := 0, cells := 0, slots := 0, locals := 0 })).room s m args below meth c Q A (dC, dI) cX18_letter .int (St) (dw_X18 a ac) r) : dj_X18_letter_0 p l e s m args below meth c Q A dC dI a ac (df_X18_letter_0 n) r := by
  obtain ⟨hlt, hx, hb, hml, hown, hts, hN, hA, hK⟩ := id C
  intro v0 s0 H locs ls h hP hD hS hl
  unfold df_X18_letter_0 at h
  refine lv_aload_n hx hb dX18_letter_0 rfl (lv_at hl 0 rfl) ?_
  refine va_get (D := (dC, dI)) (ci := 19) (v := .ref (a 1)) (C := RX18) (T := TX18) (N := 10) hx hb hts hi_dm_X18_letter_X18 hown hK hP 0 rfl rfl 0 (by decide) (hts (.fieldLink RX18 7 "TimeMachineModel$Reader" "text" "[C") (List.mem_of_getElem? (i := 1) rfl)) (fun _ h9 => h9) rfl dX18_letter_1 ?_
  refine lv_iload_n hx hb dX18_letter_4 rfl (lv_at hl 1 rfl) ?_
  obtain ⟨i1, h⟩ := nd_ck_e h
  refine va_cald (i := v0) hx hb hK hP 1 0 rfl rfl i1 dX18_letter_5 ?_
  exact K _ _ _ _ _ _ dX18_letter_6 rfl (Option.some.inj h).symm hP hD hS
set_option maxHeartbeats 40000000 in
set_option maxRecDepth 100000 in
theorem dm_X18_letter (l : Launch) (hlt : l.stackTraces = false) (dC : Nat → ClassId) (dI : Nat → Nat → Nat) (a : Nat → Nat) (ac : Nat → ClassId) (n : Nat) (v0 : Int32) (s0 : St) {r : Int32 × (St)} (h : df_X18_letter n v0 s0 = some r) (sz : Nat) : Met l yX18_letter ow_dm_X18_letter ({ frames := 0, cells := 0, slots := 0, locals := 0 }) (va_Pc [.ref (a 0), .int v0] (fun U => U.heap.size = sz ∧ va_P (dC, dI) vwCl (dw_X18 a ac s0) U.heap ∧ va_K (dC, dI) vwCl (dk_X18 ac) U ∧ va_D (fun _ => True) (dw_X18 a ac s0) ∧ nv_E dI (va_A (dw_X18 a ac s0) sz) U)) (va_Qi (fun x _ => x = r.1) (fun (_ : Unit) t => va_P (dC, dI) vwCl (dw_X18 a ac r.2) t.heap ∧ va_K (dC, dI) vwCl (dk_X18 ac) t ∧ va_D (va_A (dw_X18 a ac s0) sz) (dw_X18 a ac r.2)) (va_A (dw_X18 a ac s0) sz)) 0 0 (va_A (dw_X18 a ac s0) sz) := by
  refine Met.ofW (cc := cX18_letter) (maxL := 2) (ret := (some .int)) (by decide) rfl ?_
  intro p e s m args below meth c s₁ B hml hv
  obtain ⟨rfl, hsz, hP, hK, hD0, hN⟩ := hv
  have hx := B.exec
  have hb := B.bytes
  have hr := B.returns
  have hts := atoms_spec (ws := ow_dm_X18_letter) B.pre
  have hown : s.vm.findClass RX18 = some m.cls := findClass_of_methodNamed B.named
  have hlocks := B.notSynchronized
  subst hsz
  have hD := hD0.self (sz := s.heap.size)
  generalize hAe : va_A (dw_X18 a ac s0) s.heap.size = A at hD hN ⊢
  have hA : ∀ q : Nat, s.heap.size ≤ q → A q := fun q h => by rw [← hAe]; exact Or.inr h
  have hl := lv_entry ([.ref (a 0), .int v0]) (n := 2) (Nat.le_of_ble_eq_true rfl)
  rw [lg_entry_eq]
  generalize (lg_sl ([.ref (a 0), .int v0]) ++ List.replicate (2 - (lg_sl ([.ref (a 0), .int v0])).length) Slot.unset).toArray = ls at hl ⊢
  have hl : lv_has ls 2 [(0, .ref (a 0)), (1, .int v0)] := hl
  exact db_X18_letter_0 (dC := dC) (dI := dI) (a := a) (ac := ac) (n := n) (r := r) ⟨hlt, hx, hb, hml, hown, hts, hN, hA, hK⟩ (fun pc v τ H locs ls d z er hP hD hS => by subst er; exact W.zret (v := v) hx hb hr z (fun t ht hW => ⟨⟨v, (), rfl, rfl, by rw [ht]; exact hP, va_K.moved hW.alike hK, hD⟩, hS.F ht⟩) hS.2.2 d) v0 s0 _ _ _ h hP hD va_S.rf (lv_sub hl [0, 1] rfl)

