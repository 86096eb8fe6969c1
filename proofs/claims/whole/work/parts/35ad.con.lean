def ow_dm_X1_readList : List Cond := Cond.code yX1_readList cX1_readList 5 none :: ([Cond.fieldLink RX1 12 "TimeMachine$Assembler" "reader" "LTimeMachine$Reader;", Cond.fieldLink RX1 201 "TimeMachine$Reader" "codes" "I", Cond.fieldLink RX1 120 "TimeMachine$Reader" "source" "[B", Cond.methodLink RX1 176 yX1_add, Cond.instanceMethod yX1_add, Cond.selects RX1 yX1_add yX1_add, Cond.initialized RX1, Cond.fieldLink RX1 32 "TimeMachine$Assembler" "fault" "I", Cond.methodLink RX1 170 yX9_sum, Cond.instanceMethod yX9_sum, Cond.selects RX9 yX9_sum yX9_sum, Cond.initialized RX9, Cond.methodLink RX1 100 yX9_isSign, Cond.instanceMethod yX9_isSign, Cond.selects RX9 yX9_isSign yX9_isSign, Cond.methodLink RX1 97 yX9_next, Cond.instanceMethod yX9_next, Cond.selects RX9 yX9_next yX9_next, Cond.methodLink RX1 77 yX1_blame, Cond.instanceMethod yX1_blame, Cond.selects RX1 yX1_blame yX1_blame] ++ (u_ws RX1 TX1 13 ++ (u_ws RX9 TX9 20 ++ (ow_dm_X1_add ++ (ow_dm_X9_sum ++ (ow_dm_X9_isSign ++ (ow_dm_X9_next ++ (ow_dm_X1_blame ++ []))))))))
theorem gd_dm_X1_readList : ∀ w ∈ ow_dm_X1_readList, (w.onTables && w.keeps) = true ∨ ∃ ty, w = Cond.arrayClass ty := List.forall_mem_cons.mpr ⟨good_of_word rfl, List.forall_mem_append.mpr ⟨fun w h => good_of_word (List.all_eq_true.mp (by decide +kernel) w h), List.forall_mem_append.mpr ⟨gu_X1, List.forall_mem_append.mpr ⟨gu_X9, List.forall_mem_append.mpr ⟨gd_dm_X1_add, List.forall_mem_append.mpr ⟨gd_dm_X9_sum, List.forall_mem_append.mpr ⟨gd_dm_X9_isSign, List.forall_mem_append.mpr ⟨gd_dm_X9_next, List.forall_mem_append.mpr ⟨gd_dm_X1_blame, fun _ h => nomatch h⟩⟩⟩⟩⟩⟩⟩⟩⟩
theorem hi_dm_X1_readList_X1 : ∀ w ∈ u_ws RX1 TX1 13, w ∈ ow_dm_X1_readList := fun w h => List.mem_cons_of_mem _ (List.mem_append_right _ (List.mem_append_left _ h))
theorem hi_dm_X1_readList_X9 : ∀ w ∈ u_ws RX9 TX9 20, w ∈ ow_dm_X1_readList := fun w h => List.mem_cons_of_mem _ (List.mem_append_right _ (List.mem_append_right _ (List.mem_append_left _ h)))
theorem gi_dm_X1_readList_0 : GoodIn ow_dm_X1_readList (wsV RX1 176 RX1 yX1_add ow_dm_X1_add) := goodIn_app (goodIn_of _ (by decide +kernel)) (fun w h => ⟨List.mem_cons_of_mem _ (List.mem_append_right _ (List.mem_append_right _ (List.mem_append_right _ (List.mem_append_left _ h)))), gd_dm_X1_add w h⟩)
theorem gi_dm_X1_readList_1 : GoodIn ow_dm_X1_readList (wsV RX1 170 RX9 yX9_sum ow_dm_X9_sum) := goodIn_app (goodIn_of _ (by decide +kernel)) (fun w h => ⟨List.mem_cons_of_mem _ (List.mem_append_right _ (List.mem_append_right _ (List.mem_append_right _ (List.mem_append_right _ (List.mem_append_left _ h))))), gd_dm_X9_sum w h⟩)
theorem gi_dm_X1_readList_2 : GoodIn ow_dm_X1_readList (wsV RX1 100 RX9 yX9_isSign ow_dm_X9_isSign) := goodIn_app (goodIn_of _ (by decide +kernel)) (fun w h => ⟨List.mem_cons_of_mem _ (List.mem_append_right _ (List.mem_append_right _ (List.mem_append_right _ (List.mem_append_right _ (List.mem_append_right _ (List.mem_append_left _ h)))))), gd_dm_X9_isSign w h⟩)
theorem gi_dm_X1_readList_3 : GoodIn ow_dm_X1_readList (wsV RX1 97 RX9 yX9_next ow_dm_X9_next) := goodIn_app (goodIn_of _ (by decide +kernel)) (fun w h => ⟨List.mem_cons_of_mem _ (List.mem_append_right _ (List.mem_append_right _ (List.mem_append_right _ (List.mem_append_right _ (List.mem_append_right _ (List.mem_append_right _ (List.mem_append_left _ h))))))), gd_dm_X9_next w h⟩)
theorem gi_dm_X1_readList_4 : GoodIn ow_dm_X1_readList (wsV RX1 77 RX1 yX1_blame ow_dm_X1_blame) := goodIn_app (goodIn_of _ (by decide +kernel)) (fun w h => ⟨List.mem_cons_of_mem _ (List.mem_append_right _ (List.mem_append_right _ (List.mem_append_right _ (List.mem_append_right _ (List.mem_append_right _ (List.mem_append_right _ (List.mem_append_right _ (List.mem_append_left _ h)))))))), gd_dm_X1_blame w h⟩)
def dj_X1_readList_78 (p : Program) (l : Launch) (e : Env) (s : State) (m : MethodId) (args : Array Value) (below : List Frame) (meth : Method) (c : Code) (Q : State → Prop) (A : Nat → Prop) (dC : Nat → ClassId) (dI : Nat → Nat → Nat) (a : Nat → Nat) (ac : Nat → ClassId) (g : Int32 → Int32 → Int32 → (St × (St)) → Option (St × (St))) (r : St × (St)) : Prop := ∀ (x1 : Int32) (x2 : Int32) (x3 : Int32) (s0 : St × (St)) (H : Heap) (locs : List Loc) (ls : Array Slot), g x1 x2 x3 s0 = some r → va_P (dC, dI) vwCl (dw_X1 a ac s0) H → va_D A (dw_X1 a ac s0) → va_S A s.heap H locs → lv_has ls 5 [(0, .ref (a 0)), (1, .int x1), (2, .int x2), (3, .int x3)] → W p l e (headSpec ow_dm_X1_readList ({ frames := 7, cells := 0, slots := 0, locals := 155 })).room s m args below meth c H locs 0 0 Q (F0 m 78 ls [])
def dj_X1_readList_47 (p : Program) (l : Launch) (e : Env) (s : State) (m : MethodId) (args : Array Value) (below : List Frame) (meth : Method) (c : Code) (Q : State → Prop) (A : Nat → Prop) (dC : Nat → ClassId) (dI : Nat → Nat → Nat) (a : Nat → Nat) (ac : Nat → ClassId) (g : Int32 → Int32 → Int32 → Int32 → (St × (St)) → Option (St × (St))) (r : St × (St)) : Prop := ∀ (x1 : Int32) (x2 : Int32) (x3 : Int32) (x4 : Int32) (s0 : St × (St)) (H : Heap) (locs : List Loc) (ls : Array Slot), g x1 x2 x3 x4 s0 = some r → va_P (dC, dI) vwCl (dw_X1 a ac s0) H → va_D A (dw_X1 a ac s0) → va_S A s.heap H locs → lv_has ls 5 [(0, .ref (a 0)), (1, .int x1), (2, .int x2), (3, .int x3), (4, .int x4)] → W p l e (headSpec ow_dm_X1_readList ({ frames := 7, cells := 0, slots := 0, locals := 155 })).room s m args below meth c H locs 0 0 Q (F0 m 47 ls [])
def dj_X1_readList_20 (p : Program) (l : Launch) (e : Env) (s : State) (m : MethodId) (args : Array Value) (below : List Frame) (meth : Method) (c : Code) (Q : State → Prop) (A : Nat → Prop) (dC : Nat → ClassId) (dI : Nat → Nat → Nat) (a : Nat → Nat) (ac : Nat → ClassId) (g : Int32 → Int32 → Int32 → Int32 → (St × (St)) → Option (St × (St))) (r : St × (St)) : Prop := ∀ (x1 : Int32) (x2 : Int32) (x3 : Int32) (x4 : Int32) (s0 : St × (St)) (H : Heap) (locs : List Loc) (ls : Array Slot), g x1 x2 x3 x4 s0 = some r → va_P (dC, dI) vwCl (dw_X1 a ac s0) H → va_D A (dw_X1 a ac s0) → va_S A s.heap H locs → lv_has ls 5 [(0, .ref (a 0)), (1, .int x1), (2, .int x2), (3, .int x3), (4, .int x4)] → W p l e (headSpec ow_dm_X1_readList ({ frames := 7, cells := 0, slots := 0, locals := 155 })).room s m args below meth c H locs 0 0 Q (F0 m 20 ls [])
def dj_X1_readList_0 (p : Program) (l : Launch) (e : Env) (s : State) (m : MethodId) (args : Array Value) (below : List Frame) (meth : Method) (c : Code) (Q : State → Prop) (A : Nat → Prop) (dC : Nat → ClassId) (dI : Nat → Nat → Nat) (a : Nat → Nat) (ac : Nat → ClassId) (g : Int32 → (St × (St)) → Option (St × (St))) (r : St × (St)) : Prop := ∀ (v0 : Int32) (s0 : St × (St)) (H : Heap) (locs : List Loc) (ls : Array Slot), g v0 s0 = some r → va_P (dC, dI) vwCl (dw_X1 a ac s0) H → va_D A (dw_X1 a ac s0) → va_S A s.heap H locs → lv_has ls 5 [(0, .ref (a 0)), (1, .int v0)] → W p l e (headSpec ow_dm_X1_readList ({ frames := 7, cells := 0, slots := 0, locals := 155 })).room s m args below meth c H locs 0 0 Q (F0 m 0 ls [])
set_option maxHeartbeats 40000000 in
set_option maxRecDepth 100000 in
theorem db_X1_readList_78 {p : Program} {l : Launch} {e : Env} {s : State} {m : MethodId} {args : Array Value} {below : List Frame} {meth : Method} {c : Code} {Q : State → Prop} {A : Nat → Prop} {dC : Nat → ClassId} {dI : Nat → Nat → Nat} {a : Nat → Nat} {ac : Nat → ClassId} {n : Nat} {r : St × (St)} (C : nd_C p l s m args c A (dC, dI) cX1_readList 5 RX1 ow_dm_X1_readList (dk_X1 ac)) (K : nd_Kv p l e (headSpec ow_dm_X1_readList ({ frames := 7, cells := 0, slots := 0, locals := 155 })).room s m args below meth c Q A (dC, dI) cX1_readList (St × (St)) (dw_X1 a ac) r) : dj_X1_readList_78 p l e s m args below meth c Q A dC dI a ac (df_X1_readList_78 n) r := by
  obtain ⟨hlt, hx, hb, hml, hown, hts, hN, hA, hK⟩ := id C
  intro x1 x2 x3 s0 H locs ls h hP hD hS hl
  unfold df_X1_readList_78 at h
  refine lv_aload_n hx hb dX1_readList_78 rfl (lv_at hl 0 rfl) ?_
  refine lv_iconst (v := 5) hx hb dX1_readList_79 (by decide) ?_
  refine lv_iload_n hx hb dX1_readList_80 rfl (lv_at hl 3 rfl) ?_
  refine lv_iload_n hx hb dX1_readList_81 rfl (lv_at hl 1 rfl) ?_
  refine lv_imul hx hb dX1_readList_82 ?_
  refine lv_iload_n hx hb dX1_readList_83 rfl (lv_at hl 1 rfl) ?_
  refine lv_iload_n hx hb dX1_readList_84 rfl (lv_at hl 2 rfl) ?_
  obtain ⟨s5, hq, h⟩ := nd_b1_e h
  have hPc := hP
  have hDc := hD
  have hKc := hK
  have hFc := nd_rs hD hS hA
  refine nd_cVv (As := [.int 5, .int (x3 * x1), .int x1, .int x2]) (rest := []) (w' := dw_X1 a ac s5) ⟨hx, hb, hml, hown, hts⟩ (fun sz => dm_X1_add l hlt dC dI a ac n (5) ((x3 * x1)) (x1) (x2) s0 hq sz) (cwV 4 hts gi_dm_X1_readList_0 rfl rfl rfl (by decide +kernel) ⟨Nat.le_of_ble_eq_true rfl, Nat.le_of_ble_eq_true rfl⟩) hPc hDc hKc hS hA hN (va_recv hKc hPc (ci := 2) (q0 := 0) rfl rfl) rfl hl.1 rfl (Nat.le_of_ble_eq_true rfl) dX1_readList_85 (fun H locs hP1 hD1 hk1 hS => ?_)
  have hP := hP1
  have hD := hD1.weaken (fun k q _ h => hFc q.1 h)
  exact K _ _ _ _ _ dX1_readList_88 (Option.some.inj h).symm hP hD hS
set_option maxHeartbeats 40000000 in
set_option maxRecDepth 100000 in
theorem db_X1_readList_47 {p : Program} {l : Launch} {e : Env} {s : State} {m : MethodId} {args : Array Value} {below : List Frame} {meth : Method} {c : Code} {Q : State → Prop} {A : Nat → Prop} {dC : Nat → ClassId} {dI : Nat → Nat → Nat} {a : Nat → Nat} {ac : Nat → ClassId} {n : Nat} {r : St × (St)} (C : nd_C p l s m args c A (dC, dI) cX1_readList 5 RX1 ow_dm_X1_readList (dk_X1 ac)) (K : nd_Kv p l e (headSpec ow_dm_X1_readList ({ frames := 7, cells := 0, slots := 0, locals := 155 })).room s m args below meth c Q A (dC, dI) cX1_readList (St × (St)) (dw_X1 a ac) r) {g20 : Int32 → Int32 → Int32 → Int32 → (St × (St)) → Option (St × (St))} (J20 : dj_X1_readList_20 p l e s m args below meth c Q A dC dI a ac g20 r) : dj_X1_readList_47 p l e s m args below meth c Q A dC dI a ac (df_X1_readList_47 n g20) r := by
  obtain ⟨hlt, hx, hb, hml, hown, hts, hN, hA, hK⟩ := id C
  intro x1 x2 x3 x4 s0 H locs ls h hP hD hS hl
  unfold df_X1_readList_47 at h
  obtain ⟨z13, ez13, h⟩ := nd_let_e h
  refine lv_iinc (v := z13) (lv' := [(3, .int z13), (0, .ref (a 0)), (1, .int x1), (2, .int x2), (4, .int x4)]) hx hb dX1_readList_47 hl (k := 3) rfl (by rw [ez13]) (by decide) rfl (fun ls hl => ?_)
  refine lv_aload_n hx hb dX1_readList_50 rfl (lv_at hl 1 rfl) ?_
  refine va_get (D := (dC, dI)) (ci := 2) (v := .ref (a 3)) (C := RX1) (T := TX1) (N := 13) hx hb hts hi_dm_X1_readList_X1 hown hK hP 0 rfl rfl 0 (by decide) (hts (.fieldLink RX1 12 "TimeMachine$Assembler" "reader" "LTimeMachine$Reader;") (List.mem_of_getElem? (i := 1) rfl)) (fun _ h9 => h9) rfl dX1_readList_51 ?_
  refine lv_bipush (v := 44) hx hb dX1_readList_54 (by decide) ?_
  obtain ⟨q14, s15, hq, h⟩ := nd_b2_e h
  have hPc := dp_X1_3 hP
  have hDc := dd_X1_3 hD
  have hKc := dy_X1_3 hK
  have hFc := nd_rs hDc hS hA
  have hzA : ∀ q : Nat, H.size ≤ q → A q := fun q h => hA q (Nat.le_trans hS.1 h)
  refine nd_cVi (As := [.int 44]) (rest := []) (q := q14) (w' := dw_X9 (fun k => a (k + 3)) (fun k => ac (k + 3)) s15) ⟨hx, hb, hml, hown, hts⟩ (fun sz => dm_X9_isSign l hlt dC dI (fun k => a (k + 3)) (fun k => ac (k + 3)) n (44) s0.2 hq sz) (cwV 1 hts gi_dm_X1_readList_2 rfl rfl rfl (by decide +kernel) ⟨Nat.le_of_ble_eq_true rfl, Nat.le_of_ble_eq_true rfl⟩) hPc hDc hKc hS hA hN (va_recv hKc hPc (ci := 10) (q0 := 0) rfl rfl) rfl hl.1 rfl (Nat.le_of_ble_eq_true rfl) dX1_readList_56 (fun H locs hP1 hD1 hk1 hS => ?_)
  obtain ⟨hP, hD⟩ := dn_X1_3 hP hD hzA hk1 hP1 hD1
  obtain ⟨s17, es17, h⟩ := nd_let_e h
  have hP : va_P (dC, dI) vwCl (dw_X1 a ac s17) H := by rw [es17]; exact hP
  have hD : va_D A (dw_X1 a ac s17) := by rw [es17]; exact hD
  refine lv_if_ne (tgt := 65) hx hb dX1_readList_59 (by decide) (fun c18 => ?_) (fun c18 => ?_)
  · have h := nd_neg h c18
    refine lv_aload_n hx hb dX1_readList_65 rfl (lv_at hl 1 rfl) ?_
    refine va_get (D := (dC, dI)) (ci := 2) (v := .ref (a 3)) (C := RX1) (T := TX1) (N := 13) hx hb hts hi_dm_X1_readList_X1 hown hK hP 0 rfl rfl 0 (by decide) (hts (.fieldLink RX1 12 "TimeMachine$Assembler" "reader" "LTimeMachine$Reader;") (List.mem_of_getElem? (i := 1) rfl)) (fun _ h9 => h9) rfl dX1_readList_66 ?_
    obtain ⟨s20, hq, h⟩ := nd_b1_e h
    have hPc := dp_X1_3 hP
    have hDc := dd_X1_3 hD
    have hKc := dy_X1_3 hK
    have hFc := nd_rs hDc hS hA
    have hzA : ∀ q : Nat, H.size ≤ q → A q := fun q h => hA q (Nat.le_trans hS.1 h)
    refine nd_cVv (As := []) (rest := []) (w' := dw_X9 (fun k => a (k + 3)) (fun k => ac (k + 3)) s20) ⟨hx, hb, hml, hown, hts⟩ (fun sz => dm_X9_next l hlt dC dI (fun k => a (k + 3)) (fun k => ac (k + 3)) n  s17.2 hq sz) (cwV 0 hts gi_dm_X1_readList_3 rfl rfl rfl (by decide +kernel) ⟨Nat.le_of_ble_eq_true rfl, Nat.le_of_ble_eq_true rfl⟩) hPc hDc hKc hS hA hN (va_recv hKc hPc (ci := 10) (q0 := 0) rfl rfl) rfl hl.1 rfl (Nat.le_of_ble_eq_true rfl) dX1_readList_69 (fun H locs hP1 hD1 hk1 hS => ?_)
    obtain ⟨hP, hD⟩ := dn_X1_3 hP hD hzA hk1 hP1 hD1
    obtain ⟨s22, es22, h⟩ := nd_let_e h
    have hP : va_P (dC, dI) vwCl (dw_X1 a ac s22) H := by rw [es22]; exact hP
    have hD : va_D A (dw_X1 a ac s22) := by rw [es22]; exact hD
    obtain ⟨z23, ez23, h⟩ := nd_let_e h
    refine lv_iinc (v := z23) (lv' := [(4, .int z23), (3, .int z13), (0, .ref (a 0)), (1, .int x1), (2, .int x2)]) hx hb dX1_readList_72 hl (k := 4) rfl (by rw [ez23]) (by decide) rfl (fun ls hl => ?_)
    refine lv_goto (tgt := 20) hx hb dX1_readList_75 (by decide) ?_
    exact (J20) (x1) (x2) (z13) (z23) s22 _ _ _ h hP hD hS (lv_sub hl [2, 3, 4, 1, 0] rfl)
  · have h := nd_pos h c18
    refine lv_goto (tgt := 78) hx hb dX1_readList_62 (by decide) ?_
    exact (db_X1_readList_78 C K) (x1) (x2) (z13) s17 _ _ _ h hP hD hS (lv_sub hl [1, 2, 3, 0] rfl)
set_option maxHeartbeats 40000000 in
set_option maxRecDepth 100000 in
theorem dB_X1_readList_20 {p : Program} {l : Launch} {e : Env} {s : State} {m : MethodId} {args : Array Value} {below : List Frame} {meth : Method} {c : Code} {Q : State → Prop} {A : Nat → Prop} {dC : Nat → ClassId} {dI : Nat → Nat → Nat} {a : Nat → Nat} {ac : Nat → ClassId} {n : Nat} {r : St × (St)} (C : nd_C p l s m args c A (dC, dI) cX1_readList 5 RX1 ow_dm_X1_readList (dk_X1 ac)) (K : nd_Kv p l e (headSpec ow_dm_X1_readList ({ frames := 7, cells := 0, slots := 0, locals := 155 })).room s m args below meth c Q A (dC, dI) cX1_readList (St × (St)) (dw_X1 a ac) r) {g20 : Int32 → Int32 → Int32 → Int32 → (St × (St)) → Option (St × (St))} (J20 : dj_X1_readList_20 p l e s m args below meth c Q A dC dI a ac g20 r) : dj_X1_readList_20 p l e s m args below meth c Q A dC dI a ac (dF_X1_readList_20 n g20) r := by
  obtain ⟨hlt, hx, hb, hml, hown, hts, hN, hA, hK⟩ := id C
  intro x1 x2 x3 x4 s0 H locs ls h hP hD hS hl
  unfold dF_X1_readList_20 at h
  refine lv_iload hx hb dX1_readList_20 (lv_at hl 4 rfl) ?_
  refine lv_if_lt (tgt := 78) hx hb dX1_readList_22 (by decide) (fun c3 => ?_) (fun c3 => ?_)
  · have h := nd_pos h c3
    exact (db_X1_readList_78 C K) (x1) (x2) (x3) s0 _ _ _ h hP hD hS (lv_sub hl [0, 1, 2, 3] rfl)
  · have h := nd_neg h c3
    refine lv_aload_n hx hb dX1_readList_25 rfl (lv_at hl 0 rfl) ?_
    refine va_get (D := (dC, dI)) (ci := 2) (v := .int (sI s0.1 2)) (C := RX1) (T := TX1) (N := 13) hx hb hts hi_dm_X1_readList_X1 hown hK hP 0 rfl rfl 5 (by decide) (hts (.fieldLink RX1 32 "TimeMachine$Assembler" "fault" "I") (List.mem_of_getElem? (i := 8) rfl)) (fun _ h9 => h9) rfl dX1_readList_26 ?_
    refine lv_if_ne (tgt := 78) hx hb dX1_readList_29 (by decide) (fun c7 => ?_) (fun c7 => ?_)
    · have h := nd_neg h c7
      exact (db_X1_readList_78 C K) (x1) (x2) (x3) s0 _ _ _ h hP hD hS (lv_sub hl [0, 1, 2, 3] rfl)
    · have h := nd_pos h c7
      refine lv_aload_n hx hb dX1_readList_32 rfl (lv_at hl 0 rfl) ?_
      refine va_get (D := (dC, dI)) (ci := 2) (v := .ref (a 3)) (C := RX1) (T := TX1) (N := 13) hx hb hts hi_dm_X1_readList_X1 hown hK hP 0 rfl rfl 0 (by decide) (hts (.fieldLink RX1 12 "TimeMachine$Assembler" "reader" "LTimeMachine$Reader;") (List.mem_of_getElem? (i := 1) rfl)) (fun _ h9 => h9) rfl dX1_readList_33 ?_
      obtain ⟨q8, s9, hq, h⟩ := nd_b2_e h
      have hPc := dp_X1_3 hP
      have hDc := dd_X1_3 hD
      have hKc := dy_X1_3 hK
      have hFc := nd_rs hDc hS hA
      have hzA : ∀ q : Nat, H.size ≤ q → A q := fun q h => hA q (Nat.le_trans hS.1 h)
      refine nd_cVi (As := []) (rest := []) (q := q8) (w' := dw_X9 (fun k => a (k + 3)) (fun k => ac (k + 3)) s9) ⟨hx, hb, hml, hown, hts⟩ (fun sz => dm_X9_sum l hlt dC dI (fun k => a (k + 3)) (fun k => ac (k + 3)) n  s0.2 hq sz) (cwV 0 hts gi_dm_X1_readList_1 rfl rfl rfl (by decide +kernel) ⟨Nat.le_of_ble_eq_true rfl, Nat.le_of_ble_eq_true rfl⟩) hPc hDc hKc hS hA hN (va_recv hKc hPc (ci := 10) (q0 := 0) rfl rfl) rfl hl.1 rfl (Nat.le_of_ble_eq_true rfl) dX1_readList_36 (fun H locs hP1 hD1 hk1 hS => ?_)
      obtain ⟨hP, hD⟩ := dn_X1_3 hP hD hzA hk1 hP1 hD1
      obtain ⟨s11, es11, h⟩ := nd_let_e h
      have hP : va_P (dC, dI) vwCl (dw_X1 a ac s11) H := by rw [es11]; exact hP
      have hD : va_D A (dw_X1 a ac s11) := by rw [es11]; exact hD
      refine lv_if_ge (tgt := 47) hx hb dX1_readList_39 (by decide) (fun c12 => ?_) (fun c12 => ?_)
      · have h := nd_pos h c12
        exact (db_X1_readList_47 C K J20) (x1) (x2) (x3) (x4) s11 _ _ _ h hP hD hS (lv_sub hl [0, 1, 2, 3, 4] rfl)
      · have h := nd_neg h c12
        refine lv_aload_n hx hb dX1_readList_42 rfl (lv_at hl 0 rfl) ?_
        refine lv_iconst (v := 1) hx hb dX1_readList_43 (by decide) ?_
        obtain ⟨s25, hq, h⟩ := nd_b1_e h
        have hPc := hP
        have hDc := hD
        have hKc := hK
        have hFc := nd_rs hD hS hA
        refine nd_cVv (As := [.int 1]) (rest := []) (w' := dw_X1 a ac s25) ⟨hx, hb, hml, hown, hts⟩ (fun sz => dm_X1_blame l hlt dC dI a ac n (1) s11 hq sz) (cwV 1 hts gi_dm_X1_readList_4 rfl rfl rfl (by decide +kernel) ⟨Nat.le_of_ble_eq_true rfl, Nat.le_of_ble_eq_true rfl⟩) hPc hDc hKc hS hA hN (va_recv hKc hPc (ci := 2) (q0 := 0) rfl rfl) rfl hl.1 rfl (Nat.le_of_ble_eq_true rfl) dX1_readList_44 (fun H locs hP1 hD1 hk1 hS => ?_)
        have hP := hP1
        have hD := hD1.weaken (fun k q _ h => hFc q.1 h)
        exact (db_X1_readList_47 C K J20) (x1) (x2) (x3) (x4) s25 _ _ _ h hP hD hS (lv_sub hl [0, 1, 2, 3, 4] rfl)
set_option maxHeartbeats 40000000 in
set_option maxRecDepth 100000 in
theorem db_X1_readList_20 {p : Program} {l : Launch} {e : Env} {s : State} {m : MethodId} {args : Array Value} {below : List Frame} {meth : Method} {c : Code} {Q : State → Prop} {A : Nat → Prop} {dC : Nat → ClassId} {dI : Nat → Nat → Nat} {a : Nat → Nat} {ac : Nat → ClassId} {n : Nat} {r : St × (St)} (C : nd_C p l s m args c A (dC, dI) cX1_readList 5 RX1 ow_dm_X1_readList (dk_X1 ac)) (K : nd_Kv p l e (headSpec ow_dm_X1_readList ({ frames := 7, cells := 0, slots := 0, locals := 155 })).room s m args below meth c Q A (dC, dI) cX1_readList (St × (St)) (dw_X1 a ac) r) (k : Nat) : dj_X1_readList_20 p l e s m args below meth c Q A dC dI a ac (df_X1_readList_20 n k) r := by
  induction k with
  | zero => intro x1 x2 x3 x4 s0 H locs ls h; exact nomatch (show (none : Option (St × (St))) = some r from h)
  | succ k ih => exact dB_X1_readList_20 C K ih
set_option maxHeartbeats 40000000 in
set_option maxRecDepth 100000 in
theorem db_X1_readList_0 {p : Program} {l : Launch} {e : Env} {s : State} {m : MethodId} {args : Array Value} {below : List Frame} {meth : Method} {c : Code} {Q : State → Prop} {A : Nat → Prop} {dC : Nat → ClassId} {dI : Nat → Nat → Nat} {a : Nat → Nat} {ac : Nat → ClassId} {n : Nat} {r : St × (St)} (C : nd_C p l s m args c A (dC, dI) cX1_readList 5 RX1 ow_dm_X1_readList (dk_X1 ac)) (K : nd_Kv p l e (headSpec ow_dm_X1_readList ({ frames := 7, cells := 0, slots := 0, locals := 155 })).room s m args below meth c Q A (dC, dI) cX1_readList (St × (St)) (dw_X1 a ac) r) : dj_X1_readList_0 p l e s m args below meth c Q A dC dI a ac (df_X1_readList_0 n) r := by
  obtain ⟨hlt, hx, hb, hml, hown, hts, hN, hA, hK⟩ := id C
  intro v0 s0 H locs ls h hP hD hS hl
  unfold df_X1_readList_0 at h
  refine lv_aload_n hx hb dX1_readList_0 rfl (lv_at hl 0 rfl) ?_
  refine va_get (D := (dC, dI)) (ci := 2) (v := .ref (a 3)) (C := RX1) (T := TX1) (N := 13) hx hb hts hi_dm_X1_readList_X1 hown hK hP 0 rfl rfl 0 (by decide) (hts (.fieldLink RX1 12 "TimeMachine$Assembler" "reader" "LTimeMachine$Reader;") (List.mem_of_getElem? (i := 1) rfl)) (fun _ h9 => h9) rfl dX1_readList_1 ?_
  refine va_get (D := (dC, dI)) (ci := 10) (v := .int (sI s0.2 5)) (C := RX9) (T := TX9) (N := 20) hx hb hts hi_dm_X1_readList_X9 hown hK hP 3 rfl rfl 8 (by decide) (hts (.fieldLink RX1 201 "TimeMachine$Reader" "codes" "I") (List.mem_of_getElem? (i := 2) rfl)) (fun _ h9 => h9) rfl dX1_readList_4 ?_
  refine lv_topi (fun z1 ez1 => ?_)
  have h := nd_at h ez1
  refine lv_istore_n (lv' := [(2, .int z1), (0, .ref (a 0)), (1, .int v0)]) hx hb dX1_readList_7 rfl hl (by decide) rfl (fun ls hl => ?_)
  refine lv_iconst (v := 0) hx hb dX1_readList_8 (by decide) ?_
  refine lv_istore_n (lv' := [(3, .int 0), (2, .int z1), (0, .ref (a 0)), (1, .int v0)]) hx hb dX1_readList_9 rfl hl (by decide) rfl (fun ls hl => ?_)
  refine lv_aload_n hx hb dX1_readList_10 rfl (lv_at hl 2 rfl) ?_
  refine va_get (D := (dC, dI)) (ci := 2) (v := .ref (a 3)) (C := RX1) (T := TX1) (N := 13) hx hb hts hi_dm_X1_readList_X1 hown hK hP 0 rfl rfl 0 (by decide) (hts (.fieldLink RX1 12 "TimeMachine$Assembler" "reader" "LTimeMachine$Reader;") (List.mem_of_getElem? (i := 1) rfl)) (fun _ h9 => h9) rfl dX1_readList_11 ?_
  obtain ⟨o2, h⟩ := nd_o_e h
  refine va_get (D := (dC, dI)) (ci := 10) (v := .ref (a 11)) (C := RX9) (T := TX9) (N := 20) hx hb hts hi_dm_X1_readList_X9 hown hK hP 3 rfl rfl 0 (by decide) (hts (.fieldLink RX1 120 "TimeMachine$Reader" "source" "[B") (List.mem_of_getElem? (i := 3) rfl)) (fun _ h9 => h9) (congrArg (fun z => some (va_rf (Option.map (fun k => a (k + 3)) z))) o2) dX1_readList_14 ?_
  refine va_alen (v := 32768) hx hb hK hP 11 9 rfl rfl (show Int32.ofNat 32768 = 32768 by decide) dX1_readList_17 ?_
  refine lv_istore (lv' := [(4, .int 32768), (3, .int 0), (2, .int z1), (0, .ref (a 0)), (1, .int v0)]) hx hb dX1_readList_18 hl (by decide) rfl (fun ls hl => ?_)
  exact (db_X1_readList_20 C K n) (v0) (z1) (0) (32768) s0 _ _ _ h hP hD hS (lv_sub hl [3, 4, 2, 1, 0] rfl)
set_option maxHeartbeats 40000000 in
set_option maxRecDepth 100000 in
theorem dm_X1_readList (l : Launch) (hlt : l.stackTraces = false) (dC : Nat → ClassId) (dI : Nat → Nat → Nat) (a : Nat → Nat) (ac : Nat → ClassId) (n : Nat) (v0 : Int32) (s0 : St × (St)) {r : St × (St)} (h : df_X1_readList n v0 s0 = some r) (sz : Nat) : Met l yX1_readList ow_dm_X1_readList ({ frames := 7, cells := 0, slots := 0, locals := 155 }) (va_Pc [.ref (a 0), .int v0] (fun U => U.heap.size = sz ∧ va_P (dC, dI) vwCl (dw_X1 a ac s0) U.heap ∧ va_K (dC, dI) vwCl (dk_X1 ac) U ∧ va_D (fun _ => True) (dw_X1 a ac s0) ∧ nv_E dI (va_A (dw_X1 a ac s0) sz) U)) (va_Qv (fun _ => True) (fun (_ : Unit) t => va_P (dC, dI) vwCl (dw_X1 a ac r) t.heap ∧ va_K (dC, dI) vwCl (dk_X1 ac) t ∧ va_D (va_A (dw_X1 a ac s0) sz) (dw_X1 a ac r)) (va_A (dw_X1 a ac s0) sz)) 0 0 (va_A (dw_X1 a ac s0) sz) := by
  refine Met.ofW (cc := cX1_readList) (maxL := 5) (ret := none) (by decide) rfl ?_
  intro p e s m args below meth c s₁ B hml hv
  obtain ⟨rfl, hsz, hP, hK, hD0, hN⟩ := hv
  have hx := B.exec
  have hb := B.bytes
  have hr := B.returns
  have hts := atoms_spec (ws := ow_dm_X1_readList) B.pre
  have hown : s.vm.findClass RX1 = some m.cls := findClass_of_methodNamed B.named
  have hlocks := B.notSynchronized
  subst hsz
  have hD := hD0.self (sz := s.heap.size)
  generalize hAe : va_A (dw_X1 a ac s0) s.heap.size = A at hD hN ⊢
  have hA : ∀ q : Nat, s.heap.size ≤ q → A q := fun q h => by rw [← hAe]; exact Or.inr h
  have hl := lv_entry ([.ref (a 0), .int v0]) (n := 5) (Nat.le_of_ble_eq_true rfl)
  rw [lg_entry_eq]
  generalize (lg_sl ([.ref (a 0), .int v0]) ++ List.replicate (5 - (lg_sl ([.ref (a 0), .int v0])).length) Slot.unset).toArray = ls at hl ⊢
  have hl : lv_has ls 5 [(0, .ref (a 0)), (1, .int v0)] := hl
  exact db_X1_readList_0 (dC := dC) (dI := dI) (a := a) (ac := ac) (n := n) (r := r) ⟨hlt, hx, hb, hml, hown, hts, hN, hA, hK⟩ (fun pc τ H locs ls d er hP hD hS => by subst er; exact W.vret hx hb hr (fun t ht hW => ⟨⟨(), rfl, trivial, by rw [ht]; exact hP, va_K.moved hW.alike hK, hD⟩, hS.F ht⟩) hS.2.2 d) v0 s0 _ _ _ h hP hD va_S.rf (lv_sub hl [0, 1] rfl)
def ow_dm_X1_keepLetter : List Cond := Cond.code yX1_keepLetter cX1_keepLetter 2 none :: ([Cond.fieldLink RX1 68 "TimeMachine$Assembler" "lettersUsed" "I", Cond.fieldLink RX1 24 "TimeMachine$Assembler" "letters" "[B"] ++ (u_ws RX1 TX1 13 ++ []))
theorem gd_dm_X1_keepLetter : ∀ w ∈ ow_dm_X1_keepLetter, (w.onTables && w.keeps) = true ∨ ∃ ty, w = Cond.arrayClass ty := List.forall_mem_cons.mpr ⟨good_of_word rfl, List.forall_mem_append.mpr ⟨fun w h => good_of_word (List.all_eq_true.mp (by decide +kernel) w h), List.forall_mem_append.mpr ⟨gu_X1, fun _ h => nomatch h⟩⟩⟩
theorem hi_dm_X1_keepLetter_X1 : ∀ w ∈ u_ws RX1 TX1 13, w ∈ ow_dm_X1_keepLetter := fun w h => List.mem_cons_of_mem _ (List.mem_append_right _ (List.mem_append_left _ h))
def dj_X1_keepLetter_33 (p : Program) (l : Launch) (e : Env) (s : State) (m : MethodId) (args : Array Value) (below : List Frame) (meth : Method) (c : Code) (Q : State → Prop) (A : Nat → Prop) (dC : Nat → ClassId) (dI : Nat → Nat → Nat) (a : Nat → Nat) (ac : Nat → ClassId) (g : (St × (St)) → Option (St × (St))) (r : St × (St)) : Prop := ∀ (s0 : St × (St)) (H : Heap) (locs : List Loc) (ls : Array Slot), g s0 = some r → va_P (dC, dI) vwCl (dw_X1 a ac s0) H → va_D A (dw_X1 a ac s0) → va_S A s.heap H locs → lv_has ls 2 [] → W p l e (headSpec ow_dm_X1_keepLetter ({ frames := 0, cells := 0, slots := 0, locals := 0 })).room s m args below meth c H locs 0 0 Q (F0 m 33 ls [])
def dj_X1_keepLetter_0 (p : Program) (l : Launch) (e : Env) (s : State) (m : MethodId) (args : Array Value) (below : List Frame) (meth : Method) (c : Code) (Q : State → Prop) (A : Nat → Prop) (dC : Nat → ClassId) (dI : Nat → Nat → Nat) (a : Nat → Nat) (ac : Nat → ClassId) (g : Int32 → (St × (St)) → Option (St × (St))) (r : St × (St)) : Prop := ∀ (v0 : Int32) (s0 : St × (St)) (H : Heap) (locs : List Loc) (ls : Array Slot), g v0 s0 = some r → va_P (dC, dI) vwCl (dw_X1 a ac s0) H → va_D A (dw_X1 a ac s0) → va_S A s.heap H locs → lv_has ls 2 [(0, .ref (a 0)), (1, .int v0)] → W p l e (headSpec ow_dm_X1_keepLetter ({ frames := 0, cells := 0, slots := 0, locals := 0 })).room s m args below meth c H locs 0 0 Q (F0 m 0 ls [])
set_option maxHeartbeats 40000000 in
set_option maxRecDepth 100000 in
theorem db_X1_keepLetter_33 {p : Program} {l : Launch} {e : Env} {s : State} {m : MethodId} {args : Array Value} {below : List Frame} {meth : Method} {c : Code} {Q : State → Prop} {A : Nat → Prop} {dC : Nat → ClassId} {dI : Nat → Nat → Nat} {a : Nat → Nat} {ac : Nat → ClassId} {n : Nat} {r : St × (St)} (C : nd_C p l s m args c A (dC, dI) cX1_keepLetter 2 RX1 ow_dm_X1_keepLetter (dk_X1 ac)) (K : nd_Kv p l e (headSpec ow_dm_X1_keepLetter ({ frames := 0, cells := 0, slots := 0, locals := 0 })).room s m args below meth c Q A (dC, dI) cX1_keepLetter (St × (St)) (dw_X1 a ac) r) : dj_X1_keepLetter_33 p l e s m args below meth c Q A dC dI a ac (df_X1_keepLetter_33 n) r := by
  obtain ⟨hlt, hx, hb, hml, hown, hts, hN, hA, hK⟩ := id C
  intro s0 H locs ls h hP hD hS hl
  unfold df_X1_keepLetter_33 at h
  exact K _ _ _ _ _ dX1_keepLetter_33 (Option.some.inj h).symm hP hD hS
set_option maxHeartbeats 40000000 in
set_option maxRecDepth 100000 in
theorem db_X1_keepLetter_0 {p : Program} {l : Launch} {e : Env} {s : State} {m : MethodId} {args : Array Value} {below : List Frame} {meth : Method} {c : Code} {Q : State → Prop} {A : Nat → Prop} {dC : Nat → ClassId} {dI : Nat → Nat → Nat} {a : Nat → Nat} {ac : Nat → ClassId} {n : Nat} {r : St × (St)} (C : nd_C p l s m args c A (dC, dI) cX1_keepLetter 2 RX1 ow_dm_X1_keepLetter (dk_X1 ac)) (K : nd_Kv p l e (headSpec ow_dm_X1_keepLetter ({ frames := 0, cells := 0, slots := 0, locals := 0 })).room s m args below meth c Q A (dC, dI) cX1_keepLetter (St × (St)) (dw_X1 a ac) r) : dj_X1_keepLetter_0 p l e s m args below meth c Q A dC dI a ac (df_X1_keepLetter_0 n) r := by
  obtain ⟨hlt, hx, hb, hml, hown, hts, hN, hA, hK⟩ := id C
  intro v0 s0 H locs ls h hP hD hS hl
  unfold df_X1_keepLetter_0 at h
  refine lv_aload_n hx hb dX1_keepLetter_0 rfl (lv_at hl 0 rfl) ?_
  refine va_get (D := (dC, dI)) (ci := 2) (v := .int (sI s0.1 1)) (C := RX1) (T := TX1) (N := 13) hx hb hts hi_dm_X1_keepLetter_X1 hown hK hP 0 rfl rfl 4 (by decide) (hts (.fieldLink RX1 68 "TimeMachine$Assembler" "lettersUsed" "I") (List.mem_of_getElem? (i := 1) rfl)) (fun _ h9 => h9) rfl dX1_keepLetter_1 ?_
  refine lv_aload_n hx hb dX1_keepLetter_4 rfl (lv_at hl 0 rfl) ?_
  refine va_get (D := (dC, dI)) (ci := 2) (v := .ref (a 2)) (C := RX1) (T := TX1) (N := 13) hx hb hts hi_dm_X1_keepLetter_X1 hown hK hP 0 rfl rfl 3 (by decide) (hts (.fieldLink RX1 24 "TimeMachine$Assembler" "letters" "[B") (List.mem_of_getElem? (i := 2) rfl)) (fun _ h9 => h9) rfl dX1_keepLetter_5 ?_
  refine va_alen (v := 32832) hx hb hK hP 2 1 rfl rfl (show Int32.ofNat 32832 = 32832 by decide) dX1_keepLetter_8 ?_
  refine lv_icmp_ge (tgt := 33) hx hb dX1_keepLetter_9 (by decide) (fun c1 => ?_) (fun c1 => ?_)
  · have h := nd_pos h c1
    exact (db_X1_keepLetter_33 C K)  s0 _ _ _ h hP hD hS (lv_sub hl [] rfl)
  · have h := nd_neg h c1
    refine lv_aload_n hx hb dX1_keepLetter_12 rfl (lv_at hl 0 rfl) ?_
    refine va_get (D := (dC, dI)) (ci := 2) (v := .ref (a 2)) (C := RX1) (T := TX1) (N := 13) hx hb hts hi_dm_X1_keepLetter_X1 hown hK hP 0 rfl rfl 3 (by decide) (hts (.fieldLink RX1 24 "TimeMachine$Assembler" "letters" "[B") (List.mem_of_getElem? (i := 2) rfl)) (fun _ h9 => h9) rfl dX1_keepLetter_13 ?_
    refine lv_aload_n hx hb dX1_keepLetter_16 rfl (lv_at hl 0 rfl) ?_
    refine va_get (D := (dC, dI)) (ci := 2) (v := .int (sI s0.1 1)) (C := RX1) (T := TX1) (N := 13) hx hb hts hi_dm_X1_keepLetter_X1 hown hK hP 0 rfl rfl 4 (by decide) (hts (.fieldLink RX1 68 "TimeMachine$Assembler" "lettersUsed" "I") (List.mem_of_getElem? (i := 1) rfl)) (fun _ h9 => h9) rfl dX1_keepLetter_17 ?_
    refine lv_iload_n hx hb dX1_keepLetter_20 rfl (lv_at hl 1 rfl) ?_
    refine lv_i2b hx hb dX1_keepLetter_21 rfl ?_
    obtain ⟨i2, h⟩ := nd_ck_e h
    refine va_bast (i := (sI s0.1 1)) (x := (v0.toInt8.toInt32)) hx hb hK hP hD hS 2 1 rfl rfl i2 dX1_keepLetter_22 (fun H locs hP hD hS => ?_)
    obtain ⟨s3, es3, h⟩ := nd_let_e h
    have hP : va_P (dC, dI) vwCl (dw_X1 a ac s3) H := by rw [es3]; exact hP
    have hD : va_D A (dw_X1 a ac s3) := by rw [es3]; exact hD
    refine lv_aload_n hx hb dX1_keepLetter_23 rfl (lv_at hl 0 rfl) ?_
    refine lv_dup hx hb dX1_keepLetter_24 rfl ?_
    refine va_get (D := (dC, dI)) (ci := 2) (v := .int (sI s3.1 1)) (C := RX1) (T := TX1) (N := 13) hx hb hts hi_dm_X1_keepLetter_X1 hown hK hP 0 rfl rfl 4 (by decide) (hts (.fieldLink RX1 68 "TimeMachine$Assembler" "lettersUsed" "I") (List.mem_of_getElem? (i := 1) rfl)) (fun _ h9 => h9) rfl dX1_keepLetter_25 ?_
    refine lv_iconst (v := 1) hx hb dX1_keepLetter_28 (by decide) ?_
    refine lv_iadd hx hb dX1_keepLetter_29 ?_
    refine va_put (D := (dC, dI)) (ci := 2) (v := .int ((sI s3.1 1) + 1)) (ty := .int) (C := RX1) (T := TX1) (N := 13) hx hb hts hi_dm_X1_keepLetter_X1 tyX1 tyX1_ok nmX1 hown hK hP hD hS 0 rfl rfl 4 (by decide) (hts (.fieldLink RX1 68 "TimeMachine$Assembler" "lettersUsed" "I") (List.mem_of_getElem? (i := 1) rfl)) (fun _ h9 => h9) rfl (by decide +kernel) rfl rfl (Nat.le_of_ble_eq_true rfl) dX1_keepLetter_30 (fun H locs hP hD hS => ?_)
    obtain ⟨s4, es4, h⟩ := nd_let_e h
    have hP : va_P (dC, dI) vwCl (dw_X1 a ac s4) H := by rw [es4]; exact hP
    have hD : va_D A (dw_X1 a ac s4) := by rw [es4]; exact hD
    exact (db_X1_keepLetter_33 C K)  s4 _ _ _ h hP hD hS (lv_sub hl [] rfl)
set_option maxHeartbeats 40000000 in
set_option maxRecDepth 100000 in
theorem dm_X1_keepLetter (l : Launch) (hlt : l.stackTraces = false) (dC : Nat → ClassId) (dI : Nat → Nat → Nat) (a : Nat → Nat) (ac : Nat → ClassId) (n : Nat) (v0 : Int32) (s0 : St × (St)) {r : St × (St)} (h : df_X1_keepLetter n v0 s0 = some r) (sz : Nat) : Met l yX1_keepLetter ow_dm_X1_keepLetter ({ frames := 0, cells := 0, slots := 0, locals := 0 }) (va_Pc [.ref (a 0), .int v0] (fun U => U.heap.size = sz ∧ va_P (dC, dI) vwCl (dw_X1 a ac s0) U.heap ∧ va_K (dC, dI) vwCl (dk_X1 ac) U ∧ va_D (fun _ => True) (dw_X1 a ac s0) ∧ nv_E dI (va_A (dw_X1 a ac s0) sz) U)) (va_Qv (fun _ => True) (fun (_ : Unit) t => va_P (dC, dI) vwCl (dw_X1 a ac r) t.heap ∧ va_K (dC, dI) vwCl (dk_X1 ac) t ∧ va_D (va_A (dw_X1 a ac s0) sz) (dw_X1 a ac r)) (va_A (dw_X1 a ac s0) sz)) 0 0 (va_A (dw_X1 a ac s0) sz) := by
  refine Met.ofW (cc := cX1_keepLetter) (maxL := 2) (ret := none) (by decide) rfl ?_
  intro p e s m args below meth c s₁ B hml hv
  obtain ⟨rfl, hsz, hP, hK, hD0, hN⟩ := hv
  have hx := B.exec
  have hb := B.bytes
  have hr := B.returns
  have hts := atoms_spec (ws := ow_dm_X1_keepLetter) B.pre
  have hown : s.vm.findClass RX1 = some m.cls := findClass_of_methodNamed B.named
  have hlocks := B.notSynchronized
  subst hsz
  have hD := hD0.self (sz := s.heap.size)
  generalize hAe : va_A (dw_X1 a ac s0) s.heap.size = A at hD hN ⊢
  have hA : ∀ q : Nat, s.heap.size ≤ q → A q := fun q h => by rw [← hAe]; exact Or.inr h
  have hl := lv_entry ([.ref (a 0), .int v0]) (n := 2) (Nat.le_of_ble_eq_true rfl)
  rw [lg_entry_eq]
  generalize (lg_sl ([.ref (a 0), .int v0]) ++ List.replicate (2 - (lg_sl ([.ref (a 0), .int v0])).length) Slot.unset).toArray = ls at hl ⊢
  have hl : lv_has ls 2 [(0, .ref (a 0)), (1, .int v0)] := hl
  exact db_X1_keepLetter_0 (dC := dC) (dI := dI) (a := a) (ac := ac) (n := n) (r := r) ⟨hlt, hx, hb, hml, hown, hts, hN, hA, hK⟩ (fun pc τ H locs ls d er hP hD hS => by subst er; exact W.vret hx hb hr (fun t ht hW => ⟨⟨(), rfl, trivial, by rw [ht]; exact hP, va_K.moved hW.alike hK, hD⟩, hS.F ht⟩) hS.2.2 d) v0 s0 _ _ _ h hP hD va_S.rf (lv_sub hl [0, 1] rfl)
def ow_dm_X1_keepText : List Cond := Cond.code yX1_keepText cX1_keepText 2 none :: ([Cond.fieldLink RX1 12 "TimeMachine$Assembler" "reader" "LTimeMachine$Reader;", Cond.fieldLink RX1 88 "TimeMachine$Reader" "from" "I", Cond.fieldLink RX1 91 "TimeMachine$Reader" "at" "I", Cond.methodLink RX1 210 yX9_character, Cond.instanceMethod yX9_character, Cond.selects RX9 yX9_character yX9_character, Cond.initialized RX9, Cond.methodLink RX1 207 yX1_keepLetter, Cond.instanceMethod yX1_keepLetter, Cond.selects RX1 yX1_keepLetter yX1_keepLetter, Cond.initialized RX1, Cond.methodLink RX1 213 yX9_width, Cond.instanceMethod yX9_width, Cond.selects RX9 yX9_width yX9_width] ++ (u_ws RX1 TX1 13 ++ (u_ws RX9 TX9 20 ++ (ow_dm_X9_character ++ (ow_dm_X1_keepLetter ++ (ow_dm_X9_width ++ []))))))
theorem gd_dm_X1_keepText : ∀ w ∈ ow_dm_X1_keepText, (w.onTables && w.keeps) = true ∨ ∃ ty, w = Cond.arrayClass ty := List.forall_mem_cons.mpr ⟨good_of_word rfl, List.forall_mem_append.mpr ⟨fun w h => good_of_word (List.all_eq_true.mp (by decide +kernel) w h), List.forall_mem_append.mpr ⟨gu_X1, List.forall_mem_append.mpr ⟨gu_X9, List.forall_mem_append.mpr ⟨gd_dm_X9_character, List.forall_mem_append.mpr ⟨gd_dm_X1_keepLetter, List.forall_mem_append.mpr ⟨gd_dm_X9_width, fun _ h => nomatch h⟩⟩⟩⟩⟩⟩⟩
theorem hi_dm_X1_keepText_X1 : ∀ w ∈ u_ws RX1 TX1 13, w ∈ ow_dm_X1_keepText := fun w h => List.mem_cons_of_mem _ (List.mem_append_right _ (List.mem_append_left _ h))
theorem hi_dm_X1_keepText_X9 : ∀ w ∈ u_ws RX9 TX9 20, w ∈ ow_dm_X1_keepText := fun w h => List.mem_cons_of_mem _ (List.mem_append_right _ (List.mem_append_right _ (List.mem_append_left _ h)))
theorem gi_dm_X1_keepText_0 : GoodIn ow_dm_X1_keepText (wsV RX1 210 RX9 yX9_character ow_dm_X9_character) := goodIn_app (goodIn_of _ (by decide +kernel)) (fun w h => ⟨List.mem_cons_of_mem _ (List.mem_append_right _ (List.mem_append_right _ (List.mem_append_right _ (List.mem_append_left _ h)))), gd_dm_X9_character w h⟩)
theorem gi_dm_X1_keepText_1 : GoodIn ow_dm_X1_keepText (wsV RX1 207 RX1 yX1_keepLetter ow_dm_X1_keepLetter) := goodIn_app (goodIn_of _ (by decide +kernel)) (fun w h => ⟨List.mem_cons_of_mem _ (List.mem_append_right _ (List.mem_append_right _ (List.mem_append_right _ (List.mem_append_right _ (List.mem_append_left _ h))))), gd_dm_X1_keepLetter w h⟩)
theorem gi_dm_X1_keepText_2 : GoodIn ow_dm_X1_keepText (wsV RX1 213 RX9 yX9_width ow_dm_X9_width) := goodIn_app (goodIn_of _ (by decide +kernel)) (fun w h => ⟨List.mem_cons_of_mem _ (List.mem_append_right _ (List.mem_append_right _ (List.mem_append_right _ (List.mem_append_right _ (List.mem_append_right _ (List.mem_append_left _ h)))))), gd_dm_X9_width w h⟩)
def dj_X1_keepText_10 (p : Program) (l : Launch) (e : Env) (s : State) (m : MethodId) (args : Array Value) (below : List Frame) (meth : Method) (c : Code) (Q : State → Prop) (A : Nat → Prop) (dC : Nat → ClassId) (dI : Nat → Nat → Nat) (a : Nat → Nat) (ac : Nat → ClassId) (g : Int32 → (St × (St)) → Option (St × (St))) (r : St × (St)) : Prop := ∀ (x1 : Int32) (s0 : St × (St)) (H : Heap) (locs : List Loc) (ls : Array Slot), g x1 s0 = some r → va_P (dC, dI) vwCl (dw_X1 a ac s0) H → va_D A (dw_X1 a ac s0) → va_S A s.heap H locs → lv_has ls 2 [(0, .ref (a 0)), (1, .int x1)] → W p l e (headSpec ow_dm_X1_keepText ({ frames := 1, cells := 0, slots := 0, locals := 24 })).room s m args below meth c H locs 0 0 Q (F0 m 10 ls [])
def dj_X1_keepText_0 (p : Program) (l : Launch) (e : Env) (s : State) (m : MethodId) (args : Array Value) (below : List Frame) (meth : Method) (c : Code) (Q : State → Prop) (A : Nat → Prop) (dC : Nat → ClassId) (dI : Nat → Nat → Nat) (a : Nat → Nat) (ac : Nat → ClassId) (g : (St × (St)) → Option (St × (St))) (r : St × (St)) : Prop := ∀ (s0 : St × (St)) (H : Heap) (locs : List Loc) (ls : Array Slot), g s0 = some r → va_P (dC, dI) vwCl (dw_X1 a ac s0) H → va_D A (dw_X1 a ac s0) → va_S A s.heap H locs → lv_has ls 2 [(0, .ref (a 0))] → W p l e (headSpec ow_dm_X1_keepText ({ frames := 1, cells := 0, slots := 0, locals := 24 })).room s m args below meth c H locs 0 0 Q (F0 m 0 ls [])
set_option maxHeartbeats 40000000 in
set_option maxRecDepth 100000 in
theorem dB_X1_keepText_10 {p : Program} {l : Launch} {e : Env} {s : State} {m : MethodId} {args : Array Value} {below : List Frame} {meth : Method} {c : Code} {Q : State → Prop} {A : Nat → Prop} {dC : Nat → ClassId} {dI : Nat → Nat → Nat} {a : Nat → Nat} {ac : Nat → ClassId} {n : Nat} {r : St × (St)} (C : nd_C p l s m args c A (dC, dI) cX1_keepText 2 RX1 ow_dm_X1_keepText (dk_X1 ac)) (K : nd_Kv p l e (headSpec ow_dm_X1_keepText ({ frames := 1, cells := 0, slots := 0, locals := 24 })).room s m args below meth c Q A (dC, dI) cX1_keepText (St × (St)) (dw_X1 a ac) r) {g10 : Int32 → (St × (St)) → Option (St × (St))} (J10 : dj_X1_keepText_10 p l e s m args below meth c Q A dC dI a ac g10 r) : dj_X1_keepText_10 p l e s m args below meth c Q A dC dI a ac (dF_X1_keepText_10 n g10) r := by
  obtain ⟨hlt, hx, hb, hml, hown, hts, hN, hA, hK⟩ := id C
  intro x1 s0 H locs ls h hP hD hS hl
  unfold dF_X1_keepText_10 at h
  refine lv_iload_n hx hb dX1_keepText_10 rfl (lv_at hl 1 rfl) ?_
  refine lv_aload_n hx hb dX1_keepText_11 rfl (lv_at hl 0 rfl) ?_
  refine va_get (D := (dC, dI)) (ci := 2) (v := .ref (a 3)) (C := RX1) (T := TX1) (N := 13) hx hb hts hi_dm_X1_keepText_X1 hown hK hP 0 rfl rfl 0 (by decide) (hts (.fieldLink RX1 12 "TimeMachine$Assembler" "reader" "LTimeMachine$Reader;") (List.mem_of_getElem? (i := 1) rfl)) (fun _ h9 => h9) rfl dX1_keepText_12 ?_
  refine va_get (D := (dC, dI)) (ci := 10) (v := .int (sI s0.2 0)) (C := RX9) (T := TX9) (N := 20) hx hb hts hi_dm_X1_keepText_X9 hown hK hP 3 rfl rfl 1 (by decide) (hts (.fieldLink RX1 91 "TimeMachine$Reader" "at" "I") (List.mem_of_getElem? (i := 3) rfl)) (fun _ h9 => h9) rfl dX1_keepText_15 ?_
  refine lv_iconst (v := 1) hx hb dX1_keepText_18 (by decide) ?_
  refine lv_isub hx hb dX1_keepText_19 ?_
  refine lv_icmp_ge (tgt := 51) hx hb dX1_keepText_20 (by decide) (fun c2 => ?_) (fun c2 => ?_)
  · have h := nd_pos h c2
    exact K _ _ _ _ _ dX1_keepText_51 (Option.some.inj h).symm hP hD hS
  · have h := nd_neg h c2
    refine lv_aload_n hx hb dX1_keepText_23 rfl (lv_at hl 0 rfl) ?_
    refine lv_aload_n hx hb dX1_keepText_24 rfl (lv_at hl 0 rfl) ?_
    refine va_get (D := (dC, dI)) (ci := 2) (v := .ref (a 3)) (C := RX1) (T := TX1) (N := 13) hx hb hts hi_dm_X1_keepText_X1 hown hK hP 0 rfl rfl 0 (by decide) (hts (.fieldLink RX1 12 "TimeMachine$Assembler" "reader" "LTimeMachine$Reader;") (List.mem_of_getElem? (i := 1) rfl)) (fun _ h9 => h9) rfl dX1_keepText_25 ?_
    refine lv_iload_n hx hb dX1_keepText_28 rfl (lv_at hl 1 rfl) ?_
    refine lv_bipush (v := 34) hx hb dX1_keepText_29 (by decide) ?_
    obtain ⟨q3, s4, hq, h⟩ := nd_b2_e h
    have hPc := dp_X1_3 hP
    have hDc := dd_X1_3 hD
    have hKc := dy_X1_3 hK
    have hFc := nd_rs hDc hS hA
    have hzA : ∀ q : Nat, H.size ≤ q → A q := fun q h => hA q (Nat.le_trans hS.1 h)
    refine nd_cVi (As := [.int x1, .int 34]) (rest := [.ref (a 0)]) (q := q3) (w' := dw_X9 (fun k => a (k + 3)) (fun k => ac (k + 3)) s4) ⟨hx, hb, hml, hown, hts⟩ (fun sz => dm_X9_character l hlt dC dI (fun k => a (k + 3)) (fun k => ac (k + 3)) n (x1) (34) s0.2 hq sz) (cwV 2 hts gi_dm_X1_keepText_0 rfl rfl rfl (by decide +kernel) ⟨Nat.le_of_ble_eq_true rfl, Nat.le_of_ble_eq_true rfl⟩) hPc hDc hKc hS hA hN (va_recv hKc hPc (ci := 10) (q0 := 0) rfl rfl) rfl hl.1 rfl (Nat.le_of_ble_eq_true rfl) dX1_keepText_31 (fun H locs hP1 hD1 hk1 hS => ?_)
    obtain ⟨hP, hD⟩ := dn_X1_3 hP hD hzA hk1 hP1 hD1
    obtain ⟨s6, es6, h⟩ := nd_let_e h
    have hP : va_P (dC, dI) vwCl (dw_X1 a ac s6) H := by rw [es6]; exact hP
    have hD : va_D A (dw_X1 a ac s6) := by rw [es6]; exact hD
    obtain ⟨s8, hq, h⟩ := nd_b1_e h
    have hPc := hP
    have hDc := hD
    have hKc := hK
    have hFc := nd_rs hD hS hA
    refine nd_cVv (As := [.int q3]) (rest := []) (w' := dw_X1 a ac s8) ⟨hx, hb, hml, hown, hts⟩ (fun sz => dm_X1_keepLetter l hlt dC dI a ac n (q3) s6 hq sz) (cwV 1 hts gi_dm_X1_keepText_1 rfl rfl rfl (by decide +kernel) ⟨Nat.le_of_ble_eq_true rfl, Nat.le_of_ble_eq_true rfl⟩) hPc hDc hKc hS hA hN (va_recv hKc hPc (ci := 2) (q0 := 0) rfl rfl) rfl hl.1 rfl (Nat.le_of_ble_eq_true rfl) dX1_keepText_34 (fun H locs hP1 hD1 hk1 hS => ?_)
    have hP := hP1
    have hD := hD1.weaken (fun k q _ h => hFc q.1 h)
    refine lv_iload_n hx hb dX1_keepText_37 rfl (lv_at hl 1 rfl) ?_
    refine lv_aload_n hx hb dX1_keepText_38 rfl (lv_at hl 0 rfl) ?_
    refine va_get (D := (dC, dI)) (ci := 2) (v := .ref (a 3)) (C := RX1) (T := TX1) (N := 13) hx hb hts hi_dm_X1_keepText_X1 hown hK hP 0 rfl rfl 0 (by decide) (hts (.fieldLink RX1 12 "TimeMachine$Assembler" "reader" "LTimeMachine$Reader;") (List.mem_of_getElem? (i := 1) rfl)) (fun _ h9 => h9) rfl dX1_keepText_39 ?_
    refine lv_iload_n hx hb dX1_keepText_42 rfl (lv_at hl 1 rfl) ?_
    obtain ⟨q10, s11, hq, h⟩ := nd_b2_e h
    have hPc := dp_X1_3 hP
    have hDc := dd_X1_3 hD
    have hKc := dy_X1_3 hK
    have hFc := nd_rs hDc hS hA
    have hzA : ∀ q : Nat, H.size ≤ q → A q := fun q h => hA q (Nat.le_trans hS.1 h)
    refine nd_cVi (As := [.int x1]) (rest := [.int x1]) (q := q10) (w' := dw_X9 (fun k => a (k + 3)) (fun k => ac (k + 3)) s11) ⟨hx, hb, hml, hown, hts⟩ (fun sz => dm_X9_width l hlt dC dI (fun k => a (k + 3)) (fun k => ac (k + 3)) n (x1) s8.2 hq sz) (cwV 1 hts gi_dm_X1_keepText_2 rfl rfl rfl (by decide +kernel) ⟨Nat.le_of_ble_eq_true rfl, Nat.le_of_ble_eq_true rfl⟩) hPc hDc hKc hS hA hN (va_recv hKc hPc (ci := 10) (q0 := 0) rfl rfl) rfl hl.1 rfl (Nat.le_of_ble_eq_true rfl) dX1_keepText_43 (fun H locs hP1 hD1 hk1 hS => ?_)
    obtain ⟨hP, hD⟩ := dn_X1_3 hP hD hzA hk1 hP1 hD1
    obtain ⟨s13, es13, h⟩ := nd_let_e h
    have hP : va_P (dC, dI) vwCl (dw_X1 a ac s13) H := by rw [es13]; exact hP
    have hD : va_D A (dw_X1 a ac s13) := by rw [es13]; exact hD
    refine lv_iadd hx hb dX1_keepText_46 ?_
    refine lv_topi (fun z14 ez14 => ?_)
    have h := nd_at h ez14
    refine lv_istore_n (lv' := [(1, .int z14), (0, .ref (a 0))]) hx hb dX1_keepText_47 rfl hl (by decide) rfl (fun ls hl => ?_)
    refine lv_goto (tgt := 10) hx hb dX1_keepText_48 (by decide) ?_
    exact (J10) (z14) s13 _ _ _ h hP hD hS (lv_sub hl [1, 0] rfl)
set_option maxHeartbeats 40000000 in
set_option maxRecDepth 100000 in
theorem db_X1_keepText_10 {p : Program} {l : Launch} {e : Env} {s : State} {m : MethodId} {args : Array Value} {below : List Frame} {meth : Method} {c : Code} {Q : State → Prop} {A : Nat → Prop} {dC : Nat → ClassId} {dI : Nat → Nat → Nat} {a : Nat → Nat} {ac : Nat → ClassId} {n : Nat} {r : St × (St)} (C : nd_C p l s m args c A (dC, dI) cX1_keepText 2 RX1 ow_dm_X1_keepText (dk_X1 ac)) (K : nd_Kv p l e (headSpec ow_dm_X1_keepText ({ frames := 1, cells := 0, slots := 0, locals := 24 })).room s m args below meth c Q A (dC, dI) cX1_keepText (St × (St)) (dw_X1 a ac) r) (k : Nat) : dj_X1_keepText_10 p l e s m args below meth c Q A dC dI a ac (df_X1_keepText_10 n k) r := by
  induction k with
  | zero => intro x1 s0 H locs ls h; exact nomatch (show (none : Option (St × (St))) = some r from h)
  | succ k ih => exact dB_X1_keepText_10 C K ih
set_option maxHeartbeats 40000000 in
set_option maxRecDepth 100000 in
theorem db_X1_keepText_0 {p : Program} {l : Launch} {e : Env} {s : State} {m : MethodId} {args : Array Value} {below : List Frame} {meth : Method} {c : Code} {Q : State → Prop} {A : Nat → Prop} {dC : Nat → ClassId} {dI : Nat → Nat → Nat} {a : Nat → Nat} {ac : Nat → ClassId} {n : Nat} {r : St × (St)} (C : nd_C p l s m args c A (dC, dI) cX1_keepText 2 RX1 ow_dm_X1_keepText (dk_X1 ac)) (K : nd_Kv p l e (headSpec ow_dm_X1_keepText ({ frames := 1, cells := 0, slots := 0, locals := 24 })).room s m args below meth c Q A (dC, dI) cX1_keepText (St × (St)) (dw_X1 a ac) r) : dj_X1_keepText_0 p l e s m args below meth c Q A dC dI a ac (df_X1_keepText_0 n) r := by
  obtain ⟨hlt, hx, hb, hml, hown, hts, hN, hA, hK⟩ := id C
  intro s0 H locs ls h hP hD hS hl
  unfold df_X1_keepText_0 at h
  refine lv_aload_n hx hb dX1_keepText_0 rfl (lv_at hl 0 rfl) ?_
  refine va_get (D := (dC, dI)) (ci := 2) (v := .ref (a 3)) (C := RX1) (T := TX1) (N := 13) hx hb hts hi_dm_X1_keepText_X1 hown hK hP 0 rfl rfl 0 (by decide) (hts (.fieldLink RX1 12 "TimeMachine$Assembler" "reader" "LTimeMachine$Reader;") (List.mem_of_getElem? (i := 1) rfl)) (fun _ h9 => h9) rfl dX1_keepText_1 ?_
  refine va_get (D := (dC, dI)) (ci := 10) (v := .int (sI s0.2 3)) (C := RX9) (T := TX9) (N := 20) hx hb hts hi_dm_X1_keepText_X9 hown hK hP 3 rfl rfl 4 (by decide) (hts (.fieldLink RX1 88 "TimeMachine$Reader" "from" "I") (List.mem_of_getElem? (i := 2) rfl)) (fun _ h9 => h9) rfl dX1_keepText_4 ?_
  refine lv_iconst (v := 1) hx hb dX1_keepText_7 (by decide) ?_
  refine lv_iadd hx hb dX1_keepText_8 ?_
  refine lv_topi (fun z1 ez1 => ?_)
  have h := nd_at h ez1
  refine lv_istore_n (lv' := [(1, .int z1), (0, .ref (a 0))]) hx hb dX1_keepText_9 rfl hl (by decide) rfl (fun ls hl => ?_)
  exact (db_X1_keepText_10 C K n) (z1) s0 _ _ _ h hP hD hS (lv_sub hl [1, 0] rfl)
set_option maxHeartbeats 40000000 in
set_option maxRecDepth 100000 in
theorem dm_X1_keepText (l : Launch) (hlt : l.stackTraces = false) (dC : Nat → ClassId) (dI : Nat → Nat → Nat) (a : Nat → Nat) (ac : Nat → ClassId) (n : Nat) (s0 : St × (St)) {r : St × (St)} (h : df_X1_keepText n s0 = some r) (sz : Nat) : Met l yX1_keepText ow_dm_X1_keepText ({ frames := 1, cells := 0, slots := 0, locals := 24 }) (va_Pc [.ref (a 0)] (fun U => U.heap.size = sz ∧ va_P (dC, dI) vwCl (dw_X1 a ac s0) U.heap ∧ va_K (dC, dI) vwCl (dk_X1 ac) U ∧ va_D (fun _ => True) (dw_X1 a ac s0) ∧ nv_E dI (va_A (dw_X1 a ac s0) sz) U)) (va_Qv (fun _ => True) (fun (_ : Unit) t => va_P (dC, dI) vwCl (dw_X1 a ac r) t.heap ∧ va_K (dC, dI) vwCl (dk_X1 ac) t ∧ va_D (va_A (dw_X1 a ac s0) sz) (dw_X1 a ac r)) (va_A (dw_X1 a ac s0) sz)) 0 0 (va_A (dw_X1 a ac s0) sz) := by
  refine Met.ofW (cc := cX1_keepText) (maxL := 2) (ret := none) (by decide) rfl ?_
  intro p e s m args below meth c s₁ B hml hv
  obtain ⟨rfl, hsz, hP, hK, hD0, hN⟩ := hv
  have hx := B.exec
  have hb := B.bytes
  have hr := B.returns
  have hts := atoms_spec (ws := ow_dm_X1_keepText) B.pre
  have hown : s.vm.findClass RX1 = some m.cls := findClass_of_methodNamed B.named
  have hlocks := B.notSynchronized
  subst hsz
  have hD := hD0.self (sz := s.heap.size)
  generalize hAe : va_A (dw_X1 a ac s0) s.heap.size = A at hD hN ⊢
  have hA : ∀ q : Nat, s.heap.size ≤ q → A q := fun q h => by rw [← hAe]; exact Or.inr h
  have hl := lv_entry ([.ref (a 0)]) (n := 2) (Nat.le_of_ble_eq_true rfl)
  rw [lg_entry_eq]
  generalize (lg_sl ([.ref (a 0)]) ++ List.replicate (2 - (lg_sl ([.ref (a 0)])).length) Slot.unset).toArray = ls at hl ⊢
  have hl : lv_has ls 2 [(0, .ref (a 0))] := hl
  exact db_X1_keepText_0 (dC := dC) (dI := dI) (a := a) (ac := ac) (n := n) (r := r) ⟨hlt, hx, hb, hml, hown, hts, hN, hA, hK⟩ (fun pc τ H locs ls d er hP hD hS => by subst er; exact W.vret hx hb hr (fun t ht hW => ⟨⟨(), rfl, trivial, by rw [ht]; exact hP, va_K.moved hW.alike hK, hD⟩, hS.F ht⟩) hS.2.2 d) s0 _ _ _ h hP hD va_S.rf (lv_sub hl [0] rfl)
def ow_dm_X1_readTexts : List Cond := Cond.code yX1_readTexts cX1_readTexts 4 none :: ([Cond.fieldLink RX1 68 "TimeMachine$Assembler" "lettersUsed" "I", Cond.fieldLink RX1 12 "TimeMachine$Assembler" "reader" "LTimeMachine$Reader;", Cond.fieldLink RX1 120 "TimeMachine$Reader" "source" "[B", Cond.methodLink RX1 176 yX1_add, Cond.instanceMethod yX1_add, Cond.selects RX1 yX1_add yX1_add, Cond.initialized RX1, Cond.fieldLink RX1 32 "TimeMachine$Assembler" "fault" "I", Cond.fieldLink RX1 85 "TimeMachine$Reader" "kind" "I", Cond.methodLink RX1 204 yX1_keepText, Cond.instanceMethod yX1_keepText, Cond.selects RX1 yX1_keepText yX1_keepText, Cond.methodLink RX1 97 yX9_next, Cond.instanceMethod yX9_next, Cond.selects RX9 yX9_next yX9_next, Cond.initialized RX9, Cond.methodLink RX1 100 yX9_isSign, Cond.instanceMethod yX9_isSign, Cond.selects RX9 yX9_isSign yX9_isSign, Cond.methodLink RX1 207 yX1_keepLetter, Cond.instanceMethod yX1_keepLetter, Cond.selects RX1 yX1_keepLetter yX1_keepLetter, Cond.methodLink RX1 77 yX1_blame, Cond.instanceMethod yX1_blame, Cond.selects RX1 yX1_blame yX1_blame] ++ (u_ws RX1 TX1 13 ++ (u_ws RX9 TX9 20 ++ (ow_dm_X1_add ++ (ow_dm_X1_keepText ++ (ow_dm_X9_next ++ (ow_dm_X9_isSign ++ (ow_dm_X1_keepLetter ++ (ow_dm_X1_blame ++ [])))))))))
theorem gd_dm_X1_readTexts : ∀ w ∈ ow_dm_X1_readTexts, (w.onTables && w.keeps) = true ∨ ∃ ty, w = Cond.arrayClass ty := List.forall_mem_cons.mpr ⟨good_of_word rfl, List.forall_mem_append.mpr ⟨fun w h => good_of_word (List.all_eq_true.mp (by decide +kernel) w h), List.forall_mem_append.mpr ⟨gu_X1, List.forall_mem_append.mpr ⟨gu_X9, List.forall_mem_append.mpr ⟨gd_dm_X1_add, List.forall_mem_append.mpr ⟨gd_dm_X1_keepText, List.forall_mem_append.mpr ⟨gd_dm_X9_next, List.forall_mem_append.mpr ⟨gd_dm_X9_isSign, List.forall_mem_append.mpr ⟨gd_dm_X1_keepLetter, List.forall_mem_append.mpr ⟨gd_dm_X1_blame, fun _ h => nomatch h⟩⟩⟩⟩⟩⟩⟩⟩⟩⟩
theorem hi_dm_X1_readTexts_X1 : ∀ w ∈ u_ws RX1 TX1 13, w ∈ ow_dm_X1_readTexts := fun w h => List.mem_cons_of_mem _ (List.mem_append_right _ (List.mem_append_left _ h))
theorem hi_dm_X1_readTexts_X9 : ∀ w ∈ u_ws RX9 TX9 20, w ∈ ow_dm_X1_readTexts := fun w h => List.mem_cons_of_mem _ (List.mem_append_right _ (List.mem_append_right _ (List.mem_append_left _ h)))
theorem gi_dm_X1_readTexts_0 : GoodIn ow_dm_X1_readTexts (wsV RX1 176 RX1 yX1_add ow_dm_X1_add) := goodIn_app (goodIn_of _ (by decide +kernel)) (fun w h => ⟨List.mem_cons_of_mem _ (List.mem_append_right _ (List.mem_append_right _ (List.mem_append_right _ (List.mem_append_left _ h)))), gd_dm_X1_add w h⟩)
theorem gi_dm_X1_readTexts_1 : GoodIn ow_dm_X1_readTexts (wsV RX1 204 RX1 yX1_keepText ow_dm_X1_keepText) := goodIn_app (goodIn_of _ (by decide +kernel)) (fun w h => ⟨List.mem_cons_of_mem _ (List.mem_append_right _ (List.mem_append_right _ (List.mem_append_right _ (List.mem_append_right _ (List.mem_append_left _ h))))), gd_dm_X1_keepText w h⟩)
theorem gi_dm_X1_readTexts_2 : GoodIn ow_dm_X1_readTexts (wsV RX1 97 RX9 yX9_next ow_dm_X9_next) := goodIn_app (goodIn_of _ (by decide +kernel)) (fun w h => ⟨List.mem_cons_of_mem _ (List.mem_append_right _ (List.mem_append_right _ (List.mem_append_right _ (List.mem_append_right _ (List.mem_append_right _ (List.mem_append_left _ h)))))), gd_dm_X9_next w h⟩)
theorem gi_dm_X1_readTexts_3 : GoodIn ow_dm_X1_readTexts (wsV RX1 100 RX9 yX9_isSign ow_dm_X9_isSign) := goodIn_app (goodIn_of _ (by decide +kernel)) (fun w h => ⟨List.mem_cons_of_mem _ (List.mem_append_right _ (List.mem_append_right _ (List.mem_append_right _ (List.mem_append_right _ (List.mem_append_right _ (List.mem_append_right _ (List.mem_append_left _ h))))))), gd_dm_X9_isSign w h⟩)
theorem gi_dm_X1_readTexts_4 : GoodIn ow_dm_X1_readTexts (wsV RX1 207 RX1 yX1_keepLetter ow_dm_X1_keepLetter) := goodIn_app (goodIn_of _ (by decide +kernel)) (fun w h => ⟨List.mem_cons_of_mem _ (List.mem_append_right _ (List.mem_append_right _ (List.mem_append_right _ (List.mem_append_right _ (List.mem_append_right _ (List.mem_append_right _ (List.mem_append_right _ (List.mem_append_left _ h)))))))), gd_dm_X1_keepLetter w h⟩)
theorem gi_dm_X1_readTexts_5 : GoodIn ow_dm_X1_readTexts (wsV RX1 77 RX1 yX1_blame ow_dm_X1_blame) := goodIn_app (goodIn_of _ (by decide +kernel)) (fun w h => ⟨List.mem_cons_of_mem _ (List.mem_append_right _ (List.mem_append_right _ (List.mem_append_right _ (List.mem_append_right _ (List.mem_append_right _ (List.mem_append_right _ (List.mem_append_right _ (List.mem_append_right _ (List.mem_append_left _ h))))))))), gd_dm_X1_blame w h⟩)
def dj_X1_readTexts_90 (p : Program) (l : Launch) (e : Env) (s : State) (m : MethodId) (args : Array Value) (below : List Frame) (meth : Method) (c : Code) (Q : State → Prop) (A : Nat → Prop) (dC : Nat → ClassId) (dI : Nat → Nat → Nat) (a : Nat → Nat) (ac : Nat → ClassId) (g : Int32 → (St × (St)) → Option (St × (St))) (r : St × (St)) : Prop := ∀ (x2 : Int32) (s0 : St × (St)) (H : Heap) (locs : List Loc) (ls : Array Slot), g x2 s0 = some r → va_P (dC, dI) vwCl (dw_X1 a ac s0) H → va_D A (dw_X1 a ac s0) → va_S A s.heap H locs → lv_has ls 4 [(0, .ref (a 0)), (2, .int x2)] → W p l e (headSpec ow_dm_X1_readTexts ({ frames := 6, cells := 0, slots := 0, locals := 133 })).room s m args below meth c H locs 0 0 Q (F0 m 90 ls [])
def dj_X1_readTexts_55 (p : Program) (l : Launch) (e : Env) (s : State) (m : MethodId) (args : Array Value) (below : List Frame) (meth : Method) (c : Code) (Q : State → Prop) (A : Nat → Prop) (dC : Nat → ClassId) (dI : Nat → Nat → Nat) (a : Nat → Nat) (ac : Nat → ClassId) (g : Int32 → Int32 → Int32 → (St × (St)) → Option (St × (St))) (r : St × (St)) : Prop := ∀ (x1 : Int32) (x2 : Int32) (x3 : Int32) (s0 : St × (St)) (H : Heap) (locs : List Loc) (ls : Array Slot), g x1 x2 x3 s0 = some r → va_P (dC, dI) vwCl (dw_X1 a ac s0) H → va_D A (dw_X1 a ac s0) → va_S A s.heap H locs → lv_has ls 4 [(0, .ref (a 0)), (1, .int x1), (2, .int x2), (3, .int x3)] → W p l e (headSpec ow_dm_X1_readTexts ({ frames := 6, cells := 0, slots := 0, locals := 133 })).room s m args below meth c H locs 0 0 Q (F0 m 55 ls [])
def dj_X1_readTexts_14 (p : Program) (l : Launch) (e : Env) (s : State) (m : MethodId) (args : Array Value) (below : List Frame) (meth : Method) (c : Code) (Q : State → Prop) (A : Nat → Prop) (dC : Nat → ClassId) (dI : Nat → Nat → Nat) (a : Nat → Nat) (ac : Nat → ClassId) (g : Int32 → Int32 → Int32 → (St × (St)) → Option (St × (St))) (r : St × (St)) : Prop := ∀ (x1 : Int32) (x2 : Int32) (x3 : Int32) (s0 : St × (St)) (H : Heap) (locs : List Loc) (ls : Array Slot), g x1 x2 x3 s0 = some r → va_P (dC, dI) vwCl (dw_X1 a ac s0) H → va_D A (dw_X1 a ac s0) → va_S A s.heap H locs → lv_has ls 4 [(0, .ref (a 0)), (1, .int x1), (2, .int x2), (3, .int x3)] → W p l e (headSpec ow_dm_X1_readTexts ({ frames := 6, cells := 0, slots := 0, locals := 133 })).room s m args below meth c H locs 0 0 Q (F0 m 14 ls [])
def dj_X1_readTexts_0 (p : Program) (l : Launch) (e : Env) (s : State) (m : MethodId) (args : Array Value) (below : List Frame) (meth : Method) (c : Code) (Q : State → Prop) (A : Nat → Prop) (dC : Nat → ClassId) (dI : Nat → Nat → Nat) (a : Nat → Nat) (ac : Nat → ClassId) (g : Int32 → (St × (St)) → Option (St × (St))) (r : St × (St)) : Prop := ∀ (v0 : Int32) (s0 : St × (St)) (H : Heap) (locs : List Loc) (ls : Array Slot), g v0 s0 = some r → va_P (dC, dI) vwCl (dw_X1 a ac s0) H → va_D A (dw_X1 a ac s0) → va_S A s.heap H locs → lv_has ls 4 [(0, .ref (a 0)), (1, .int v0)] → W p l e (headSpec ow_dm_X1_readTexts ({ frames := 6, cells := 0, slots := 0, locals := 133 })).room s m args below meth c H locs 0 0 Q (F0 m 0 ls [])
set_option maxHeartbeats 40000000 in
set_option maxRecDepth 100000 in
theorem db_X1_readTexts_90 {p : Program} {l : Launch} {e : Env} {s : State} {m : MethodId} {args : Array Value} {below : List Frame} {meth : Method} {c : Code} {Q : State → Prop} {A : Nat → Prop} {dC : Nat → ClassId} {dI : Nat → Nat → Nat} {a : Nat → Nat} {ac : Nat → ClassId} {n : Nat} {r : St × (St)} (C : nd_C p l s m args c A (dC, dI) cX1_readTexts 4 RX1 ow_dm_X1_readTexts (dk_X1 ac)) (K : nd_Kv p l e (headSpec ow_dm_X1_readTexts ({ frames := 6, cells := 0, slots := 0, locals := 133 })).room s m args below meth c Q A (dC, dI) cX1_readTexts (St × (St)) (dw_X1 a ac) r) : dj_X1_readTexts_90 p l e s m args below meth c Q A dC dI a ac (df_X1_readTexts_90 n) r := by
  obtain ⟨hlt, hx, hb, hml, hown, hts, hN, hA, hK⟩ := id C
  intro x2 s0 H locs ls h hP hD hS hl
  unfold df_X1_readTexts_90 at h
  refine lv_aload_n hx hb dX1_readTexts_90 rfl (lv_at hl 0 rfl) ?_
  refine lv_bipush (v := 6) hx hb dX1_readTexts_91 (by decide) ?_
  refine lv_aload_n hx hb dX1_readTexts_93 rfl (lv_at hl 0 rfl) ?_
  refine va_get (D := (dC, dI)) (ci := 2) (v := .int (sI s0.1 1)) (C := RX1) (T := TX1) (N := 13) hx hb hts hi_dm_X1_readTexts_X1 hown hK hP 0 rfl rfl 4 (by decide) (hts (.fieldLink RX1 68 "TimeMachine$Assembler" "lettersUsed" "I") (List.mem_of_getElem? (i := 1) rfl)) (fun _ h9 => h9) rfl dX1_readTexts_94 ?_
  refine lv_iload_n hx hb dX1_readTexts_97 rfl (lv_at hl 1 rfl) ?_
  refine lv_isub hx hb dX1_readTexts_98 ?_
  refine lv_iconst (v := 0) hx hb dX1_readTexts_99 (by decide) ?_
  refine lv_iload_n hx hb dX1_readTexts_100 rfl (lv_at hl 1 rfl) ?_
  obtain ⟨s5, hq, h⟩ := nd_b1_e h
  have hPc := hP
  have hDc := hD
  have hKc := hK
  have hFc := nd_rs hD hS hA
  refine nd_cVv (As := [.int 6, .int ((sI s0.1 1) - x2), .int 0, .int x2]) (rest := []) (w' := dw_X1 a ac s5) ⟨hx, hb, hml, hown, hts⟩ (fun sz => dm_X1_add l hlt dC dI a ac n (6) (((sI s0.1 1) - x2)) (0) (x2) s0 hq sz) (cwV 4 hts gi_dm_X1_readTexts_0 rfl rfl rfl (by decide +kernel) ⟨Nat.le_of_ble_eq_true rfl, Nat.le_of_ble_eq_true rfl⟩) hPc hDc hKc hS hA hN (va_recv hKc hPc (ci := 2) (q0 := 0) rfl rfl) rfl hl.1 rfl (Nat.le_of_ble_eq_true rfl) dX1_readTexts_101 (fun H locs hP1 hD1 hk1 hS => ?_)
  have hP := hP1
  have hD := hD1.weaken (fun k q _ h => hFc q.1 h)
  exact K _ _ _ _ _ dX1_readTexts_104 (Option.some.inj h).symm hP hD hS
set_option maxHeartbeats 40000000 in
set_option maxRecDepth 100000 in
theorem db_X1_readTexts_55 {p : Program} {l : Launch} {e : Env} {s : State} {m : MethodId} {args : Array Value} {below : List Frame} {meth : Method} {c : Code} {Q : State → Prop} {A : Nat → Prop} {dC : Nat → ClassId} {dI : Nat → Nat → Nat} {a : Nat → Nat} {ac : Nat → ClassId} {n : Nat} {r : St × (St)} (C : nd_C p l s m args c A (dC, dI) cX1_readTexts 4 RX1 ow_dm_X1_readTexts (dk_X1 ac)) (K : nd_Kv p l e (headSpec ow_dm_X1_readTexts ({ frames := 6, cells := 0, slots := 0, locals := 133 })).room s m args below meth c Q A (dC, dI) cX1_readTexts (St × (St)) (dw_X1 a ac) r) {g14 : Int32 → Int32 → Int32 → (St × (St)) → Option (St × (St))} (J14 : dj_X1_readTexts_14 p l e s m args below meth c Q A dC dI a ac g14 r) : dj_X1_readTexts_55 p l e s m args below meth c Q A dC dI a ac (df_X1_readTexts_55 n g14) r := by
  obtain ⟨hlt, hx, hb, hml, hown, hts, hN, hA, hK⟩ := id C
  intro x1 x2 x3 s0 H locs ls h hP hD hS hl
  unfold df_X1_readTexts_55 at h
  refine lv_aload_n hx hb dX1_readTexts_55 rfl (lv_at hl 0 rfl) ?_
  refine va_get (D := (dC, dI)) (ci := 2) (v := .ref (a 3)) (C := RX1) (T := TX1) (N := 13) hx hb hts hi_dm_X1_readTexts_X1 hown hK hP 0 rfl rfl 0 (by decide) (hts (.fieldLink RX1 12 "TimeMachine$Assembler" "reader" "LTimeMachine$Reader;") (List.mem_of_getElem? (i := 2) rfl)) (fun _ h9 => h9) rfl dX1_readTexts_56 ?_
  obtain ⟨s14, hq, h⟩ := nd_b1_e h
  have hPc := dp_X1_3 hP
  have hDc := dd_X1_3 hD
  have hKc := dy_X1_3 hK
  have hFc := nd_rs hDc hS hA
  have hzA : ∀ q : Nat, H.size ≤ q → A q := fun q h => hA q (Nat.le_trans hS.1 h)
  refine nd_cVv (As := []) (rest := []) (w' := dw_X9 (fun k => a (k + 3)) (fun k => ac (k + 3)) s14) ⟨hx, hb, hml, hown, hts⟩ (fun sz => dm_X9_next l hlt dC dI (fun k => a (k + 3)) (fun k => ac (k + 3)) n  s0.2 hq sz) (cwV 0 hts gi_dm_X1_readTexts_2 rfl rfl rfl (by decide +kernel) ⟨Nat.le_of_ble_eq_true rfl, Nat.le_of_ble_eq_true rfl⟩) hPc hDc hKc hS hA hN (va_recv hKc hPc (ci := 10) (q0 := 0) rfl rfl) rfl hl.1 rfl (Nat.le_of_ble_eq_true rfl) dX1_readTexts_59 (fun H locs hP1 hD1 hk1 hS => ?_)
  obtain ⟨hP, hD⟩ := dn_X1_3 hP hD hzA hk1 hP1 hD1
  obtain ⟨s16, es16, h⟩ := nd_let_e h
  have hP : va_P (dC, dI) vwCl (dw_X1 a ac s16) H := by rw [es16]; exact hP
  have hD : va_D A (dw_X1 a ac s16) := by rw [es16]; exact hD
  refine lv_aload_n hx hb dX1_readTexts_62 rfl (lv_at hl 0 rfl) ?_
  refine va_get (D := (dC, dI)) (ci := 2) (v := .ref (a 3)) (C := RX1) (T := TX1) (N := 13) hx hb hts hi_dm_X1_readTexts_X1 hown hK hP 0 rfl rfl 0 (by decide) (hts (.fieldLink RX1 12 "TimeMachine$Assembler" "reader" "LTimeMachine$Reader;") (List.mem_of_getElem? (i := 2) rfl)) (fun _ h9 => h9) rfl dX1_readTexts_63 ?_
  refine lv_bipush (v := 44) hx hb dX1_readTexts_66 (by decide) ?_
  obtain ⟨q17, s18, hq, h⟩ := nd_b2_e h
  have hPc := dp_X1_3 hP
  have hDc := dd_X1_3 hD
  have hKc := dy_X1_3 hK
  have hFc := nd_rs hDc hS hA
  have hzA : ∀ q : Nat, H.size ≤ q → A q := fun q h => hA q (Nat.le_trans hS.1 h)
  refine nd_cVi (As := [.int 44]) (rest := []) (q := q17) (w' := dw_X9 (fun k => a (k + 3)) (fun k => ac (k + 3)) s18) ⟨hx, hb, hml, hown, hts⟩ (fun sz => dm_X9_isSign l hlt dC dI (fun k => a (k + 3)) (fun k => ac (k + 3)) n (44) s16.2 hq sz) (cwV 1 hts gi_dm_X1_readTexts_3 rfl rfl rfl (by decide +kernel) ⟨Nat.le_of_ble_eq_true rfl, Nat.le_of_ble_eq_true rfl⟩) hPc hDc hKc hS hA hN (va_recv hKc hPc (ci := 10) (q0 := 0) rfl rfl) rfl hl.1 rfl (Nat.le_of_ble_eq_true rfl) dX1_readTexts_68 (fun H locs hP1 hD1 hk1 hS => ?_)
  obtain ⟨hP, hD⟩ := dn_X1_3 hP hD hzA hk1 hP1 hD1
  obtain ⟨s20, es20, h⟩ := nd_let_e h
  have hP : va_P (dC, dI) vwCl (dw_X1 a ac s20) H := by rw [es20]; exact hP
  have hD : va_D A (dw_X1 a ac s20) := by rw [es20]; exact hD
  refine lv_if_ne (tgt := 77) hx hb dX1_readTexts_71 (by decide) (fun c21 => ?_) (fun c21 => ?_)
  · have h := nd_neg h c21
    refine lv_aload_n hx hb dX1_readTexts_77 rfl (lv_at hl 0 rfl) ?_
    refine va_get (D := (dC, dI)) (ci := 2) (v := .ref (a 3)) (C := RX1) (T := TX1) (N := 13) hx hb hts hi_dm_X1_readTexts_X1 hown hK hP 0 rfl rfl 0 (by decide) (hts (.fieldLink RX1 12 "TimeMachine$Assembler" "reader" "LTimeMachine$Reader;") (List.mem_of_getElem? (i := 2) rfl)) (fun _ h9 => h9) rfl dX1_readTexts_78 ?_
    obtain ⟨s23, hq, h⟩ := nd_b1_e h
    have hPc := dp_X1_3 hP
    have hDc := dd_X1_3 hD
    have hKc := dy_X1_3 hK
    have hFc := nd_rs hDc hS hA
    have hzA : ∀ q : Nat, H.size ≤ q → A q := fun q h => hA q (Nat.le_trans hS.1 h)
    refine nd_cVv (As := []) (rest := []) (w' := dw_X9 (fun k => a (k + 3)) (fun k => ac (k + 3)) s23) ⟨hx, hb, hml, hown, hts⟩ (fun sz => dm_X9_next l hlt dC dI (fun k => a (k + 3)) (fun k => ac (k + 3)) n  s20.2 hq sz) (cwV 0 hts gi_dm_X1_readTexts_2 rfl rfl rfl (by decide +kernel) ⟨Nat.le_of_ble_eq_true rfl, Nat.le_of_ble_eq_true rfl⟩) hPc hDc hKc hS hA hN (va_recv hKc hPc (ci := 10) (q0 := 0) rfl rfl) rfl hl.1 rfl (Nat.le_of_ble_eq_true rfl) dX1_readTexts_81 (fun H locs hP1 hD1 hk1 hS => ?_)
    obtain ⟨hP, hD⟩ := dn_X1_3 hP hD hzA hk1 hP1 hD1
    obtain ⟨s25, es25, h⟩ := nd_let_e h
    have hP : va_P (dC, dI) vwCl (dw_X1 a ac s25) H := by rw [es25]; exact hP
    have hD : va_D A (dw_X1 a ac s25) := by rw [es25]; exact hD
    obtain ⟨z26, ez26, h⟩ := nd_let_e h
    refine lv_iinc (v := z26) (lv' := [(3, .int z26), (0, .ref (a 0)), (1, .int x1), (2, .int x2)]) hx hb dX1_readTexts_84 hl (k := 3) rfl (by rw [ez26]) (by decide) rfl (fun ls hl => ?_)
    refine lv_goto (tgt := 14) hx hb dX1_readTexts_87 (by decide) ?_
    exact (J14) (x1) (x2) (z26) s25 _ _ _ h hP hD hS (lv_sub hl [1, 2, 3, 0] rfl)
  · have h := nd_pos h c21
    refine lv_goto (tgt := 90) hx hb dX1_readTexts_74 (by decide) ?_
    exact (db_X1_readTexts_90 C K) (x2) s20 _ _ _ h hP hD hS (lv_sub hl [0, 2] rfl)
set_option maxHeartbeats 40000000 in
set_option maxRecDepth 100000 in
theorem dB_X1_readTexts_14 {p : Program} {l : Launch} {e : Env} {s : State} {m : MethodId} {args : Array Value} {below : List Frame} {meth : Method} {c : Code} {Q : State → Prop} {A : Nat → Prop} {dC : Nat → ClassId} {dI : Nat → Nat → Nat} {a : Nat → Nat} {ac : Nat → ClassId} {n : Nat} {r : St × (St)} (C : nd_C p l s m args c A (dC, dI) cX1_readTexts 4 RX1 ow_dm_X1_readTexts (dk_X1 ac)) (K : nd_Kv p l e (headSpec ow_dm_X1_readTexts ({ frames := 6, cells := 0, slots := 0, locals := 133 })).room s m args below meth c Q A (dC, dI) cX1_readTexts (St × (St)) (dw_X1 a ac) r) {g14 : Int32 → Int32 → Int32 → (St × (St)) → Option (St × (St))} (J14 : dj_X1_readTexts_14 p l e s m args below meth c Q A dC dI a ac g14 r) : dj_X1_readTexts_14 p l e s m args below meth c Q A dC dI a ac (dF_X1_readTexts_14 n g14) r := by
  obtain ⟨hlt, hx, hb, hml, hown, hts, hN, hA, hK⟩ := id C
  intro x1 x2 x3 s0 H locs ls h hP hD hS hl
  unfold dF_X1_readTexts_14 at h
  refine lv_iload_n hx hb dX1_readTexts_14 rfl (lv_at hl 3 rfl) ?_
  refine lv_if_lt (tgt := 90) hx hb dX1_readTexts_15 (by decide) (fun c3 => ?_) (fun c3 => ?_)
  · have h := nd_pos h c3
    exact (db_X1_readTexts_90 C K) (x2) s0 _ _ _ h hP hD hS (lv_sub hl [0, 2] rfl)
  · have h := nd_neg h c3
    refine lv_aload_n hx hb dX1_readTexts_18 rfl (lv_at hl 0 rfl) ?_
    refine va_get (D := (dC, dI)) (ci := 2) (v := .int (sI s0.1 2)) (C := RX1) (T := TX1) (N := 13) hx hb hts hi_dm_X1_readTexts_X1 hown hK hP 0 rfl rfl 5 (by decide) (hts (.fieldLink RX1 32 "TimeMachine$Assembler" "fault" "I") (List.mem_of_getElem? (i := 8) rfl)) (fun _ h9 => h9) rfl dX1_readTexts_19 ?_
    refine lv_if_ne (tgt := 90) hx hb dX1_readTexts_22 (by decide) (fun c7 => ?_) (fun c7 => ?_)
    · have h := nd_neg h c7
      exact (db_X1_readTexts_90 C K) (x2) s0 _ _ _ h hP hD hS (lv_sub hl [0, 2] rfl)
    · have h := nd_pos h c7
      refine lv_aload_n hx hb dX1_readTexts_25 rfl (lv_at hl 0 rfl) ?_
      refine va_get (D := (dC, dI)) (ci := 2) (v := .ref (a 3)) (C := RX1) (T := TX1) (N := 13) hx hb hts hi_dm_X1_readTexts_X1 hown hK hP 0 rfl rfl 0 (by decide) (hts (.fieldLink RX1 12 "TimeMachine$Assembler" "reader" "LTimeMachine$Reader;") (List.mem_of_getElem? (i := 2) rfl)) (fun _ h9 => h9) rfl dX1_readTexts_26 ?_
      refine va_get (D := (dC, dI)) (ci := 10) (v := .int (sI s0.2 2)) (C := RX9) (T := TX9) (N := 20) hx hb hts hi_dm_X1_readTexts_X9 hown hK hP 3 rfl rfl 3 (by decide) (hts (.fieldLink RX1 85 "TimeMachine$Reader" "kind" "I") (List.mem_of_getElem? (i := 9) rfl)) (fun _ h9 => h9) rfl dX1_readTexts_29 ?_
      refine lv_iconst (v := 4) hx hb dX1_readTexts_32 (by decide) ?_
      refine lv_icmp_eq (tgt := 42) hx hb dX1_readTexts_33 (by decide) (fun c8 => ?_) (fun c8 => ?_)
      · have h := nd_pos h c8
        refine lv_aload_n hx hb dX1_readTexts_42 rfl (lv_at hl 0 rfl) ?_
        obtain ⟨s10, hq, h⟩ := nd_b1_e h
        have hPc := hP
        have hDc := hD
        have hKc := hK
        have hFc := nd_rs hD hS hA
        refine nd_cVv (As := []) (rest := []) (w' := dw_X1 a ac s10) ⟨hx, hb, hml, hown, hts⟩ (fun sz => dm_X1_keepText l hlt dC dI a ac n  s0 hq sz) (cwV 0 hts gi_dm_X1_readTexts_1 rfl rfl rfl (by decide +kernel) ⟨Nat.le_of_ble_eq_true rfl, Nat.le_of_ble_eq_true rfl⟩) hPc hDc hKc hS hA hN (va_recv hKc hPc (ci := 2) (q0 := 0) rfl rfl) rfl hl.1 rfl (Nat.le_of_ble_eq_true rfl) dX1_readTexts_43 (fun H locs hP1 hD1 hk1 hS => ?_)
        have hP := hP1
        have hD := hD1.weaken (fun k q _ h => hFc q.1 h)
        refine lv_iload_n hx hb dX1_readTexts_46 rfl (lv_at hl 1 rfl) ?_
        refine lv_if_eq (tgt := 55) hx hb dX1_readTexts_47 (by decide) (fun c12 => ?_) (fun c12 => ?_)
        · have h := nd_pos h c12
          exact (db_X1_readTexts_55 C K J14) (x1) (x2) (x3) s10 _ _ _ h hP hD hS (lv_sub hl [0, 1, 2, 3] rfl)
        · have h := nd_neg h c12
          refine lv_aload_n hx hb dX1_readTexts_50 rfl (lv_at hl 0 rfl) ?_
          refine lv_iconst (v := 0) hx hb dX1_readTexts_51 (by decide) ?_
          obtain ⟨s28, hq, h⟩ := nd_b1_e h
          have hPc := hP
          have hDc := hD
          have hKc := hK
          have hFc := nd_rs hD hS hA
          refine nd_cVv (As := [.int 0]) (rest := []) (w' := dw_X1 a ac s28) ⟨hx, hb, hml, hown, hts⟩ (fun sz => dm_X1_keepLetter l hlt dC dI a ac n (0) s10 hq sz) (cwV 1 hts gi_dm_X1_readTexts_4 rfl rfl rfl (by decide +kernel) ⟨Nat.le_of_ble_eq_true rfl, Nat.le_of_ble_eq_true rfl⟩) hPc hDc hKc hS hA hN (va_recv hKc hPc (ci := 2) (q0 := 0) rfl rfl) rfl hl.1 rfl (Nat.le_of_ble_eq_true rfl) dX1_readTexts_52 (fun H locs hP1 hD1 hk1 hS => ?_)
          have hP := hP1
          have hD := hD1.weaken (fun k q _ h => hFc q.1 h)
          exact (db_X1_readTexts_55 C K J14) (x1) (x2) (x3) s28 _ _ _ h hP hD hS (lv_sub hl [0, 1, 2, 3] rfl)
      · have h := nd_neg h c8
        refine lv_aload_n hx hb dX1_readTexts_36 rfl (lv_at hl 0 rfl) ?_
        refine lv_iconst (v := 1) hx hb dX1_readTexts_37 (by decide) ?_
        obtain ⟨s31, hq, h⟩ := nd_b1_e h
        have hPc := hP
        have hDc := hD
        have hKc := hK
        have hFc := nd_rs hD hS hA
        refine nd_cVv (As := [.int 1]) (rest := []) (w' := dw_X1 a ac s31) ⟨hx, hb, hml, hown, hts⟩ (fun sz => dm_X1_blame l hlt dC dI a ac n (1) s0 hq sz) (cwV 1 hts gi_dm_X1_readTexts_5 rfl rfl rfl (by decide +kernel) ⟨Nat.le_of_ble_eq_true rfl, Nat.le_of_ble_eq_true rfl⟩) hPc hDc hKc hS hA hN (va_recv hKc hPc (ci := 2) (q0 := 0) rfl rfl) rfl hl.1 rfl (Nat.le_of_ble_eq_true rfl) dX1_readTexts_38 (fun H locs hP1 hD1 hk1 hS => ?_)
        have hP := hP1
        have hD := hD1.weaken (fun k q _ h => hFc q.1 h)
        exact K _ _ _ _ _ dX1_readTexts_41 (Option.some.inj h).symm hP hD hS
set_option maxHeartbeats 40000000 in
set_option maxRecDepth 100000 in
theorem db_X1_readTexts_14 {p : Program} {l : Launch} {e : Env} {s : State} {m : MethodId} {args : Array Value} {below : List Frame} {meth : Method} {c : Code} {Q : State → Prop} {A : Nat → Prop} {dC : Nat → ClassId} {dI : Nat → Nat → Nat} {a : Nat → Nat} {ac : Nat → ClassId} {n : Nat} {r : St × (St)} (C : nd_C p l s m args c A (dC, dI) cX1_readTexts 4 RX1 ow_dm_X1_readTexts (dk_X1 ac)) (K : nd_Kv p l e (headSpec ow_dm_X1_readTexts ({ frames := 6, cells := 0, slots := 0, locals := 133 })).room s m args below meth c Q A (dC, dI) cX1_readTexts (St × (St)) (dw_X1 a ac) r) (k : Nat) : dj_X1_readTexts_14 p l e s m args below meth c Q A dC dI a ac (df_X1_readTexts_14 n k) r := by
  induction k with
  | zero => intro x1 x2 x3 s0 H locs ls h; exact nomatch (show (none : Option (St × (St))) = some r from h)
  | succ k ih => exact dB_X1_readTexts_14 C K ih
set_option maxHeartbeats 40000000 in
set_option maxRecDepth 100000 in
theorem db_X1_readTexts_0 {p : Program} {l : Launch} {e : Env} {s : State} {m : MethodId} {args : Array Value} {below : List Frame} {meth : Method} {c : Code} {Q : State → Prop} {A : Nat → Prop} {dC : Nat → ClassId} {dI : Nat → Nat → Nat} {a : Nat → Nat} {ac : Nat → ClassId} {n : Nat} {r : St × (St)} (C : nd_C p l s m args c A (dC, dI) cX1_readTexts 4 RX1 ow_dm_X1_readTexts (dk_X1 ac)) (K : nd_Kv p l e (headSpec ow_dm_X1_readTexts ({ frames := 6, cells := 0, slots := 0, locals := 133 })).room s m args below meth c Q A (dC, dI) cX1_readTexts (St × (St)) (dw_X1 a ac) r) : dj_X1_readTexts_0 p l e s m args below meth c Q A dC dI a ac (df_X1_readTexts_0 n) r := by
  obtain ⟨hlt, hx, hb, hml, hown, hts, hN, hA, hK⟩ := id C
  intro v0 s0 H locs ls h hP hD hS hl
  unfold df_X1_readTexts_0 at h
  refine lv_aload_n hx hb dX1_readTexts_0 rfl (lv_at hl 0 rfl) ?_
  refine va_get (D := (dC, dI)) (ci := 2) (v := .int (sI s0.1 1)) (C := RX1) (T := TX1) (N := 13) hx hb hts hi_dm_X1_readTexts_X1 hown hK hP 0 rfl rfl 4 (by decide) (hts (.fieldLink RX1 68 "TimeMachine$Assembler" "lettersUsed" "I") (List.mem_of_getElem? (i := 1) rfl)) (fun _ h9 => h9) rfl dX1_readTexts_1 ?_
  refine lv_topi (fun z1 ez1 => ?_)
  have h := nd_at h ez1
  refine lv_istore_n (lv' := [(2, .int z1), (0, .ref (a 0)), (1, .int v0)]) hx hb dX1_readTexts_4 rfl hl (by decide) rfl (fun ls hl => ?_)
  refine lv_aload_n hx hb dX1_readTexts_5 rfl (lv_at hl 1 rfl) ?_
  refine va_get (D := (dC, dI)) (ci := 2) (v := .ref (a 3)) (C := RX1) (T := TX1) (N := 13) hx hb hts hi_dm_X1_readTexts_X1 hown hK hP 0 rfl rfl 0 (by decide) (hts (.fieldLink RX1 12 "TimeMachine$Assembler" "reader" "LTimeMachine$Reader;") (List.mem_of_getElem? (i := 2) rfl)) (fun _ h9 => h9) rfl dX1_readTexts_6 ?_
  obtain ⟨o2, h⟩ := nd_o_e h
  refine va_get (D := (dC, dI)) (ci := 10) (v := .ref (a 11)) (C := RX9) (T := TX9) (N := 20) hx hb hts hi_dm_X1_readTexts_X9 hown hK hP 3 rfl rfl 0 (by decide) (hts (.fieldLink RX1 120 "TimeMachine$Reader" "source" "[B") (List.mem_of_getElem? (i := 3) rfl)) (fun _ h9 => h9) (congrArg (fun z => some (va_rf (Option.map (fun k => a (k + 3)) z))) o2) dX1_readTexts_9 ?_
  refine va_alen (v := 32768) hx hb hK hP 11 9 rfl rfl (show Int32.ofNat 32768 = 32768 by decide) dX1_readTexts_12 ?_
  refine lv_istore_n (lv' := [(3, .int 32768), (2, .int z1), (0, .ref (a 0)), (1, .int v0)]) hx hb dX1_readTexts_13 rfl hl (by decide) rfl (fun ls hl => ?_)
  exact (db_X1_readTexts_14 C K n) (v0) (z1) (32768) s0 _ _ _ h hP hD hS (lv_sub hl [2, 3, 1, 0] rfl)
set_option maxHeartbeats 40000000 in
set_option maxRecDepth 100000 in
theorem dm_X1_readTexts (l : Launch) (hlt : l.stackTraces = false) (dC : Nat → ClassId) (dI : Nat → Nat → Nat) (a : Nat → Nat) (ac : Nat → ClassId) (n : Nat) (v0 : Int32) (s0 : St × (St)) {r : St × (St)} (h : df_X1_readTexts n v0 s0 = some r) (sz : Nat) : Met l yX1_readTexts ow_dm_X1_readTexts ({ frames := 6, cells := 0, slots := 0, locals := 133 }) (va_Pc [.ref (a 0), .int v0] (fun U => U.heap.size = sz ∧ va_P (dC, dI) vwCl (dw_X1 a ac s0) U.heap ∧ va_K (dC, dI) vwCl (dk_X1 ac) U ∧ va_D (fun _ => True) (dw_X1 a ac s0) ∧ nv_E dI (va_A (dw_X1 a ac s0) sz) U)) (va_Qv (fun _ => True) (fun (_ : Unit) t => va_P (dC, dI) vwCl (dw_X1 a ac r) t.heap ∧ va_K (dC, dI) vwCl (dk_X1 ac) t ∧ va_D (va_A (dw_X1 a ac s0) sz) (dw_X1 a ac r)) (va_A (dw_X1 a ac s0) sz)) 0 0 (va_A (dw_X1 a ac s0) sz) := by
  refine Met.ofW (cc := cX1_readTexts) (maxL := 4) (ret := none) (by decide) rfl ?_
  intro p e s m args below meth c s₁ B hml hv
  obtain ⟨rfl, hsz, hP, hK, hD0, hN⟩ := hv
  have hx := B.exec
  have hb := B.bytes
  have hr := B.returns
  have hts := atoms_spec (ws := ow_dm_X1_readTexts) B.pre
  have hown : s.vm.findClass RX1 = some m.cls := findClass_of_methodNamed B.named
  have hlocks := B.notSynchronized
  subst hsz
  have hD := hD0.self (sz := s.heap.size)
  generalize hAe : va_A (dw_X1 a ac s0) s.heap.size = A at hD hN ⊢
  have hA : ∀ q : Nat, s.heap.size ≤ q → A q := fun q h => by rw [← hAe]; exact Or.inr h
  have hl := lv_entry ([.ref (a 0), .int v0]) (n := 4) (Nat.le_of_ble_eq_true rfl)
  rw [lg_entry_eq]
  generalize (lg_sl ([.ref (a 0), .int v0]) ++ List.replicate (4 - (lg_sl ([.ref (a 0), .int v0])).length) Slot.unset).toArray = ls at hl ⊢
  have hl : lv_has ls 4 [(0, .ref (a 0)), (1, .int v0)] := hl
  exact db_X1_readTexts_0 (dC := dC) (dI := dI) (a := a) (ac := ac) (n := n) (r := r) ⟨hlt, hx, hb, hml, hown, hts, hN, hA, hK⟩ (fun pc τ H locs ls d er hP hD hS => by subst er; exact W.vret hx hb hr (fun t ht hW => ⟨⟨(), rfl, trivial, by rw [ht]; exact hP, va_K.moved hW.alike hK, hD⟩, hS.F ht⟩) hS.2.2 d) v0 s0 _ _ _ h hP hD va_S.rf (lv_sub hl [0, 1] rfl)
def ow_dm_X1_isRegister : List Cond := Cond.code yX1_isRegister cX1_isRegister 1 (some .boolean) :: ([Cond.fieldLink RX1 12 "TimeMachine$Assembler" "reader" "LTimeMachine$Reader;", Cond.fieldLink RX1 85 "TimeMachine$Reader" "kind" "I", Cond.fieldLink RX1 120 "TimeMachine$Reader" "source" "[B", Cond.fieldLink RX1 88 "TimeMachine$Reader" "from" "I", Cond.fieldLink RX1 91 "TimeMachine$Reader" "at" "I", Cond.methodLink RX1 123 yX7_registerAt, Cond.static yX7_registerAt, Cond.initialized RX7] ++ (u_ws RX1 TX1 13 ++ (u_ws RX9 TX9 20 ++ (ow_dm_X7_registerAt ++ []))))
theorem gd_dm_X1_isRegister : ∀ w ∈ ow_dm_X1_isRegister, (w.onTables && w.keeps) = true ∨ ∃ ty, w = Cond.arrayClass ty := List.forall_mem_cons.mpr ⟨good_of_word rfl, List.forall_mem_append.mpr ⟨fun w h => good_of_word (List.all_eq_true.mp (by decide +kernel) w h), List.forall_mem_append.mpr ⟨gu_X1, List.forall_mem_append.mpr ⟨gu_X9, List.forall_mem_append.mpr ⟨gd_dm_X7_registerAt, fun _ h => nomatch h⟩⟩⟩⟩⟩
theorem hi_dm_X1_isRegister_X1 : ∀ w ∈ u_ws RX1 TX1 13, w ∈ ow_dm_X1_isRegister := fun w h => List.mem_cons_of_mem _ (List.mem_append_right _ (List.mem_append_left _ h))
theorem hi_dm_X1_isRegister_X9 : ∀ w ∈ u_ws RX9 TX9 20, w ∈ ow_dm_X1_isRegister := fun w h => List.mem_cons_of_mem _ (List.mem_append_right _ (List.mem_append_right _ (List.mem_append_left _ h)))
theorem gi_dm_X1_isRegister_0 : GoodIn ow_dm_X1_isRegister (va_wsS RX1 123 yX7_registerAt ow_dm_X7_registerAt) := goodIn_app (goodIn_of _ (by decide +kernel)) (fun w h => ⟨List.mem_cons_of_mem _ (List.mem_append_right _ (List.mem_append_right _ (List.mem_append_right _ (List.mem_append_left _ h)))), gd_dm_X7_registerAt w h⟩)
def dj_X1_isRegister_51 (p : Program) (l : Launch) (e : Env) (s : State) (m : MethodId) (args : Array Value) (below : List Frame) (meth : Method) (c : Code) (Q : State → Prop) (A : Nat → Prop) (dC : Nat → ClassId) (dI : Nat → Nat → Nat) (a : Nat → Nat) (ac : Nat → ClassId) (g : Int32 → (St × (St)) → Option (Int32 × (St × (St)))) (r : Int32 × (St × (St))) : Prop := ∀ (y0 : Int32) (s0 : St × (St)) (H : Heap) (locs : List Loc) (ls : Array Slot), g y0 s0 = some r → va_P (dC, dI) vwCl (dw_X1 a ac s0) H → va_D A (dw_X1 a ac s0) → va_S A s.heap H locs → lv_has ls 1 [] → W p l e (headSpec ow_dm_X1_isRegister ({ frames := 6, cells := 0, slots := 0, locals := 133 })).room s m args below meth c H locs 0 0 Q (F0 m 51 ls [.int y0])
def dj_X1_isRegister_50 (p : Program) (l : Launch) (e : Env) (s : State) (m : MethodId) (args : Array Value) (below : List Frame) (meth : Method) (c : Code) (Q : State → Prop) (A : Nat → Prop) (dC : Nat → ClassId) (dI : Nat → Nat → Nat) (a : Nat → Nat) (ac : Nat → ClassId) (g : (St × (St)) → Option (Int32 × (St × (St)))) (r : Int32 × (St × (St))) : Prop := ∀ (s0 : St × (St)) (H : Heap) (locs : List Loc) (ls : Array Slot), g s0 = some r → va_P (dC, dI) vwCl (dw_X1 a ac s0) H → va_D A (dw_X1 a ac s0) → va_S A s.heap H locs → lv_has ls 1 [] → W p l e (headSpec ow_dm_X1_isRegister ({ frames := 6, cells := 0, slots := 0, locals := 133 })).room s m args below meth c H locs 0 0 Q (F0 m 50 ls [])
def dj_X1_isRegister_0 (p : Program) (l : Launch) (e : Env) (s : State) (m : MethodId) (args : Array Value) (below : List Frame) (meth : Method) (c : Code) (Q : State → Prop) (A : Nat → Prop) (dC : Nat → ClassId) (dI : Nat → Nat → Nat) (a : Nat → Nat) (ac : Nat → ClassId) (g : (St × (St)) → Option (Int32 × (St × (St)))) (r : Int32 × (St × (St))) : Prop := ∀ (s0 : St × (St)) (H : Heap) (locs : List Loc) (ls : Array Slot), g s0 = some r → va_P (dC, dI) vwCl (dw_X1 a ac s0) H → va_D A (dw_X1 a ac s0) → va_S A s.heap H locs → lv_has ls 1 [(0, .ref (a 0))] → W p l e (headSpec ow_dm_X1_isRegister ({ frames := 6, cells := 0, slots := 0, locals := 133 })).room s m args below meth c H locs 0 0 Q (F0 m 0 ls [])
set_option maxHeartbeats 40000000 in
set_option maxRecDepth 100000 in
theorem db_X1_isRegister_51 {p : Program} {l : Launch} {e : Env} {s : State} {m : MethodId} {args : Array Value} {below : List Frame} {meth : Method} {c : Code} {Q : State → Prop} {A : Nat → Prop} {dC : Nat → ClassId} {dI : Nat → Nat → Nat} {a : Nat → Nat} {ac : Nat → ClassId} {n : Nat} {r : Int32 × (St × (St))} (C : nd_C p l s m args c A (dC, dI) cX1_isRegister 1 RX1 ow_dm_X1_isRegister (dk_X1 ac)) (K : nd_Ki p l e (headSpec ow_dm_X1_isRegister ({ frames := 6, cells := 0, slots := 0, locals := 133 })).room s m args below meth c Q A (dC, dI) cX1_isRegister .boolean (St × (St)) (dw_X1 a ac) r) : dj_X1_isRegister_51 p l e s m args below meth c Q A dC dI a ac (df_X1_isRegister_51 n) r := by
  obtain ⟨hlt, hx, hb, hml, hown, hts, hN, hA, hK⟩ := id C
  intro y0 s0 H locs ls h hP hD hS hl
  unfold df_X1_isRegister_51 at h
  obtain ⟨n2, h⟩ := nd_z_e ⟨_, rfl⟩ h
  exact K _ _ _ _ _ _ dX1_isRegister_51 n2 (Option.some.inj h).symm hP hD hS
set_option maxHeartbeats 40000000 in
set_option maxRecDepth 100000 in
theorem db_X1_isRegister_50 {p : Program} {l : Launch} {e : Env} {s : State} {m : MethodId} {args : Array Value} {below : List Frame} {meth : Method} {c : Code} {Q : State → Prop} {A : Nat → Prop} {dC : Nat → ClassId} {dI : Nat → Nat → Nat} {a : Nat → Nat} {ac : Nat → ClassId} {n : Nat} {r : Int32 × (St × (St))} (C : nd_C p l s m args c A (dC, dI) cX1_isRegister 1 RX1 ow_dm_X1_isRegister (dk_X1 ac)) (K : nd_Ki p l e (headSpec ow_dm_X1_isRegister ({ frames := 6, cells := 0, slots := 0, locals := 133 })).room s m args below meth c Q A (dC, dI) cX1_isRegister .boolean (St × (St)) (dw_X1 a ac) r) : dj_X1_isRegister_50 p l e s m args below meth c Q A dC dI a ac (df_X1_isRegister_50 n) r := by
  obtain ⟨hlt, hx, hb, hml, hown, hts, hN, hA, hK⟩ := id C
  intro s0 H locs ls h hP hD hS hl
  unfold df_X1_isRegister_50 at h
  refine lv_iconst (v := 0) hx hb dX1_isRegister_50 (by decide) ?_
  exact (db_X1_isRegister_51 C K) (0) s0 _ _ _ h hP hD hS (lv_sub hl [] rfl)
set_option maxHeartbeats 40000000 in
set_option maxRecDepth 100000 in
theorem db_X1_isRegister_0 {p : Program} {l : Launch} {e : Env} {s : State} {m : MethodId} {args : Array Value} {below : List Frame} {meth : Method} {c : Code} {Q : State → Prop} {A : Nat → Prop} {dC : Nat → ClassId} {dI : Nat → Nat → Nat} {a : Nat → Nat} {ac : Nat → ClassId} {n : Nat} {r : Int32 × (St × (St))} (C : nd_C p l s m args c A (dC, dI) cX1_isRegister 1 RX1 ow_dm_X1_isRegister (dk_X1 ac)) (K : nd_Ki p l e (headSpec ow_dm_X1_isRegister ({ frames := 6, cells := 0, slots := 0, locals := 133 })).room s m args below meth c Q A (dC, dI) cX1_isRegister .boolean (St × (St)) (dw_X1 a ac) r) : dj_X1_isRegister_0 p l e s m args below meth c Q A dC dI a ac (df_X1_isRegister_0 n) r := by
  obtain ⟨hlt, hx, hb, hml, hown, hts, hN, hA, hK⟩ := id C
  intro s0 H locs ls h hP hD hS hl
  unfold df_X1_isRegister_0 at h
  refine lv_aload_n hx hb dX1_isRegister_0 rfl (lv_at hl 0 rfl) ?_
  refine va_get (D := (dC, dI)) (ci := 2) (v := .ref (a 3)) (C := RX1) (T := TX1) (N := 13) hx hb hts hi_dm_X1_isRegister_X1 hown hK hP 0 rfl rfl 0 (by decide) (hts (.fieldLink RX1 12 "TimeMachine$Assembler" "reader" "LTimeMachine$Reader;") (List.mem_of_getElem? (i := 1) rfl)) (fun _ h9 => h9) rfl dX1_isRegister_1 ?_
  refine va_get (D := (dC, dI)) (ci := 10) (v := .int (sI s0.2 2)) (C := RX9) (T := TX9) (N := 20) hx hb hts hi_dm_X1_isRegister_X9 hown hK hP 3 rfl rfl 3 (by decide) (hts (.fieldLink RX1 85 "TimeMachine$Reader" "kind" "I") (List.mem_of_getElem? (i := 2) rfl)) (fun _ h9 => h9) rfl dX1_isRegister_4 ?_
  refine lv_iconst (v := 1) hx hb dX1_isRegister_7 (by decide) ?_
  refine lv_icmp_ne (tgt := 50) hx hb dX1_isRegister_8 (by decide) (fun c1 => ?_) (fun c1 => ?_)
  · have h := nd_neg h c1
    exact (db_X1_isRegister_50 C K)  s0 _ _ _ h hP hD hS (lv_sub hl [] rfl)
  · have h := nd_pos h c1
    refine lv_aload_n hx hb dX1_isRegister_11 rfl (lv_at hl 0 rfl) ?_
    refine va_get (D := (dC, dI)) (ci := 2) (v := .ref (a 3)) (C := RX1) (T := TX1) (N := 13) hx hb hts hi_dm_X1_isRegister_X1 hown hK hP 0 rfl rfl 0 (by decide) (hts (.fieldLink RX1 12 "TimeMachine$Assembler" "reader" "LTimeMachine$Reader;") (List.mem_of_getElem? (i := 1) rfl)) (fun _ h9 => h9) rfl dX1_isRegister_12 ?_
    obtain ⟨o3, h⟩ := nd_o_e h
    refine va_get (D := (dC, dI)) (ci := 10) (v := .ref (a 11)) (C := RX9) (T := TX9) (N := 20) hx hb hts hi_dm_X1_isRegister_X9 hown hK hP 3 rfl rfl 0 (by decide) (hts (.fieldLink RX1 120 "TimeMachine$Reader" "source" "[B") (List.mem_of_getElem? (i := 3) rfl)) (fun _ h9 => h9) (congrArg (fun z => some (va_rf (Option.map (fun k => a (k + 3)) z))) o3) dX1_isRegister_15 ?_
    refine lv_aload_n hx hb dX1_isRegister_18 rfl (lv_at hl 0 rfl) ?_
    refine va_get (D := (dC, dI)) (ci := 2) (v := .ref (a 3)) (C := RX1) (T := TX1) (N := 13) hx hb hts hi_dm_X1_isRegister_X1 hown hK hP 0 rfl rfl 0 (by decide) (hts (.fieldLink RX1 12 "TimeMachine$Assembler" "reader" "LTimeMachine$Reader;") (List.mem_of_getElem? (i := 1) rfl)) (fun _ h9 => h9) rfl dX1_isRegister_19 ?_
    refine va_get (D := (dC, dI)) (ci := 10) (v := .int (sI s0.2 3)) (C := RX9) (T := TX9) (N := 20) hx hb hts hi_dm_X1_isRegister_X9 hown hK hP 3 rfl rfl 4 (by decide) (hts (.fieldLink RX1 88 "TimeMachine$Reader" "from" "I") (List.mem_of_getElem? (i := 4) rfl)) (fun _ h9 => h9) rfl dX1_isRegister_22 ?_
    refine lv_aload_n hx hb dX1_isRegister_25 rfl (lv_at hl 0 rfl) ?_
    refine va_get (D := (dC, dI)) (ci := 2) (v := .ref (a 3)) (C := RX1) (T := TX1) (N := 13) hx hb hts hi_dm_X1_isRegister_X1 hown hK hP 0 rfl rfl 0 (by decide) (hts (.fieldLink RX1 12 "TimeMachine$Assembler" "reader" "LTimeMachine$Reader;") (List.mem_of_getElem? (i := 1) rfl)) (fun _ h9 => h9) rfl dX1_isRegister_26 ?_
    refine va_get (D := (dC, dI)) (ci := 10) (v := .int (sI s0.2 0)) (C := RX9) (T := TX9) (N := 20) hx hb hts hi_dm_X1_isRegister_X9 hown hK hP 3 rfl rfl 1 (by decide) (hts (.fieldLink RX1 91 "TimeMachine$Reader" "at" "I") (List.mem_of_getElem? (i := 5) rfl)) (fun _ h9 => h9) rfl dX1_isRegister_29 ?_
    refine lv_aload_n hx hb dX1_isRegister_32 rfl (lv_at hl 0 rfl) ?_
    refine va_get (D := (dC, dI)) (ci := 2) (v := .ref (a 3)) (C := RX1) (T := TX1) (N := 13) hx hb hts hi_dm_X1_isRegister_X1 hown hK hP 0 rfl rfl 0 (by decide) (hts (.fieldLink RX1 12 "TimeMachine$Assembler" "reader" "LTimeMachine$Reader;") (List.mem_of_getElem? (i := 1) rfl)) (fun _ h9 => h9) rfl dX1_isRegister_33 ?_
    refine va_get (D := (dC, dI)) (ci := 10) (v := .int (sI s0.2 3)) (C := RX9) (T := TX9) (N := 20) hx hb hts hi_dm_X1_isRegister_X9 hown hK hP 3 rfl rfl 4 (by decide) (hts (.fieldLink RX1 88 "TimeMachine$Reader" "from" "I") (List.mem_of_getElem? (i := 4) rfl)) (fun _ h9 => h9) rfl dX1_isRegister_36 ?_
    refine lv_isub hx hb dX1_isRegister_39 ?_
    obtain ⟨q4, s5, hq, h⟩ := nd_b2_e h
    have hPc := dp_vX1_BY_0 hP
    have hDc := dd_vX1_BY_0 hD
    have hKc := dy_vX1_BY_0 hK
    have hFc := nd_rs hDc hS hA
    have hzA : ∀ q : Nat, H.size ≤ q → A q := fun q h => hA q (Nat.le_trans hS.1 h)
    refine nd_cSi (As := [.ref (a 11), .int (sI s0.2 3), .int ((sI s0.2 0) - (sI s0.2 3))]) (rest := []) (q := q4) (w' := dw_BY (fun k => a (nd_ix [11] k)) (fun k => ac (nd_ix [11] k)) s5) ⟨hx, hb, hml, hown, hts⟩ (fun sz => dm_X7_registerAt l hlt dC dI (fun k => a (nd_ix [11] k)) (fun k => ac (nd_ix [11] k)) n ((sI s0.2 3)) (((sI s0.2 0) - (sI s0.2 3))) ((pR nd_st0 0 (sR s0.2 7))) hq sz) (va_cwS 3 hts gi_dm_X1_isRegister_0 rfl rfl rfl (by decide +kernel) ⟨Nat.le_of_ble_eq_true rfl, Nat.le_of_ble_eq_true rfl⟩) hPc hDc hKc hS hA hN rfl hl.1 rfl (Nat.le_of_ble_eq_true rfl) dX1_isRegister_40 (fun H locs hP1 hD1 hk1 hS => ?_)
    obtain ⟨hP, hD⟩ := dn_vX1_BY_0 hP hD hzA hk1 hP1 hD1
    obtain ⟨s7, es7, h⟩ := nd_let_e h
    have hP : va_P (dC, dI) vwCl (dw_X1 a ac s7) H := by rw [es7]; exact hP
    have hD : va_D A (dw_X1 a ac s7) := by rw [es7]; exact hD
    refine lv_if_lt (tgt := 50) hx hb dX1_isRegister_43 (by decide) (fun c8 => ?_) (fun c8 => ?_)
    · have h := nd_pos h c8
      exact (db_X1_isRegister_50 C K)  s7 _ _ _ h hP hD hS (lv_sub hl [] rfl)
    · have h := nd_neg h c8
      refine lv_iconst (v := 1) hx hb dX1_isRegister_46 (by decide) ?_
      refine lv_goto (tgt := 51) hx hb dX1_isRegister_47 (by decide) ?_
      exact (db_X1_isRegister_51 C K) (1) s7 _ _ _ h hP hD hS (lv_sub hl [] rfl)
set_option maxHeartbeats 40000000 in
set_option maxRecDepth 100000 in
theorem dm_X1_isRegister (l : Launch) (hlt : l.stackTraces = false) (dC : Nat → ClassId) (dI : Nat → Nat → Nat) (a : Nat → Nat) (ac : Nat → ClassId) (n : Nat) (s0 : St × (St)) {r : Int32 × (St × (St))} (h : df_X1_isRegister n s0 = some r) (sz : Nat) : Met l yX1_isRegister ow_dm_X1_isRegister ({ frames := 6, cells := 0, slots := 0, locals := 133 }) (va_Pc [.ref (a 0)] (fun U => U.heap.size = sz ∧ va_P (dC, dI) vwCl (dw_X1 a ac s0) U.heap ∧ va_K (dC, dI) vwCl (dk_X1 ac) U ∧ va_D (fun _ => True) (dw_X1 a ac s0) ∧ nv_E dI (va_A (dw_X1 a ac s0) sz) U)) (va_Qi (fun x _ => x = r.1) (fun (_ : Unit) t => va_P (dC, dI) vwCl (dw_X1 a ac r.2) t.heap ∧ va_K (dC, dI) vwCl (dk_X1 ac) t ∧ va_D (va_A (dw_X1 a ac s0) sz) (dw_X1 a ac r.2)) (va_A (dw_X1 a ac s0) sz)) 0 0 (va_A (dw_X1 a ac s0) sz) := by
  refine Met.ofW (cc := cX1_isRegister) (maxL := 1) (ret := (some .boolean)) (by decide) rfl ?_
  intro p e s m args below meth c s₁ B hml hv
  obtain ⟨rfl, hsz, hP, hK, hD0, hN⟩ := hv
  have hx := B.exec
  have hb := B.bytes
  have hr := B.returns
  have hts := atoms_spec (ws := ow_dm_X1_isRegister) B.pre
  have hown : s.vm.findClass RX1 = some m.cls := findClass_of_methodNamed B.named
  have hlocks := B.notSynchronized
  subst hsz
  have hD := hD0.self (sz := s.heap.size)
  generalize hAe : va_A (dw_X1 a ac s0) s.heap.size = A at hD hN ⊢
  have hA : ∀ q : Nat, s.heap.size ≤ q → A q := fun q h => by rw [← hAe]; exact Or.inr h
  have hl := lv_entry ([.ref (a 0)]) (n := 1) (Nat.le_of_ble_eq_true rfl)
  rw [lg_entry_eq]
  generalize (lg_sl ([.ref (a 0)]) ++ List.replicate (1 - (lg_sl ([.ref (a 0)])).length) Slot.unset).toArray = ls at hl ⊢
  have hl : lv_has ls 1 [(0, .ref (a 0))] := hl
  exact db_X1_isRegister_0 (dC := dC) (dI := dI) (a := a) (ac := ac) (n := n) (r := r) ⟨hlt, hx, hb, hml, hown, hts, hN, hA, hK⟩ (fun pc v τ H locs ls d z er hP hD hS => by subst er; exact W.zret (v := v) hx hb hr z (fun t ht hW => ⟨⟨v, (), rfl, rfl, by rw [ht]; exact hP, va_K.moved hW.alike hK, hD⟩, hS.F ht⟩) hS.2.2 d) s0 _ _ _ h hP hD va_S.rf (lv_sub hl [0] rfl)
def ow_dm_X1_setLetter : List Cond := Cond.code yX1_setLetter cX1_setLetter 2 none :: ([Cond.fieldLink RX1 32 "TimeMachine$Assembler" "fault" "I", Cond.fieldLink RX1 65 "TimeMachine$Assembler" "statements" "I", Cond.fieldLink RX1 19 "TimeMachine$Assembler" "statement" "[I"] ++ (u_ws RX1 TX1 13 ++ []))
theorem gd_dm_X1_setLetter : ∀ w ∈ ow_dm_X1_setLetter, (w.onTables && w.keeps) = true ∨ ∃ ty, w = Cond.arrayClass ty := List.forall_mem_cons.mpr ⟨good_of_word rfl, List.forall_mem_append.mpr ⟨fun w h => good_of_word (List.all_eq_true.mp (by decide +kernel) w h), List.forall_mem_append.mpr ⟨gu_X1, fun _ h => nomatch h⟩⟩⟩
theorem hi_dm_X1_setLetter_X1 : ∀ w ∈ u_ws RX1 TX1 13, w ∈ ow_dm_X1_setLetter := fun w h => List.mem_cons_of_mem _ (List.mem_append_right _ (List.mem_append_left _ h))
def dj_X1_setLetter_32 (p : Program) (l : Launch) (e : Env) (s : State) (m : MethodId) (args : Array Value) (below : List Frame) (meth : Method) (c : Code) (Q : State → Prop) (A : Nat → Prop) (dC : Nat → ClassId) (dI : Nat → Nat → Nat) (a : Nat → Nat) (ac : Nat → ClassId) (g : (St × (St)) → Option (St × (St))) (r : St × (St)) : Prop := ∀ (s0 : St × (St)) (H : Heap) (locs : List Loc) (ls : Array Slot), g s0 = some r → va_P (dC, dI) vwCl (dw_X1 a ac s0) H → va_D A (dw_X1 a ac s0) → va_S A s.heap H locs → lv_has ls 2 [] → W p l e (headSpec ow_dm_X1_setLetter ({ frames := 0, cells := 0, slots := 0, locals := 0 })).room s m args below meth c H locs 0 0 Q (F0 m 32 ls [])
def dj_X1_setLetter_0 (p : Program) (l : Launch) (e : Env) (s : State) (m : MethodId) (args : Array Value) (below : List Frame) (meth : Method) (c : Code) (Q : State → Prop) (A : Nat → Prop) (dC : Nat → ClassId) (dI : Nat → Nat → Nat) (a : Nat → Nat) (ac : Nat → ClassId) (g : Int32 → (St × (St)) → Option (St × (St))) (r : St × (St)) : Prop := ∀ (v0 : Int32) (s0 : St × (St)) (H : Heap) (locs : List Loc) (ls : Array Slot), g v0 s0 = some r → va_P (dC, dI) vwCl (dw_X1 a ac s0) H → va_D A (dw_X1 a ac s0) → va_S A s.heap H locs → lv_has ls 2 [(0, .ref (a 0)), (1, .int v0)] → W p l e (headSpec ow_dm_X1_setLetter ({ frames := 0, cells := 0, slots := 0, locals := 0 })).room s m args below meth c H locs 0 0 Q (F0 m 0 ls [])
set_option maxHeartbeats 40000000 in
set_option maxRecDepth 100000 in
theorem db_X1_setLetter_32 {p : Program} {l : Launch} {e : Env} {s : State} {m : MethodId} {args : Array Value} {below : List Frame} {meth : Method} {c : Code} {Q : State → Prop} {A : Nat → Prop} {dC : Nat → ClassId} {dI : Nat → Nat → Nat} {a : Nat → Nat} {ac : Nat → ClassId} {n : Nat} {r : St × (St)} (C : nd_C p l s m args c A (dC, dI) cX1_setLetter 2 RX1 ow_dm_X1_setLetter (dk_X1 ac)) (K : nd_Kv p l e (headSpec ow_dm_X1_setLetter ({ frames := 0, cells := 0, slots := 0, locals := 0 })).room s m args below meth c Q A (dC, dI) cX1_setLetter (St × (St)) (dw_X1 a ac) r) : dj_X1_setLetter_32 p l e s m args below meth c Q A dC dI a ac (df_X1_setLetter_32 n) r := by
  obtain ⟨hlt, hx, hb, hml, hown, hts, hN, hA, hK⟩ := id C
  intro s0 H locs ls h hP hD hS hl
  unfold df_X1_setLetter_32 at h
  exact K _ _ _ _ _ dX1_setLetter_32 (Option.some.inj h).symm hP hD hS
set_option maxHeartbeats 40000000 in
set_option maxRecDepth 100000 in
theorem db_X1_setLetter_0 {p : Program} {l : Launch} {e : Env} {s : State} {m : MethodId} {args : Array Value} {below : List Frame} {meth : Method} {c : Code} {Q : State → Prop} {A : Nat → Prop} {dC : Nat → ClassId} {dI : Nat → Nat → Nat} {a : Nat → Nat} {ac : Nat → ClassId} {n : Nat} {r : St × (St)} (C : nd_C p l s m args c A (dC, dI) cX1_setLetter 2 RX1 ow_dm_X1_setLetter (dk_X1 ac)) (K : nd_Kv p l e (headSpec ow_dm_X1_setLetter ({ frames := 0, cells := 0, slots := 0, locals := 0 })).room s m args below meth c Q A (dC, dI) cX1_setLetter (St × (St)) (dw_X1 a ac) r) : dj_X1_setLetter_0 p l e s m args below meth c Q A dC dI a ac (df_X1_setLetter_0 n) r := by
  obtain ⟨hlt, hx, hb, hml, hown, hts, hN, hA, hK⟩ := id C
  intro v0 s0 H locs ls h hP hD hS hl
  unfold df_X1_setLetter_0 at h
  refine lv_aload_n hx hb dX1_setLetter_0 rfl (lv_at hl 0 rfl) ?_
  refine va_get (D := (dC, dI)) (ci := 2) (v := .int (sI s0.1 2)) (C := RX1) (T := TX1) (N := 13) hx hb hts hi_dm_X1_setLetter_X1 hown hK hP 0 rfl rfl 5 (by decide) (hts (.fieldLink RX1 32 "TimeMachine$Assembler" "fault" "I") (List.mem_of_getElem? (i := 1) rfl)) (fun _ h9 => h9) rfl dX1_setLetter_1 ?_
  refine lv_if_ne (tgt := 32) hx hb dX1_setLetter_4 (by decide) (fun c1 => ?_) (fun c1 => ?_)
  · have h := nd_neg h c1
    exact (db_X1_setLetter_32 C K)  s0 _ _ _ h hP hD hS (lv_sub hl [] rfl)
  · have h := nd_pos h c1
    refine lv_aload_n hx hb dX1_setLetter_7 rfl (lv_at hl 0 rfl) ?_
    refine va_get (D := (dC, dI)) (ci := 2) (v := .int (sI s0.1 0)) (C := RX1) (T := TX1) (N := 13) hx hb hts hi_dm_X1_setLetter_X1 hown hK hP 0 rfl rfl 2 (by decide) (hts (.fieldLink RX1 65 "TimeMachine$Assembler" "statements" "I") (List.mem_of_getElem? (i := 2) rfl)) (fun _ h9 => h9) rfl dX1_setLetter_8 ?_
    refine lv_if_le (tgt := 32) hx hb dX1_setLetter_11 (by decide) (fun c2 => ?_) (fun c2 => ?_)
    · have h := nd_pos h c2
      exact (db_X1_setLetter_32 C K)  s0 _ _ _ h hP hD hS (lv_sub hl [] rfl)
    · have h := nd_neg h c2
      refine lv_aload_n hx hb dX1_setLetter_14 rfl (lv_at hl 0 rfl) ?_
      refine va_get (D := (dC, dI)) (ci := 2) (v := .ref (a 1)) (C := RX1) (T := TX1) (N := 13) hx hb hts hi_dm_X1_setLetter_X1 hown hK hP 0 rfl rfl 1 (by decide) (hts (.fieldLink RX1 19 "TimeMachine$Assembler" "statement" "[I") (List.mem_of_getElem? (i := 3) rfl)) (fun _ h9 => h9) rfl dX1_setLetter_15 ?_
      refine lv_aload_n hx hb dX1_setLetter_18 rfl (lv_at hl 0 rfl) ?_
      refine va_get (D := (dC, dI)) (ci := 2) (v := .int (sI s0.1 0)) (C := RX1) (T := TX1) (N := 13) hx hb hts hi_dm_X1_setLetter_X1 hown hK hP 0 rfl rfl 2 (by decide) (hts (.fieldLink RX1 65 "TimeMachine$Assembler" "statements" "I") (List.mem_of_getElem? (i := 2) rfl)) (fun _ h9 => h9) rfl dX1_setLetter_19 ?_
      refine lv_iconst (v := 1) hx hb dX1_setLetter_22 (by decide) ?_
      refine lv_isub hx hb dX1_setLetter_23 ?_
      refine lv_bipush (v := 8) hx hb dX1_setLetter_24 (by decide) ?_
      refine lv_imul hx hb dX1_setLetter_26 ?_
      refine lv_bipush (v := 7) hx hb dX1_setLetter_27 (by decide) ?_
      refine lv_iadd hx hb dX1_setLetter_29 ?_
      refine lv_iload_n hx hb dX1_setLetter_30 rfl (lv_at hl 1 rfl) ?_
      obtain ⟨i3, h⟩ := nd_ck_e h
      refine va_iast (i := ((((sI s0.1 0) - 1) * 8) + 7)) (x := v0) hx hb hK hP hD hS 1 0 rfl rfl i3 dX1_setLetter_31 (fun H locs hP hD hS => ?_)
      obtain ⟨s4, es4, h⟩ := nd_let_e h
      have hP : va_P (dC, dI) vwCl (dw_X1 a ac s4) H := by rw [es4]; exact hP
      have hD : va_D A (dw_X1 a ac s4) := by rw [es4]; exact hD
      exact (db_X1_setLetter_32 C K)  s4 _ _ _ h hP hD hS (lv_sub hl [] rfl)
set_option maxHeartbeats 40000000 in
set_option maxRecDepth 100000 in
theorem dm_X1_setLetter (l : Launch) (hlt : l.stackTraces = false) (dC : Nat → ClassId) (dI : Nat → Nat → Nat) (a : Nat → Nat) (ac : Nat → ClassId) (n : Nat) (v0 : Int32) (s0 : St × (St)) {r : St × (St)} (h : df_X1_setLetter n v0 s0 = some r) (sz : Nat) : Met l yX1_setLetter ow_dm_X1_setLetter ({ frames := 0, cells := 0, slots := 0, locals := 0 }) (va_Pc [.ref (a 0), .int v0] (fun U => U.heap.size = sz ∧ va_P (dC, dI) vwCl (dw_X1 a ac s0) U.heap ∧ va_K (dC, dI) vwCl (dk_X1 ac) U ∧ va_D (fun _ => True) (dw_X1 a ac s0) ∧ nv_E dI (va_A (dw_X1 a ac s0) sz) U)) (va_Qv (fun _ => True) (fun (_ : Unit) t => va_P (dC, dI) vwCl (dw_X1 a ac r) t.heap ∧ va_K (dC, dI) vwCl (dk_X1 ac) t ∧ va_D (va_A (dw_X1 a ac s0) sz) (dw_X1 a ac r)) (va_A (dw_X1 a ac s0) sz)) 0 0 (va_A (dw_X1 a ac s0) sz) := by
  refine Met.ofW (cc := cX1_setLetter) (maxL := 2) (ret := none) (by decide) rfl ?_
  intro p e s m args below meth c s₁ B hml hv
  obtain ⟨rfl, hsz, hP, hK, hD0, hN⟩ := hv
  have hx := B.exec
  have hb := B.bytes
  have hr := B.returns
  have hts := atoms_spec (ws := ow_dm_X1_setLetter) B.pre
  have hown : s.vm.findClass RX1 = some m.cls := findClass_of_methodNamed B.named
  have hlocks := B.notSynchronized
  subst hsz
  have hD := hD0.self (sz := s.heap.size)
  generalize hAe : va_A (dw_X1 a ac s0) s.heap.size = A at hD hN ⊢
  have hA : ∀ q : Nat, s.heap.size ≤ q → A q := fun q h => by rw [← hAe]; exact Or.inr h
  have hl := lv_entry ([.ref (a 0), .int v0]) (n := 2) (Nat.le_of_ble_eq_true rfl)
  rw [lg_entry_eq]
  generalize (lg_sl ([.ref (a 0), .int v0]) ++ List.replicate (2 - (lg_sl ([.ref (a 0), .int v0])).length) Slot.unset).toArray = ls at hl ⊢
  have hl : lv_has ls 2 [(0, .ref (a 0)), (1, .int v0)] := hl
  exact db_X1_setLetter_0 (dC := dC) (dI := dI) (a := a) (ac := ac) (n := n) (r := r) ⟨hlt, hx, hb, hml, hown, hts, hN, hA, hK⟩ (fun pc τ H locs ls d er hP hD hS => by subst er; exact W.vret hx hb hr (fun t ht hW => ⟨⟨(), rfl, trivial, by rw [ht]; exact hP, va_K.moved hW.alike hK, hD⟩, hS.F ht⟩) hS.2.2 d) v0 s0 _ _ _ h hP hD va_S.rf (lv_sub hl [0, 1] rfl)
def ow_dm_X1_addInstruction : List Cond := Cond.code yX1_addInstruction cX1_addInstruction 6 none :: ([Cond.fieldLink RX1 148 "TimeMachine$Op" "sort" "I", Cond.methodLink RX1 176 yX1_add, Cond.instanceMethod yX1_add, Cond.selects RX1 yX1_add yX1_add, Cond.initialized RX1, Cond.methodLink RX1 253 yX1_setLetter, Cond.instanceMethod yX1_setLetter, Cond.selects RX1 yX1_setLetter yX1_setLetter] ++ (ow_dm_X1_add ++ (ow_dm_X1_setLetter ++ [])))
theorem gd_dm_X1_addInstruction : ∀ w ∈ ow_dm_X1_addInstruction, (w.onTables && w.keeps) = true ∨ ∃ ty, w = Cond.arrayClass ty := List.forall_mem_cons.mpr ⟨good_of_word rfl, List.forall_mem_append.mpr ⟨fun w h => good_of_word (List.all_eq_true.mp (by decide +kernel) w h), List.forall_mem_append.mpr ⟨gd_dm_X1_add, List.forall_mem_append.mpr ⟨gd_dm_X1_setLetter, fun _ h => nomatch h⟩⟩⟩⟩
theorem gi_dm_X1_addInstruction_0 : GoodIn ow_dm_X1_addInstruction (wsV RX1 176 RX1 yX1_add ow_dm_X1_add) := goodIn_app (goodIn_of _ (by decide +kernel)) (fun w h => ⟨List.mem_cons_of_mem _ (List.mem_append_right _ (List.mem_append_left _ h)), gd_dm_X1_add w h⟩)
theorem gi_dm_X1_addInstruction_1 : GoodIn ow_dm_X1_addInstruction (wsV RX1 253 RX1 yX1_setLetter ow_dm_X1_setLetter) := goodIn_app (goodIn_of _ (by decide +kernel)) (fun w h => ⟨List.mem_cons_of_mem _ (List.mem_append_right _ (List.mem_append_right _ (List.mem_append_left _ h))), gd_dm_X1_setLetter w h⟩)
def dj_X1_addInstruction_124 (p : Program) (l : Launch) (e : Env) (s : State) (m : MethodId) (args : Array Value) (below : List Frame) (meth : Method) (c : Code) (Q : State → Prop) (A : Nat → Prop) (dC : Nat → ClassId) (dI : Nat → Nat → Nat) (a : Nat → Nat) (ac : Nat → ClassId) (g : (St × (St)) → Option (St × (St))) (r : St × (St)) : Prop := ∀ (s0 : St × (St)) (H : Heap) (locs : List Loc) (ls : Array Slot), g s0 = some r → va_P (dC, dI) vwCl (dw_X1 a ac s0) H → va_D A (dw_X1 a ac s0) → va_S A s.heap H locs → lv_has ls 6 [] → W p l e (headSpec ow_dm_X1_addInstruction ({ frames := 1, cells := 0, slots := 0, locals := 25 })).room s m args below meth c H locs 0 0 Q (F0 m 124 ls [])
def dj_X1_addInstruction_113 (p : Program) (l : Launch) (e : Env) (s : State) (m : MethodId) (args : Array Value) (below : List Frame) (meth : Method) (c : Code) (Q : State → Prop) (A : Nat → Prop) (dC : Nat → ClassId) (dI : Nat → Nat → Nat) (a : Nat → Nat) (ac : Nat → ClassId) (g : Int32 → Int32 → Int32 → Int32 → Int32 → (St × (St)) → Option (St × (St))) (r : St × (St)) : Prop := ∀ (x2 : Int32) (x3 : Int32) (x4 : Int32) (y1 : Int32) (y2 : Int32) (s0 : St × (St)) (H : Heap) (locs : List Loc) (ls : Array Slot), g x2 x3 x4 y1 y2 s0 = some r → va_P (dC, dI) vwCl (dw_X1 a ac s0) H → va_D A (dw_X1 a ac s0) → va_S A s.heap H locs → lv_has ls 6 [(0, .ref (a 0)), (2, .int x2), (3, .int x3), (4, .int x4)] → W p l e (headSpec ow_dm_X1_addInstruction ({ frames := 1, cells := 0, slots := 0, locals := 25 })).room s m args below meth c H locs 0 0 Q (F0 m 113 ls [.int y2, .int y1, .ref (a 0)])
def dj_X1_addInstruction_69 (p : Program) (l : Launch) (e : Env) (s : State) (m : MethodId) (args : Array Value) (below : List Frame) (meth : Method) (c : Code) (Q : State → Prop) (A : Nat → Prop) (dC : Nat → ClassId) (dI : Nat → Nat → Nat) (a : Nat → Nat) (ac : Nat → ClassId) (g : Int32 → Int32 → Int32 → Int32 → (St × (St)) → Option (St × (St))) (r : St × (St)) : Prop := ∀ (x2 : Int32) (x3 : Int32) (y1 : Int32) (y2 : Int32) (s0 : St × (St)) (H : Heap) (locs : List Loc) (ls : Array Slot), g x2 x3 y1 y2 s0 = some r → va_P (dC, dI) vwCl (dw_X1 a ac s0) H → va_D A (dw_X1 a ac s0) → va_S A s.heap H locs → lv_has ls 6 [(2, .int x2), (3, .int x3)] → W p l e (headSpec ow_dm_X1_addInstruction ({ frames := 1, cells := 0, slots := 0, locals := 25 })).room s m args below meth c H locs 0 0 Q (F0 m 69 ls [.int y2, .int y1, .ref (a 0)])
def dj_X1_addInstruction_68 (p : Program) (l : Launch) (e : Env) (s : State) (m : MethodId) (args : Array Value) (below : List Frame) (meth : Method) (c : Code) (Q : State → Prop) (A : Nat → Prop) (dC : Nat → ClassId) (dI : Nat → Nat → Nat) (a : Nat → Nat) (ac : Nat → ClassId) (g : Int32 → Int32 → Int32 → (St × (St)) → Option (St × (St))) (r : St × (St)) : Prop := ∀ (x2 : Int32) (x3 : Int32) (y1 : Int32) (s0 : St × (St)) (H : Heap) (locs : List Loc) (ls : Array Slot), g x2 x3 y1 s0 = some r → va_P (dC, dI) vwCl (dw_X1 a ac s0) H → va_D A (dw_X1 a ac s0) → va_S A s.heap H locs → lv_has ls 6 [(2, .int x2), (3, .int x3)] → W p l e (headSpec ow_dm_X1_addInstruction ({ frames := 1, cells := 0, slots := 0, locals := 25 })).room s m args below meth c H locs 0 0 Q (F0 m 68 ls [.int y1, .ref (a 0)])
def dj_X1_addInstruction_0 (p : Program) (l : Launch) (e : Env) (s : State) (m : MethodId) (args : Array Value) (below : List Frame) (meth : Method) (c : Code) (Q : State → Prop) (A : Nat → Prop) (dC : Nat → ClassId) (dI : Nat → Nat → Nat) (a : Nat → Nat) (ac : Nat → ClassId) (g : Nat → Int32 → Int32 → Int32 → (St × (St)) → Option (St × (St))) (r : St × (St)) : Prop := ∀ (v0 : Nat) (v1 : Int32) (v2 : Int32) (v3 : Int32) (s0 : St × (St)) (H : Heap) (locs : List Loc) (ls : Array Slot), g v0 v1 v2 v3 s0 = some r → va_P (dC, dI) vwCl (dw_X1 a ac s0) H → va_D A (dw_X1 a ac s0) → va_S A s.heap H locs → lv_has ls 6 [(0, .ref (a 0)), (1, .ref (dI 1002 v0)), (2, .int v1), (3, .int v2), (4, .int v3)] → W p l e (headSpec ow_dm_X1_addInstruction ({ frames := 1, cells := 0, slots := 0, locals := 25 })).room s m args below meth c H locs 0 0 Q (F0 m 0 ls [])
set_option maxHeartbeats 40000000 in
set_option maxRecDepth 100000 in
theorem db_X1_addInstruction_124 {p : Program} {l : Launch} {e : Env} {s : State} {m : MethodId} {args : Array Value} {below : List Frame} {meth : Method} {c : Code} {Q : State → Prop} {A : Nat → Prop} {dC : Nat → ClassId} {dI : Nat → Nat → Nat} {a : Nat → Nat} {ac : Nat → ClassId} {n : Nat} {r : St × (St)} (C : nd_C p l s m args c A (dC, dI) cX1_addInstruction 6 RX1 ow_dm_X1_addInstruction (dk_X1 ac)) (K : nd_Kv p l e (headSpec ow_dm_X1_addInstruction ({ frames := 1, cells := 0, slots := 0, locals := 25 })).room s m args below meth c Q A (dC, dI) cX1_addInstruction (St × (St)) (dw_X1 a ac) r) : dj_X1_addInstruction_124 p l e s m args below meth c Q A dC dI a ac (df_X1_addInstruction_124 n) r := by
  obtain ⟨hlt, hx, hb, hml, hown, hts, hN, hA, hK⟩ := id C
  intro s0 H locs ls h hP hD hS hl
  unfold df_X1_addInstruction_124 at h
  exact K _ _ _ _ _ dX1_addInstruction_124 (Option.some.inj h).symm hP hD hS
set_option maxHeartbeats 40000000 in
set_option maxRecDepth 100000 in
theorem db_X1_addInstruction_113 {p : Program} {l : Launch} {e : Env} {s : State} {m : MethodId} {args : Array Value} {below : List Frame} {meth : Method} {c : Code} {Q : State → Prop} {A : Nat → Prop} {dC : Nat → ClassId} {dI : Nat → Nat → Nat} {a : Nat → Nat} {ac : Nat → ClassId} {n : Nat} {r : St × (St)} (C : nd_C p l s m args c A (dC, dI) cX1_addInstruction 6 RX1 ow_dm_X1_addInstruction (dk_X1 ac)) (K : nd_Kv p l e (headSpec ow_dm_X1_addInstruction ({ frames := 1, cells := 0, slots := 0, locals := 25 })).room s m args below meth c Q A (dC, dI) cX1_addInstruction (St × (St)) (dw_X1 a ac) r) : dj_X1_addInstruction_113 p l e s m args below meth c Q A dC dI a ac (df_X1_addInstruction_113 n) r := by
  obtain ⟨hlt, hx, hb, hml, hown, hts, hN, hA, hK⟩ := id C
  intro x2 x3 x4 y1 y2 s0 H locs ls h hP hD hS hl
  unfold df_X1_addInstruction_113 at h
  refine lv_iload_n hx hb dX1_addInstruction_113 rfl (lv_at hl 1 rfl) ?_
  refine lv_iload_n hx hb dX1_addInstruction_114 rfl (lv_at hl 2 rfl) ?_
  obtain ⟨s9, hq, h⟩ := nd_b1_e h
  have hPc := hP
  have hDc := hD
  have hKc := hK
  have hFc := nd_rs hD hS hA
  refine nd_cVv (As := [.int y1, .int y2, .int x2, .int x3]) (rest := []) (w' := dw_X1 a ac s9) ⟨hx, hb, hml, hown, hts⟩ (fun sz => dm_X1_add l hlt dC dI a ac n (y1) (y2) (x2) (x3) s0 hq sz) (cwV 4 hts gi_dm_X1_addInstruction_0 rfl rfl rfl (by decide +kernel) ⟨Nat.le_of_ble_eq_true rfl, Nat.le_of_ble_eq_true rfl⟩) hPc hDc hKc hS hA hN (va_recv hKc hPc (ci := 2) (q0 := 0) rfl rfl) rfl hl.1 rfl (Nat.le_of_ble_eq_true rfl) dX1_addInstruction_115 (fun H locs hP1 hD1 hk1 hS => ?_)
  have hP := hP1
  have hD := hD1.weaken (fun k q _ h => hFc q.1 h)
  refine lv_aload_n hx hb dX1_addInstruction_118 rfl (lv_at hl 0 rfl) ?_
  refine lv_iload hx hb dX1_addInstruction_119 (lv_at hl 3 rfl) ?_
  obtain ⟨s12, hq, h⟩ := nd_b1_e h
  have hPc := hP
  have hDc := hD
  have hKc := hK
  have hFc := nd_rs hD hS hA
  refine nd_cVv (As := [.int x4]) (rest := []) (w' := dw_X1 a ac s12) ⟨hx, hb, hml, hown, hts⟩ (fun sz => dm_X1_setLetter l hlt dC dI a ac n (x4) s9 hq sz) (cwV 1 hts gi_dm_X1_addInstruction_1 rfl rfl rfl (by decide +kernel) ⟨Nat.le_of_ble_eq_true rfl, Nat.le_of_ble_eq_true rfl⟩) hPc hDc hKc hS hA hN (va_recv hKc hPc (ci := 2) (q0 := 0) rfl rfl) rfl hl.1 rfl (Nat.le_of_ble_eq_true rfl) dX1_addInstruction_121 (fun H locs hP1 hD1 hk1 hS => ?_)
  have hP := hP1
  have hD := hD1.weaken (fun k q _ h => hFc q.1 h)
  exact (db_X1_addInstruction_124 C K)  s12 _ _ _ h hP hD hS (lv_sub hl [] rfl)
set_option maxHeartbeats 40000000 in
set_option maxRecDepth 100000 in
theorem db_X1_addInstruction_69 {p : Program} {l : Launch} {e : Env} {s : State} {m : MethodId} {args : Array Value} {below : List Frame} {meth : Method} {c : Code} {Q : State → Prop} {A : Nat → Prop} {dC : Nat → ClassId} {dI : Nat → Nat → Nat} {a : Nat → Nat} {ac : Nat → ClassId} {n : Nat} {r : St × (St)} (C : nd_C p l s m args c A (dC, dI) cX1_addInstruction 6 RX1 ow_dm_X1_addInstruction (dk_X1 ac)) (K : nd_Kv p l e (headSpec ow_dm_X1_addInstruction ({ frames := 1, cells := 0, slots := 0, locals := 25 })).room s m args below meth c Q A (dC, dI) cX1_addInstruction (St × (St)) (dw_X1 a ac) r) : dj_X1_addInstruction_69 p l e s m args below meth c Q A dC dI a ac (df_X1_addInstruction_69 n) r := by
  obtain ⟨hlt, hx, hb, hml, hown, hts, hN, hA, hK⟩ := id C
  intro x2 x3 y1 y2 s0 H locs ls h hP hD hS hl
  unfold df_X1_addInstruction_69 at h
  refine lv_iload_n hx hb dX1_addInstruction_69 rfl (lv_at hl 0 rfl) ?_
  refine lv_iload_n hx hb dX1_addInstruction_70 rfl (lv_at hl 1 rfl) ?_
  obtain ⟨s21, hq, h⟩ := nd_b1_e h
  have hPc := hP
  have hDc := hD
  have hKc := hK
  have hFc := nd_rs hD hS hA
  refine nd_cVv (As := [.int y1, .int y2, .int x2, .int x3]) (rest := []) (w' := dw_X1 a ac s21) ⟨hx, hb, hml, hown, hts⟩ (fun sz => dm_X1_add l hlt dC dI a ac n (y1) (y2) (x2) (x3) s0 hq sz) (cwV 4 hts gi_dm_X1_addInstruction_0 rfl rfl rfl (by decide +kernel) ⟨Nat.le_of_ble_eq_true rfl, Nat.le_of_ble_eq_true rfl⟩) hPc hDc hKc hS hA hN (va_recv hKc hPc (ci := 2) (q0 := 0) rfl rfl) rfl hl.1 rfl (Nat.le_of_ble_eq_true rfl) dX1_addInstruction_71 (fun H locs hP1 hD1 hk1 hS => ?_)
  have hP := hP1
  have hD := hD1.weaken (fun k q _ h => hFc q.1 h)
  refine lv_goto (tgt := 124) hx hb dX1_addInstruction_74 (by decide) ?_
  exact (db_X1_addInstruction_124 C K)  s21 _ _ _ h hP hD hS (lv_sub hl [] rfl)
set_option maxHeartbeats 40000000 in
set_option maxRecDepth 100000 in
theorem db_X1_addInstruction_68 {p : Program} {l : Launch} {e : Env} {s : State} {m : MethodId} {args : Array Value} {below : List Frame} {meth : Method} {c : Code} {Q : State → Prop} {A : Nat → Prop} {dC : Nat → ClassId} {dI : Nat → Nat → Nat} {a : Nat → Nat} {ac : Nat → ClassId} {n : Nat} {r : St × (St)} (C : nd_C p l s m args c A (dC, dI) cX1_addInstruction 6 RX1 ow_dm_X1_addInstruction (dk_X1 ac)) (K : nd_Kv p l e (headSpec ow_dm_X1_addInstruction ({ frames := 1, cells := 0, slots := 0, locals := 25 })).room s m args below meth c Q A (dC, dI) cX1_addInstruction (St × (St)) (dw_X1 a ac) r) : dj_X1_addInstruction_68 p l e s m args below meth c Q A dC dI a ac (df_X1_addInstruction_68 n) r := by
  obtain ⟨hlt, hx, hb, hml, hown, hts, hN, hA, hK⟩ := id C
  intro x2 x3 y1 s0 H locs ls h hP hD hS hl
  unfold df_X1_addInstruction_68 at h
  refine lv_iconst (v := 4) hx hb dX1_addInstruction_68 (by decide) ?_
  exact (db_X1_addInstruction_69 C K) (x2) (x3) (y1) (4) s0 _ _ _ h hP hD hS (lv_sub hl [0, 1] rfl)
set_option maxHeartbeats 40000000 in
set_option maxRecDepth 100000 in
theorem db_X1_addInstruction_0 {p : Program} {l : Launch} {e : Env} {s : State} {m : MethodId} {args : Array Value} {below : List Frame} {meth : Method} {c : Code} {Q : State → Prop} {A : Nat → Prop} {dC : Nat → ClassId} {dI : Nat → Nat → Nat} {a : Nat → Nat} {ac : Nat → ClassId} {n : Nat} {r : St × (St)} (C : nd_C p l s m args c A (dC, dI) cX1_addInstruction 6 RX1 ow_dm_X1_addInstruction (dk_X1 ac)) (K : nd_Kv p l e (headSpec ow_dm_X1_addInstruction ({ frames := 1, cells := 0, slots := 0, locals := 25 })).room s m args below meth c Q A (dC, dI) cX1_addInstruction (St × (St)) (dw_X1 a ac) r) : dj_X1_addInstruction_0 p l e s m args below meth c Q A dC dI a ac (df_X1_addInstruction_0 n) r := by
  obtain ⟨hlt, hx, hb, hml, hown, hts, hN, hA, hK⟩ := id C
  intro v0 v1 v2 v3 s0 H locs ls h hP hD hS hl
  unfold df_X1_addInstruction_0 at h
  refine lv_aload_n hx hb dX1_addInstruction_0 rfl (lv_at hl 1 rfl) ?_
  obtain ⟨i1, h⟩ := nd_lt_e h
  refine vk_getf hx hb (hN.2.2.2.2.2.2.2.2.2.2.2.2.2.2.1 v0 i1).2.2.2.2.2 hS hown (hts (.fieldLink RX1 148 "TimeMachine$Op" "sort" "I") (List.mem_of_getElem? (i := 1) rfl)) (fun _ h9 => h9) dX1_addInstruction_1 ?_
  refine lv_bipush (v := 8) hx hb dX1_addInstruction_4 (by decide) ?_
  refine lv_iand hx hb dX1_addInstruction_6 ?_
  refine lv_if_eq (tgt := 21) hx hb dX1_addInstruction_7 (by decide) (fun c2 => ?_) (fun c2 => ?_)
  · have h := nd_pos h c2
    refine lv_aload_n hx hb dX1_addInstruction_21 rfl (lv_at hl 1 rfl) ?_
    obtain ⟨i3, h⟩ := nd_lt_e h
    refine vk_getf hx hb (hN.2.2.2.2.2.2.2.2.2.2.2.2.2.2.1 v0 i3).2.2.2.2.2 hS hown (hts (.fieldLink RX1 148 "TimeMachine$Op" "sort" "I") (List.mem_of_getElem? (i := 1) rfl)) (fun _ h9 => h9) dX1_addInstruction_22 ?_
    refine lv_iconst (v := 2) hx hb dX1_addInstruction_25 (by decide) ?_
    refine lv_iand hx hb dX1_addInstruction_26 ?_
    refine lv_if_eq (tgt := 77) hx hb dX1_addInstruction_27 (by decide) (fun c4 => ?_) (fun c4 => ?_)
    · have h := nd_pos h c4
      refine lv_aload_n hx hb dX1_addInstruction_77 rfl (lv_at hl 1 rfl) ?_
      obtain ⟨i5, h⟩ := nd_lt_e h
      refine vk_getf hx hb (hN.2.2.2.2.2.2.2.2.2.2.2.2.2.2.1 v0 i5).2.2.2.2.2 hS hown (hts (.fieldLink RX1 148 "TimeMachine$Op" "sort" "I") (List.mem_of_getElem? (i := 1) rfl)) (fun _ h9 => h9) dX1_addInstruction_78 ?_
      refine lv_bipush (v := 16) hx hb dX1_addInstruction_81 (by decide) ?_
      refine lv_iand hx hb dX1_addInstruction_83 ?_
      refine lv_if_eq (tgt := 99) hx hb dX1_addInstruction_84 (by decide) (fun c6 => ?_) (fun c6 => ?_)
      · have h := nd_pos h c6
        refine lv_aload_n hx hb dX1_addInstruction_99 rfl (lv_at hl 0 rfl) ?_
        refine lv_iconst (v := 0) hx hb dX1_addInstruction_100 (by decide) ?_
        refine lv_iload_n hx hb dX1_addInstruction_101 rfl (lv_at hl 2 rfl) ?_
        refine lv_iconst (v := 3) hx hb dX1_addInstruction_102 (by decide) ?_
        refine lv_iand hx hb dX1_addInstruction_103 ?_
        refine lv_iconst (v := 3) hx hb dX1_addInstruction_104 (by decide) ?_
        refine lv_icmp_ne (tgt := 112) hx hb dX1_addInstruction_105 (by decide) (fun c7 => ?_) (fun c7 => ?_)
        · have h := nd_neg h c7
          refine lv_iconst (v := 2) hx hb dX1_addInstruction_112 (by decide) ?_
          exact (db_X1_addInstruction_113 C K) (v1) (v2) (v3) (0) (2) s0 _ _ _ h hP hD hS (lv_sub hl [0, 2, 3, 4] rfl)
        · have h := nd_pos h c7
          refine lv_iconst (v := 4) hx hb dX1_addInstruction_108 (by decide) ?_
          refine lv_goto (tgt := 113) hx hb dX1_addInstruction_109 (by decide) ?_
          exact (db_X1_addInstruction_113 C K) (v1) (v2) (v3) (0) (4) s0 _ _ _ h hP hD hS (lv_sub hl [0, 2, 3, 4] rfl)
      · have h := nd_neg h c6
        refine lv_aload_n hx hb dX1_addInstruction_87 rfl (lv_at hl 0 rfl) ?_
        refine lv_iconst (v := 3) hx hb dX1_addInstruction_88 (by decide) ?_
        refine lv_bipush (v := 8) hx hb dX1_addInstruction_89 (by decide) ?_
        refine lv_iload_n hx hb dX1_addInstruction_91 rfl (lv_at hl 2 rfl) ?_
        refine lv_iload_n hx hb dX1_addInstruction_92 rfl (lv_at hl 3 rfl) ?_
        obtain ⟨s15, hq, h⟩ := nd_b1_e h
        have hPc := hP
        have hDc := hD
        have hKc := hK
        have hFc := nd_rs hD hS hA
        refine nd_cVv (As := [.int 3, .int 8, .int v1, .int v2]) (rest := []) (w' := dw_X1 a ac s15) ⟨hx, hb, hml, hown, hts⟩ (fun sz => dm_X1_add l hlt dC dI a ac n (3) (8) (v1) (v2) s0 hq sz) (cwV 4 hts gi_dm_X1_addInstruction_0 rfl rfl rfl (by decide +kernel) ⟨Nat.le_of_ble_eq_true rfl, Nat.le_of_ble_eq_true rfl⟩) hPc hDc hKc hS hA hN (va_recv hKc hPc (ci := 2) (q0 := 0) rfl rfl) rfl hl.1 rfl (Nat.le_of_ble_eq_true rfl) dX1_addInstruction_93 (fun H locs hP1 hD1 hk1 hS => ?_)
        have hP := hP1
        have hD := hD1.weaken (fun k q _ h => hFc q.1 h)
        refine lv_goto (tgt := 124) hx hb dX1_addInstruction_96 (by decide) ?_
        exact (db_X1_addInstruction_124 C K)  s15 _ _ _ h hP hD hS (lv_sub hl [] rfl)
    · have h := nd_neg h c4
      refine lv_iload_n hx hb dX1_addInstruction_30 rfl (lv_at hl 2 rfl) ?_
      refine lv_bipush (v := 15) hx hb dX1_addInstruction_31 (by decide) ?_
      refine lv_ishr hx hb dX1_addInstruction_33 ?_
      refine lv_bipush (v := 31) hx hb dX1_addInstruction_34 (by decide) ?_
      refine lv_iand hx hb dX1_addInstruction_36 ?_
      refine lv_topi (fun z17 ez17 => ?_)
      have h := nd_at h ez17
      refine lv_istore (lv' := [(5, .int z17), (0, .ref (a 0)), (1, .ref (dI 1002 v0)), (2, .int v1), (3, .int v2), (4, .int v3)]) hx hb dX1_addInstruction_37 hl (by decide) rfl (fun ls hl => ?_)
      refine lv_aload_n hx hb dX1_addInstruction_39 rfl (lv_at hl 1 rfl) ?_
      refine lv_iconst (v := 2) hx hb dX1_addInstruction_40 (by decide) ?_
      refine lv_aload_n hx hb dX1_addInstruction_41 rfl (lv_at hl 2 rfl) ?_
      obtain ⟨i18, h⟩ := nd_lt_e h
      refine vk_getf hx hb (hN.2.2.2.2.2.2.2.2.2.2.2.2.2.2.1 v0 i18).2.2.2.2.2 hS hown (hts (.fieldLink RX1 148 "TimeMachine$Op" "sort" "I") (List.mem_of_getElem? (i := 1) rfl)) (fun _ h9 => h9) dX1_addInstruction_42 ?_
      refine lv_iconst (v := 4) hx hb dX1_addInstruction_45 (by decide) ?_
      refine lv_iand hx hb dX1_addInstruction_46 ?_
      refine lv_if_eq (tgt := 68) hx hb dX1_addInstruction_47 (by decide) (fun c19 => ?_) (fun c19 => ?_)
      · have h := nd_pos h c19
        exact (db_X1_addInstruction_68 C K) (v1) (v2) (2) s0 _ _ _ h hP hD hS (lv_sub hl [3, 4] rfl)
      · have h := nd_neg h c19
        refine lv_iload hx hb dX1_addInstruction_50 (lv_at hl 0 rfl) ?_
        refine lv_bipush (v := 8) hx hb dX1_addInstruction_52 (by decide) ?_
        refine lv_icmp_lt (tgt := 68) hx hb dX1_addInstruction_54 (by decide) (fun c23 => ?_) (fun c23 => ?_)
        · have h := nd_pos h c23
          exact (db_X1_addInstruction_68 C K) (v1) (v2) (2) s0 _ _ _ h hP hD hS (lv_sub hl [3, 4] rfl)
        · have h := nd_neg h c23
          refine lv_iload hx hb dX1_addInstruction_57 (lv_at hl 0 rfl) ?_
          refine lv_bipush (v := 15) hx hb dX1_addInstruction_59 (by decide) ?_
          refine lv_icmp_gt (tgt := 68) hx hb dX1_addInstruction_61 (by decide) (fun c24 => ?_) (fun c24 => ?_)
          · have h := nd_pos h c24
            exact (db_X1_addInstruction_68 C K) (v1) (v2) (2) s0 _ _ _ h hP hD hS (lv_sub hl [3, 4] rfl)
          · have h := nd_neg h c24
            refine lv_iconst (v := 2) hx hb dX1_addInstruction_64 (by decide) ?_
            refine lv_goto (tgt := 69) hx hb dX1_addInstruction_65 (by decide) ?_
            exact (db_X1_addInstruction_69 C K) (v1) (v2) (2) (2) s0 _ _ _ h hP hD hS (lv_sub hl [3, 4] rfl)
  · have h := nd_neg h c2
    refine lv_aload_n hx hb dX1_addInstruction_10 rfl (lv_at hl 0 rfl) ?_
    refine lv_iconst (v := 1) hx hb dX1_addInstruction_11 (by decide) ?_
    refine lv_iconst (v := 2) hx hb dX1_addInstruction_12 (by decide) ?_
    refine lv_iload_n hx hb dX1_addInstruction_13 rfl (lv_at hl 2 rfl) ?_
    refine lv_iload_n hx hb dX1_addInstruction_14 rfl (lv_at hl 3 rfl) ?_
    obtain ⟨s26, hq, h⟩ := nd_b1_e h
    have hPc := hP
    have hDc := hD
    have hKc := hK
    have hFc := nd_rs hD hS hA
    refine nd_cVv (As := [.int 1, .int 2, .int v1, .int v2]) (rest := []) (w' := dw_X1 a ac s26) ⟨hx, hb, hml, hown, hts⟩ (fun sz => dm_X1_add l hlt dC dI a ac n (1) (2) (v1) (v2) s0 hq sz) (cwV 4 hts gi_dm_X1_addInstruction_0 rfl rfl rfl (by decide +kernel) ⟨Nat.le_of_ble_eq_true rfl, Nat.le_of_ble_eq_true rfl⟩) hPc hDc hKc hS hA hN (va_recv hKc hPc (ci := 2) (q0 := 0) rfl rfl) rfl hl.1 rfl (Nat.le_of_ble_eq_true rfl) dX1_addInstruction_15 (fun H locs hP1 hD1 hk1 hS => ?_)
    have hP := hP1
    have hD := hD1.weaken (fun k q _ h => hFc q.1 h)
    refine lv_goto (tgt := 124) hx hb dX1_addInstruction_18 (by decide) ?_
    exact (db_X1_addInstruction_124 C K)  s26 _ _ _ h hP hD hS (lv_sub hl [] rfl)
set_option maxHeartbeats 40000000 in
set_option maxRecDepth 100000 in
theorem dm_X1_addInstruction (l : Launch) (hlt : l.stackTraces = false) (dC : Nat → ClassId) (dI : Nat → Nat → Nat) (a : Nat → Nat) (ac : Nat → ClassId) (n : Nat) (v0 : Nat) (v1 : Int32) (v2 : Int32) (v3 : Int32) (s0 : St × (St)) {r : St × (St)} (h : df_X1_addInstruction n v0 v1 v2 v3 s0 = some r) (sz : Nat) : Met l yX1_addInstruction ow_dm_X1_addInstruction ({ frames := 1, cells := 0, slots := 0, locals := 25 }) (va_Pc [.ref (a 0), .ref (dI 1002 v0), .int v1, .int v2, .int v3] (fun U => U.heap.size = sz ∧ va_P (dC, dI) vwCl (dw_X1 a ac s0) U.heap ∧ va_K (dC, dI) vwCl (dk_X1 ac) U ∧ va_D (fun _ => True) (dw_X1 a ac s0) ∧ nv_E dI (va_A (dw_X1 a ac s0) sz) U)) (va_Qv (fun _ => True) (fun (_ : Unit) t => va_P (dC, dI) vwCl (dw_X1 a ac r) t.heap ∧ va_K (dC, dI) vwCl (dk_X1 ac) t ∧ va_D (va_A (dw_X1 a ac s0) sz) (dw_X1 a ac r)) (va_A (dw_X1 a ac s0) sz)) 0 0 (va_A (dw_X1 a ac s0) sz) := by
  refine Met.ofW (cc := cX1_addInstruction) (maxL := 6) (ret := none) (by decide) rfl ?_
  intro p e s m args below meth c s₁ B hml hv
  obtain ⟨rfl, hsz, hP, hK, hD0, hN⟩ := hv
  have hx := B.exec
  have hb := B.bytes
  have hr := B.returns
  have hts := atoms_spec (ws := ow_dm_X1_addInstruction) B.pre
  have hown : s.vm.findClass RX1 = some m.cls := findClass_of_methodNamed B.named
  have hlocks := B.notSynchronized
  subst hsz
  have hD := hD0.self (sz := s.heap.size)
  generalize hAe : va_A (dw_X1 a ac s0) s.heap.size = A at hD hN ⊢
  have hA : ∀ q : Nat, s.heap.size ≤ q → A q := fun q h => by rw [← hAe]; exact Or.inr h
  have hl := lv_entry ([.ref (a 0), .ref (dI 1002 v0), .int v1, .int v2, .int v3]) (n := 6) (Nat.le_of_ble_eq_true rfl)
  rw [lg_entry_eq]
  generalize (lg_sl ([.ref (a 0), .ref (dI 1002 v0), .int v1, .int v2, .int v3]) ++ List.replicate (6 - (lg_sl ([.ref (a 0), .ref (dI 1002 v0), .int v1, .int v2, .int v3])).length) Slot.unset).toArray = ls at hl ⊢
  have hl : lv_has ls 6 [(0, .ref (a 0)), (1, .ref (dI 1002 v0)), (2, .int v1), (3, .int v2), (4, .int v3)] := hl
  exact db_X1_addInstruction_0 (dC := dC) (dI := dI) (a := a) (ac := ac) (n := n) (r := r) ⟨hlt, hx, hb, hml, hown, hts, hN, hA, hK⟩ (fun pc τ H locs ls d er hP hD hS => by subst er; exact W.vret hx hb hr (fun t ht hW => ⟨⟨(), rfl, trivial, by rw [ht]; exact hP, va_K.moved hW.alike hK, hD⟩, hS.F ht⟩) hS.2.2 d) v0 v1 v2 v3 s0 _ _ _ h hP hD va_S.rf (lv_sub hl [0, 1, 2, 3, 4] rfl)
def ow_dm_X1_addNumber : List Cond := Cond.code yX1_addNumber cX1_addNumber 4 none :: ([Cond.methodLink RX1 257 yX7_fits, Cond.static yX7_fits, Cond.initialized RX7, Cond.methodLink RX1 176 yX1_add, Cond.instanceMethod yX1_add, Cond.selects RX1 yX1_add yX1_add, Cond.initialized RX1, Cond.methodLink RX1 265 yX9_low, Cond.static yX9_low, Cond.initialized RX9] ++ (ow_dm_X7_fits ++ (ow_dm_X1_add ++ (ow_dm_X9_low ++ []))))
theorem gd_dm_X1_addNumber : ∀ w ∈ ow_dm_X1_addNumber, (w.onTables && w.keeps) = true ∨ ∃ ty, w = Cond.arrayClass ty := List.forall_mem_cons.mpr ⟨good_of_word rfl, List.forall_mem_append.mpr ⟨fun w h => good_of_word (List.all_eq_true.mp (by decide +kernel) w h), List.forall_mem_append.mpr ⟨gd_dm_X7_fits, List.forall_mem_append.mpr ⟨gd_dm_X1_add, List.forall_mem_append.mpr ⟨gd_dm_X9_low, fun _ h => nomatch h⟩⟩⟩⟩⟩
theorem gi_dm_X1_addNumber_0 : GoodIn ow_dm_X1_addNumber (va_wsS RX1 257 yX7_fits ow_dm_X7_fits) := goodIn_app (goodIn_of _ (by decide +kernel)) (fun w h => ⟨List.mem_cons_of_mem _ (List.mem_append_right _ (List.mem_append_left _ h)), gd_dm_X7_fits w h⟩)
theorem gi_dm_X1_addNumber_1 : GoodIn ow_dm_X1_addNumber (wsV RX1 176 RX1 yX1_add ow_dm_X1_add) := goodIn_app (goodIn_of _ (by decide +kernel)) (fun w h => ⟨List.mem_cons_of_mem _ (List.mem_append_right _ (List.mem_append_right _ (List.mem_append_left _ h))), gd_dm_X1_add w h⟩)
theorem gi_dm_X1_addNumber_2 : GoodIn ow_dm_X1_addNumber (va_wsS RX1 265 yX9_low ow_dm_X9_low) := goodIn_app (goodIn_of _ (by decide +kernel)) (fun w h => ⟨List.mem_cons_of_mem _ (List.mem_append_right _ (List.mem_append_right _ (List.mem_append_right _ (List.mem_append_left _ h)))), gd_dm_X9_low w h⟩)
def dj_X1_addNumber_39 (p : Program) (l : Launch) (e : Env) (s : State) (m : MethodId) (args : Array Value) (below : List Frame) (meth : Method) (c : Code) (Q : State → Prop) (A : Nat → Prop) (dC : Nat → ClassId) (dI : Nat → Nat → Nat) (a : Nat → Nat) (ac : Nat → ClassId) (g : Int32 → Int32 → Int32 → (St × (St)) → Option (St × (St))) (r : St × (St)) : Prop := ∀ (x1 : Int32) (x2 : Int32) (x3 : Int32) (s0 : St × (St)) (H : Heap) (locs : List Loc) (ls : Array Slot), g x1 x2 x3 s0 = some r → va_P (dC, dI) vwCl (dw_X1 a ac s0) H → va_D A (dw_X1 a ac s0) → va_S A s.heap H locs → lv_has ls 4 [(0, .ref (a 0)), (1, .int x1), (2, .int x2), (3, .int x3)] → W p l e (headSpec ow_dm_X1_addNumber ({ frames := 1, cells := 0, slots := 0, locals := 25 })).room s m args below meth c H locs 0 0 Q (F0 m 39 ls [])
def dj_X1_addNumber_37 (p : Program) (l : Launch) (e : Env) (s : State) (m : MethodId) (args : Array Value) (below : List Frame) (meth : Method) (c : Code) (Q : State → Prop) (A : Nat → Prop) (dC : Nat → ClassId) (dI : Nat → Nat → Nat) (a : Nat → Nat) (ac : Nat → ClassId) (g : Int32 → Int32 → (St × (St)) → Option (St × (St))) (r : St × (St)) : Prop := ∀ (x1 : Int32) (x2 : Int32) (s0 : St × (St)) (H : Heap) (locs : List Loc) (ls : Array Slot), g x1 x2 s0 = some r → va_P (dC, dI) vwCl (dw_X1 a ac s0) H → va_D A (dw_X1 a ac s0) → va_S A s.heap H locs → lv_has ls 4 [(0, .ref (a 0)), (1, .int x1), (2, .int x2)] → W p l e (headSpec ow_dm_X1_addNumber ({ frames := 1, cells := 0, slots := 0, locals := 25 })).room s m args below meth c H locs 0 0 Q (F0 m 37 ls [])
def dj_X1_addNumber_21 (p : Program) (l : Launch) (e : Env) (s : State) (m : MethodId) (args : Array Value) (below : List Frame) (meth : Method) (c : Code) (Q : State → Prop) (A : Nat → Prop) (dC : Nat → ClassId) (dI : Nat → Nat → Nat) (a : Nat → Nat) (ac : Nat → ClassId) (g : Int32 → Int32 → Int32 → (St × (St)) → Option (St × (St))) (r : St × (St)) : Prop := ∀ (x1 : Int32) (x2 : Int32) (x3 : Int32) (s0 : St × (St)) (H : Heap) (locs : List Loc) (ls : Array Slot), g x1 x2 x3 s0 = some r → va_P (dC, dI) vwCl (dw_X1 a ac s0) H → va_D A (dw_X1 a ac s0) → va_S A s.heap H locs → lv_has ls 4 [(0, .ref (a 0)), (1, .int x1), (2, .int x2), (3, .int x3)] → W p l e (headSpec ow_dm_X1_addNumber ({ frames := 1, cells := 0, slots := 0, locals := 25 })).room s m args below meth c H locs 0 0 Q (F0 m 21 ls [])
def dj_X1_addNumber_0 (p : Program) (l : Launch) (e : Env) (s : State) (m : MethodId) (args : Array Value) (below : List Frame) (meth : Method) (c : Code) (Q : State → Prop) (A : Nat → Prop) (dC : Nat → ClassId) (dI : Nat → Nat → Nat) (a : Nat → Nat) (ac : Nat → ClassId) (g : Int32 → Int32 → (St × (St)) → Option (St × (St))) (r : St × (St)) : Prop := ∀ (v0 : Int32) (v1 : Int32) (s0 : St × (St)) (H : Heap) (locs : List Loc) (ls : Array Slot), g v0 v1 s0 = some r → va_P (dC, dI) vwCl (dw_X1 a ac s0) H → va_D A (dw_X1 a ac s0) → va_S A s.heap H locs → lv_has ls 4 [(0, .ref (a 0)), (1, .int v0), (2, .int v1)] → W p l e (headSpec ow_dm_X1_addNumber ({ frames := 1, cells := 0, slots := 0, locals := 25 })).room s m args below meth c H locs 0 0 Q (F0 m 0 ls [])
set_option maxHeartbeats 40000000 in
set_option maxRecDepth 100000 in
theorem db_X1_addNumber_39 {p : Program} {l : Launch} {e : Env} {s : State} {m : MethodId} {args : Array Value} {below : List Frame} {meth : Method} {c : Code} {Q : State → Prop} {A : Nat → Prop} {dC : Nat → ClassId} {dI : Nat → Nat → Nat} {a : Nat → Nat} {ac : Nat → ClassId} {n : Nat} {r : St × (St)} (C : nd_C p l s m args c A (dC, dI) cX1_addNumber 4 RX1 ow_dm_X1_addNumber (dk_X1 ac)) (K : nd_Kv p l e (headSpec ow_dm_X1_addNumber ({ frames := 1, cells := 0, slots := 0, locals := 25 })).room s m args below meth c Q A (dC, dI) cX1_addNumber (St × (St)) (dw_X1 a ac) r) : dj_X1_addNumber_39 p l e s m args below meth c Q A dC dI a ac (df_X1_addNumber_39 n) r := by
  obtain ⟨hlt, hx, hb, hml, hown, hts, hN, hA, hK⟩ := id C
  intro x1 x2 x3 s0 H locs ls h hP hD hS hl
  unfold df_X1_addNumber_39 at h
  refine lv_aload_n hx hb dX1_addNumber_39 rfl (lv_at hl 0 rfl) ?_
  refine lv_iconst (v := 4) hx hb dX1_addNumber_40 (by decide) ?_
  refine lv_iload_n hx hb dX1_addNumber_41 rfl (lv_at hl 3 rfl) ?_
  refine lv_iload_n hx hb dX1_addNumber_42 rfl (lv_at hl 1 rfl) ?_
  refine lv_iload_n hx hb dX1_addNumber_43 rfl (lv_at hl 2 rfl) ?_
  obtain ⟨s10, hq, h⟩ := nd_b1_e h
  have hPc := hP
  have hDc := hD
  have hKc := hK
  have hFc := nd_rs hD hS hA
  refine nd_cVv (As := [.int 4, .int x3, .int x1, .int x2]) (rest := []) (w' := dw_X1 a ac s10) ⟨hx, hb, hml, hown, hts⟩ (fun sz => dm_X1_add l hlt dC dI a ac n (4) (x3) (x1) (x2) s0 hq sz) (cwV 4 hts gi_dm_X1_addNumber_1 rfl rfl rfl (by decide +kernel) ⟨Nat.le_of_ble_eq_true rfl, Nat.le_of_ble_eq_true rfl⟩) hPc hDc hKc hS hA hN (va_recv hKc hPc (ci := 2) (q0 := 0) rfl rfl) rfl hl.1 rfl (Nat.le_of_ble_eq_true rfl) dX1_addNumber_44 (fun H locs hP1 hD1 hk1 hS => ?_)
  have hP := hP1
  have hD := hD1.weaken (fun k q _ h => hFc q.1 h)
  exact K _ _ _ _ _ dX1_addNumber_47 (Option.some.inj h).symm hP hD hS
set_option maxHeartbeats 40000000 in
set_option maxRecDepth 100000 in
theorem db_X1_addNumber_37 {p : Program} {l : Launch} {e : Env} {s : State} {m : MethodId} {args : Array Value} {below : List Frame} {meth : Method} {c : Code} {Q : State → Prop} {A : Nat → Prop} {dC : Nat → ClassId} {dI : Nat → Nat → Nat} {a : Nat → Nat} {ac : Nat → ClassId} {n : Nat} {r : St × (St)} (C : nd_C p l s m args c A (dC, dI) cX1_addNumber 4 RX1 ow_dm_X1_addNumber (dk_X1 ac)) (K : nd_Kv p l e (headSpec ow_dm_X1_addNumber ({ frames := 1, cells := 0, slots := 0, locals := 25 })).room s m args below meth c Q A (dC, dI) cX1_addNumber (St × (St)) (dw_X1 a ac) r) : dj_X1_addNumber_37 p l e s m args below meth c Q A dC dI a ac (df_X1_addNumber_37 n) r := by
  obtain ⟨hlt, hx, hb, hml, hown, hts, hN, hA, hK⟩ := id C
  intro x1 x2 s0 H locs ls h hP hD hS hl
  unfold df_X1_addNumber_37 at h
  refine lv_iconst (v := 4) hx hb dX1_addNumber_37 (by decide) ?_
  refine lv_istore_n (lv' := [(3, .int 4), (0, .ref (a 0)), (1, .int x1), (2, .int x2)]) hx hb dX1_addNumber_38 rfl hl (by decide) rfl (fun ls hl => ?_)
  exact (db_X1_addNumber_39 C K) (x1) (x2) (4) s0 _ _ _ h hP hD hS (lv_sub hl [1, 2, 3, 0] rfl)
set_option maxHeartbeats 40000000 in
set_option maxRecDepth 100000 in
theorem db_X1_addNumber_21 {p : Program} {l : Launch} {e : Env} {s : State} {m : MethodId} {args : Array Value} {below : List Frame} {meth : Method} {c : Code} {Q : State → Prop} {A : Nat → Prop} {dC : Nat → ClassId} {dI : Nat → Nat → Nat} {a : Nat → Nat} {ac : Nat → ClassId} {n : Nat} {r : St × (St)} (C : nd_C p l s m args c A (dC, dI) cX1_addNumber 4 RX1 ow_dm_X1_addNumber (dk_X1 ac)) (K : nd_Kv p l e (headSpec ow_dm_X1_addNumber ({ frames := 1, cells := 0, slots := 0, locals := 25 })).room s m args below meth c Q A (dC, dI) cX1_addNumber (St × (St)) (dw_X1 a ac) r) : dj_X1_addNumber_21 p l e s m args below meth c Q A dC dI a ac (df_X1_addNumber_21 n) r := by
  obtain ⟨hlt, hx, hb, hml, hown, hts, hN, hA, hK⟩ := id C
  intro x1 x2 x3 s0 H locs ls h hP hD hS hl
  unfold df_X1_addNumber_21 at h
  refine lv_bipush (v := 73) hx hb dX1_addNumber_21 (by decide) ?_
  refine lv_iload_n hx hb dX1_addNumber_23 rfl (lv_at hl 2 rfl) ?_
  obtain ⟨q5, s6, hq, h⟩ := nd_b2_e h
  have hPc : va_P (dC, dI) vwCl (dw_P a ac ()) H := nd_p0
  have hDc : va_D A (dw_P a ac ()) := nd_d0
  have hKc : va_K (dC, dI) vwCl (dk_P ac) s := nd_y0 hK
  have hFc : ∀ q, va_A (dw_P a ac ()) H.size q → A q := nd_r0 hS hA
  refine nd_cSi (As := [.int 73, .int x2]) (rest := []) (q := q5) (w' := dw_P a ac s6) ⟨hx, hb, hml, hown, hts⟩ (fun sz => dm_X7_fits l hlt dC dI a ac n (73) (x2) () hq sz) (va_cwS 2 hts gi_dm_X1_addNumber_0 rfl rfl rfl (by decide +kernel) ⟨Nat.le_of_ble_eq_true rfl, Nat.le_of_ble_eq_true rfl⟩) hPc hDc hKc hS hA hN rfl hl.1 rfl (Nat.le_of_ble_eq_true rfl) dX1_addNumber_24 (fun H locs hP1 hD1 hk1 hS => ?_)
  have hP := nd_n0 hP hk1
  refine lv_if_ne (tgt := 37) hx hb dX1_addNumber_27 (by decide) (fun c8 => ?_) (fun c8 => ?_)
  · have h := nd_neg h c8
    exact (db_X1_addNumber_37 C K) (x1) (x2) s0 _ _ _ h hP hD hS (lv_sub hl [0, 1, 2] rfl)
  · have h := nd_pos h c8
    refine lv_iload_n hx hb dX1_addNumber_30 rfl (lv_at hl 2 rfl) ?_
    obtain ⟨q12, s13, hq, h⟩ := nd_b2_e h
    have hPc : va_P (dC, dI) vwCl (dw_P a ac ()) H := nd_p0
    have hDc : va_D A (dw_P a ac ()) := nd_d0
    have hKc : va_K (dC, dI) vwCl (dk_P ac) s := nd_y0 hK
    have hFc : ∀ q, va_A (dw_P a ac ()) H.size q → A q := nd_r0 hS hA
    refine nd_cSi (As := [.int x2]) (rest := []) (q := q12) (w' := dw_P a ac s13) ⟨hx, hb, hml, hown, hts⟩ (fun sz => dm_X9_low l hlt dC dI a ac n (x2) () hq sz) (va_cwS 1 hts gi_dm_X1_addNumber_2 rfl rfl rfl (by decide +kernel) ⟨Nat.le_of_ble_eq_true rfl, Nat.le_of_ble_eq_true rfl⟩) hPc hDc hKc hS hA hN rfl hl.1 rfl (Nat.le_of_ble_eq_true rfl) dX1_addNumber_31 (fun H locs hP1 hD1 hk1 hS => ?_)
    have hP := nd_n0 hP hk1
    refine lv_if_ne (tgt := 39) hx hb dX1_addNumber_34 (by decide) (fun c15 => ?_) (fun c15 => ?_)
    · have h := nd_neg h c15
      exact (db_X1_addNumber_39 C K) (x1) (x2) (x3) s0 _ _ _ h hP hD hS (lv_sub hl [0, 1, 2, 3] rfl)
    · have h := nd_pos h c15
      exact (db_X1_addNumber_37 C K) (x1) (x2) s0 _ _ _ h hP hD hS (lv_sub hl [0, 1, 2] rfl)
set_option maxHeartbeats 40000000 in
set_option maxRecDepth 100000 in
theorem db_X1_addNumber_0 {p : Program} {l : Launch} {e : Env} {s : State} {m : MethodId} {args : Array Value} {below : List Frame} {meth : Method} {c : Code} {Q : State → Prop} {A : Nat → Prop} {dC : Nat → ClassId} {dI : Nat → Nat → Nat} {a : Nat → Nat} {ac : Nat → ClassId} {n : Nat} {r : St × (St)} (C : nd_C p l s m args c A (dC, dI) cX1_addNumber 4 RX1 ow_dm_X1_addNumber (dk_X1 ac)) (K : nd_Kv p l e (headSpec ow_dm_X1_addNumber ({ frames := 1, cells := 0, slots := 0, locals := 25 })).room s m args below meth c Q A (dC, dI) cX1_addNumber (St × (St)) (dw_X1 a ac) r) : dj_X1_addNumber_0 p l e s m args below meth c Q A dC dI a ac (df_X1_addNumber_0 n) r := by
  obtain ⟨hlt, hx, hb, hml, hown, hts, hN, hA, hK⟩ := id C
  intro v0 v1 s0 H locs ls h hP hD hS hl
  unfold df_X1_addNumber_0 at h
  refine lv_bipush (v := 8) hx hb dX1_addNumber_0 (by decide) ?_
  refine lv_istore_n (lv' := [(3, .int 8), (0, .ref (a 0)), (1, .int v0), (2, .int v1)]) hx hb dX1_addNumber_2 rfl hl (by decide) rfl (fun ls hl => ?_)
  refine lv_bipush (v := 78) hx hb dX1_addNumber_3 (by decide) ?_
  refine lv_iload_n hx hb dX1_addNumber_5 rfl (lv_at hl 3 rfl) ?_
  obtain ⟨q1, s2, hq, h⟩ := nd_b2_e h
  have hPc : va_P (dC, dI) vwCl (dw_P a ac ()) H := nd_p0
  have hDc : va_D A (dw_P a ac ()) := nd_d0
  have hKc : va_K (dC, dI) vwCl (dk_P ac) s := nd_y0 hK
  have hFc : ∀ q, va_A (dw_P a ac ()) H.size q → A q := nd_r0 hS hA
  refine nd_cSi (As := [.int 78, .int v1]) (rest := []) (q := q1) (w' := dw_P a ac s2) ⟨hx, hb, hml, hown, hts⟩ (fun sz => dm_X7_fits l hlt dC dI a ac n (78) (v1) () hq sz) (va_cwS 2 hts gi_dm_X1_addNumber_0 rfl rfl rfl (by decide +kernel) ⟨Nat.le_of_ble_eq_true rfl, Nat.le_of_ble_eq_true rfl⟩) hPc hDc hKc hS hA hN rfl hl.1 rfl (Nat.le_of_ble_eq_true rfl) dX1_addNumber_6 (fun H locs hP1 hD1 hk1 hS => ?_)
  have hP := nd_n0 hP hk1
  refine lv_if_eq (tgt := 21) hx hb dX1_addNumber_9 (by decide) (fun c4 => ?_) (fun c4 => ?_)
  · have h := nd_pos h c4
    exact (db_X1_addNumber_21 C K) (v0) (v1) (8) s0 _ _ _ h hP hD hS (lv_sub hl [1, 2, 3, 0] rfl)
  · have h := nd_neg h c4
    refine lv_iload_n hx hb dX1_addNumber_12 rfl (lv_at hl 2 rfl) ?_
    refine lv_if_eq (tgt := 21) hx hb dX1_addNumber_13 (by decide) (fun c16 => ?_) (fun c16 => ?_)
    · have h := nd_pos h c16
      exact (db_X1_addNumber_21 C K) (v0) (v1) (8) s0 _ _ _ h hP hD hS (lv_sub hl [1, 2, 3, 0] rfl)
    · have h := nd_neg h c16
      refine lv_iconst (v := 2) hx hb dX1_addNumber_16 (by decide) ?_
      refine lv_istore_n (lv' := [(3, .int 2), (0, .ref (a 0)), (1, .int v0), (2, .int v1)]) hx hb dX1_addNumber_17 rfl hl (by decide) rfl (fun ls hl => ?_)
      refine lv_goto (tgt := 39) hx hb dX1_addNumber_18 (by decide) ?_
      exact (db_X1_addNumber_39 C K) (v0) (v1) (2) s0 _ _ _ h hP hD hS (lv_sub hl [1, 2, 3, 0] rfl)
set_option maxHeartbeats 40000000 in
set_option maxRecDepth 100000 in
theorem dm_X1_addNumber (l : Launch) (hlt : l.stackTraces = false) (dC : Nat → ClassId) (dI : Nat → Nat → Nat) (a : Nat → Nat) (ac : Nat → ClassId) (n : Nat) (v0 : Int32) (v1 : Int32) (s0 : St × (St)) {r : St × (St)} (h : df_X1_addNumber n v0 v1 s0 = some r) (sz : Nat) : Met l yX1_addNumber ow_dm_X1_addNumber ({ frames := 1, cells := 0, slots := 0, locals := 25 }) (va_Pc [.ref (a 0), .int v0, .int v1] (fun U => U.heap.size = sz ∧ va_P (dC, dI) vwCl (dw_X1 a ac s0) U.heap ∧ va_K (dC, dI) vwCl (dk_X1 ac) U ∧ va_D (fun _ => True) (dw_X1 a ac s0) ∧ nv_E dI (va_A (dw_X1 a ac s0) sz) U)) (va_Qv (fun _ => True) (fun (_ : Unit) t => va_P (dC, dI) vwCl (dw_X1 a ac r) t.heap ∧ va_K (dC, dI) vwCl (dk_X1 ac) t ∧ va_D (va_A (dw_X1 a ac s0) sz) (dw_X1 a ac r)) (va_A (dw_X1 a ac s0) sz)) 0 0 (va_A (dw_X1 a ac s0) sz) := by
  refine Met.ofW (cc := cX1_addNumber) (maxL := 4) (ret := none) (by decide) rfl ?_
  intro p e s m args below meth c s₁ B hml hv
  obtain ⟨rfl, hsz, hP, hK, hD0, hN⟩ := hv
  have hx := B.exec
  have hb := B.bytes
  have hr := B.returns
  have hts := atoms_spec (ws := ow_dm_X1_addNumber) B.pre
  have hown : s.vm.findClass RX1 = some m.cls := findClass_of_methodNamed B.named
  have hlocks := B.notSynchronized
  subst hsz
  have hD := hD0.self (sz := s.heap.size)
  generalize hAe : va_A (dw_X1 a ac s0) s.heap.size = A at hD hN ⊢
  have hA : ∀ q : Nat, s.heap.size ≤ q → A q := fun q h => by rw [← hAe]; exact Or.inr h
  have hl := lv_entry ([.ref (a 0), .int v0, .int v1]) (n := 4) (Nat.le_of_ble_eq_true rfl)
  rw [lg_entry_eq]
  generalize (lg_sl ([.ref (a 0), .int v0, .int v1]) ++ List.replicate (4 - (lg_sl ([.ref (a 0), .int v0, .int v1])).length) Slot.unset).toArray = ls at hl ⊢
  have hl : lv_has ls 4 [(0, .ref (a 0)), (1, .int v0), (2, .int v1)] := hl
  exact db_X1_addNumber_0 (dC := dC) (dI := dI) (a := a) (ac := ac) (n := n) (r := r) ⟨hlt, hx, hb, hml, hown, hts, hN, hA, hK⟩ (fun pc τ H locs ls d er hP hD hS => by subst er; exact W.vret hx hb hr (fun t ht hW => ⟨⟨(), rfl, trivial, by rw [ht]; exact hP, va_K.moved hW.alike hK, hD⟩, hS.F ht⟩) hS.2.2 d) v0 v1 s0 _ _ _ h hP hD va_S.rf (lv_sub hl [0, 1, 2] rfl)
def ow_dm_X1_readRegister : List Cond := Cond.code yX1_readRegister cX1_readRegister 4 (some .int) :: ([Cond.fieldLink RX1 32 "TimeMachine$Assembler" "fault" "I", Cond.fieldLink RX1 12 "TimeMachine$Assembler" "reader" "LTimeMachine$Reader;", Cond.fieldLink RX1 85 "TimeMachine$Reader" "kind" "I", Cond.methodLink RX1 77 yX1_blame, Cond.instanceMethod yX1_blame, Cond.selects RX1 yX1_blame yX1_blame, Cond.initialized RX1, Cond.fieldLink RX1 91 "TimeMachine$Reader" "at" "I", Cond.fieldLink RX1 88 "TimeMachine$Reader" "from" "I", Cond.methodLink RX1 257 yX7_fits, Cond.static yX7_fits, Cond.initialized RX7, Cond.methodLink RX1 97 yX9_next, Cond.instanceMethod yX9_next, Cond.selects RX9 yX9_next yX9_next, Cond.initialized RX9, Cond.methodLink RX1 261 yX7_placed, Cond.static yX7_placed, Cond.fieldLink RX1 120 "TimeMachine$Reader" "source" "[B", Cond.methodLink RX1 123 yX7_registerAt, Cond.static yX7_registerAt] ++ (u_ws RX1 TX1 13 ++ (u_ws RX9 TX9 20 ++ (ow_dm_X1_blame ++ (ow_dm_X7_fits ++ (ow_dm_X9_next ++ (ow_dm_X7_placed ++ (ow_dm_X7_registerAt ++ []))))))))
theorem gd_dm_X1_readRegister : ∀ w ∈ ow_dm_X1_readRegister, (w.onTables && w.keeps) = true ∨ ∃ ty, w = Cond.arrayClass ty := List.forall_mem_cons.mpr ⟨good_of_word rfl, List.forall_mem_append.mpr ⟨fun w h => good_of_word (List.all_eq_true.mp (by decide +kernel) w h), List.forall_mem_append.mpr ⟨gu_X1, List.forall_mem_append.mpr ⟨gu_X9, List.forall_mem_append.mpr ⟨gd_dm_X1_blame, List.forall_mem_append.mpr ⟨gd_dm_X7_fits, List.forall_mem_append.mpr ⟨gd_dm_X9_next, List.forall_mem_append.mpr ⟨gd_dm_X7_placed, List.forall_mem_append.mpr ⟨gd_dm_X7_registerAt, fun _ h => nomatch h⟩⟩⟩⟩⟩⟩⟩⟩⟩
theorem hi_dm_X1_readRegister_X1 : ∀ w ∈ u_ws RX1 TX1 13, w ∈ ow_dm_X1_readRegister := fun w h => List.mem_cons_of_mem _ (List.mem_append_right _ (List.mem_append_left _ h))
theorem hi_dm_X1_readRegister_X9 : ∀ w ∈ u_ws RX9 TX9 20, w ∈ ow_dm_X1_readRegister := fun w h => List.mem_cons_of_mem _ (List.mem_append_right _ (List.mem_append_right _ (List.mem_append_left _ h)))
theorem gi_dm_X1_readRegister_0 : GoodIn ow_dm_X1_readRegister (wsV RX1 77 RX1 yX1_blame ow_dm_X1_blame) := goodIn_app (goodIn_of _ (by decide +kernel)) (fun w h => ⟨List.mem_cons_of_mem _ (List.mem_append_right _ (List.mem_append_right _ (List.mem_append_right _ (List.mem_append_left _ h)))), gd_dm_X1_blame w h⟩)
theorem gi_dm_X1_readRegister_1 : GoodIn ow_dm_X1_readRegister (va_wsS RX1 257 yX7_fits ow_dm_X7_fits) := goodIn_app (goodIn_of _ (by decide +kernel)) (fun w h => ⟨List.mem_cons_of_mem _ (List.mem_append_right _ (List.mem_append_right _ (List.mem_append_right _ (List.mem_append_right _ (List.mem_append_left _ h))))), gd_dm_X7_fits w h⟩)
theorem gi_dm_X1_readRegister_2 : GoodIn ow_dm_X1_readRegister (wsV RX1 97 RX9 yX9_next ow_dm_X9_next) := goodIn_app (goodIn_of _ (by decide +kernel)) (fun w h => ⟨List.mem_cons_of_mem _ (List.mem_append_right _ (List.mem_append_right _ (List.mem_append_right _ (List.mem_append_right _ (List.mem_append_right _ (List.mem_append_left _ h)))))), gd_dm_X9_next w h⟩)
theorem gi_dm_X1_readRegister_3 : GoodIn ow_dm_X1_readRegister (va_wsS RX1 261 yX7_placed ow_dm_X7_placed) := goodIn_app (goodIn_of _ (by decide +kernel)) (fun w h => ⟨List.mem_cons_of_mem _ (List.mem_append_right _ (List.mem_append_right _ (List.mem_append_right _ (List.mem_append_right _ (List.mem_append_right _ (List.mem_append_right _ (List.mem_append_left _ h))))))), gd_dm_X7_placed w h⟩)
theorem gi_dm_X1_readRegister_4 : GoodIn ow_dm_X1_readRegister (va_wsS RX1 123 yX7_registerAt ow_dm_X7_registerAt) := goodIn_app (goodIn_of _ (by decide +kernel)) (fun w h => ⟨List.mem_cons_of_mem _ (List.mem_append_right _ (List.mem_append_right _ (List.mem_append_right _ (List.mem_append_right _ (List.mem_append_right _ (List.mem_append_right _ (List.mem_append_right _ (List.mem_append_left _ h)))))))), gd_dm_X7_registerAt w h⟩)
def dj_X1_readRegister_31 (p : Program) (l : Launch) (e : Env) (s : State) (m : MethodId) (args : Array Value) (below : List Frame) (meth : Method) (c : Code) (Q : State → Prop) (A : Nat → Prop) (dC : Nat → ClassId) (dI : Nat → Nat → Nat) (a : Nat → Nat) (ac : Nat → ClassId) (g : (St × (St)) → Option (Int32 × (St × (St)))) (r : Int32 × (St × (St))) : Prop := ∀ (s0 : St × (St)) (H : Heap) (locs : List Loc) (ls : Array Slot), g s0 = some r → va_P (dC, dI) vwCl (dw_X1 a ac s0) H → va_D A (dw_X1 a ac s0) → va_S A s.heap H locs → lv_has ls 4 [(0, .ref (a 0))] → W p l e (headSpec ow_dm_X1_readRegister ({ frames := 6, cells := 0, slots := 0, locals := 133 })).room s m args below meth c H locs 0 0 Q (F0 m 31 ls [])
def dj_X1_readRegister_100 (p : Program) (l : Launch) (e : Env) (s : State) (m : MethodId) (args : Array Value) (below : List Frame) (meth : Method) (c : Code) (Q : State → Prop) (A : Nat → Prop) (dC : Nat → ClassId) (dI : Nat → Nat → Nat) (a : Nat → Nat) (ac : Nat → ClassId) (g : (St × (St)) → Option (Int32 × (St × (St)))) (r : Int32 × (St × (St))) : Prop := ∀ (s0 : St × (St)) (H : Heap) (locs : List Loc) (ls : Array Slot), g s0 = some r → va_P (dC, dI) vwCl (dw_X1 a ac s0) H → va_D A (dw_X1 a ac s0) → va_S A s.heap H locs → lv_has ls 4 [(0, .ref (a 0))] → W p l e (headSpec ow_dm_X1_readRegister ({ frames := 6, cells := 0, slots := 0, locals := 133 })).room s m args below meth c H locs 0 0 Q (F0 m 100 ls [])
def dj_X1_readRegister_87 (p : Program) (l : Launch) (e : Env) (s : State) (m : MethodId) (args : Array Value) (below : List Frame) (meth : Method) (c : Code) (Q : State → Prop) (A : Nat → Prop) (dC : Nat → ClassId) (dI : Nat → Nat → Nat) (a : Nat → Nat) (ac : Nat → ClassId) (g : Int32 → Int32 → (St × (St)) → Option (Int32 × (St × (St)))) (r : Int32 × (St × (St))) : Prop := ∀ (x1 : Int32) (y0 : Int32) (s0 : St × (St)) (H : Heap) (locs : List Loc) (ls : Array Slot), g x1 y0 s0 = some r → va_P (dC, dI) vwCl (dw_X1 a ac s0) H → va_D A (dw_X1 a ac s0) → va_S A s.heap H locs → lv_has ls 4 [(0, .ref (a 0)), (1, .int x1)] → W p l e (headSpec ow_dm_X1_readRegister ({ frames := 6, cells := 0, slots := 0, locals := 133 })).room s m args below meth c H locs 0 0 Q (F0 m 87 ls [.int y0])
def dj_X1_readRegister_0 (p : Program) (l : Launch) (e : Env) (s : State) (m : MethodId) (args : Array Value) (below : List Frame) (meth : Method) (c : Code) (Q : State → Prop) (A : Nat → Prop) (dC : Nat → ClassId) (dI : Nat → Nat → Nat) (a : Nat → Nat) (ac : Nat → ClassId) (g : Int32 → (St × (St)) → Option (Int32 × (St × (St)))) (r : Int32 × (St × (St))) : Prop := ∀ (v0 : Int32) (s0 : St × (St)) (H : Heap) (locs : List Loc) (ls : Array Slot), g v0 s0 = some r → va_P (dC, dI) vwCl (dw_X1 a ac s0) H → va_D A (dw_X1 a ac s0) → va_S A s.heap H locs → lv_has ls 4 [(0, .ref (a 0)), (1, .int v0)] → W p l e (headSpec ow_dm_X1_readRegister ({ frames := 6, cells := 0, slots := 0, locals := 133 })).room s m args below meth c H locs 0 0 Q (F0 m 0 ls [])
set_option maxHeartbeats 40000000 in
set_option maxRecDepth 100000 in
theorem db_X1_readRegister_31 {p : Program} {l : Launch} {e : Env} {s : State} {m : MethodId} {args : Array Value} {below : List Frame} {meth : Method} {c : Code} {Q : State → Prop} {A : Nat → Prop} {dC : Nat → ClassId} {dI : Nat → Nat → Nat} {a : Nat → Nat} {ac : Nat → ClassId} {n : Nat} {r : Int32 × (St × (St))} (C : nd_C p l s m args c A (dC, dI) cX1_readRegister 4 RX1 ow_dm_X1_readRegister (dk_X1 ac)) (K : nd_Ki p l e (headSpec ow_dm_X1_readRegister ({ frames := 6, cells := 0, slots := 0, locals := 133 })).room s m args below meth c Q A (dC, dI) cX1_readRegister .int (St × (St)) (dw_X1 a ac) r) : dj_X1_readRegister_31 p l e s m args below meth c Q A dC dI a ac (df_X1_readRegister_31 n) r := by
  obtain ⟨hlt, hx, hb, hml, hown, hts, hN, hA, hK⟩ := id C
  intro s0 H locs ls h hP hD hS hl
  unfold df_X1_readRegister_31 at h
  refine lv_aload_n hx hb dX1_readRegister_31 rfl (lv_at hl 0 rfl) ?_
  refine lv_iconst (v := 1) hx hb dX1_readRegister_32 (by decide) ?_
  obtain ⟨s4, hq, h⟩ := nd_b1_e h
  have hPc := hP
  have hDc := hD
  have hKc := hK
  have hFc := nd_rs hD hS hA
  refine nd_cVv (As := [.int 1]) (rest := []) (w' := dw_X1 a ac s4) ⟨hx, hb, hml, hown, hts⟩ (fun sz => dm_X1_blame l hlt dC dI a ac n (1) s0 hq sz) (cwV 1 hts gi_dm_X1_readRegister_0 rfl rfl rfl (by decide +kernel) ⟨Nat.le_of_ble_eq_true rfl, Nat.le_of_ble_eq_true rfl⟩) hPc hDc hKc hS hA hN (va_recv hKc hPc (ci := 2) (q0 := 0) rfl rfl) rfl hl.1 rfl (Nat.le_of_ble_eq_true rfl) dX1_readRegister_33 (fun H locs hP1 hD1 hk1 hS => ?_)
  have hP := hP1
  have hD := hD1.weaken (fun k q _ h => hFc q.1 h)
  refine lv_iconst (v := 0) hx hb dX1_readRegister_36 (by decide) ?_
  exact K _ _ _ _ _ _ dX1_readRegister_37 rfl (Option.some.inj h).symm hP hD hS
set_option maxHeartbeats 40000000 in
set_option maxRecDepth 100000 in
theorem db_X1_readRegister_100 {p : Program} {l : Launch} {e : Env} {s : State} {m : MethodId} {args : Array Value} {below : List Frame} {meth : Method} {c : Code} {Q : State → Prop} {A : Nat → Prop} {dC : Nat → ClassId} {dI : Nat → Nat → Nat} {a : Nat → Nat} {ac : Nat → ClassId} {n : Nat} {r : Int32 × (St × (St))} (C : nd_C p l s m args c A (dC, dI) cX1_readRegister 4 RX1 ow_dm_X1_readRegister (dk_X1 ac)) (K : nd_Ki p l e (headSpec ow_dm_X1_readRegister ({ frames := 6, cells := 0, slots := 0, locals := 133 })).room s m args below meth c Q A (dC, dI) cX1_readRegister .int (St × (St)) (dw_X1 a ac) r) : dj_X1_readRegister_100 p l e s m args below meth c Q A dC dI a ac (df_X1_readRegister_100 n) r := by
  obtain ⟨hlt, hx, hb, hml, hown, hts, hN, hA, hK⟩ := id C
  intro s0 H locs ls h hP hD hS hl
  unfold df_X1_readRegister_100 at h
  refine lv_aload_n hx hb dX1_readRegister_100 rfl (lv_at hl 0 rfl) ?_
  refine lv_iconst (v := 3) hx hb dX1_readRegister_101 (by decide) ?_
  obtain ⟨s11, hq, h⟩ := nd_b1_e h
  have hPc := hP
  have hDc := hD
  have hKc := hK
  have hFc := nd_rs hD hS hA
  refine nd_cVv (As := [.int 3]) (rest := []) (w' := dw_X1 a ac s11) ⟨hx, hb, hml, hown, hts⟩ (fun sz => dm_X1_blame l hlt dC dI a ac n (3) s0 hq sz) (cwV 1 hts gi_dm_X1_readRegister_0 rfl rfl rfl (by decide +kernel) ⟨Nat.le_of_ble_eq_true rfl, Nat.le_of_ble_eq_true rfl⟩) hPc hDc hKc hS hA hN (va_recv hKc hPc (ci := 2) (q0 := 0) rfl rfl) rfl hl.1 rfl (Nat.le_of_ble_eq_true rfl) dX1_readRegister_102 (fun H locs hP1 hD1 hk1 hS => ?_)
  have hP := hP1
  have hD := hD1.weaken (fun k q _ h => hFc q.1 h)
  refine lv_iconst (v := 0) hx hb dX1_readRegister_105 (by decide) ?_
  exact K _ _ _ _ _ _ dX1_readRegister_106 rfl (Option.some.inj h).symm hP hD hS
set_option maxHeartbeats 40000000 in
set_option maxRecDepth 100000 in
theorem db_X1_readRegister_87 {p : Program} {l : Launch} {e : Env} {s : State} {m : MethodId} {args : Array Value} {below : List Frame} {meth : Method} {c : Code} {Q : State → Prop} {A : Nat → Prop} {dC : Nat → ClassId} {dI : Nat → Nat → Nat} {a : Nat → Nat} {ac : Nat → ClassId} {n : Nat} {r : Int32 × (St × (St))} (C : nd_C p l s m args c A (dC, dI) cX1_readRegister 4 RX1 ow_dm_X1_readRegister (dk_X1 ac)) (K : nd_Ki p l e (headSpec ow_dm_X1_readRegister ({ frames := 6, cells := 0, slots := 0, locals := 133 })).room s m args below meth c Q A (dC, dI) cX1_readRegister .int (St × (St)) (dw_X1 a ac) r) : dj_X1_readRegister_87 p l e s m args below meth c Q A dC dI a ac (df_X1_readRegister_87 n) r := by
  obtain ⟨hlt, hx, hb, hml, hown, hts, hN, hA, hK⟩ := id C
  intro x1 y0 s0 H locs ls h hP hD hS hl
  unfold df_X1_readRegister_87 at h
  refine lv_istore_n (lv' := [(3, .int y0), (0, .ref (a 0)), (1, .int x1)]) hx hb dX1_readRegister_87 rfl hl (by decide) rfl (fun ls hl => ?_)
  refine lv_iload_n hx hb dX1_readRegister_88 rfl (lv_at hl 0 rfl) ?_
  refine lv_if_lt (tgt := 100) hx hb dX1_readRegister_89 (by decide) (fun c9 => ?_) (fun c9 => ?_)
  · have h := nd_pos h c9
    exact (db_X1_readRegister_100 C K)  s0 _ _ _ h hP hD hS (lv_sub hl [1] rfl)
  · have h := nd_neg h c9
    refine lv_iload_n hx hb dX1_readRegister_92 rfl (lv_at hl 2 rfl) ?_
    refine lv_iload_n hx hb dX1_readRegister_93 rfl (lv_at hl 0 rfl) ?_
    obtain ⟨q13, s14, hq, h⟩ := nd_b2_e h
    have hPc : va_P (dC, dI) vwCl (dw_P a ac ()) H := nd_p0
    have hDc : va_D A (dw_P a ac ()) := nd_d0
    have hKc : va_K (dC, dI) vwCl (dk_P ac) s := nd_y0 hK
    have hFc : ∀ q, va_A (dw_P a ac ()) H.size q → A q := nd_r0 hS hA
    refine nd_cSi (As := [.int x1, .int y0]) (rest := []) (q := q13) (w' := dw_P a ac s14) ⟨hx, hb, hml, hown, hts⟩ (fun sz => dm_X7_fits l hlt dC dI a ac n (x1) (y0) () hq sz) (va_cwS 2 hts gi_dm_X1_readRegister_1 rfl rfl rfl (by decide +kernel) ⟨Nat.le_of_ble_eq_true rfl, Nat.le_of_ble_eq_true rfl⟩) hPc hDc hKc hS hA hN rfl hl.1 rfl (Nat.le_of_ble_eq_true rfl) dX1_readRegister_94 (fun H locs hP1 hD1 hk1 hS => ?_)
    have hP := nd_n0 hP hk1
    refine lv_if_ne (tgt := 107) hx hb dX1_readRegister_97 (by decide) (fun c16 => ?_) (fun c16 => ?_)
    · have h := nd_neg h c16
      refine lv_aload_n hx hb dX1_readRegister_107 rfl (lv_at hl 1 rfl) ?_
      refine va_get (D := (dC, dI)) (ci := 2) (v := .ref (a 3)) (C := RX1) (T := TX1) (N := 13) hx hb hts hi_dm_X1_readRegister_X1 hown hK hP 0 rfl rfl 0 (by decide) (hts (.fieldLink RX1 12 "TimeMachine$Assembler" "reader" "LTimeMachine$Reader;") (List.mem_of_getElem? (i := 2) rfl)) (fun _ h9 => h9) rfl dX1_readRegister_108 ?_
      obtain ⟨s18, hq, h⟩ := nd_b1_e h
      have hPc := dp_X1_3 hP
      have hDc := dd_X1_3 hD
      have hKc := dy_X1_3 hK
      have hFc := nd_rs hDc hS hA
      have hzA : ∀ q : Nat, H.size ≤ q → A q := fun q h => hA q (Nat.le_trans hS.1 h)
      refine nd_cVv (As := []) (rest := []) (w' := dw_X9 (fun k => a (k + 3)) (fun k => ac (k + 3)) s18) ⟨hx, hb, hml, hown, hts⟩ (fun sz => dm_X9_next l hlt dC dI (fun k => a (k + 3)) (fun k => ac (k + 3)) n  s0.2 hq sz) (cwV 0 hts gi_dm_X1_readRegister_2 rfl rfl rfl (by decide +kernel) ⟨Nat.le_of_ble_eq_true rfl, Nat.le_of_ble_eq_true rfl⟩) hPc hDc hKc hS hA hN (va_recv hKc hPc (ci := 10) (q0 := 0) rfl rfl) rfl hl.1 rfl (Nat.le_of_ble_eq_true rfl) dX1_readRegister_111 (fun H locs hP1 hD1 hk1 hS => ?_)
      obtain ⟨hP, hD⟩ := dn_X1_3 hP hD hzA hk1 hP1 hD1
      obtain ⟨s20, es20, h⟩ := nd_let_e h
      have hP : va_P (dC, dI) vwCl (dw_X1 a ac s20) H := by rw [es20]; exact hP
      have hD : va_D A (dw_X1 a ac s20) := by rw [es20]; exact hD
      refine lv_iload_n hx hb dX1_readRegister_114 rfl (lv_at hl 2 rfl) ?_
      refine lv_iload_n hx hb dX1_readRegister_115 rfl (lv_at hl 0 rfl) ?_
      obtain ⟨q21, s22, hq, h⟩ := nd_b2_e h
      have hPc : va_P (dC, dI) vwCl (dw_P a ac ()) H := nd_p0
      have hDc : va_D A (dw_P a ac ()) := nd_d0
      have hKc : va_K (dC, dI) vwCl (dk_P ac) s := nd_y0 hK
      have hFc : ∀ q, va_A (dw_P a ac ()) H.size q → A q := nd_r0 hS hA
      refine nd_cSi (As := [.int x1, .int y0]) (rest := []) (q := q21) (w' := dw_P a ac s22) ⟨hx, hb, hml, hown, hts⟩ (fun sz => dm_X7_placed l hlt dC dI a ac n (x1) (y0) () hq sz) (va_cwS 2 hts gi_dm_X1_readRegister_3 rfl rfl rfl (by decide +kernel) ⟨Nat.le_of_ble_eq_true rfl, Nat.le_of_ble_eq_true rfl⟩) hPc hDc hKc hS hA hN rfl hl.1 rfl (Nat.le_of_ble_eq_true rfl) dX1_readRegister_116 (fun H locs hP1 hD1 hk1 hS => ?_)
      have hP := nd_n0 hP hk1
      exact K _ _ _ _ _ _ dX1_readRegister_119 rfl (Option.some.inj h).symm hP hD hS
    · have h := nd_pos h c16
      exact (db_X1_readRegister_100 C K)  s0 _ _ _ h hP hD hS (lv_sub hl [1] rfl)
set_option maxHeartbeats 40000000 in
set_option maxRecDepth 100000 in
theorem db_X1_readRegister_0 {p : Program} {l : Launch} {e : Env} {s : State} {m : MethodId} {args : Array Value} {below : List Frame} {meth : Method} {c : Code} {Q : State → Prop} {A : Nat → Prop} {dC : Nat → ClassId} {dI : Nat → Nat → Nat} {a : Nat → Nat} {ac : Nat → ClassId} {n : Nat} {r : Int32 × (St × (St))} (C : nd_C p l s m args c A (dC, dI) cX1_readRegister 4 RX1 ow_dm_X1_readRegister (dk_X1 ac)) (K : nd_Ki p l e (headSpec ow_dm_X1_readRegister ({ frames := 6, cells := 0, slots := 0, locals := 133 })).room s m args below meth c Q A (dC, dI) cX1_readRegister .int (St × (St)) (dw_X1 a ac) r) : dj_X1_readRegister_0 p l e s m args below meth c Q A dC dI a ac (df_X1_readRegister_0 n) r := by
  obtain ⟨hlt, hx, hb, hml, hown, hts, hN, hA, hK⟩ := id C
  intro v0 s0 H locs ls h hP hD hS hl
  unfold df_X1_readRegister_0 at h
  refine lv_aload_n hx hb dX1_readRegister_0 rfl (lv_at hl 0 rfl) ?_
  refine va_get (D := (dC, dI)) (ci := 2) (v := .int (sI s0.1 2)) (C := RX1) (T := TX1) (N := 13) hx hb hts hi_dm_X1_readRegister_X1 hown hK hP 0 rfl rfl 5 (by decide) (hts (.fieldLink RX1 32 "TimeMachine$Assembler" "fault" "I") (List.mem_of_getElem? (i := 1) rfl)) (fun _ h9 => h9) rfl dX1_readRegister_1 ?_
  refine lv_if_eq (tgt := 9) hx hb dX1_readRegister_4 (by decide) (fun c1 => ?_) (fun c1 => ?_)
  · have h := nd_pos h c1
    refine lv_aload_n hx hb dX1_readRegister_9 rfl (lv_at hl 0 rfl) ?_
    refine va_get (D := (dC, dI)) (ci := 2) (v := .ref (a 3)) (C := RX1) (T := TX1) (N := 13) hx hb hts hi_dm_X1_readRegister_X1 hown hK hP 0 rfl rfl 0 (by decide) (hts (.fieldLink RX1 12 "TimeMachine$Assembler" "reader" "LTimeMachine$Reader;") (List.mem_of_getElem? (i := 2) rfl)) (fun _ h9 => h9) rfl dX1_readRegister_10 ?_
    refine va_get (D := (dC, dI)) (ci := 10) (v := .int (sI s0.2 2)) (C := RX9) (T := TX9) (N := 20) hx hb hts hi_dm_X1_readRegister_X9 hown hK hP 3 rfl rfl 3 (by decide) (hts (.fieldLink RX1 85 "TimeMachine$Reader" "kind" "I") (List.mem_of_getElem? (i := 3) rfl)) (fun _ h9 => h9) rfl dX1_readRegister_13 ?_
    refine lv_if_eq (tgt := 31) hx hb dX1_readRegister_16 (by decide) (fun c2 => ?_) (fun c2 => ?_)
    · have h := nd_pos h c2
      exact (db_X1_readRegister_31 C K)  s0 _ _ _ h hP hD hS (lv_sub hl [0] rfl)
    · have h := nd_neg h c2
      refine lv_aload_n hx hb dX1_readRegister_19 rfl (lv_at hl 0 rfl) ?_
      refine va_get (D := (dC, dI)) (ci := 2) (v := .ref (a 3)) (C := RX1) (T := TX1) (N := 13) hx hb hts hi_dm_X1_readRegister_X1 hown hK hP 0 rfl rfl 0 (by decide) (hts (.fieldLink RX1 12 "TimeMachine$Assembler" "reader" "LTimeMachine$Reader;") (List.mem_of_getElem? (i := 2) rfl)) (fun _ h9 => h9) rfl dX1_readRegister_20 ?_
      refine va_get (D := (dC, dI)) (ci := 10) (v := .int (sI s0.2 2)) (C := RX9) (T := TX9) (N := 20) hx hb hts hi_dm_X1_readRegister_X9 hown hK hP 3 rfl rfl 3 (by decide) (hts (.fieldLink RX1 85 "TimeMachine$Reader" "kind" "I") (List.mem_of_getElem? (i := 3) rfl)) (fun _ h9 => h9) rfl dX1_readRegister_23 ?_
      refine lv_bipush (v := 6) hx hb dX1_readRegister_26 (by decide) ?_
      refine lv_icmp_ne (tgt := 38) hx hb dX1_readRegister_28 (by decide) (fun c6 => ?_) (fun c6 => ?_)
      · have h := nd_neg h c6
        refine lv_aload_n hx hb dX1_readRegister_38 rfl (lv_at hl 0 rfl) ?_
        refine va_get (D := (dC, dI)) (ci := 2) (v := .ref (a 3)) (C := RX1) (T := TX1) (N := 13) hx hb hts hi_dm_X1_readRegister_X1 hown hK hP 0 rfl rfl 0 (by decide) (hts (.fieldLink RX1 12 "TimeMachine$Assembler" "reader" "LTimeMachine$Reader;") (List.mem_of_getElem? (i := 2) rfl)) (fun _ h9 => h9) rfl dX1_readRegister_39 ?_
        refine va_get (D := (dC, dI)) (ci := 10) (v := .int (sI s0.2 0)) (C := RX9) (T := TX9) (N := 20) hx hb hts hi_dm_X1_readRegister_X9 hown hK hP 3 rfl rfl 1 (by decide) (hts (.fieldLink RX1 91 "TimeMachine$Reader" "at" "I") (List.mem_of_getElem? (i := 8) rfl)) (fun _ h9 => h9) rfl dX1_readRegister_42 ?_
        refine lv_aload_n hx hb dX1_readRegister_45 rfl (lv_at hl 0 rfl) ?_
        refine va_get (D := (dC, dI)) (ci := 2) (v := .ref (a 3)) (C := RX1) (T := TX1) (N := 13) hx hb hts hi_dm_X1_readRegister_X1 hown hK hP 0 rfl rfl 0 (by decide) (hts (.fieldLink RX1 12 "TimeMachine$Assembler" "reader" "LTimeMachine$Reader;") (List.mem_of_getElem? (i := 2) rfl)) (fun _ h9 => h9) rfl dX1_readRegister_46 ?_
        refine va_get (D := (dC, dI)) (ci := 10) (v := .int (sI s0.2 3)) (C := RX9) (T := TX9) (N := 20) hx hb hts hi_dm_X1_readRegister_X9 hown hK hP 3 rfl rfl 4 (by decide) (hts (.fieldLink RX1 88 "TimeMachine$Reader" "from" "I") (List.mem_of_getElem? (i := 9) rfl)) (fun _ h9 => h9) rfl dX1_readRegister_49 ?_
        refine lv_isub hx hb dX1_readRegister_52 ?_
        refine lv_topi (fun z7 ez7 => ?_)
        have h := nd_at h ez7
        refine lv_istore_n (lv' := [(2, .int z7), (0, .ref (a 0)), (1, .int v0)]) hx hb dX1_readRegister_53 rfl hl (by decide) rfl (fun ls hl => ?_)
        refine lv_aload_n hx hb dX1_readRegister_54 rfl (lv_at hl 1 rfl) ?_
        refine va_get (D := (dC, dI)) (ci := 2) (v := .ref (a 3)) (C := RX1) (T := TX1) (N := 13) hx hb hts hi_dm_X1_readRegister_X1 hown hK hP 0 rfl rfl 0 (by decide) (hts (.fieldLink RX1 12 "TimeMachine$Assembler" "reader" "LTimeMachine$Reader;") (List.mem_of_getElem? (i := 2) rfl)) (fun _ h9 => h9) rfl dX1_readRegister_55 ?_
        refine va_get (D := (dC, dI)) (ci := 10) (v := .int (sI s0.2 2)) (C := RX9) (T := TX9) (N := 20) hx hb hts hi_dm_X1_readRegister_X9 hown hK hP 3 rfl rfl 3 (by decide) (hts (.fieldLink RX1 85 "TimeMachine$Reader" "kind" "I") (List.mem_of_getElem? (i := 3) rfl)) (fun _ h9 => h9) rfl dX1_readRegister_58 ?_
        refine lv_iconst (v := 1) hx hb dX1_readRegister_61 (by decide) ?_
        refine lv_icmp_ne (tgt := 86) hx hb dX1_readRegister_62 (by decide) (fun c8 => ?_) (fun c8 => ?_)
        · have h := nd_neg h c8
          refine lv_iconst (v := (-1)) hx hb dX1_readRegister_86 (by decide) ?_
          exact (db_X1_readRegister_87 C K) (v0) ((-1)) s0 _ _ _ h hP hD hS (lv_sub hl [1, 2] rfl)
        · have h := nd_pos h c8
          refine lv_aload_n hx hb dX1_readRegister_65 rfl (lv_at hl 1 rfl) ?_
          refine va_get (D := (dC, dI)) (ci := 2) (v := .ref (a 3)) (C := RX1) (T := TX1) (N := 13) hx hb hts hi_dm_X1_readRegister_X1 hown hK hP 0 rfl rfl 0 (by decide) (hts (.fieldLink RX1 12 "TimeMachine$Assembler" "reader" "LTimeMachine$Reader;") (List.mem_of_getElem? (i := 2) rfl)) (fun _ h9 => h9) rfl dX1_readRegister_66 ?_
          obtain ⟨o24, h⟩ := nd_o_e h
          refine va_get (D := (dC, dI)) (ci := 10) (v := .ref (a 11)) (C := RX9) (T := TX9) (N := 20) hx hb hts hi_dm_X1_readRegister_X9 hown hK hP 3 rfl rfl 0 (by decide) (hts (.fieldLink RX1 120 "TimeMachine$Reader" "source" "[B") (List.mem_of_getElem? (i := 19) rfl)) (fun _ h9 => h9) (congrArg (fun z => some (va_rf (Option.map (fun k => a (k + 3)) z))) o24) dX1_readRegister_69 ?_
          refine lv_aload_n hx hb dX1_readRegister_72 rfl (lv_at hl 1 rfl) ?_
          refine va_get (D := (dC, dI)) (ci := 2) (v := .ref (a 3)) (C := RX1) (T := TX1) (N := 13) hx hb hts hi_dm_X1_readRegister_X1 hown hK hP 0 rfl rfl 0 (by decide) (hts (.fieldLink RX1 12 "TimeMachine$Assembler" "reader" "LTimeMachine$Reader;") (List.mem_of_getElem? (i := 2) rfl)) (fun _ h9 => h9) rfl dX1_readRegister_73 ?_
          refine va_get (D := (dC, dI)) (ci := 10) (v := .int (sI s0.2 3)) (C := RX9) (T := TX9) (N := 20) hx hb hts hi_dm_X1_readRegister_X9 hown hK hP 3 rfl rfl 4 (by decide) (hts (.fieldLink RX1 88 "TimeMachine$Reader" "from" "I") (List.mem_of_getElem? (i := 9) rfl)) (fun _ h9 => h9) rfl dX1_readRegister_76 ?_
          refine lv_iload_n hx hb dX1_readRegister_79 rfl (lv_at hl 0 rfl) ?_
          obtain ⟨q25, s26, hq, h⟩ := nd_b2_e h
          have hPc := dp_vX1_BY_0 hP
          have hDc := dd_vX1_BY_0 hD
          have hKc := dy_vX1_BY_0 hK
          have hFc := nd_rs hDc hS hA
          have hzA : ∀ q : Nat, H.size ≤ q → A q := fun q h => hA q (Nat.le_trans hS.1 h)
          refine nd_cSi (As := [.ref (a 11), .int (sI s0.2 3), .int z7]) (rest := []) (q := q25) (w' := dw_BY (fun k => a (nd_ix [11] k)) (fun k => ac (nd_ix [11] k)) s26) ⟨hx, hb, hml, hown, hts⟩ (fun sz => dm_X7_registerAt l hlt dC dI (fun k => a (nd_ix [11] k)) (fun k => ac (nd_ix [11] k)) n ((sI s0.2 3)) (z7) ((pR nd_st0 0 (sR s0.2 7))) hq sz) (va_cwS 3 hts gi_dm_X1_readRegister_4 rfl rfl rfl (by decide +kernel) ⟨Nat.le_of_ble_eq_true rfl, Nat.le_of_ble_eq_true rfl⟩) hPc hDc hKc hS hA hN rfl hl.1 rfl (Nat.le_of_ble_eq_true rfl) dX1_readRegister_80 (fun H locs hP1 hD1 hk1 hS => ?_)
          obtain ⟨hP, hD⟩ := dn_vX1_BY_0 hP hD hzA hk1 hP1 hD1
          obtain ⟨s28, es28, h⟩ := nd_let_e h
          have hP : va_P (dC, dI) vwCl (dw_X1 a ac s28) H := by rw [es28]; exact hP
          have hD : va_D A (dw_X1 a ac s28) := by rw [es28]; exact hD
          refine lv_goto (tgt := 87) hx hb dX1_readRegister_83 (by decide) ?_
          exact (db_X1_readRegister_87 C K) (v0) (q25) s28 _ _ _ h hP hD hS (lv_sub hl [1, 2] rfl)
      · have h := nd_pos h c6
        exact (db_X1_readRegister_31 C K)  s0 _ _ _ h hP hD hS (lv_sub hl [0] rfl)
  · have h := nd_neg h c1
    refine lv_iconst (v := 0) hx hb dX1_readRegister_7 (by decide) ?_
    exact K _ _ _ _ _ _ dX1_readRegister_8 rfl (Option.some.inj h).symm hP hD hS
set_option maxHeartbeats 40000000 in
set_option maxRecDepth 100000 in
theorem dm_X1_readRegister (l : Launch) (hlt : l.stackTraces = false) (dC : Nat → ClassId) (dI : Nat → Nat → Nat) (a : Nat → Nat) (ac : Nat → ClassId) (n : Nat) (v0 : Int32) (s0 : St × (St)) {r : Int32 × (St × (St))} (h : df_X1_readRegister n v0 s0 = some r) (sz : Nat) : Met l yX1_readRegister ow_dm_X1_readRegister ({ frames := 6, cells := 0, slots := 0, locals := 133 }) (va_Pc [.ref (a 0), .int v0] (fun U => U.heap.size = sz ∧ va_P (dC, dI) vwCl (dw_X1 a ac s0) U.heap ∧ va_K (dC, dI) vwCl (dk_X1 ac) U ∧ va_D (fun _ => True) (dw_X1 a ac s0) ∧ nv_E dI (va_A (dw_X1 a ac s0) sz) U)) (va_Qi (fun x _ => x = r.1) (fun (_ : Unit) t => va_P (dC, dI) vwCl (dw_X1 a ac r.2) t.heap ∧ va_K (dC, dI) vwCl (dk_X1 ac) t ∧ va_D (va_A (dw_X1 a ac s0) sz) (dw_X1 a ac r.2)) (va_A (dw_X1 a ac s0) sz)) 0 0 (va_A (dw_X1 a ac s0) sz) := by
  refine Met.ofW (cc := cX1_readRegister) (maxL := 4) (ret := (some .int)) (by decide) rfl ?_
  intro p e s m args below meth c s₁ B hml hv
  obtain ⟨rfl, hsz, hP, hK, hD0, hN⟩ := hv
  have hx := B.exec
  have hb := B.bytes
  have hr := B.returns
  have hts := atoms_spec (ws := ow_dm_X1_readRegister) B.pre
  have hown : s.vm.findClass RX1 = some m.cls := findClass_of_methodNamed B.named
  have hlocks := B.notSynchronized
  subst hsz
  have hD := hD0.self (sz := s.heap.size)
  generalize hAe : va_A (dw_X1 a ac s0) s.heap.size = A at hD hN ⊢
  have hA : ∀ q : Nat, s.heap.size ≤ q → A q := fun q h => by rw [← hAe]; exact Or.inr h
  have hl := lv_entry ([.ref (a 0), .int v0]) (n := 4) (Nat.le_of_ble_eq_true rfl)
  rw [lg_entry_eq]
  generalize (lg_sl ([.ref (a 0), .int v0]) ++ List.replicate (4 - (lg_sl ([.ref (a 0), .int v0])).length) Slot.unset).toArray = ls at hl ⊢
  have hl : lv_has ls 4 [(0, .ref (a 0)), (1, .int v0)] := hl
  exact db_X1_readRegister_0 (dC := dC) (dI := dI) (a := a) (ac := ac) (n := n) (r := r) ⟨hlt, hx, hb, hml, hown, hts, hN, hA, hK⟩ (fun pc v τ H locs ls d z er hP hD hS => by subst er; exact W.zret (v := v) hx hb hr z (fun t ht hW => ⟨⟨v, (), rfl, rfl, by rw [ht]; exact hP, va_K.moved hW.alike hK, hD⟩, hS.F ht⟩) hS.2.2 d) v0 s0 _ _ _ h hP hD va_S.rf (lv_sub hl [0, 1] rfl)
def ow_dm_X1_readInstruction : List Cond := Cond.code yX1_readInstruction cX1_readInstruction 7 none :: ([Cond.fieldLink RX1 145 "TimeMachine$Op" "bits" "I", Cond.fieldLink RX1 135 "TimeMachine$Assembler" "order" "I", Cond.fieldLink RX1 226 "TimeMachine$Op" "form" "Ljava/lang/String;", Cond.methodLink RX1 230 yJ0_length_8abf5, Cond.instanceMethod yJ0_length_8abf5, Cond.selects RJ0 yJ0_length_8abf5 yJ0_length_8abf5, Cond.initialized RJ0, Cond.fieldLink RX1 148 "TimeMachine$Op" "sort" "I", Cond.fieldLink RX1 32 "TimeMachine$Assembler" "fault" "I", Cond.methodLink RX1 246 yX1_addInstruction, Cond.instanceMethod yX1_addInstruction, Cond.selects RX1 yX1_addInstruction yX1_addInstruction, Cond.initialized RX1, Cond.constant RX1 199 (-2147483648), Cond.constant RX1 200 (2147483647), Cond.methodLink RX1 173 yX1_fixed, Cond.instanceMethod yX1_fixed, Cond.selects RX1 yX1_fixed yX1_fixed, Cond.methodLink RX1 243 yX1_addNumber, Cond.instanceMethod yX1_addNumber, Cond.selects RX1 yX1_addNumber yX1_addNumber, Cond.methodLink RX1 235 yJ0_charAt_5068e, Cond.instanceMethod yJ0_charAt_5068e, Cond.selects RJ0 yJ0_charAt_5068e yJ0_charAt_5068e, Cond.fieldLink RX1 12 "TimeMachine$Assembler" "reader" "LTimeMachine$Reader;", Cond.methodLink RX1 170 yX9_sum, Cond.instanceMethod yX9_sum, Cond.selects RX9 yX9_sum yX9_sum, Cond.initialized RX9, Cond.methodLink RX1 77 yX1_blame, Cond.instanceMethod yX1_blame, Cond.selects RX1 yX1_blame yX1_blame, Cond.methodLink RX1 239 yX1_readRegister, Cond.instanceMethod yX1_readRegister, Cond.selects RX1 yX1_readRegister yX1_readRegister, Cond.methodLink RX1 194 yX1_expect, Cond.instanceMethod yX1_expect, Cond.selects RX1 yX1_expect yX1_expect] ++ (u_ws RX1 TX1 13 ++ (ow_dm_J0_length_8abf5 ++ (ow_dm_X1_addInstruction ++ (ow_dm_X1_fixed ++ (ow_dm_X1_addNumber ++ (ow_dm_J0_charAt_5068e ++ (ow_dm_X9_sum ++ (ow_dm_X1_blame ++ (ow_dm_X1_readRegister ++ (ow_dm_X1_expect ++ [])))))))))))
theorem gd_dm_X1_readInstruction : ∀ w ∈ ow_dm_X1_readInstruction, (w.onTables && w.keeps) = true ∨ ∃ ty, w = Cond.arrayClass ty := List.forall_mem_cons.mpr ⟨good_of_word rfl, List.forall_mem_append.mpr ⟨fun w h => good_of_word (List.all_eq_true.mp (by decide +kernel) w h), List.forall_mem_append.mpr ⟨gu_X1, List.forall_mem_append.mpr ⟨gd_dm_J0_length_8abf5, List.forall_mem_append.mpr ⟨gd_dm_X1_addInstruction, List.forall_mem_append.mpr ⟨gd_dm_X1_fixed, List.forall_mem_append.mpr ⟨gd_dm_X1_addNumber, List.forall_mem_append.mpr ⟨gd_dm_J0_charAt_5068e, List.forall_mem_append.mpr ⟨gd_dm_X9_sum, List.forall_mem_append.mpr ⟨gd_dm_X1_blame, List.forall_mem_append.mpr ⟨gd_dm_X1_readRegister, List.forall_mem_append.mpr ⟨gd_dm_X1_expect, fun _ h => nomatch h⟩⟩⟩⟩⟩⟩⟩⟩⟩⟩⟩⟩
theorem hi_dm_X1_readInstruction_X1 : ∀ w ∈ u_ws RX1 TX1 13, w ∈ ow_dm_X1_readInstruction := fun w h => List.mem_cons_of_mem _ (List.mem_append_right _ (List.mem_append_left _ h))
theorem gi_dm_X1_readInstruction_0 : GoodIn ow_dm_X1_readInstruction (wsV RX1 230 RJ0 yJ0_length_8abf5 ow_dm_J0_length_8abf5) := goodIn_app (goodIn_of _ (by decide +kernel)) (fun w h => ⟨List.mem_cons_of_mem _ (List.mem_append_right _ (List.mem_append_right _ (List.mem_append_left _ h))), gd_dm_J0_length_8abf5 w h⟩)
theorem gi_dm_X1_readInstruction_1 : GoodIn ow_dm_X1_readInstruction (wsV RX1 246 RX1 yX1_addInstruction ow_dm_X1_addInstruction) := goodIn_app (goodIn_of _ (by decide +kernel)) (fun w h => ⟨List.mem_cons_of_mem _ (List.mem_append_right _ (List.mem_append_right _ (List.mem_append_right _ (List.mem_append_left _ h)))), gd_dm_X1_addInstruction w h⟩)
theorem gi_dm_X1_readInstruction_2 : GoodIn ow_dm_X1_readInstruction (wsV RX1 173 RX1 yX1_fixed ow_dm_X1_fixed) := goodIn_app (goodIn_of _ (by decide +kernel)) (fun w h => ⟨List.mem_cons_of_mem _ (List.mem_append_right _ (List.mem_append_right _ (List.mem_append_right _ (List.mem_append_right _ (List.mem_append_left _ h))))), gd_dm_X1_fixed w h⟩)
theorem gi_dm_X1_readInstruction_3 : GoodIn ow_dm_X1_readInstruction (wsV RX1 243 RX1 yX1_addNumber ow_dm_X1_addNumber) := goodIn_app (goodIn_of _ (by decide +kernel)) (fun w h => ⟨List.mem_cons_of_mem _ (List.mem_append_right _ (List.mem_append_right _ (List.mem_append_right _ (List.mem_append_right _ (List.mem_append_right _ (List.mem_append_left _ h)))))), gd_dm_X1_addNumber w h⟩)
theorem gi_dm_X1_readInstruction_4 : GoodIn ow_dm_X1_readInstruction (wsV RX1 235 RJ0 yJ0_charAt_5068e ow_dm_J0_charAt_5068e) := goodIn_app (goodIn_of _ (by decide +kernel)) (fun w h => ⟨List.mem_cons_of_mem _ (List.mem_append_right _ (List.mem_append_right _ (List.mem_append_right _ (List.mem_append_right _ (List.mem_append_right _ (List.mem_append_right _ (List.mem_append_left _ h))))))), gd_dm_J0_charAt_5068e w h⟩)
theorem gi_dm_X1_readInstruction_5 : GoodIn ow_dm_X1_readInstruction (wsV RX1 170 RX9 yX9_sum ow_dm_X9_sum) := goodIn_app (goodIn_of _ (by decide +kernel)) (fun w h => ⟨List.mem_cons_of_mem _ (List.mem_append_right _ (List.mem_append_right _ (List.mem_append_right _ (List.mem_append_right _ (List.mem_append_right _ (List.mem_append_right _ (List.mem_append_right _ (List.mem_append_left _ h)))))))), gd_dm_X9_sum w h⟩)
theorem gi_dm_X1_readInstruction_6 : GoodIn ow_dm_X1_readInstruction (wsV RX1 77 RX1 yX1_blame ow_dm_X1_blame) := goodIn_app (goodIn_of _ (by decide +kernel)) (fun w h => ⟨List.mem_cons_of_mem _ (List.mem_append_right _ (List.mem_append_right _ (List.mem_append_right _ (List.mem_append_right _ (List.mem_append_right _ (List.mem_append_right _ (List.mem_append_right _ (List.mem_append_right _ (List.mem_append_left _ h))))))))), gd_dm_X1_blame w h⟩)
theorem gi_dm_X1_readInstruction_7 : GoodIn ow_dm_X1_readInstruction (wsV RX1 239 RX1 yX1_readRegister ow_dm_X1_readRegister) := goodIn_app (goodIn_of _ (by decide +kernel)) (fun w h => ⟨List.mem_cons_of_mem _ (List.mem_append_right _ (List.mem_append_right _ (List.mem_append_right _ (List.mem_append_right _ (List.mem_append_right _ (List.mem_append_right _ (List.mem_append_right _ (List.mem_append_right _ (List.mem_append_right _ (List.mem_append_left _ h)))))))))), gd_dm_X1_readRegister w h⟩)
theorem gi_dm_X1_readInstruction_8 : GoodIn ow_dm_X1_readInstruction (wsV RX1 194 RX1 yX1_expect ow_dm_X1_expect) := goodIn_app (goodIn_of _ (by decide +kernel)) (fun w h => ⟨List.mem_cons_of_mem _ (List.mem_append_right _ (List.mem_append_right _ (List.mem_append_right _ (List.mem_append_right _ (List.mem_append_right _ (List.mem_append_right _ (List.mem_append_right _ (List.mem_append_right _ (List.mem_append_right _ (List.mem_append_right _ (List.mem_append_left _ h))))))))))), gd_dm_X1_expect w h⟩)
def dj_X1_readInstruction_159 (p : Program) (l : Launch) (e : Env) (s : State) (m : MethodId) (args : Array Value) (below : List Frame) (meth : Method) (c : Code) (Q : State → Prop) (A : Nat → Prop) (dC : Nat → ClassId) (dI : Nat → Nat → Nat) (a : Nat → Nat) (ac : Nat → ClassId) (g : (St × (St)) → Option (St × (St))) (r : St × (St)) : Prop := ∀ (s0 : St × (St)) (H : Heap) (locs : List Loc) (ls : Array Slot), g s0 = some r → va_P (dC, dI) vwCl (dw_X1 a ac s0) H → va_D A (dw_X1 a ac s0) → va_S A s.heap H locs → lv_has ls 7 [] → W p l e (headSpec ow_dm_X1_readInstruction ({ frames := 7, cells := 0, slots := 0, locals := 156 })).room s m args below meth c H locs 0 0 Q (F0 m 159 ls [])
def dj_X1_readInstruction_110 (p : Program) (l : Launch) (e : Env) (s : State) (m : MethodId) (args : Array Value) (below : List Frame) (meth : Method) (c : Code) (Q : State → Prop) (A : Nat → Prop) (dC : Nat → ClassId) (dI : Nat → Nat → Nat) (a : Nat → Nat) (ac : Nat → ClassId) (g : Nat → Int32 → Int32 → Int32 → (St × (St)) → Option (St × (St))) (r : St × (St)) : Prop := ∀ (x1 : Nat) (x2 : Int32) (x3 : Int32) (x4 : Int32) (s0 : St × (St)) (H : Heap) (locs : List Loc) (ls : Array Slot), g x1 x2 x3 x4 s0 = some r → va_P (dC, dI) vwCl (dw_X1 a ac s0) H → va_D A (dw_X1 a ac s0) → va_S A s.heap H locs → lv_has ls 7 [(0, .ref (a 0)), (1, .ref (dI 1002 x1)), (2, .int x2), (3, .int x3), (4, .int x4)] → W p l e (headSpec ow_dm_X1_readInstruction ({ frames := 7, cells := 0, slots := 0, locals := 156 })).room s m args below meth c H locs 0 0 Q (F0 m 110 ls [])
def dj_X1_readInstruction_104 (p : Program) (l : Launch) (e : Env) (s : State) (m : MethodId) (args : Array Value) (below : List Frame) (meth : Method) (c : Code) (Q : State → Prop) (A : Nat → Prop) (dC : Nat → ClassId) (dI : Nat → Nat → Nat) (a : Nat → Nat) (ac : Nat → ClassId) (g : Nat → Int32 → Int32 → Int32 → Int32 → (St × (St)) → Option (St × (St))) (r : St × (St)) : Prop := ∀ (x1 : Nat) (x2 : Int32) (x3 : Int32) (x4 : Int32) (x5 : Int32) (s0 : St × (St)) (H : Heap) (locs : List Loc) (ls : Array Slot), g x1 x2 x3 x4 x5 s0 = some r → va_P (dC, dI) vwCl (dw_X1 a ac s0) H → va_D A (dw_X1 a ac s0) → va_S A s.heap H locs → lv_has ls 7 [(0, .ref (a 0)), (1, .ref (dI 1002 x1)), (2, .int x2), (3, .int x3), (4, .int x4), (5, .int x5)] → W p l e (headSpec ow_dm_X1_readInstruction ({ frames := 7, cells := 0, slots := 0, locals := 156 })).room s m args below meth c H locs 0 0 Q (F0 m 104 ls [])
def dj_X1_readInstruction_18 (p : Program) (l : Launch) (e : Env) (s : State) (m : MethodId) (args : Array Value) (below : List Frame) (meth : Method) (c : Code) (Q : State → Prop) (A : Nat → Prop) (dC : Nat → ClassId) (dI : Nat → Nat → Nat) (a : Nat → Nat) (ac : Nat → ClassId) (g : Nat → Int32 → Int32 → Int32 → Int32 → (St × (St)) → Option (St × (St))) (r : St × (St)) : Prop := ∀ (x1 : Nat) (x2 : Int32) (x3 : Int32) (x4 : Int32) (x5 : Int32) (s0 : St × (St)) (H : Heap) (locs : List Loc) (ls : Array Slot), g x1 x2 x3 x4 x5 s0 = some r → va_P (dC, dI) vwCl (dw_X1 a ac s0) H → va_D A (dw_X1 a ac s0) → va_S A s.heap H locs → lv_has ls 7 [(0, .ref (a 0)), (1, .ref (dI 1002 x1)), (2, .int x2), (3, .int x3), (4, .int x4), (5, .int x5)] → W p l e (headSpec ow_dm_X1_readInstruction ({ frames := 7, cells := 0, slots := 0, locals := 156 })).room s m args below meth c H locs 0 0 Q (F0 m 18 ls [])
def dj_X1_readInstruction_0 (p : Program) (l : Launch) (e : Env) (s : State) (m : MethodId) (args : Array Value) (below : List Frame) (meth : Method) (c : Code) (Q : State → Prop) (A : Nat → Prop) (dC : Nat → ClassId) (dI : Nat → Nat → Nat) (a : Nat → Nat) (ac : Nat → ClassId) (g : Nat → (St × (St)) → Option (St × (St))) (r : St × (St)) : Prop := ∀ (v0 : Nat) (s0 : St × (St)) (H : Heap) (locs : List Loc) (ls : Array Slot), g v0 s0 = some r → va_P (dC, dI) vwCl (dw_X1 a ac s0) H → va_D A (dw_X1 a ac s0) → va_S A s.heap H locs → lv_has ls 7 [(0, .ref (a 0)), (1, .ref (dI 1002 v0))] → W p l e (headSpec ow_dm_X1_readInstruction ({ frames := 7, cells := 0, slots := 0, locals := 156 })).room s m args below meth c H locs 0 0 Q (F0 m 0 ls [])
set_option maxHeartbeats 40000000 in
set_option maxRecDepth 100000 in
theorem db_X1_readInstruction_159 {p : Program} {l : Launch} {e : Env} {s : State} {m : MethodId} {args : Array Value} {below : List Frame} {meth : Method} {c : Code} {Q : State → Prop} {A : Nat → Prop} {dC : Nat → ClassId} {dI : Nat → Nat → Nat} {a : Nat → Nat} {ac : Nat → ClassId} {n : Nat} {r : St × (St)} (C : nd_C p l s m args c A (dC, dI) cX1_readInstruction 7 RX1 ow_dm_X1_readInstruction (dk_X1 ac)) (K : nd_Kv p l e (headSpec ow_dm_X1_readInstruction ({ frames := 7, cells := 0, slots := 0, locals := 156 })).room s m args below meth c Q A (dC, dI) cX1_readInstruction (St × (St)) (dw_X1 a ac) r) : dj_X1_readInstruction_159 p l e s m args below meth c Q A dC dI a ac (df_X1_readInstruction_159 n) r := by
  obtain ⟨hlt, hx, hb, hml, hown, hts, hN, hA, hK⟩ := id C
  intro s0 H locs ls h hP hD hS hl
  unfold df_X1_readInstruction_159 at h
  exact K _ _ _ _ _ dX1_readInstruction_159 (Option.some.inj h).symm hP hD hS
set_option maxHeartbeats 40000000 in
set_option maxRecDepth 100000 in
theorem db_X1_readInstruction_110 {p : Program} {l : Launch} {e : Env} {s : State} {m : MethodId} {args : Array Value} {below : List Frame} {meth : Method} {c : Code} {Q : State → Prop} {A : Nat → Prop} {dC : Nat → ClassId} {dI : Nat → Nat → Nat} {a : Nat → Nat} {ac : Nat → ClassId} {n : Nat} {r : St × (St)} (C : nd_C p l s m args c A (dC, dI) cX1_readInstruction 7 RX1 ow_dm_X1_readInstruction (dk_X1 ac)) (K : nd_Kv p l e (headSpec ow_dm_X1_readInstruction ({ frames := 7, cells := 0, slots := 0, locals := 156 })).room s m args below meth c Q A (dC, dI) cX1_readInstruction (St × (St)) (dw_X1 a ac) r) : dj_X1_readInstruction_110 p l e s m args below meth c Q A dC dI a ac (df_X1_readInstruction_110 n) r := by
  obtain ⟨hlt, hx, hb, hml, hown, hts, hN, hA, hK⟩ := id C
  intro x1 x2 x3 x4 s0 H locs ls h hP hD hS hl
  unfold df_X1_readInstruction_110 at h
  refine lv_aload_n hx hb dX1_readInstruction_110 rfl (lv_at hl 1 rfl) ?_
  obtain ⟨i9, h⟩ := nd_lt_e h
  refine vk_getf hx hb (hN.2.2.2.2.2.2.2.2.2.2.2.2.2.2.1 x1 i9).2.2.2.2.2 hS hown (hts (.fieldLink RX1 148 "TimeMachine$Op" "sort" "I") (List.mem_of_getElem? (i := 8) rfl)) (fun _ h9 => h9) dX1_readInstruction_111 ?_
  refine lv_bipush (v := 32) hx hb dX1_readInstruction_114 (by decide) ?_
  refine lv_iand hx hb dX1_readInstruction_116 ?_
  refine lv_if_eq (tgt := 143) hx hb dX1_readInstruction_117 (by decide) (fun c10 => ?_) (fun c10 => ?_)
  · have h := nd_pos h c10
    refine lv_aload_n hx hb dX1_readInstruction_143 rfl (lv_at hl 0 rfl) ?_
    refine va_get (D := (dC, dI)) (ci := 2) (v := .int (sI s0.1 2)) (C := RX1) (T := TX1) (N := 13) hx hb hts hi_dm_X1_readInstruction_X1 hown hK hP 0 rfl rfl 5 (by decide) (hts (.fieldLink RX1 32 "TimeMachine$Assembler" "fault" "I") (List.mem_of_getElem? (i := 9) rfl)) (fun _ h9 => h9) rfl dX1_readInstruction_144 ?_
    refine lv_if_ne (tgt := 159) hx hb dX1_readInstruction_147 (by decide) (fun c11 => ?_) (fun c11 => ?_)
    · have h := nd_neg h c11
      exact (db_X1_readInstruction_159 C K)  s0 _ _ _ h hP hD hS (lv_sub hl [] rfl)
    · have h := nd_pos h c11
      refine lv_aload_n hx hb dX1_readInstruction_150 rfl (lv_at hl 0 rfl) ?_
      refine lv_aload_n hx hb dX1_readInstruction_151 rfl (lv_at hl 1 rfl) ?_
      refine lv_iload_n hx hb dX1_readInstruction_152 rfl (lv_at hl 2 rfl) ?_
      refine lv_iload_n hx hb dX1_readInstruction_153 rfl (lv_at hl 3 rfl) ?_
      refine lv_iload hx hb dX1_readInstruction_154 (lv_at hl 4 rfl) ?_
      obtain ⟨s13, hq, h⟩ := nd_b1_e h
      have hPc := hP
      have hDc := hD
      have hKc := hK
      have hFc := nd_rs hD hS hA
      refine nd_cVv (As := [.ref (dI 1002 x1), .int x2, .int x3, .int x4]) (rest := []) (w' := dw_X1 a ac s13) ⟨hx, hb, hml, hown, hts⟩ (fun sz => dm_X1_addInstruction l hlt dC dI a ac n (x1) (x2) (x3) (x4) s0 hq sz) (cwV 4 hts gi_dm_X1_readInstruction_1 rfl rfl rfl (by decide +kernel) ⟨Nat.le_of_ble_eq_true rfl, Nat.le_of_ble_eq_true rfl⟩) hPc hDc hKc hS hA hN (va_recv hKc hPc (ci := 2) (q0 := 0) rfl rfl) rfl hl.1 rfl (Nat.le_of_ble_eq_true rfl) dX1_readInstruction_156 (fun H locs hP1 hD1 hk1 hS => ?_)
      have hP := hP1
      have hD := hD1.weaken (fun k q _ h => hFc q.1 h)
      exact (db_X1_readInstruction_159 C K)  s13 _ _ _ h hP hD hS (lv_sub hl [] rfl)
  · have h := nd_neg h c10
    refine lv_aload_n hx hb dX1_readInstruction_120 rfl (lv_at hl 0 rfl) ?_
    refine lv_iload_n hx hb dX1_readInstruction_121 rfl (lv_at hl 2 rfl) ?_
    refine lv_bipush (v := 7) hx hb dX1_readInstruction_122 (by decide) ?_
    refine lv_ishr hx hb dX1_readInstruction_124 ?_
    refine lv_bipush (v := 31) hx hb dX1_readInstruction_125 (by decide) ?_
    refine lv_iand hx hb dX1_readInstruction_127 ?_
    refine lv_aload_n hx hb dX1_readInstruction_128 rfl (lv_at hl 0 rfl) ?_
    refine lv_iload_n hx hb dX1_readInstruction_129 rfl (lv_at hl 3 rfl) ?_
    refine lv_ldc hx hb hown (hts (.constant RX1 199 (-2147483648)) (List.mem_of_getElem? (i := 14) rfl)) dX1_readInstruction_130 ?_
    refine lv_ldc hx hb hown (hts (.constant RX1 200 (2147483647)) (List.mem_of_getElem? (i := 15) rfl)) dX1_readInstruction_132 ?_
    obtain ⟨q15, s16, hq, h⟩ := nd_b2_e h
    have hPc := hP
    have hDc := hD
    have hKc := hK
    have hFc := nd_rs hD hS hA
    refine nd_cVi (As := [.int x3, .int (-2147483648), .int 2147483647]) (rest := [.int (((x2 : Int32) >>> ((7 : Int32) &&& 31)) &&& 31), .ref (a 0)]) (q := q15) (w' := dw_X1 a ac s16) ⟨hx, hb, hml, hown, hts⟩ (fun sz => dm_X1_fixed l hlt dC dI a ac n (x3) ((-2147483648)) (2147483647) s0 hq sz) (cwV 3 hts gi_dm_X1_readInstruction_2 rfl rfl rfl (by decide +kernel) ⟨Nat.le_of_ble_eq_true rfl, Nat.le_of_ble_eq_true rfl⟩) hPc hDc hKc hS hA hN (va_recv hKc hPc (ci := 2) (q0 := 0) rfl rfl) rfl hl.1 rfl (Nat.le_of_ble_eq_true rfl) dX1_readInstruction_134 (fun H locs hP1 hD1 hk1 hS => ?_)
    have hP := hP1
    have hD := hD1.weaken (fun k q _ h => hFc q.1 h)
    obtain ⟨s19, hq, h⟩ := nd_b1_e h
    have hPc := hP
    have hDc := hD
    have hKc := hK
    have hFc := nd_rs hD hS hA
    refine nd_cVv (As := [.int (((x2 : Int32) >>> ((7 : Int32) &&& 31)) &&& 31), .int q15]) (rest := []) (w' := dw_X1 a ac s19) ⟨hx, hb, hml, hown, hts⟩ (fun sz => dm_X1_addNumber l hlt dC dI a ac n ((((x2 : Int32) >>> ((7 : Int32) &&& 31)) &&& 31)) (q15) s16 hq sz) (cwV 2 hts gi_dm_X1_readInstruction_3 rfl rfl rfl (by decide +kernel) ⟨Nat.le_of_ble_eq_true rfl, Nat.le_of_ble_eq_true rfl⟩) hPc hDc hKc hS hA hN (va_recv hKc hPc (ci := 2) (q0 := 0) rfl rfl) rfl hl.1 rfl (Nat.le_of_ble_eq_true rfl) dX1_readInstruction_137 (fun H locs hP1 hD1 hk1 hS => ?_)
    have hP := hP1
    have hD := hD1.weaken (fun k q _ h => hFc q.1 h)
    refine lv_goto (tgt := 159) hx hb dX1_readInstruction_140 (by decide) ?_
    exact (db_X1_readInstruction_159 C K)  s19 _ _ _ h hP hD hS (lv_sub hl [] rfl)
set_option maxHeartbeats 40000000 in
set_option maxRecDepth 100000 in
theorem db_X1_readInstruction_104 {p : Program} {l : Launch} {e : Env} {s : State} {m : MethodId} {args : Array Value} {below : List Frame} {meth : Method} {c : Code} {Q : State → Prop} {A : Nat → Prop} {dC : Nat → ClassId} {dI : Nat → Nat → Nat} {a : Nat → Nat} {ac : Nat → ClassId} {n : Nat} {r : St × (St)} (C : nd_C p l s m args c A (dC, dI) cX1_readInstruction 7 RX1 ow_dm_X1_readInstruction (dk_X1 ac)) (K : nd_Kv p l e (headSpec ow_dm_X1_readInstruction ({ frames := 7, cells := 0, slots := 0, locals := 156 })).room s m args below meth c Q A (dC, dI) cX1_readInstruction (St × (St)) (dw_X1 a ac) r) {g18 : Nat → Int32 → Int32 → Int32 → Int32 → (St × (St)) → Option (St × (St))} (J18 : dj_X1_readInstruction_18 p l e s m args below meth c Q A dC dI a ac g18 r) : dj_X1_readInstruction_104 p l e s m args below meth c Q A dC dI a ac (df_X1_readInstruction_104 n g18) r := by
  obtain ⟨hlt, hx, hb, hml, hown, hts, hN, hA, hK⟩ := id C
  intro x1 x2 x3 x4 x5 s0 H locs ls h hP hD hS hl
  unfold df_X1_readInstruction_104 at h
  obtain ⟨z34, ez34, h⟩ := nd_let_e h
  refine lv_iinc (v := z34) (lv' := [(5, .int z34), (0, .ref (a 0)), (1, .ref (dI 1002 x1)), (2, .int x2), (3, .int x3), (4, .int x4)]) hx hb dX1_readInstruction_104 hl (k := 5) rfl (by rw [ez34]) (by decide) rfl (fun ls hl => ?_)
  refine lv_goto (tgt := 18) hx hb dX1_readInstruction_107 (by decide) ?_
  exact (J18) (x1) (x2) (x3) (x4) (z34) s0 _ _ _ h hP hD hS (lv_sub hl [1, 2, 3, 4, 5, 0] rfl)
set_option maxHeartbeats 40000000 in
set_option maxRecDepth 100000 in
theorem dB_X1_readInstruction_18 {p : Program} {l : Launch} {e : Env} {s : State} {m : MethodId} {args : Array Value} {below : List Frame} {meth : Method} {c : Code} {Q : State → Prop} {A : Nat → Prop} {dC : Nat → ClassId} {dI : Nat → Nat → Nat} {a : Nat → Nat} {ac : Nat → ClassId} {n : Nat} {r : St × (St)} (C : nd_C p l s m args c A (dC, dI) cX1_readInstruction 7 RX1 ow_dm_X1_readInstruction (dk_X1 ac)) (K : nd_Kv p l e (headSpec ow_dm_X1_readInstruction ({ frames := 7, cells := 0, slots := 0, locals := 156 })).room s m args below meth c Q A (dC, dI) cX1_readInstruction (St × (St)) (dw_X1 a ac) r) {g18 : Nat → Int32 → Int32 → Int32 → Int32 → (St × (St)) → Option (St × (St))} (J18 : dj_X1_readInstruction_18 p l e s m args below meth c Q A dC dI a ac g18 r) : dj_X1_readInstruction_18 p l e s m args below meth c Q A dC dI a ac (dF_X1_readInstruction_18 n g18) r := by
  obtain ⟨hlt, hx, hb, hml, hown, hts, hN, hA, hK⟩ := id C
  intro x1 x2 x3 x4 x5 s0 H locs ls h hP hD hS hl
  unfold dF_X1_readInstruction_18 at h
  refine lv_iload hx hb dX1_readInstruction_18 (lv_at hl 5 rfl) ?_
  refine lv_aload_n hx hb dX1_readInstruction_20 rfl (lv_at hl 1 rfl) ?_
  obtain ⟨i3, h⟩ := nd_lt_e h
  refine vk_getf hx hb (hN.2.2.2.2.2.2.2.2.2.2.2.2.2.2.1 x1 i3).2.2.2.1 hS hown (hts (.fieldLink RX1 226 "TimeMachine$Op" "form" "Ljava/lang/String;") (List.mem_of_getElem? (i := 3) rfl)) (fun _ h9 => h9) dX1_readInstruction_21 ?_
  obtain ⟨i6, h⟩ := nd_lt_e h
  obtain ⟨q4, s5, hq, h⟩ := nd_b2_e h
  have hPc : va_P (dC, dI) vwCl (dw_P a ac ()) H := nd_p0
  have hDc : va_D A (dw_P a ac ()) := nd_d0
  have hKc : va_K (dC, dI) vwCl (dk_P ac) s := nd_y0 hK
  have hFc : ∀ q, va_A (dw_P a ac ()) H.size q → A q := nd_r0 hS hA
  refine nd_cVi (As := []) (rest := [.int x5]) (q := q4) (w' := dw_P a ac s5) ⟨hx, hb, hml, hown, hts⟩ (fun sz => dm_J0_length_8abf5 l hlt dC dI a ac n ((ko_f x1)) () hq sz) (cwV 0 hts gi_dm_X1_readInstruction_0 rfl rfl rfl (by decide +kernel) ⟨Nat.le_of_ble_eq_true rfl, Nat.le_of_ble_eq_true rfl⟩) hPc hDc hKc hS hA hN (nv_rcv hN.2.2.2.2.2.2.2.2.2.2.2 i6 hS) rfl hl.1 rfl (Nat.le_of_ble_eq_true rfl) dX1_readInstruction_24 (fun H locs hP1 hD1 hk1 hS => ?_)
  have hP := nd_n0 hP hk1
  refine lv_icmp_ge (tgt := 110) hx hb dX1_readInstruction_27 (by decide) (fun c8 => ?_) (fun c8 => ?_)
  · have h := nd_pos h c8
    exact (db_X1_readInstruction_110 C K) (x1) (x2) (x3) (x4) s0 _ _ _ h hP hD hS (lv_sub hl [0, 1, 2, 3, 4] rfl)
  · have h := nd_neg h c8
    refine lv_aload_n hx hb dX1_readInstruction_30 rfl (lv_at hl 0 rfl) ?_
    refine va_get (D := (dC, dI)) (ci := 2) (v := .int (sI s0.1 2)) (C := RX1) (T := TX1) (N := 13) hx hb hts hi_dm_X1_readInstruction_X1 hown hK hP 0 rfl rfl 5 (by decide) (hts (.fieldLink RX1 32 "TimeMachine$Assembler" "fault" "I") (List.mem_of_getElem? (i := 9) rfl)) (fun _ h9 => h9) rfl dX1_readInstruction_31 ?_
    refine lv_if_ne (tgt := 110) hx hb dX1_readInstruction_34 (by decide) (fun c21 => ?_) (fun c21 => ?_)
    · have h := nd_neg h c21
      exact (db_X1_readInstruction_110 C K) (x1) (x2) (x3) (x4) s0 _ _ _ h hP hD hS (lv_sub hl [0, 1, 2, 3, 4] rfl)
    · have h := nd_pos h c21
      refine lv_aload_n hx hb dX1_readInstruction_37 rfl (lv_at hl 1 rfl) ?_
      obtain ⟨i22, h⟩ := nd_lt_e h
      refine vk_getf hx hb (hN.2.2.2.2.2.2.2.2.2.2.2.2.2.2.1 x1 i22).2.2.2.1 hS hown (hts (.fieldLink RX1 226 "TimeMachine$Op" "form" "Ljava/lang/String;") (List.mem_of_getElem? (i := 3) rfl)) (fun _ h9 => h9) dX1_readInstruction_38 ?_
      refine lv_iload hx hb dX1_readInstruction_41 (lv_at hl 5 rfl) ?_
      obtain ⟨i25, h⟩ := nd_lt_e h
      obtain ⟨q23, s24, hq, h⟩ := nd_b2_e h
      have hPc : va_P (dC, dI) vwCl (dw_P a ac ()) H := nd_p0
      have hDc : va_D A (dw_P a ac ()) := nd_d0
      have hKc : va_K (dC, dI) vwCl (dk_P ac) s := nd_y0 hK
      have hFc : ∀ q, va_A (dw_P a ac ()) H.size q → A q := nd_r0 hS hA
      refine nd_cVi (As := [.int x5]) (rest := []) (q := q23) (w' := dw_P a ac s24) ⟨hx, hb, hml, hown, hts⟩ (fun sz => dm_J0_charAt_5068e l hlt dC dI a ac n ((ko_f x1)) (x5) () hq sz) (cwV 1 hts gi_dm_X1_readInstruction_4 rfl rfl rfl (by decide +kernel) ⟨Nat.le_of_ble_eq_true rfl, Nat.le_of_ble_eq_true rfl⟩) hPc hDc hKc hS hA hN (nv_rcv hN.2.2.2.2.2.2.2.2.2.2.2 i25 hS) rfl hl.1 rfl (Nat.le_of_ble_eq_true rfl) dX1_readInstruction_43 (fun H locs hP1 hD1 hk1 hS => ?_)
      have hP := nd_n0 hP hk1
      refine lv_istore (lv' := [(6, .int q23), (0, .ref (a 0)), (1, .ref (dI 1002 x1)), (2, .int x2), (3, .int x3), (4, .int x4), (5, .int x5)]) hx hb dX1_readInstruction_46 hl (by decide) rfl (fun ls hl => ?_)
      refine lv_iload hx hb dX1_readInstruction_48 (lv_at hl 0 rfl) ?_
      refine lv_bipush (v := 65) hx hb dX1_readInstruction_50 (by decide) ?_
      refine lv_icmp_ge (tgt := 64) hx hb dX1_readInstruction_52 (by decide) (fun c27 => ?_) (fun c27 => ?_)
      · have h := nd_pos h c27
        refine lv_iload hx hb dX1_readInstruction_64 (lv_at hl 0 rfl) ?_
        refine lv_bipush (v := 97) hx hb dX1_readInstruction_66 (by decide) ?_
        refine lv_icmp_lt (tgt := 83) hx hb dX1_readInstruction_68 (by decide) (fun c28 => ?_) (fun c28 => ?_)
        · have h := nd_pos h c28
          refine lv_iload hx hb dX1_readInstruction_83 (lv_at hl 0 rfl) ?_
          refine lv_istore (lv' := [(4, .int q23), (6, .int q23), (0, .ref (a 0)), (1, .ref (dI 1002 x1)), (2, .int x2), (3, .int x3), (5, .int x5)]) hx hb dX1_readInstruction_85 hl (by decide) rfl (fun ls hl => ?_)
          refine lv_aload_n hx hb dX1_readInstruction_87 rfl (lv_at hl 2 rfl) ?_
          refine va_get (D := (dC, dI)) (ci := 2) (v := .ref (a 3)) (C := RX1) (T := TX1) (N := 13) hx hb hts hi_dm_X1_readInstruction_X1 hown hK hP 0 rfl rfl 0 (by decide) (hts (.fieldLink RX1 12 "TimeMachine$Assembler" "reader" "LTimeMachine$Reader;") (List.mem_of_getElem? (i := 25) rfl)) (fun _ h9 => h9) rfl dX1_readInstruction_88 ?_
          obtain ⟨q29, s30, hq, h⟩ := nd_b2_e h
          have hPc := dp_X1_3 hP
          have hDc := dd_X1_3 hD
          have hKc := dy_X1_3 hK
          have hFc := nd_rs hDc hS hA
          have hzA : ∀ q : Nat, H.size ≤ q → A q := fun q h => hA q (Nat.le_trans hS.1 h)
          refine nd_cVi (As := []) (rest := []) (q := q29) (w' := dw_X9 (fun k => a (k + 3)) (fun k => ac (k + 3)) s30) ⟨hx, hb, hml, hown, hts⟩ (fun sz => dm_X9_sum l hlt dC dI (fun k => a (k + 3)) (fun k => ac (k + 3)) n  s0.2 hq sz) (cwV 0 hts gi_dm_X1_readInstruction_5 rfl rfl rfl (by decide +kernel) ⟨Nat.le_of_ble_eq_true rfl, Nat.le_of_ble_eq_true rfl⟩) hPc hDc hKc hS hA hN (va_recv hKc hPc (ci := 10) (q0 := 0) rfl rfl) rfl hl.1 rfl (Nat.le_of_ble_eq_true rfl) dX1_readInstruction_91 (fun H locs hP1 hD1 hk1 hS => ?_)
          obtain ⟨hP, hD⟩ := dn_X1_3 hP hD hzA hk1 hP1 hD1
          obtain ⟨s32, es32, h⟩ := nd_let_e h
          have hP : va_P (dC, dI) vwCl (dw_X1 a ac s32) H := by rw [es32]; exact hP
          have hD : va_D A (dw_X1 a ac s32) := by rw [es32]; exact hD
          refine lv_istore_n (lv' := [(3, .int q29), (4, .int q23), (6, .int q23), (0, .ref (a 0)), (1, .ref (dI 1002 x1)), (2, .int x2), (5, .int x5)]) hx hb dX1_readInstruction_94 rfl hl (by decide) rfl (fun ls hl => ?_)
          refine lv_iload_n hx hb dX1_readInstruction_95 rfl (lv_at hl 0 rfl) ?_
          refine lv_if_ge (tgt := 104) hx hb dX1_readInstruction_96 (by decide) (fun c33 => ?_) (fun c33 => ?_)
          · have h := nd_pos h c33
            exact (db_X1_readInstruction_104 C K J18) (x1) (x2) (q29) (q23) (x5) s32 _ _ _ h hP hD hS (lv_sub hl [3, 4, 5, 0, 1, 6] rfl)
          · have h := nd_neg h c33
            refine lv_aload_n hx hb dX1_readInstruction_99 rfl (lv_at hl 3 rfl) ?_
            refine lv_iconst (v := 1) hx hb dX1_readInstruction_100 (by decide) ?_
            obtain ⟨s36, hq, h⟩ := nd_b1_e h
            have hPc := hP
            have hDc := hD
            have hKc := hK
            have hFc := nd_rs hD hS hA
            refine nd_cVv (As := [.int 1]) (rest := []) (w' := dw_X1 a ac s36) ⟨hx, hb, hml, hown, hts⟩ (fun sz => dm_X1_blame l hlt dC dI a ac n (1) s32 hq sz) (cwV 1 hts gi_dm_X1_readInstruction_6 rfl rfl rfl (by decide +kernel) ⟨Nat.le_of_ble_eq_true rfl, Nat.le_of_ble_eq_true rfl⟩) hPc hDc hKc hS hA hN (va_recv hKc hPc (ci := 2) (q0 := 0) rfl rfl) rfl hl.1 rfl (Nat.le_of_ble_eq_true rfl) dX1_readInstruction_101 (fun H locs hP1 hD1 hk1 hS => ?_)
            have hP := hP1
            have hD := hD1.weaken (fun k q _ h => hFc q.1 h)
            exact (db_X1_readInstruction_104 C K J18) (x1) (x2) (q29) (q23) (x5) s36 _ _ _ h hP hD hS (lv_sub hl [3, 4, 5, 0, 1, 6] rfl)
        · have h := nd_neg h c28
          refine lv_iload_n hx hb dX1_readInstruction_71 rfl (lv_at hl 3 rfl) ?_
          refine lv_aload_n hx hb dX1_readInstruction_72 rfl (lv_at hl 1 rfl) ?_
          refine lv_iload hx hb dX1_readInstruction_73 (lv_at hl 0 rfl) ?_
          obtain ⟨q38, s39, hq, h⟩ := nd_b2_e h
          have hPc := hP
          have hDc := hD
          have hKc := hK
          have hFc := nd_rs hD hS hA
          refine nd_cVi (As := [.int q23]) (rest := [.int x2]) (q := q38) (w' := dw_X1 a ac s39) ⟨hx, hb, hml, hown, hts⟩ (fun sz => dm_X1_readRegister l hlt dC dI a ac n (q23) s0 hq sz) (cwV 1 hts gi_dm_X1_readInstruction_7 rfl rfl rfl (by decide +kernel) ⟨Nat.le_of_ble_eq_true rfl, Nat.le_of_ble_eq_true rfl⟩) hPc hDc hKc hS hA hN (va_recv hKc hPc (ci := 2) (q0 := 0) rfl rfl) rfl hl.1 rfl (Nat.le_of_ble_eq_true rfl) dX1_readInstruction_75 (fun H locs hP1 hD1 hk1 hS => ?_)
          have hP := hP1
          have hD := hD1.weaken (fun k q _ h => hFc q.1 h)
          refine lv_ior hx hb dX1_readInstruction_78 ?_
          refine lv_topi (fun z41 ez41 => ?_)
          have h := nd_at h ez41
          refine lv_istore_n (lv' := [(2, .int z41), (6, .int q23), (0, .ref (a 0)), (1, .ref (dI 1002 x1)), (3, .int x3), (4, .int x4), (5, .int x5)]) hx hb dX1_readInstruction_79 rfl hl (by decide) rfl (fun ls hl => ?_)
          refine lv_goto (tgt := 104) hx hb dX1_readInstruction_80 (by decide) ?_
          exact (db_X1_readInstruction_104 C K J18) (x1) (z41) (x3) (x4) (x5) s39 _ _ _ h hP hD hS (lv_sub hl [2, 3, 0, 4, 5, 6] rfl)
      · have h := nd_neg h c27
        refine lv_aload_n hx hb dX1_readInstruction_55 rfl (lv_at hl 1 rfl) ?_
        refine lv_iload hx hb dX1_readInstruction_56 (lv_at hl 0 rfl) ?_
        obtain ⟨s43, hq, h⟩ := nd_b1_e h
        have hPc := hP
        have hDc := hD
        have hKc := hK
        have hFc := nd_rs hD hS hA
        refine nd_cVv (As := [.int q23]) (rest := []) (w' := dw_X1 a ac s43) ⟨hx, hb, hml, hown, hts⟩ (fun sz => dm_X1_expect l hlt dC dI a ac n (q23) s0 hq sz) (cwV 1 hts gi_dm_X1_readInstruction_8 rfl rfl rfl (by decide +kernel) ⟨Nat.le_of_ble_eq_true rfl, Nat.le_of_ble_eq_true rfl⟩) hPc hDc hKc hS hA hN (va_recv hKc hPc (ci := 2) (q0 := 0) rfl rfl) rfl hl.1 rfl (Nat.le_of_ble_eq_true rfl) dX1_readInstruction_58 (fun H locs hP1 hD1 hk1 hS => ?_)
        have hP := hP1
        have hD := hD1.weaken (fun k q _ h => hFc q.1 h)
        refine lv_goto (tgt := 104) hx hb dX1_readInstruction_61 (by decide) ?_
        exact (db_X1_readInstruction_104 C K J18) (x1) (x2) (x3) (x4) (x5) s43 _ _ _ h hP hD hS (lv_sub hl [1, 2, 3, 4, 5, 6] rfl)
set_option maxHeartbeats 40000000 in
set_option maxRecDepth 100000 in
theorem db_X1_readInstruction_18 {p : Program} {l : Launch} {e : Env} {s : State} {m : MethodId} {args : Array Value} {below : List Frame} {meth : Method} {c : Code} {Q : State → Prop} {A : Nat → Prop} {dC : Nat → ClassId} {dI : Nat → Nat → Nat} {a : Nat → Nat} {ac : Nat → ClassId} {n : Nat} {r : St × (St)} (C : nd_C p l s m args c A (dC, dI) cX1_readInstruction 7 RX1 ow_dm_X1_readInstruction (dk_X1 ac)) (K : nd_Kv p l e (headSpec ow_dm_X1_readInstruction ({ frames := 7, cells := 0, slots := 0, locals := 156 })).room s m args below meth c Q A (dC, dI) cX1_readInstruction (St × (St)) (dw_X1 a ac) r) (k : Nat) : dj_X1_readInstruction_18 p l e s m args below meth c Q A dC dI a ac (df_X1_readInstruction_18 n k) r := by
  induction k with
  | zero => intro x1 x2 x3 x4 x5 s0 H locs ls h; exact nomatch (show (none : Option (St × (St))) = some r from h)
  | succ k ih => exact dB_X1_readInstruction_18 C K ih
set_option maxHeartbeats 40000000 in
set_option maxRecDepth 100000 in
theorem db_X1_readInstruction_0 {p : Program} {l : Launch} {e : Env} {s : State} {m : MethodId} {args : Array Value} {below : List Frame} {meth : Method} {c : Code} {Q : State → Prop} {A : Nat → Prop} {dC : Nat → ClassId} {dI : Nat → Nat → Nat} {a : Nat → Nat} {ac : Nat → ClassId} {n : Nat} {r : St × (St)} (C : nd_C p l s m args c A (dC, dI) cX1_readInstruction 7 RX1 ow_dm_X1_readInstruction (dk_X1 ac)) (K : nd_Kv p l e (headSpec ow_dm_X1_readInstruction ({ frames := 7, cells := 0, slots := 0, locals := 156 })).room s m args below meth c Q A (dC, dI) cX1_readInstruction (St × (St)) (dw_X1 a ac) r) : dj_X1_readInstruction_0 p l e s m args below meth c Q A dC dI a ac (df_X1_readInstruction_0 n) r := by
  obtain ⟨hlt, hx, hb, hml, hown, hts, hN, hA, hK⟩ := id C
  intro v0 s0 H locs ls h hP hD hS hl
  unfold df_X1_readInstruction_0 at h
  refine lv_aload_n hx hb dX1_readInstruction_0 rfl (lv_at hl 1 rfl) ?_
  obtain ⟨i1, h⟩ := nd_lt_e h
  refine vk_getf hx hb (hN.2.2.2.2.2.2.2.2.2.2.2.2.2.2.1 v0 i1).2.2.2.2.1 hS hown (hts (.fieldLink RX1 145 "TimeMachine$Op" "bits" "I") (List.mem_of_getElem? (i := 1) rfl)) (fun _ h9 => h9) dX1_readInstruction_1 ?_
  refine lv_aload_n hx hb dX1_readInstruction_4 rfl (lv_at hl 0 rfl) ?_
  refine va_get (D := (dC, dI)) (ci := 2) (v := .int (sI s0.1 5)) (C := RX1) (T := TX1) (N := 13) hx hb hts hi_dm_X1_readInstruction_X1 hown hK hP 0 rfl rfl 8 (by decide) (hts (.fieldLink RX1 135 "TimeMachine$Assembler" "order" "I") (List.mem_of_getElem? (i := 2) rfl)) (fun _ h9 => h9) rfl dX1_readInstruction_5 ?_
  refine lv_ior hx hb dX1_readInstruction_8 ?_
  refine lv_topi (fun z2 ez2 => ?_)
  have h := nd_at h ez2
  refine lv_istore_n (lv' := [(2, .int z2), (0, .ref (a 0)), (1, .ref (dI 1002 v0))]) hx hb dX1_readInstruction_9 rfl hl (by decide) rfl (fun ls hl => ?_)
  refine lv_iconst (v := (-1)) hx hb dX1_readInstruction_10 (by decide) ?_
  refine lv_istore_n (lv' := [(3, .int (-1)), (2, .int z2), (0, .ref (a 0)), (1, .ref (dI 1002 v0))]) hx hb dX1_readInstruction_11 rfl hl (by decide) rfl (fun ls hl => ?_)
  refine lv_iconst (v := 0) hx hb dX1_readInstruction_12 (by decide) ?_
  refine lv_istore (lv' := [(4, .int 0), (3, .int (-1)), (2, .int z2), (0, .ref (a 0)), (1, .ref (dI 1002 v0))]) hx hb dX1_readInstruction_13 hl (by decide) rfl (fun ls hl => ?_)
  refine lv_iconst (v := 0) hx hb dX1_readInstruction_15 (by decide) ?_
  refine lv_istore (lv' := [(5, .int 0), (4, .int 0), (3, .int (-1)), (2, .int z2), (0, .ref (a 0)), (1, .ref (dI 1002 v0))]) hx hb dX1_readInstruction_16 hl (by decide) rfl (fun ls hl => ?_)
  exact (db_X1_readInstruction_18 C K n) (v0) (z2) ((-1)) (0) (0) s0 _ _ _ h hP hD hS (lv_sub hl [4, 5, 3, 2, 1, 0] rfl)
set_option maxHeartbeats 40000000 in
set_option maxRecDepth 100000 in
theorem dm_X1_readInstruction (l : Launch) (hlt : l.stackTraces = false) (dC : Nat → ClassId) (dI : Nat → Nat → Nat) (a : Nat → Nat) (ac : Nat → ClassId) (n : Nat) (v0 : Nat) (s0 : St × (St)) {r : St × (St)} (h : df_X1_readInstruction n v0 s0 = some r) (sz : Nat) : Met l yX1_readInstruction ow_dm_X1_readInstruction ({ frames := 7, cells := 0, slots := 0, locals := 156 }) (va_Pc [.ref (a 0), .ref (dI 1002 v0)] (fun U => U.heap.size = sz ∧ va_P (dC, dI) vwCl (dw_X1 a ac s0) U.heap ∧ va_K (dC, dI) vwCl (dk_X1 ac) U ∧ va_D (fun _ => True) (dw_X1 a ac s0) ∧ nv_E dI (va_A (dw_X1 a ac s0) sz) U)) (va_Qv (fun _ => True) (fun (_ : Unit) t => va_P (dC, dI) vwCl (dw_X1 a ac r) t.heap ∧ va_K (dC, dI) vwCl (dk_X1 ac) t ∧ va_D (va_A (dw_X1 a ac s0) sz) (dw_X1 a ac r)) (va_A (dw_X1 a ac s0) sz)) 0 0 (va_A (dw_X1 a ac s0) sz) := by
  refine Met.ofW (cc := cX1_readInstruction) (maxL := 7) (ret := none) (by decide) rfl ?_
  intro p e s m args below meth c s₁ B hml hv
  obtain ⟨rfl, hsz, hP, hK, hD0, hN⟩ := hv
  have hx := B.exec
  have hb := B.bytes
  have hr := B.returns
  have hts := atoms_spec (ws := ow_dm_X1_readInstruction) B.pre
  have hown : s.vm.findClass RX1 = some m.cls := findClass_of_methodNamed B.named
  have hlocks := B.notSynchronized
  subst hsz
  have hD := hD0.self (sz := s.heap.size)
  generalize hAe : va_A (dw_X1 a ac s0) s.heap.size = A at hD hN ⊢
  have hA : ∀ q : Nat, s.heap.size ≤ q → A q := fun q h => by rw [← hAe]; exact Or.inr h
  have hl := lv_entry ([.ref (a 0), .ref (dI 1002 v0)]) (n := 7) (Nat.le_of_ble_eq_true rfl)
  rw [lg_entry_eq]
  generalize (lg_sl ([.ref (a 0), .ref (dI 1002 v0)]) ++ List.replicate (7 - (lg_sl ([.ref (a 0), .ref (dI 1002 v0)])).length) Slot.unset).toArray = ls at hl ⊢
  have hl : lv_has ls 7 [(0, .ref (a 0)), (1, .ref (dI 1002 v0))] := hl
  exact db_X1_readInstruction_0 (dC := dC) (dI := dI) (a := a) (ac := ac) (n := n) (r := r) ⟨hlt, hx, hb, hml, hown, hts, hN, hA, hK⟩ (fun pc τ H locs ls d er hP hD hS => by subst er; exact W.vret hx hb hr (fun t ht hW => ⟨⟨(), rfl, trivial, by rw [ht]; exact hP, va_K.moved hW.alike hK, hD⟩, hS.F ht⟩) hS.2.2 d) v0 s0 _ _ _ h hP hD va_S.rf (lv_sub hl [0, 1] rfl)
def ow_dm_X1_readJump : List Cond := Cond.code yX1_readJump cX1_readJump 4 none :: ([Cond.methodLink RX1 239 yX1_readRegister, Cond.instanceMethod yX1_readRegister, Cond.selects RX1 yX1_readRegister yX1_readRegister, Cond.initialized RX1, Cond.fieldLink RX1 32 "TimeMachine$Assembler" "fault" "I", Cond.methodLink RX1 194 yX1_expect, Cond.instanceMethod yX1_expect, Cond.selects RX1 yX1_expect yX1_expect, Cond.fieldLink RX1 250 "TimeMachine$Op" "JALR" "LTimeMachine$Op;", Cond.fieldLink RX1 145 "TimeMachine$Op" "bits" "I", Cond.methodLink RX1 176 yX1_add, Cond.instanceMethod yX1_add, Cond.selects RX1 yX1_add yX1_add, Cond.methodLink RX1 253 yX1_setLetter, Cond.instanceMethod yX1_setLetter, Cond.selects RX1 yX1_setLetter yX1_setLetter, Cond.methodLink RX1 77 yX1_blame, Cond.instanceMethod yX1_blame, Cond.selects RX1 yX1_blame yX1_blame, Cond.fieldLink RX1 12 "TimeMachine$Assembler" "reader" "LTimeMachine$Reader;", Cond.methodLink RX1 170 yX9_sum, Cond.instanceMethod yX9_sum, Cond.selects RX9 yX9_sum yX9_sum, Cond.initialized RX9, Cond.fieldLink RX1 85 "TimeMachine$Reader" "kind" "I"] ++ (u_ws RX1 TX1 13 ++ (u_ws RX9 TX9 20 ++ (ow_dm_X1_readRegister ++ (ow_dm_X1_expect ++ (ow_dm_X1_add ++ (ow_dm_X1_setLetter ++ (ow_dm_X1_blame ++ (ow_dm_X9_sum ++ [])))))))))
theorem gd_dm_X1_readJump : ∀ w ∈ ow_dm_X1_readJump, (w.onTables && w.keeps) = true ∨ ∃ ty, w = Cond.arrayClass ty := List.forall_mem_cons.mpr ⟨good_of_word rfl, List.forall_mem_append.mpr ⟨fun w h => good_of_word (List.all_eq_true.mp (by decide +kernel) w h), List.forall_mem_append.mpr ⟨gu_X1, List.forall_mem_append.mpr ⟨gu_X9, List.forall_mem_append.mpr ⟨gd_dm_X1_readRegister, List.forall_mem_append.mpr ⟨gd_dm_X1_expect, List.forall_mem_append.mpr ⟨gd_dm_X1_add, List.forall_mem_append.mpr ⟨gd_dm_X1_setLetter, List.forall_mem_append.mpr ⟨gd_dm_X1_blame, List.forall_mem_append.mpr ⟨gd_dm_X9_sum, fun _ h => nomatch h⟩⟩⟩⟩⟩⟩⟩⟩⟩⟩
theorem hi_dm_X1_readJump_X1 : ∀ w ∈ u_ws RX1 TX1 13, w ∈ ow_dm_X1_readJump := fun w h => List.mem_cons_of_mem _ (List.mem_append_right _ (List.mem_append_left _ h))
theorem hi_dm_X1_readJump_X9 : ∀ w ∈ u_ws RX9 TX9 20, w ∈ ow_dm_X1_readJump := fun w h => List.mem_cons_of_mem _ (List.mem_append_right _ (List.mem_append_right _ (List.mem_append_left _ h)))
theorem gi_dm_X1_readJump_0 : GoodIn ow_dm_X1_readJump (wsV RX1 239 RX1 yX1_readRegister ow_dm_X1_readRegister) := goodIn_app (goodIn_of _ (by decide +kernel)) (fun w h => ⟨List.mem_cons_of_mem _ (List.mem_append_right _ (List.mem_append_right _ (List.mem_append_right _ (List.mem_append_left _ h)))), gd_dm_X1_readRegister w h⟩)
theorem gi_dm_X1_readJump_1 : GoodIn ow_dm_X1_readJump (wsV RX1 194 RX1 yX1_expect ow_dm_X1_expect) := goodIn_app (goodIn_of _ (by decide +kernel)) (fun w h => ⟨List.mem_cons_of_mem _ (List.mem_append_right _ (List.mem_append_right _ (List.mem_append_right _ (List.mem_append_right _ (List.mem_append_left _ h))))), gd_dm_X1_expect w h⟩)
theorem gi_dm_X1_readJump_2 : GoodIn ow_dm_X1_readJump (wsV RX1 176 RX1 yX1_add ow_dm_X1_add) := goodIn_app (goodIn_of _ (by decide +kernel)) (fun w h => ⟨List.mem_cons_of_mem _ (List.mem_append_right _ (List.mem_append_right _ (List.mem_append_right _ (List.mem_append_right _ (List.mem_append_right _ (List.mem_append_left _ h)))))), gd_dm_X1_add w h⟩)
theorem gi_dm_X1_readJump_3 : GoodIn ow_dm_X1_readJump (wsV RX1 253 RX1 yX1_setLetter ow_dm_X1_setLetter) := goodIn_app (goodIn_of _ (by decide +kernel)) (fun w h => ⟨List.mem_cons_of_mem _ (List.mem_append_right _ (List.mem_append_right _ (List.mem_append_right _ (List.mem_append_right _ (List.mem_append_right _ (List.mem_append_right _ (List.mem_append_left _ h))))))), gd_dm_X1_setLetter w h⟩)
theorem gi_dm_X1_readJump_4 : GoodIn ow_dm_X1_readJump (wsV RX1 77 RX1 yX1_blame ow_dm_X1_blame) := goodIn_app (goodIn_of _ (by decide +kernel)) (fun w h => ⟨List.mem_cons_of_mem _ (List.mem_append_right _ (List.mem_append_right _ (List.mem_append_right _ (List.mem_append_right _ (List.mem_append_right _ (List.mem_append_right _ (List.mem_append_right _ (List.mem_append_left _ h)))))))), gd_dm_X1_blame w h⟩)
theorem gi_dm_X1_readJump_5 : GoodIn ow_dm_X1_readJump (wsV RX1 170 RX9 yX9_sum ow_dm_X9_sum) := goodIn_app (goodIn_of _ (by decide +kernel)) (fun w h => ⟨List.mem_cons_of_mem _ (List.mem_append_right _ (List.mem_append_right _ (List.mem_append_right _ (List.mem_append_right _ (List.mem_append_right _ (List.mem_append_right _ (List.mem_append_right _ (List.mem_append_right _ (List.mem_append_left _ h))))))))), gd_dm_X9_sum w h⟩)
def dj_X1_readJump_81 (p : Program) (l : Launch) (e : Env) (s : State) (m : MethodId) (args : Array Value) (below : List Frame) (meth : Method) (c : Code) (Q : State → Prop) (A : Nat → Prop) (dC : Nat → ClassId) (dI : Nat → Nat → Nat) (a : Nat → Nat) (ac : Nat → ClassId) (g : Int32 → Int32 → (St × (St)) → Option (St × (St))) (r : St × (St)) : Prop := ∀ (x1 : Int32) (x2 : Int32) (s0 : St × (St)) (H : Heap) (locs : List Loc) (ls : Array Slot), g x1 x2 s0 = some r → va_P (dC, dI) vwCl (dw_X1 a ac s0) H → va_D A (dw_X1 a ac s0) → va_S A s.heap H locs → lv_has ls 4 [(0, .ref (a 0)), (1, .int x1), (2, .int x2)] → W p l e (headSpec ow_dm_X1_readJump ({ frames := 7, cells := 0, slots := 0, locals := 156 })).room s m args below meth c H locs 0 0 Q (F0 m 81 ls [])
def dj_X1_readJump_71 (p : Program) (l : Launch) (e : Env) (s : State) (m : MethodId) (args : Array Value) (below : List Frame) (meth : Method) (c : Code) (Q : State → Prop) (A : Nat → Prop) (dC : Nat → ClassId) (dI : Nat → Nat → Nat) (a : Nat → Nat) (ac : Nat → ClassId) (g : Int32 → Int32 → (St × (St)) → Option (St × (St))) (r : St × (St)) : Prop := ∀ (x1 : Int32) (y0 : Int32) (s0 : St × (St)) (H : Heap) (locs : List Loc) (ls : Array Slot), g x1 y0 s0 = some r → va_P (dC, dI) vwCl (dw_X1 a ac s0) H → va_D A (dw_X1 a ac s0) → va_S A s.heap H locs → lv_has ls 4 [(0, .ref (a 0)), (1, .int x1)] → W p l e (headSpec ow_dm_X1_readJump ({ frames := 7, cells := 0, slots := 0, locals := 156 })).room s m args below meth c H locs 0 0 Q (F0 m 71 ls [.int y0])
def dj_X1_readJump_47 (p : Program) (l : Launch) (e : Env) (s : State) (m : MethodId) (args : Array Value) (below : List Frame) (meth : Method) (c : Code) (Q : State → Prop) (A : Nat → Prop) (dC : Nat → ClassId) (dI : Nat → Nat → Nat) (a : Nat → Nat) (ac : Nat → ClassId) (g : Int32 → (St × (St)) → Option (St × (St))) (r : St × (St)) : Prop := ∀ (x1 : Int32) (s0 : St × (St)) (H : Heap) (locs : List Loc) (ls : Array Slot), g x1 s0 = some r → va_P (dC, dI) vwCl (dw_X1 a ac s0) H → va_D A (dw_X1 a ac s0) → va_S A s.heap H locs → lv_has ls 4 [(0, .ref (a 0)), (1, .int x1)] → W p l e (headSpec ow_dm_X1_readJump ({ frames := 7, cells := 0, slots := 0, locals := 156 })).room s m args below meth c H locs 0 0 Q (F0 m 47 ls [])
def dj_X1_readJump_0 (p : Program) (l : Launch) (e : Env) (s : State) (m : MethodId) (args : Array Value) (below : List Frame) (meth : Method) (c : Code) (Q : State → Prop) (A : Nat → Prop) (dC : Nat → ClassId) (dI : Nat → Nat → Nat) (a : Nat → Nat) (ac : Nat → ClassId) (g : (St × (St)) → Option (St × (St))) (r : St × (St)) : Prop := ∀ (s0 : St × (St)) (H : Heap) (locs : List Loc) (ls : Array Slot), g s0 = some r → va_P (dC, dI) vwCl (dw_X1 a ac s0) H → va_D A (dw_X1 a ac s0) → va_S A s.heap H locs → lv_has ls 4 [(0, .ref (a 0))] → W p l e (headSpec ow_dm_X1_readJump ({ frames := 7, cells := 0, slots := 0, locals := 156 })).room s m args below meth c H locs 0 0 Q (F0 m 0 ls [])
set_option maxHeartbeats 40000000 in
set_option maxRecDepth 100000 in
theorem db_X1_readJump_81 {p : Program} {l : Launch} {e : Env} {s : State} {m : MethodId} {args : Array Value} {below : List Frame} {meth : Method} {c : Code} {Q : State → Prop} {A : Nat → Prop} {dC : Nat → ClassId} {dI : Nat → Nat → Nat} {a : Nat → Nat} {ac : Nat → ClassId} {n : Nat} {r : St × (St)} (C : nd_C p l s m args c A (dC, dI) cX1_readJump 4 RX1 ow_dm_X1_readJump (dk_X1 ac)) (K : nd_Kv p l e (headSpec ow_dm_X1_readJump ({ frames := 7, cells := 0, slots := 0, locals := 156 })).room s m args below meth c Q A (dC, dI) cX1_readJump (St × (St)) (dw_X1 a ac) r) : dj_X1_readJump_81 p l e s m args below meth c Q A dC dI a ac (df_X1_readJump_81 n) r := by
  obtain ⟨hlt, hx, hb, hml, hown, hts, hN, hA, hK⟩ := id C
  intro x1 x2 s0 H locs ls h hP hD hS hl
  unfold df_X1_readJump_81 at h
  refine lv_aload_n hx hb dX1_readJump_81 rfl (lv_at hl 0 rfl) ?_
  refine lv_bipush (v := 40) hx hb dX1_readJump_82 (by decide) ?_
  obtain ⟨s11, hq, h⟩ := nd_b1_e h
  have hPc := hP
  have hDc := hD
  have hKc := hK
  have hFc := nd_rs hD hS hA
  refine nd_cVv (As := [.int 40]) (rest := []) (w' := dw_X1 a ac s11) ⟨hx, hb, hml, hown, hts⟩ (fun sz => dm_X1_expect l hlt dC dI a ac n (40) s0 hq sz) (cwV 1 hts gi_dm_X1_readJump_1 rfl rfl rfl (by decide +kernel) ⟨Nat.le_of_ble_eq_true rfl, Nat.le_of_ble_eq_true rfl⟩) hPc hDc hKc hS hA hN (va_recv hKc hPc (ci := 2) (q0 := 0) rfl rfl) rfl hl.1 rfl (Nat.le_of_ble_eq_true rfl) dX1_readJump_84 (fun H locs hP1 hD1 hk1 hS => ?_)
  have hP := hP1
  have hD := hD1.weaken (fun k q _ h => hFc q.1 h)
  have z13 : va_Z "TimeMachine$Op" "JALR" "LTimeMachine$Op;" (.ref (dI 1002 32)) A s s.heap := hN.2.2.2.2.2.2.2.2.2.2.2.2.2.2.2.1 32 (by decide)
  refine va_gets hx hb z13 hS hown (hts (.fieldLink RX1 250 "TimeMachine$Op" "JALR" "LTimeMachine$Op;") (List.mem_of_getElem? (i := 9) rfl)) (fun _ h9 => h9) dX1_readJump_87 ?_
  refine vk_getf hx hb (hN.2.2.2.2.2.2.2.2.2.2.2.2.2.2.1 32 (by decide)).2.2.2.2.1 hS hown (hts (.fieldLink RX1 145 "TimeMachine$Op" "bits" "I") (List.mem_of_getElem? (i := 10) rfl)) (fun _ h9 => h9) dX1_readJump_90 ?_
  refine lv_iload_n hx hb dX1_readJump_93 rfl (lv_at hl 1 rfl) ?_
  refine lv_ior hx hb dX1_readJump_94 ?_
  refine lv_aload_n hx hb dX1_readJump_95 rfl (lv_at hl 0 rfl) ?_
  refine lv_bipush (v := 97) hx hb dX1_readJump_96 (by decide) ?_
  obtain ⟨q14, s15, hq, h⟩ := nd_b2_e h
  have hPc := hP
  have hDc := hD
  have hKc := hK
  have hFc := nd_rs hD hS hA
  refine nd_cVi (As := [.int 97]) (rest := [.int ((ko_b 32) ||| x1)]) (q := q14) (w' := dw_X1 a ac s15) ⟨hx, hb, hml, hown, hts⟩ (fun sz => dm_X1_readRegister l hlt dC dI a ac n (97) s11 hq sz) (cwV 1 hts gi_dm_X1_readJump_0 rfl rfl rfl (by decide +kernel) ⟨Nat.le_of_ble_eq_true rfl, Nat.le_of_ble_eq_true rfl⟩) hPc hDc hKc hS hA hN (va_recv hKc hPc (ci := 2) (q0 := 0) rfl rfl) rfl hl.1 rfl (Nat.le_of_ble_eq_true rfl) dX1_readJump_98 (fun H locs hP1 hD1 hk1 hS => ?_)
  have hP := hP1
  have hD := hD1.weaken (fun k q _ h => hFc q.1 h)
  refine lv_ior hx hb dX1_readJump_101 ?_
  refine lv_topi (fun z17 ez17 => ?_)
  have h := nd_at h ez17
  refine lv_istore_n (lv' := [(3, .int z17), (0, .ref (a 0)), (1, .int x1), (2, .int x2)]) hx hb dX1_readJump_102 rfl hl (by decide) rfl (fun ls hl => ?_)
  refine lv_aload_n hx hb dX1_readJump_103 rfl (lv_at hl 1 rfl) ?_
  refine lv_bipush (v := 41) hx hb dX1_readJump_104 (by decide) ?_
  obtain ⟨s19, hq, h⟩ := nd_b1_e h
  have hPc := hP
  have hDc := hD
  have hKc := hK
  have hFc := nd_rs hD hS hA
  refine nd_cVv (As := [.int 41]) (rest := []) (w' := dw_X1 a ac s19) ⟨hx, hb, hml, hown, hts⟩ (fun sz => dm_X1_expect l hlt dC dI a ac n (41) s15 hq sz) (cwV 1 hts gi_dm_X1_readJump_1 rfl rfl rfl (by decide +kernel) ⟨Nat.le_of_ble_eq_true rfl, Nat.le_of_ble_eq_true rfl⟩) hPc hDc hKc hS hA hN (va_recv hKc hPc (ci := 2) (q0 := 0) rfl rfl) rfl hl.1 rfl (Nat.le_of_ble_eq_true rfl) dX1_readJump_106 (fun H locs hP1 hD1 hk1 hS => ?_)
  have hP := hP1
  have hD := hD1.weaken (fun k q _ h => hFc q.1 h)
  refine lv_aload_n hx hb dX1_readJump_109 rfl (lv_at hl 1 rfl) ?_
  refine lv_iconst (v := 0) hx hb dX1_readJump_110 (by decide) ?_
  refine lv_iconst (v := 4) hx hb dX1_readJump_111 (by decide) ?_
  refine lv_iload_n hx hb dX1_readJump_112 rfl (lv_at hl 0 rfl) ?_
  refine lv_iload_n hx hb dX1_readJump_113 rfl (lv_at hl 3 rfl) ?_
  obtain ⟨s22, hq, h⟩ := nd_b1_e h
  have hPc := hP
  have hDc := hD
  have hKc := hK
  have hFc := nd_rs hD hS hA
  refine nd_cVv (As := [.int 0, .int 4, .int z17, .int x2]) (rest := []) (w' := dw_X1 a ac s22) ⟨hx, hb, hml, hown, hts⟩ (fun sz => dm_X1_add l hlt dC dI a ac n (0) (4) (z17) (x2) s19 hq sz) (cwV 4 hts gi_dm_X1_readJump_2 rfl rfl rfl (by decide +kernel) ⟨Nat.le_of_ble_eq_true rfl, Nat.le_of_ble_eq_true rfl⟩) hPc hDc hKc hS hA hN (va_recv hKc hPc (ci := 2) (q0 := 0) rfl rfl) rfl hl.1 rfl (Nat.le_of_ble_eq_true rfl) dX1_readJump_114 (fun H locs hP1 hD1 hk1 hS => ?_)
  have hP := hP1
  have hD := hD1.weaken (fun k q _ h => hFc q.1 h)
  refine lv_aload_n hx hb dX1_readJump_117 rfl (lv_at hl 1 rfl) ?_
  refine lv_bipush (v := 73) hx hb dX1_readJump_118 (by decide) ?_
  obtain ⟨s25, hq, h⟩ := nd_b1_e h
  have hPc := hP
  have hDc := hD
  have hKc := hK
  have hFc := nd_rs hD hS hA
  refine nd_cVv (As := [.int 73]) (rest := []) (w' := dw_X1 a ac s25) ⟨hx, hb, hml, hown, hts⟩ (fun sz => dm_X1_setLetter l hlt dC dI a ac n (73) s22 hq sz) (cwV 1 hts gi_dm_X1_readJump_3 rfl rfl rfl (by decide +kernel) ⟨Nat.le_of_ble_eq_true rfl, Nat.le_of_ble_eq_true rfl⟩) hPc hDc hKc hS hA hN (va_recv hKc hPc (ci := 2) (q0 := 0) rfl rfl) rfl hl.1 rfl (Nat.le_of_ble_eq_true rfl) dX1_readJump_120 (fun H locs hP1 hD1 hk1 hS => ?_)
  have hP := hP1
  have hD := hD1.weaken (fun k q _ h => hFc q.1 h)
  exact K _ _ _ _ _ dX1_readJump_123 (Option.some.inj h).symm hP hD hS
set_option maxHeartbeats 40000000 in
set_option maxRecDepth 100000 in
theorem db_X1_readJump_71 {p : Program} {l : Launch} {e : Env} {s : State} {m : MethodId} {args : Array Value} {below : List Frame} {meth : Method} {c : Code} {Q : State → Prop} {A : Nat → Prop} {dC : Nat → ClassId} {dI : Nat → Nat → Nat} {a : Nat → Nat} {ac : Nat → ClassId} {n : Nat} {r : St × (St)} (C : nd_C p l s m args c A (dC, dI) cX1_readJump 4 RX1 ow_dm_X1_readJump (dk_X1 ac)) (K : nd_Kv p l e (headSpec ow_dm_X1_readJump ({ frames := 7, cells := 0, slots := 0, locals := 156 })).room s m args below meth c Q A (dC, dI) cX1_readJump (St × (St)) (dw_X1 a ac) r) : dj_X1_readJump_71 p l e s m args below meth c Q A dC dI a ac (df_X1_readJump_71 n) r := by
  obtain ⟨hlt, hx, hb, hml, hown, hts, hN, hA, hK⟩ := id C
  intro x1 y0 s0 H locs ls h hP hD hS hl
  unfold df_X1_readJump_71 at h
  refine lv_istore_n (lv' := [(2, .int y0), (0, .ref (a 0)), (1, .int x1)]) hx hb dX1_readJump_71 rfl hl (by decide) rfl (fun ls hl => ?_)
  refine lv_iload_n hx hb dX1_readJump_72 rfl (lv_at hl 0 rfl) ?_
  refine lv_if_ge (tgt := 81) hx hb dX1_readJump_73 (by decide) (fun c9 => ?_) (fun c9 => ?_)
  · have h := nd_pos h c9
    exact (db_X1_readJump_81 C K) (x1) (y0) s0 _ _ _ h hP hD hS (lv_sub hl [1, 2, 0] rfl)
  · have h := nd_neg h c9
    refine lv_aload_n hx hb dX1_readJump_76 rfl (lv_at hl 1 rfl) ?_
    refine lv_iconst (v := 1) hx hb dX1_readJump_77 (by decide) ?_
    obtain ⟨s28, hq, h⟩ := nd_b1_e h
    have hPc := hP
    have hDc := hD
    have hKc := hK
    have hFc := nd_rs hD hS hA
    refine nd_cVv (As := [.int 1]) (rest := []) (w' := dw_X1 a ac s28) ⟨hx, hb, hml, hown, hts⟩ (fun sz => dm_X1_blame l hlt dC dI a ac n (1) s0 hq sz) (cwV 1 hts gi_dm_X1_readJump_4 rfl rfl rfl (by decide +kernel) ⟨Nat.le_of_ble_eq_true rfl, Nat.le_of_ble_eq_true rfl⟩) hPc hDc hKc hS hA hN (va_recv hKc hPc (ci := 2) (q0 := 0) rfl rfl) rfl hl.1 rfl (Nat.le_of_ble_eq_true rfl) dX1_readJump_78 (fun H locs hP1 hD1 hk1 hS => ?_)
    have hP := hP1
    have hD := hD1.weaken (fun k q _ h => hFc q.1 h)
    exact (db_X1_readJump_81 C K) (x1) (y0) s28 _ _ _ h hP hD hS (lv_sub hl [1, 2, 0] rfl)
set_option maxHeartbeats 40000000 in
set_option maxRecDepth 100000 in
theorem db_X1_readJump_47 {p : Program} {l : Launch} {e : Env} {s : State} {m : MethodId} {args : Array Value} {below : List Frame} {meth : Method} {c : Code} {Q : State → Prop} {A : Nat → Prop} {dC : Nat → ClassId} {dI : Nat → Nat → Nat} {a : Nat → Nat} {ac : Nat → ClassId} {n : Nat} {r : St × (St)} (C : nd_C p l s m args c A (dC, dI) cX1_readJump 4 RX1 ow_dm_X1_readJump (dk_X1 ac)) (K : nd_Kv p l e (headSpec ow_dm_X1_readJump ({ frames := 7, cells := 0, slots := 0, locals := 156 })).room s m args below meth c Q A (dC, dI) cX1_readJump (St × (St)) (dw_X1 a ac) r) : dj_X1_readJump_47 p l e s m args below meth c Q A dC dI a ac (df_X1_readJump_47 n) r := by
  obtain ⟨hlt, hx, hb, hml, hown, hts, hN, hA, hK⟩ := id C
  intro x1 s0 H locs ls h hP hD hS hl
  unfold df_X1_readJump_47 at h
  refine lv_aload_n hx hb dX1_readJump_47 rfl (lv_at hl 0 rfl) ?_
  refine lv_bipush (v := 44) hx hb dX1_readJump_48 (by decide) ?_
  obtain ⟨s6, hq, h⟩ := nd_b1_e h
  have hPc := hP
  have hDc := hD
  have hKc := hK
  have hFc := nd_rs hD hS hA
  refine nd_cVv (As := [.int 44]) (rest := []) (w' := dw_X1 a ac s6) ⟨hx, hb, hml, hown, hts⟩ (fun sz => dm_X1_expect l hlt dC dI a ac n (44) s0 hq sz) (cwV 1 hts gi_dm_X1_readJump_1 rfl rfl rfl (by decide +kernel) ⟨Nat.le_of_ble_eq_true rfl, Nat.le_of_ble_eq_true rfl⟩) hPc hDc hKc hS hA hN (va_recv hKc hPc (ci := 2) (q0 := 0) rfl rfl) rfl hl.1 rfl (Nat.le_of_ble_eq_true rfl) dX1_readJump_50 (fun H locs hP1 hD1 hk1 hS => ?_)
  have hP := hP1
  have hD := hD1.weaken (fun k q _ h => hFc q.1 h)
  refine lv_aload_n hx hb dX1_readJump_53 rfl (lv_at hl 0 rfl) ?_
  refine va_get (D := (dC, dI)) (ci := 2) (v := .int (sI s6.1 2)) (C := RX1) (T := TX1) (N := 13) hx hb hts hi_dm_X1_readJump_X1 hown hK hP 0 rfl rfl 5 (by decide) (hts (.fieldLink RX1 32 "TimeMachine$Assembler" "fault" "I") (List.mem_of_getElem? (i := 5) rfl)) (fun _ h9 => h9) rfl dX1_readJump_54 ?_
  refine lv_if_ne (tgt := 70) hx hb dX1_readJump_57 (by decide) (fun c8 => ?_) (fun c8 => ?_)
  · have h := nd_neg h c8
    refine lv_iconst (v := 0) hx hb dX1_readJump_70 (by decide) ?_
    exact (db_X1_readJump_71 C K) (x1) (0) s6 _ _ _ h hP hD hS (lv_sub hl [0, 1] rfl)
  · have h := nd_pos h c8
    refine lv_aload_n hx hb dX1_readJump_60 rfl (lv_at hl 0 rfl) ?_
    refine va_get (D := (dC, dI)) (ci := 2) (v := .ref (a 3)) (C := RX1) (T := TX1) (N := 13) hx hb hts hi_dm_X1_readJump_X1 hown hK hP 0 rfl rfl 0 (by decide) (hts (.fieldLink RX1 12 "TimeMachine$Assembler" "reader" "LTimeMachine$Reader;") (List.mem_of_getElem? (i := 20) rfl)) (fun _ h9 => h9) rfl dX1_readJump_61 ?_
    obtain ⟨q30, s31, hq, h⟩ := nd_b2_e h
    have hPc := dp_X1_3 hP
    have hDc := dd_X1_3 hD
    have hKc := dy_X1_3 hK
    have hFc := nd_rs hDc hS hA
    have hzA : ∀ q : Nat, H.size ≤ q → A q := fun q h => hA q (Nat.le_trans hS.1 h)
    refine nd_cVi (As := []) (rest := []) (q := q30) (w' := dw_X9 (fun k => a (k + 3)) (fun k => ac (k + 3)) s31) ⟨hx, hb, hml, hown, hts⟩ (fun sz => dm_X9_sum l hlt dC dI (fun k => a (k + 3)) (fun k => ac (k + 3)) n  s6.2 hq sz) (cwV 0 hts gi_dm_X1_readJump_5 rfl rfl rfl (by decide +kernel) ⟨Nat.le_of_ble_eq_true rfl, Nat.le_of_ble_eq_true rfl⟩) hPc hDc hKc hS hA hN (va_recv hKc hPc (ci := 10) (q0 := 0) rfl rfl) rfl hl.1 rfl (Nat.le_of_ble_eq_true rfl) dX1_readJump_64 (fun H locs hP1 hD1 hk1 hS => ?_)
    obtain ⟨hP, hD⟩ := dn_X1_3 hP hD hzA hk1 hP1 hD1
    obtain ⟨s33, es33, h⟩ := nd_let_e h
    have hP : va_P (dC, dI) vwCl (dw_X1 a ac s33) H := by rw [es33]; exact hP
    have hD : va_D A (dw_X1 a ac s33) := by rw [es33]; exact hD
    refine lv_goto (tgt := 71) hx hb dX1_readJump_67 (by decide) ?_
    exact (db_X1_readJump_71 C K) (x1) (q30) s33 _ _ _ h hP hD hS (lv_sub hl [0, 1] rfl)
set_option maxHeartbeats 40000000 in
set_option maxRecDepth 100000 in
theorem db_X1_readJump_0 {p : Program} {l : Launch} {e : Env} {s : State} {m : MethodId} {args : Array Value} {below : List Frame} {meth : Method} {c : Code} {Q : State → Prop} {A : Nat → Prop} {dC : Nat → ClassId} {dI : Nat → Nat → Nat} {a : Nat → Nat} {ac : Nat → ClassId} {n : Nat} {r : St × (St)} (C : nd_C p l s m args c A (dC, dI) cX1_readJump 4 RX1 ow_dm_X1_readJump (dk_X1 ac)) (K : nd_Kv p l e (headSpec ow_dm_X1_readJump ({ frames := 7, cells := 0, slots := 0, locals := 156 })).room s m args below meth c Q A (dC, dI) cX1_readJump (St × (St)) (dw_X1 a ac) r) : dj_X1_readJump_0 p l e s m args below meth c Q A dC dI a ac (df_X1_readJump_0 n) r := by
  obtain ⟨hlt, hx, hb, hml, hown, hts, hN, hA, hK⟩ := id C
  intro s0 H locs ls h hP hD hS hl
  unfold df_X1_readJump_0 at h
  refine lv_aload_n hx hb dX1_readJump_0 rfl (lv_at hl 0 rfl) ?_
  refine lv_bipush (v := 100) hx hb dX1_readJump_1 (by decide) ?_
  obtain ⟨q1, s2, hq, h⟩ := nd_b2_e h
  have hPc := hP
  have hDc := hD
  have hKc := hK
  have hFc := nd_rs hD hS hA
  refine nd_cVi (As := [.int 100]) (rest := []) (q := q1) (w' := dw_X1 a ac s2) ⟨hx, hb, hml, hown, hts⟩ (fun sz => dm_X1_readRegister l hlt dC dI a ac n (100) s0 hq sz) (cwV 1 hts gi_dm_X1_readJump_0 rfl rfl rfl (by decide +kernel) ⟨Nat.le_of_ble_eq_true rfl, Nat.le_of_ble_eq_true rfl⟩) hPc hDc hKc hS hA hN (va_recv hKc hPc (ci := 2) (q0 := 0) rfl rfl) rfl hl.1 rfl (Nat.le_of_ble_eq_true rfl) dX1_readJump_3 (fun H locs hP1 hD1 hk1 hS => ?_)
  have hP := hP1
  have hD := hD1.weaken (fun k q _ h => hFc q.1 h)
  refine lv_istore_n (lv' := [(1, .int q1), (0, .ref (a 0))]) hx hb dX1_readJump_6 rfl hl (by decide) rfl (fun ls hl => ?_)
  refine lv_aload_n hx hb dX1_readJump_7 rfl (lv_at hl 1 rfl) ?_
  refine va_get (D := (dC, dI)) (ci := 2) (v := .int (sI s2.1 2)) (C := RX1) (T := TX1) (N := 13) hx hb hts hi_dm_X1_readJump_X1 hown hK hP 0 rfl rfl 5 (by decide) (hts (.fieldLink RX1 32 "TimeMachine$Assembler" "fault" "I") (List.mem_of_getElem? (i := 5) rfl)) (fun _ h9 => h9) rfl dX1_readJump_8 ?_
  refine lv_if_ne (tgt := 47) hx hb dX1_readJump_11 (by decide) (fun c4 => ?_) (fun c4 => ?_)
  · have h := nd_neg h c4
    exact (db_X1_readJump_47 C K) (q1) s2 _ _ _ h hP hD hS (lv_sub hl [1, 0] rfl)
  · have h := nd_pos h c4
    refine lv_aload_n hx hb dX1_readJump_14 rfl (lv_at hl 1 rfl) ?_
    refine va_get (D := (dC, dI)) (ci := 2) (v := .ref (a 3)) (C := RX1) (T := TX1) (N := 13) hx hb hts hi_dm_X1_readJump_X1 hown hK hP 0 rfl rfl 0 (by decide) (hts (.fieldLink RX1 12 "TimeMachine$Assembler" "reader" "LTimeMachine$Reader;") (List.mem_of_getElem? (i := 20) rfl)) (fun _ h9 => h9) rfl dX1_readJump_15 ?_
    refine va_get (D := (dC, dI)) (ci := 10) (v := .int (sI s2.2 2)) (C := RX9) (T := TX9) (N := 20) hx hb hts hi_dm_X1_readJump_X9 hown hK hP 3 rfl rfl 3 (by decide) (hts (.fieldLink RX1 85 "TimeMachine$Reader" "kind" "I") (List.mem_of_getElem? (i := 25) rfl)) (fun _ h9 => h9) rfl dX1_readJump_18 ?_
    refine lv_if_ne (tgt := 47) hx hb dX1_readJump_21 (by decide) (fun c34 => ?_) (fun c34 => ?_)
    · have h := nd_neg h c34
      exact (db_X1_readJump_47 C K) (q1) s2 _ _ _ h hP hD hS (lv_sub hl [1, 0] rfl)
    · have h := nd_pos h c34
      refine lv_aload_n hx hb dX1_readJump_24 rfl (lv_at hl 1 rfl) ?_
      refine lv_iconst (v := 0) hx hb dX1_readJump_25 (by decide) ?_
      refine lv_iconst (v := 4) hx hb dX1_readJump_26 (by decide) ?_
      have z35 : va_Z "TimeMachine$Op" "JALR" "LTimeMachine$Op;" (.ref (dI 1002 32)) A s s.heap := hN.2.2.2.2.2.2.2.2.2.2.2.2.2.2.2.1 32 (by decide)
      refine va_gets hx hb z35 hS hown (hts (.fieldLink RX1 250 "TimeMachine$Op" "JALR" "LTimeMachine$Op;") (List.mem_of_getElem? (i := 9) rfl)) (fun _ h9 => h9) dX1_readJump_27 ?_
      refine vk_getf hx hb (hN.2.2.2.2.2.2.2.2.2.2.2.2.2.2.1 32 (by decide)).2.2.2.2.1 hS hown (hts (.fieldLink RX1 145 "TimeMachine$Op" "bits" "I") (List.mem_of_getElem? (i := 10) rfl)) (fun _ h9 => h9) dX1_readJump_30 ?_
      refine lv_iload_n hx hb dX1_readJump_33 rfl (lv_at hl 0 rfl) ?_
      refine lv_bipush (v := 8) hx hb dX1_readJump_34 (by decide) ?_
      refine lv_ishl hx hb dX1_readJump_36 ?_
      refine lv_ior hx hb dX1_readJump_37 ?_
      refine lv_sipush (v := 128) hx hb dX1_readJump_38 (by decide) ?_
      refine lv_ior hx hb dX1_readJump_41 ?_
      refine lv_iconst (v := (-1)) hx hb dX1_readJump_42 (by decide) ?_
      obtain ⟨s37, hq, h⟩ := nd_b1_e h
      have hPc := hP
      have hDc := hD
      have hKc := hK
      have hFc := nd_rs hD hS hA
      refine nd_cVv (As := [.int 0, .int 4, .int (((ko_b 32) ||| ((q1 : Int32) <<< ((8 : Int32) &&& 31))) ||| 128), .int (-1)]) (rest := []) (w' := dw_X1 a ac s37) ⟨hx, hb, hml, hown, hts⟩ (fun sz => dm_X1_add l hlt dC dI a ac n (0) (4) ((((ko_b 32) ||| ((q1 : Int32) <<< ((8 : Int32) &&& 31))) ||| 128)) ((-1)) s2 hq sz) (cwV 4 hts gi_dm_X1_readJump_2 rfl rfl rfl (by decide +kernel) ⟨Nat.le_of_ble_eq_true rfl, Nat.le_of_ble_eq_true rfl⟩) hPc hDc hKc hS hA hN (va_recv hKc hPc (ci := 2) (q0 := 0) rfl rfl) rfl hl.1 rfl (Nat.le_of_ble_eq_true rfl) dX1_readJump_43 (fun H locs hP1 hD1 hk1 hS => ?_)
      have hP := hP1
      have hD := hD1.weaken (fun k q _ h => hFc q.1 h)
      exact K _ _ _ _ _ dX1_readJump_46 (Option.some.inj h).symm hP hD hS
set_option maxHeartbeats 40000000 in
set_option maxRecDepth 100000 in
theorem dm_X1_readJump (l : Launch) (hlt : l.stackTraces = false) (dC : Nat → ClassId) (dI : Nat → Nat → Nat) (a : Nat → Nat) (ac : Nat → ClassId) (n : Nat) (s0 : St × (St)) {r : St × (St)} (h : df_X1_readJump n s0 = some r) (sz : Nat) : Met l yX1_readJump ow_dm_X1_readJump ({ frames := 7, cells := 0, slots := 0, locals := 156 }) (va_Pc [.ref (a 0)] (fun U => U.heap.size = sz ∧ va_P (dC, dI) vwCl (dw_X1 a ac s0) U.heap ∧ va_K (dC, dI) vwCl (dk_X1 ac) U ∧ va_D (fun _ => True) (dw_X1 a ac s0) ∧ nv_E dI (va_A (dw_X1 a ac s0) sz) U)) (va_Qv (fun _ => True) (fun (_ : Unit) t => va_P (dC, dI) vwCl (dw_X1 a ac r) t.heap ∧ va_K (dC, dI) vwCl (dk_X1 ac) t ∧ va_D (va_A (dw_X1 a ac s0) sz) (dw_X1 a ac r)) (va_A (dw_X1 a ac s0) sz)) 0 0 (va_A (dw_X1 a ac s0) sz) := by
  refine Met.ofW (cc := cX1_readJump) (maxL := 4) (ret := none) (by decide) rfl ?_
  intro p e s m args below meth c s₁ B hml hv
  obtain ⟨rfl, hsz, hP, hK, hD0, hN⟩ := hv
  have hx := B.exec
  have hb := B.bytes
  have hr := B.returns
  have hts := atoms_spec (ws := ow_dm_X1_readJump) B.pre
  have hown : s.vm.findClass RX1 = some m.cls := findClass_of_methodNamed B.named
  have hlocks := B.notSynchronized
  subst hsz
  have hD := hD0.self (sz := s.heap.size)
  generalize hAe : va_A (dw_X1 a ac s0) s.heap.size = A at hD hN ⊢
  have hA : ∀ q : Nat, s.heap.size ≤ q → A q := fun q h => by rw [← hAe]; exact Or.inr h
  have hl := lv_entry ([.ref (a 0)]) (n := 4) (Nat.le_of_ble_eq_true rfl)
  rw [lg_entry_eq]
  generalize (lg_sl ([.ref (a 0)]) ++ List.replicate (4 - (lg_sl ([.ref (a 0)])).length) Slot.unset).toArray = ls at hl ⊢
  have hl : lv_has ls 4 [(0, .ref (a 0))] := hl
  exact db_X1_readJump_0 (dC := dC) (dI := dI) (a := a) (ac := ac) (n := n) (r := r) ⟨hlt, hx, hb, hml, hown, hts, hN, hA, hK⟩ (fun pc τ H locs ls d er hP hD hS => by subst er; exact W.vret hx hb hr (fun t ht hW => ⟨⟨(), rfl, trivial, by rw [ht]; exact hP, va_K.moved hW.alike hK, hD⟩, hS.F ht⟩) hS.2.2 d) s0 _ _ _ h hP hD va_S.rf (lv_sub hl [0] rfl)
def ow_dm_X1_readStatement : List Cond := Cond.code yX1_readStatement cX1_readStatement 2 none :: ([Cond.fieldLink RX1 151 "TimeMachine$1" "$SwitchMap$TimeMachine$Op" "[I", Cond.methodLink RX1 156 ⟨"TimeMachine$Op", "ordinal", "()I"⟩, .sameMethod "TimeMachine$Op" "java/lang/Enum" "ordinal" "()I", Cond.selects RX7 ⟨"TimeMachine$Op", "ordinal", "()I"⟩ yJx29ce0_ordinal_8abf5, Cond.instanceMethod yJx29ce0_ordinal_8abf5, Cond.initialized RJx29ce0, Cond.fieldLink RX1 145 "TimeMachine$Op" "bits" "I", Cond.fieldLink RX1 71 "TimeMachine$Assembler" "section" "I", Cond.fieldLink RX1 32 "TimeMachine$Assembler" "fault" "I", Cond.fieldLink RX1 12 "TimeMachine$Assembler" "reader" "LTimeMachine$Reader;", Cond.fieldLink RX1 85 "TimeMachine$Reader" "kind" "I", Cond.methodLink RX1 77 yX1_blame, Cond.instanceMethod yX1_blame, Cond.selects RX1 yX1_blame yX1_blame, Cond.initialized RX1, Cond.methodLink RX1 160 yX1_readConstant, Cond.instanceMethod yX1_readConstant, Cond.selects RX1 yX1_readConstant yX1_readConstant, Cond.methodLink RX1 163 yX1_readList, Cond.instanceMethod yX1_readList, Cond.selects RX1 yX1_readList yX1_readList, Cond.methodLink RX1 166 yX1_readTexts, Cond.instanceMethod yX1_readTexts, Cond.selects RX1 yX1_readTexts yX1_readTexts, Cond.methodLink RX1 170 yX9_sum, Cond.instanceMethod yX9_sum, Cond.selects RX9 yX9_sum yX9_sum, Cond.initialized RX9, Cond.constant RX1 53 (32768), Cond.methodLink RX1 173 yX1_fixed, Cond.instanceMethod yX1_fixed, Cond.selects RX1 yX1_fixed yX1_fixed, Cond.methodLink RX1 176 yX1_add, Cond.instanceMethod yX1_add, Cond.selects RX1 yX1_add yX1_add, Cond.methodLink RX1 180 yX1_isRegister, Cond.instanceMethod yX1_isRegister, Cond.selects RX1 yX1_isRegister yX1_isRegister, Cond.fieldLink RX1 184 "TimeMachine$Op" "CALL" "LTimeMachine$Op;", Cond.methodLink RX1 188 yX1_readInstruction, Cond.instanceMethod yX1_readInstruction, Cond.selects RX1 yX1_readInstruction yX1_readInstruction, Cond.methodLink RX1 191 yX1_readJump, Cond.instanceMethod yX1_readJump, Cond.selects RX1 yX1_readJump yX1_readJump] ++ (u_ws RX1 TX1 13 ++ (u_ws RX9 TX9 20 ++ (ow_dm_Jx29ce0_ordinal_8abf5 ++ (ow_dm_X1_blame ++ (ow_dm_X1_readConstant ++ (ow_dm_X1_readList ++ (ow_dm_X1_readTexts ++ (ow_dm_X9_sum ++ (ow_dm_X1_fixed ++ (ow_dm_X1_add ++ (ow_dm_X1_isRegister ++ (ow_dm_X1_readInstruction ++ (ow_dm_X1_readJump ++ []))))))))))))))
theorem gd_dm_X1_readStatement : ∀ w ∈ ow_dm_X1_readStatement, (w.onTables && w.keeps) = true ∨ ∃ ty, w = Cond.arrayClass ty := List.forall_mem_cons.mpr ⟨good_of_word rfl, List.forall_mem_append.mpr ⟨fun w h => good_of_word (List.all_eq_true.mp (by decide +kernel) w h), List.forall_mem_append.mpr ⟨gu_X1, List.forall_mem_append.mpr ⟨gu_X9, List.forall_mem_append.mpr ⟨gd_dm_Jx29ce0_ordinal_8abf5, List.forall_mem_append.mpr ⟨gd_dm_X1_blame, List.forall_mem_append.mpr ⟨gd_dm_X1_readConstant, List.forall_mem_append.mpr ⟨gd_dm_X1_readList, List.forall_mem_append.mpr ⟨gd_dm_X1_readTexts, List.forall_mem_append.mpr ⟨gd_dm_X9_sum, List.forall_mem_append.mpr ⟨gd_dm_X1_fixed, List.forall_mem_append.mpr ⟨gd_dm_X1_add, List.forall_mem_append.mpr ⟨gd_dm_X1_isRegister, List.forall_mem_append.mpr ⟨gd_dm_X1_readInstruction, List.forall_mem_append.mpr ⟨gd_dm_X1_readJump, fun _ h => nomatch h⟩⟩⟩⟩⟩⟩⟩⟩⟩⟩⟩⟩⟩⟩⟩
theorem hi_dm_X1_readStatement_X1 : ∀ w ∈ u_ws RX1 TX1 13, w ∈ ow_dm_X1_readStatement := fun w h => List.mem_cons_of_mem _ (List.mem_append_right _ (List.mem_append_left _ h))
theorem hi_dm_X1_readStatement_X9 : ∀ w ∈ u_ws RX9 TX9 20, w ∈ ow_dm_X1_readStatement := fun w h => List.mem_cons_of_mem _ (List.mem_append_right _ (List.mem_append_right _ (List.mem_append_left _ h)))
theorem gi_dm_X1_readStatement_0 : GoodIn ow_dm_X1_readStatement (va_wsU RX1 156 RX7 "java/lang/Enum" ⟨"TimeMachine$Op", "ordinal", "()I"⟩ yJx29ce0_ordinal_8abf5 ow_dm_Jx29ce0_ordinal_8abf5) := goodIn_app (goodIn_of _ (by decide +kernel)) (fun w h => ⟨List.mem_cons_of_mem _ (List.mem_append_right _ (List.mem_append_right _ (List.mem_append_right _ (List.mem_append_left _ h)))), gd_dm_Jx29ce0_ordinal_8abf5 w h⟩)
theorem gi_dm_X1_readStatement_1 : GoodIn ow_dm_X1_readStatement (wsV RX1 77 RX1 yX1_blame ow_dm_X1_blame) := goodIn_app (goodIn_of _ (by decide +kernel)) (fun w h => ⟨List.mem_cons_of_mem _ (List.mem_append_right _ (List.mem_append_right _ (List.mem_append_right _ (List.mem_append_right _ (List.mem_append_left _ h))))), gd_dm_X1_blame w h⟩)
theorem gi_dm_X1_readStatement_2 : GoodIn ow_dm_X1_readStatement (wsV RX1 160 RX1 yX1_readConstant ow_dm_X1_readConstant) := goodIn_app (goodIn_of _ (by decide +kernel)) (fun w h => ⟨List.mem_cons_of_mem _ (List.mem_append_right _ (List.mem_append_right _ (List.mem_append_right _ (List.mem_append_right _ (List.mem_append_right _ (List.mem_append_left _ h)))))), gd_dm_X1_readConstant w h⟩)
theorem gi_dm_X1_readStatement_3 : GoodIn ow_dm_X1_readStatement (wsV RX1 163 RX1 yX1_readList ow_dm_X1_readList) := goodIn_app (goodIn_of _ (by decide +kernel)) (fun w h => ⟨List.mem_cons_of_mem _ (List.mem_append_right _ (List.mem_append_right _ (List.mem_append_right _ (List.mem_append_right _ (List.mem_append_right _ (List.mem_append_right _ (List.mem_append_left _ h))))))), gd_dm_X1_readList w h⟩)
theorem gi_dm_X1_readStatement_4 : GoodIn ow_dm_X1_readStatement (wsV RX1 166 RX1 yX1_readTexts ow_dm_X1_readTexts) := goodIn_app (goodIn_of _ (by decide +kernel)) (fun w h => ⟨List.mem_cons_of_mem _ (List.mem_append_right _ (List.mem_append_right _ (List.mem_append_right _ (List.mem_append_right _ (List.mem_append_right _ (List.mem_append_right _ (List.mem_append_right _ (List.mem_append_left _ h)))))))), gd_dm_X1_readTexts w h⟩)
theorem gi_dm_X1_readStatement_5 : GoodIn ow_dm_X1_readStatement (wsV RX1 170 RX9 yX9_sum ow_dm_X9_sum) := goodIn_app (goodIn_of _ (by decide +kernel)) (fun w h => ⟨List.mem_cons_of_mem _ (List.mem_append_right _ (List.mem_append_right _ (List.mem_append_right _ (List.mem_append_right _ (List.mem_append_right _ (List.mem_append_right _ (List.mem_append_right _ (List.mem_append_right _ (List.mem_append_left _ h))))))))), gd_dm_X9_sum w h⟩)
theorem gi_dm_X1_readStatement_6 : GoodIn ow_dm_X1_readStatement (wsV RX1 173 RX1 yX1_fixed ow_dm_X1_fixed) := goodIn_app (goodIn_of _ (by decide +kernel)) (fun w h => ⟨List.mem_cons_of_mem _ (List.mem_append_right _ (List.mem_append_right _ (List.mem_append_right _ (List.mem_append_right _ (List.mem_append_right _ (List.mem_append_right _ (List.mem_append_right _ (List.mem_append_right _ (List.mem_append_right _ (List.mem_append_left _ h)))))))))), gd_dm_X1_fixed w h⟩)
theorem gi_dm_X1_readStatement_7 : GoodIn ow_dm_X1_readStatement (wsV RX1 176 RX1 yX1_add ow_dm_X1_add) := goodIn_app (goodIn_of _ (by decide +kernel)) (fun w h => ⟨List.mem_cons_of_mem _ (List.mem_append_right _ (List.mem_append_right _ (List.mem_append_right _ (List.mem_append_right _ (List.mem_append_right _ (List.mem_append_right _ (List.mem_append_right _ (List.mem_append_right _ (List.mem_append_right _ (List.mem_append_right _ (List.mem_append_left _ h))))))))))), gd_dm_X1_add w h⟩)
theorem gi_dm_X1_readStatement_8 : GoodIn ow_dm_X1_readStatement (wsV RX1 180 RX1 yX1_isRegister ow_dm_X1_isRegister) := goodIn_app (goodIn_of _ (by decide +kernel)) (fun w h => ⟨List.mem_cons_of_mem _ (List.mem_append_right _ (List.mem_append_right _ (List.mem_append_right _ (List.mem_append_right _ (List.mem_append_right _ (List.mem_append_right _ (List.mem_append_right _ (List.mem_append_right _ (List.mem_append_right _ (List.mem_append_right _ (List.mem_append_right _ (List.mem_append_left _ h)))))))))))), gd_dm_X1_isRegister w h⟩)
theorem gi_dm_X1_readStatement_9 : GoodIn ow_dm_X1_readStatement (wsV RX1 188 RX1 yX1_readInstruction ow_dm_X1_readInstruction) := goodIn_app (goodIn_of _ (by decide +kernel)) (fun w h => ⟨List.mem_cons_of_mem _ (List.mem_append_right _ (List.mem_append_right _ (List.mem_append_right _ (List.mem_append_right _ (List.mem_append_right _ (List.mem_append_right _ (List.mem_append_right _ (List.mem_append_right _ (List.mem_append_right _ (List.mem_append_right _ (List.mem_append_right _ (List.mem_append_right _ (List.mem_append_left _ h))))))))))))), gd_dm_X1_readInstruction w h⟩)
theorem gi_dm_X1_readStatement_10 : GoodIn ow_dm_X1_readStatement (wsV RX1 191 RX1 yX1_readJump ow_dm_X1_readJump) := goodIn_app (goodIn_of _ (by decide +kernel)) (fun w h => ⟨List.mem_cons_of_mem _ (List.mem_append_right _ (List.mem_append_right _ (List.mem_append_right _ (List.mem_append_right _ (List.mem_append_right _ (List.mem_append_right _ (List.mem_append_right _ (List.mem_append_right _ (List.mem_append_right _ (List.mem_append_right _ (List.mem_append_right _ (List.mem_append_right _ (List.mem_append_right _ (List.mem_append_left _ h)))))))))))))), gd_dm_X1_readJump w h⟩)
def dj_X1_readStatement_228 (p : Program) (l : Launch) (e : Env) (s : State) (m : MethodId) (args : Array Value) (below : List Frame) (meth : Method) (c : Code) (Q : State → Prop) (A : Nat → Prop) (dC : Nat → ClassId) (dI : Nat → Nat → Nat) (a : Nat → Nat) (ac : Nat → ClassId) (g : (St × (St)) → Option (St × (St))) (r : St × (St)) : Prop := ∀ (s0 : St × (St)) (H : Heap) (locs : List Loc) (ls : Array Slot), g s0 = some r → va_P (dC, dI) vwCl (dw_X1 a ac s0) H → va_D A (dw_X1 a ac s0) → va_S A s.heap H locs → lv_has ls 2 [] → W p l e (headSpec ow_dm_X1_readStatement ({ frames := 8, cells := 0, slots := 0, locals := 182 })).room s m args below meth c H locs 0 0 Q (F0 m 228 ls [])
def dj_X1_readStatement_206 (p : Program) (l : Launch) (e : Env) (s : State) (m : MethodId) (args : Array Value) (below : List Frame) (meth : Method) (c : Code) (Q : State → Prop) (A : Nat → Prop) (dC : Nat → ClassId) (dI : Nat → Nat → Nat) (a : Nat → Nat) (ac : Nat → ClassId) (g : (St × (St)) → Option (St × (St))) (r : St × (St)) : Prop := ∀ (s0 : St × (St)) (H : Heap) (locs : List Loc) (ls : Array Slot), g s0 = some r → va_P (dC, dI) vwCl (dw_X1 a ac s0) H → va_D A (dw_X1 a ac s0) → va_S A s.heap H locs → lv_has ls 2 [(0, .ref (a 0))] → W p l e (headSpec ow_dm_X1_readStatement ({ frames := 8, cells := 0, slots := 0, locals := 182 })).room s m args below meth c H locs 0 0 Q (F0 m 206 ls [])
def dj_X1_readStatement_72 (p : Program) (l : Launch) (e : Env) (s : State) (m : MethodId) (args : Array Value) (below : List Frame) (meth : Method) (c : Code) (Q : State → Prop) (A : Nat → Prop) (dC : Nat → ClassId) (dI : Nat → Nat → Nat) (a : Nat → Nat) (ac : Nat → ClassId) (g : Nat → (St × (St)) → Option (St × (St))) (r : St × (St)) : Prop := ∀ (x1 : Nat) (s0 : St × (St)) (H : Heap) (locs : List Loc) (ls : Array Slot), g x1 s0 = some r → va_P (dC, dI) vwCl (dw_X1 a ac s0) H → va_D A (dw_X1 a ac s0) → va_S A s.heap H locs → lv_has ls 2 [(0, .ref (a 0)), (1, .ref (dI 1002 x1))] → W p l e (headSpec ow_dm_X1_readStatement ({ frames := 8, cells := 0, slots := 0, locals := 182 })).room s m args below meth c H locs 0 0 Q (F0 m 72 ls [])
def dj_X1_readStatement_90 (p : Program) (l : Launch) (e : Env) (s : State) (m : MethodId) (args : Array Value) (below : List Frame) (meth : Method) (c : Code) (Q : State → Prop) (A : Nat → Prop) (dC : Nat → ClassId) (dI : Nat → Nat → Nat) (a : Nat → Nat) (ac : Nat → ClassId) (g : Nat → (St × (St)) → Option (St × (St))) (r : St × (St)) : Prop := ∀ (x1 : Nat) (s0 : St × (St)) (H : Heap) (locs : List Loc) (ls : Array Slot), g x1 s0 = some r → va_P (dC, dI) vwCl (dw_X1 a ac s0) H → va_D A (dw_X1 a ac s0) → va_S A s.heap H locs → lv_has ls 2 [(0, .ref (a 0)), (1, .ref (dI 1002 x1))] → W p l e (headSpec ow_dm_X1_readStatement ({ frames := 8, cells := 0, slots := 0, locals := 182 })).room s m args below meth c H locs 0 0 Q (F0 m 90 ls [])
def dj_X1_readStatement_115 (p : Program) (l : Launch) (e : Env) (s : State) (m : MethodId) (args : Array Value) (below : List Frame) (meth : Method) (c : Code) (Q : State → Prop) (A : Nat → Prop) (dC : Nat → ClassId) (dI : Nat → Nat → Nat) (a : Nat → Nat) (ac : Nat → ClassId) (g : Int32 → (St × (St)) → Option (St × (St))) (r : St × (St)) : Prop := ∀ (y1 : Int32) (s0 : St × (St)) (H : Heap) (locs : List Loc) (ls : Array Slot), g y1 s0 = some r → va_P (dC, dI) vwCl (dw_X1 a ac s0) H → va_D A (dw_X1 a ac s0) → va_S A s.heap H locs → lv_has ls 2 [(0, .ref (a 0))] → W p l e (headSpec ow_dm_X1_readStatement ({ frames := 8, cells := 0, slots := 0, locals := 182 })).room s m args below meth c H locs 0 0 Q (F0 m 115 ls [.int y1, .ref (a 0)])
def dj_X1_readStatement_101 (p : Program) (l : Launch) (e : Env) (s : State) (m : MethodId) (args : Array Value) (below : List Frame) (meth : Method) (c : Code) (Q : State → Prop) (A : Nat → Prop) (dC : Nat → ClassId) (dI : Nat → Nat → Nat) (a : Nat → Nat) (ac : Nat → ClassId) (g : Nat → (St × (St)) → Option (St × (St))) (r : St × (St)) : Prop := ∀ (x1 : Nat) (s0 : St × (St)) (H : Heap) (locs : List Loc) (ls : Array Slot), g x1 s0 = some r → va_P (dC, dI) vwCl (dw_X1 a ac s0) H → va_D A (dw_X1 a ac s0) → va_S A s.heap H locs → lv_has ls 2 [(0, .ref (a 0)), (1, .ref (dI 1002 x1))] → W p l e (headSpec ow_dm_X1_readStatement ({ frames := 8, cells := 0, slots := 0, locals := 182 })).room s m args below meth c H locs 0 0 Q (F0 m 101 ls [])
def dj_X1_readStatement_188 (p : Program) (l : Launch) (e : Env) (s : State) (m : MethodId) (args : Array Value) (below : List Frame) (meth : Method) (c : Code) (Q : State → Prop) (A : Nat → Prop) (dC : Nat → ClassId) (dI : Nat → Nat → Nat) (a : Nat → Nat) (ac : Nat → ClassId) (g : Nat → (St × (St)) → Option (St × (St))) (r : St × (St)) : Prop := ∀ (y1 : Nat) (s0 : St × (St)) (H : Heap) (locs : List Loc) (ls : Array Slot), g y1 s0 = some r → va_P (dC, dI) vwCl (dw_X1 a ac s0) H → va_D A (dw_X1 a ac s0) → va_S A s.heap H locs → lv_has ls 2 [(0, .ref (a 0))] → W p l e (headSpec ow_dm_X1_readStatement ({ frames := 8, cells := 0, slots := 0, locals := 182 })).room s m args below meth c H locs 0 0 Q (F0 m 188 ls [.ref (dI 1002 y1), .ref (a 0)])
def dj_X1_readStatement_0 (p : Program) (l : Launch) (e : Env) (s : State) (m : MethodId) (args : Array Value) (below : List Frame) (meth : Method) (c : Code) (Q : State → Prop) (A : Nat → Prop) (dC : Nat → ClassId) (dI : Nat → Nat → Nat) (a : Nat → Nat) (ac : Nat → ClassId) (g : Nat → (St × (St)) → Option (St × (St))) (r : St × (St)) : Prop := ∀ (v0 : Nat) (s0 : St × (St)) (H : Heap) (locs : List Loc) (ls : Array Slot), g v0 s0 = some r → va_P (dC, dI) vwCl (dw_X1 a ac s0) H → va_D A (dw_X1 a ac s0) → va_S A s.heap H locs → lv_has ls 2 [(0, .ref (a 0)), (1, .ref (dI 1002 v0))] → W p l e (headSpec ow_dm_X1_readStatement ({ frames := 8, cells := 0, slots := 0, locals := 182 })).room s m args below meth c H locs 0 0 Q (F0 m 0 ls [])
set_option maxHeartbeats 40000000 in
set_option maxRecDepth 100000 in
theorem db_X1_readStatement_228 {p : Program} {l : Launch} {e : Env} {s : State} {m : MethodId} {args : Array Value} {below : List Frame} {meth : Method} {c : Code} {Q : State → Prop} {A : Nat → Prop} {dC : Nat → ClassId} {dI : Nat → Nat → Nat} {a : Nat → Nat} {ac : Nat → ClassId} {n : Nat} {r : St × (St)} (C : nd_C p l s m args c A (dC, dI) cX1_readStatement 2 RX1 ow_dm_X1_readStatement (dk_X1 ac)) (K : nd_Kv p l e (headSpec ow_dm_X1_readStatement ({ frames := 8, cells := 0, slots := 0, locals := 182 })).room s m args below meth c Q A (dC, dI) cX1_readStatement (St × (St)) (dw_X1 a ac) r) : dj_X1_readStatement_228 p l e s m args below meth c Q A dC dI a ac (df_X1_readStatement_228 n) r := by
  obtain ⟨hlt, hx, hb, hml, hown, hts, hN, hA, hK⟩ := id C
  intro s0 H locs ls h hP hD hS hl
  unfold df_X1_readStatement_228 at h
  exact K _ _ _ _ _ dX1_readStatement_228 (Option.some.inj h).symm hP hD hS
set_option maxHeartbeats 40000000 in
set_option maxRecDepth 100000 in
theorem db_X1_readStatement_206 {p : Program} {l : Launch} {e : Env} {s : State} {m : MethodId} {args : Array Value} {below : List Frame} {meth : Method} {c : Code} {Q : State → Prop} {A : Nat → Prop} {dC : Nat → ClassId} {dI : Nat → Nat → Nat} {a : Nat → Nat} {ac : Nat → ClassId} {n : Nat} {r : St × (St)} (C : nd_C p l s m args c A (dC, dI) cX1_readStatement 2 RX1 ow_dm_X1_readStatement (dk_X1 ac)) (K : nd_Kv p l e (headSpec ow_dm_X1_readStatement ({ frames := 8, cells := 0, slots := 0, locals := 182 })).room s m args below meth c Q A (dC, dI) cX1_readStatement (St × (St)) (dw_X1 a ac) r) : dj_X1_readStatement_206 p l e s m args below meth c Q A dC dI a ac (df_X1_readStatement_206 n) r := by
  obtain ⟨hlt, hx, hb, hml, hown, hts, hN, hA, hK⟩ := id C
  intro s0 H locs ls h hP hD hS hl
  unfold df_X1_readStatement_206 at h
  refine lv_aload_n hx hb dX1_readStatement_206 rfl (lv_at hl 0 rfl) ?_
  refine va_get (D := (dC, dI)) (ci := 2) (v := .int (sI s0.1 2)) (C := RX1) (T := TX1) (N := 13) hx hb hts hi_dm_X1_readStatement_X1 hown hK hP 0 rfl rfl 5 (by decide) (hts (.fieldLink RX1 32 "TimeMachine$Assembler" "fault" "I") (List.mem_of_getElem? (i := 9) rfl)) (fun _ h9 => h9) rfl dX1_readStatement_207 ?_
  refine lv_if_ne (tgt := 228) hx hb dX1_readStatement_210 (by decide) (fun c10 => ?_) (fun c10 => ?_)
  · have h := nd_neg h c10
    exact (db_X1_readStatement_228 C K)  s0 _ _ _ h hP hD hS (lv_sub hl [] rfl)
  · have h := nd_pos h c10
    refine lv_aload_n hx hb dX1_readStatement_213 rfl (lv_at hl 0 rfl) ?_
    refine va_get (D := (dC, dI)) (ci := 2) (v := .ref (a 3)) (C := RX1) (T := TX1) (N := 13) hx hb hts hi_dm_X1_readStatement_X1 hown hK hP 0 rfl rfl 0 (by decide) (hts (.fieldLink RX1 12 "TimeMachine$Assembler" "reader" "LTimeMachine$Reader;") (List.mem_of_getElem? (i := 10) rfl)) (fun _ h9 => h9) rfl dX1_readStatement_214 ?_
    refine va_get (D := (dC, dI)) (ci := 10) (v := .int (sI s0.2 2)) (C := RX9) (T := TX9) (N := 20) hx hb hts hi_dm_X1_readStatement_X9 hown hK hP 3 rfl rfl 3 (by decide) (hts (.fieldLink RX1 85 "TimeMachine$Reader" "kind" "I") (List.mem_of_getElem? (i := 11) rfl)) (fun _ h9 => h9) rfl dX1_readStatement_217 ?_
    refine lv_if_eq (tgt := 228) hx hb dX1_readStatement_220 (by decide) (fun c11 => ?_) (fun c11 => ?_)
    · have h := nd_pos h c11
      exact (db_X1_readStatement_228 C K)  s0 _ _ _ h hP hD hS (lv_sub hl [] rfl)
    · have h := nd_neg h c11
      refine lv_aload_n hx hb dX1_readStatement_223 rfl (lv_at hl 0 rfl) ?_
      refine lv_iconst (v := 1) hx hb dX1_readStatement_224 (by decide) ?_
      obtain ⟨s13, hq, h⟩ := nd_b1_e h
      have hPc := hP
      have hDc := hD
      have hKc := hK
      have hFc := nd_rs hD hS hA
      refine nd_cVv (As := [.int 1]) (rest := []) (w' := dw_X1 a ac s13) ⟨hx, hb, hml, hown, hts⟩ (fun sz => dm_X1_blame l hlt dC dI a ac n (1) s0 hq sz) (cwV 1 hts gi_dm_X1_readStatement_1 rfl rfl rfl (by decide +kernel) ⟨Nat.le_of_ble_eq_true rfl, Nat.le_of_ble_eq_true rfl⟩) hPc hDc hKc hS hA hN (va_recv hKc hPc (ci := 2) (q0 := 0) rfl rfl) rfl hl.1 rfl (Nat.le_of_ble_eq_true rfl) dX1_readStatement_225 (fun H locs hP1 hD1 hk1 hS => ?_)
      have hP := hP1
      have hD := hD1.weaken (fun k q _ h => hFc q.1 h)
      exact (db_X1_readStatement_228 C K)  s13 _ _ _ h hP hD hS (lv_sub hl [] rfl)
set_option maxHeartbeats 40000000 in
set_option maxRecDepth 100000 in
theorem db_X1_readStatement_72 {p : Program} {l : Launch} {e : Env} {s : State} {m : MethodId} {args : Array Value} {below : List Frame} {meth : Method} {c : Code} {Q : State → Prop} {A : Nat → Prop} {dC : Nat → ClassId} {dI : Nat → Nat → Nat} {a : Nat → Nat} {ac : Nat → ClassId} {n : Nat} {r : St × (St)} (C : nd_C p l s m args c A (dC, dI) cX1_readStatement 2 RX1 ow_dm_X1_readStatement (dk_X1 ac)) (K : nd_Kv p l e (headSpec ow_dm_X1_readStatement ({ frames := 8, cells := 0, slots := 0, locals := 182 })).room s m args below meth c Q A (dC, dI) cX1_readStatement (St × (St)) (dw_X1 a ac) r) : dj_X1_readStatement_72 p l e s m args below meth c Q A dC dI a ac (df_X1_readStatement_72 n) r := by
  obtain ⟨hlt, hx, hb, hml, hown, hts, hN, hA, hK⟩ := id C
  intro x1 s0 H locs ls h hP hD hS hl
  unfold df_X1_readStatement_72 at h
  refine lv_aload_n hx hb dX1_readStatement_72 rfl (lv_at hl 0 rfl) ?_
  refine lv_aload_n hx hb dX1_readStatement_73 rfl (lv_at hl 1 rfl) ?_
  obtain ⟨i8, h⟩ := nd_lt_e h
  refine vk_getf hx hb (hN.2.2.2.2.2.2.2.2.2.2.2.2.2.2.1 x1 i8).2.2.2.2.1 hS hown (hts (.fieldLink RX1 145 "TimeMachine$Op" "bits" "I") (List.mem_of_getElem? (i := 7) rfl)) (fun _ h9 => h9) dX1_readStatement_74 ?_
  refine va_put (D := (dC, dI)) (ci := 2) (v := .int (ko_b x1)) (ty := .int) (C := RX1) (T := TX1) (N := 13) hx hb hts hi_dm_X1_readStatement_X1 tyX1 tyX1_ok nmX1 hown hK hP hD hS 0 rfl rfl 7 (by decide) (hts (.fieldLink RX1 71 "TimeMachine$Assembler" "section" "I") (List.mem_of_getElem? (i := 8) rfl)) (fun _ h9 => h9) rfl (by decide +kernel) rfl rfl (Nat.le_of_ble_eq_true rfl) dX1_readStatement_77 (fun H locs hP hD hS => ?_)
  obtain ⟨s9, es9, h⟩ := nd_let_e h
  have hP : va_P (dC, dI) vwCl (dw_X1 a ac s9) H := by rw [es9]; exact hP
  have hD : va_D A (dw_X1 a ac s9) := by rw [es9]; exact hD
  refine lv_goto (tgt := 206) hx hb dX1_readStatement_80 (by decide) ?_
  exact (db_X1_readStatement_206 C K)  s9 _ _ _ h hP hD hS (lv_sub hl [0] rfl)
set_option maxHeartbeats 40000000 in
set_option maxRecDepth 100000 in
theorem db_X1_readStatement_90 {p : Program} {l : Launch} {e : Env} {s : State} {m : MethodId} {args : Array Value} {below : List Frame} {meth : Method} {c : Code} {Q : State → Prop} {A : Nat → Prop} {dC : Nat → ClassId} {dI : Nat → Nat → Nat} {a : Nat → Nat} {ac : Nat → ClassId} {n : Nat} {r : St × (St)} (C : nd_C p l s m args c A (dC, dI) cX1_readStatement 2 RX1 ow_dm_X1_readStatement (dk_X1 ac)) (K : nd_Kv p l e (headSpec ow_dm_X1_readStatement ({ frames := 8, cells := 0, slots := 0, locals := 182 })).room s m args below meth c Q A (dC, dI) cX1_readStatement (St × (St)) (dw_X1 a ac) r) : dj_X1_readStatement_90 p l e s m args below meth c Q A dC dI a ac (df_X1_readStatement_90 n) r := by
  obtain ⟨hlt, hx, hb, hml, hown, hts, hN, hA, hK⟩ := id C
  intro x1 s0 H locs ls h hP hD hS hl
  unfold df_X1_readStatement_90 at h
  refine lv_aload_n hx hb dX1_readStatement_90 rfl (lv_at hl 0 rfl) ?_
  refine lv_aload_n hx hb dX1_readStatement_91 rfl (lv_at hl 1 rfl) ?_
  obtain ⟨i21, h⟩ := nd_lt_e h
  refine vk_getf hx hb (hN.2.2.2.2.2.2.2.2.2.2.2.2.2.2.1 x1 i21).2.2.2.2.1 hS hown (hts (.fieldLink RX1 145 "TimeMachine$Op" "bits" "I") (List.mem_of_getElem? (i := 7) rfl)) (fun _ h9 => h9) dX1_readStatement_92 ?_
  obtain ⟨s23, hq, h⟩ := nd_b1_e h
  have hPc := hP
  have hDc := hD
  have hKc := hK
  have hFc := nd_rs hD hS hA
  refine nd_cVv (As := [.int (ko_b x1)]) (rest := []) (w' := dw_X1 a ac s23) ⟨hx, hb, hml, hown, hts⟩ (fun sz => dm_X1_readList l hlt dC dI a ac n ((ko_b x1)) s0 hq sz) (cwV 1 hts gi_dm_X1_readStatement_3 rfl rfl rfl (by decide +kernel) ⟨Nat.le_of_ble_eq_true rfl, Nat.le_of_ble_eq_true rfl⟩) hPc hDc hKc hS hA hN (va_recv hKc hPc (ci := 2) (q0 := 0) rfl rfl) rfl hl.1 rfl (Nat.le_of_ble_eq_true rfl) dX1_readStatement_95 (fun H locs hP1 hD1 hk1 hS => ?_)
  have hP := hP1
  have hD := hD1.weaken (fun k q _ h => hFc q.1 h)
  refine lv_goto (tgt := 206) hx hb dX1_readStatement_98 (by decide) ?_
  exact (db_X1_readStatement_206 C K)  s23 _ _ _ h hP hD hS (lv_sub hl [0] rfl)
set_option maxHeartbeats 40000000 in
set_option maxRecDepth 100000 in
theorem db_X1_readStatement_115 {p : Program} {l : Launch} {e : Env} {s : State} {m : MethodId} {args : Array Value} {below : List Frame} {meth : Method} {c : Code} {Q : State → Prop} {A : Nat → Prop} {dC : Nat → ClassId} {dI : Nat → Nat → Nat} {a : Nat → Nat} {ac : Nat → ClassId} {n : Nat} {r : St × (St)} (C : nd_C p l s m args c A (dC, dI) cX1_readStatement 2 RX1 ow_dm_X1_readStatement (dk_X1 ac)) (K : nd_Kv p l e (headSpec ow_dm_X1_readStatement ({ frames := 8, cells := 0, slots := 0, locals := 182 })).room s m args below meth c Q A (dC, dI) cX1_readStatement (St × (St)) (dw_X1 a ac) r) : dj_X1_readStatement_115 p l e s m args below meth c Q A dC dI a ac (df_X1_readStatement_115 n) r := by
  obtain ⟨hlt, hx, hb, hml, hown, hts, hN, hA, hK⟩ := id C
  intro y1 s0 H locs ls h hP hD hS hl
  unfold df_X1_readStatement_115 at h
  obtain ⟨s31, hq, h⟩ := nd_b1_e h
  have hPc := hP
  have hDc := hD
  have hKc := hK
  have hFc := nd_rs hD hS hA
  refine nd_cVv (As := [.int y1]) (rest := []) (w' := dw_X1 a ac s31) ⟨hx, hb, hml, hown, hts⟩ (fun sz => dm_X1_readTexts l hlt dC dI a ac n (y1) s0 hq sz) (cwV 1 hts gi_dm_X1_readStatement_4 rfl rfl rfl (by decide +kernel) ⟨Nat.le_of_ble_eq_true rfl, Nat.le_of_ble_eq_true rfl⟩) hPc hDc hKc hS hA hN (va_recv hKc hPc (ci := 2) (q0 := 0) rfl rfl) rfl hl.1 rfl (Nat.le_of_ble_eq_true rfl) dX1_readStatement_115 (fun H locs hP1 hD1 hk1 hS => ?_)
  have hP := hP1
  have hD := hD1.weaken (fun k q _ h => hFc q.1 h)
  refine lv_goto (tgt := 206) hx hb dX1_readStatement_118 (by decide) ?_
  exact (db_X1_readStatement_206 C K)  s31 _ _ _ h hP hD hS (lv_sub hl [0] rfl)
set_option maxHeartbeats 40000000 in
set_option maxRecDepth 100000 in
theorem db_X1_readStatement_101 {p : Program} {l : Launch} {e : Env} {s : State} {m : MethodId} {args : Array Value} {below : List Frame} {meth : Method} {c : Code} {Q : State → Prop} {A : Nat → Prop} {dC : Nat → ClassId} {dI : Nat → Nat → Nat} {a : Nat → Nat} {ac : Nat → ClassId} {n : Nat} {r : St × (St)} (C : nd_C p l s m args c A (dC, dI) cX1_readStatement 2 RX1 ow_dm_X1_readStatement (dk_X1 ac)) (K : nd_Kv p l e (headSpec ow_dm_X1_readStatement ({ frames := 8, cells := 0, slots := 0, locals := 182 })).room s m args below meth c Q A (dC, dI) cX1_readStatement (St × (St)) (dw_X1 a ac) r) : dj_X1_readStatement_101 p l e s m args below meth c Q A dC dI a ac (df_X1_readStatement_101 n) r := by
  obtain ⟨hlt, hx, hb, hml, hown, hts, hN, hA, hK⟩ := id C
  intro x1 s0 H locs ls h hP hD hS hl
  unfold df_X1_readStatement_101 at h
  refine lv_aload_n hx hb dX1_readStatement_101 rfl (lv_at hl 0 rfl) ?_
  refine lv_aload_n hx hb dX1_readStatement_102 rfl (lv_at hl 1 rfl) ?_
  obtain ⟨i28, h⟩ := nd_lt_e h
  refine vk_getf hx hb (hN.2.2.2.2.2.2.2.2.2.2.2.2.2.2.1 x1 i28).2.2.2.2.1 hS hown (hts (.fieldLink RX1 145 "TimeMachine$Op" "bits" "I") (List.mem_of_getElem? (i := 7) rfl)) (fun _ h9 => h9) dX1_readStatement_103 ?_
  refine lv_iconst (v := 1) hx hb dX1_readStatement_106 (by decide) ?_
  refine lv_icmp_ne (tgt := 114) hx hb dX1_readStatement_107 (by decide) (fun c29 => ?_) (fun c29 => ?_)
  · have h := nd_neg h c29
    refine lv_iconst (v := 0) hx hb dX1_readStatement_114 (by decide) ?_
    exact (db_X1_readStatement_115 C K) (0) s0 _ _ _ h hP hD hS (lv_sub hl [0] rfl)
  · have h := nd_pos h c29
    refine lv_iconst (v := 1) hx hb dX1_readStatement_110 (by decide) ?_
    refine lv_goto (tgt := 115) hx hb dX1_readStatement_111 (by decide) ?_
    exact (db_X1_readStatement_115 C K) (1) s0 _ _ _ h hP hD hS (lv_sub hl [0] rfl)
set_option maxHeartbeats 40000000 in
set_option maxRecDepth 100000 in
theorem db_X1_readStatement_188 {p : Program} {l : Launch} {e : Env} {s : State} {m : MethodId} {args : Array Value} {below : List Frame} {meth : Method} {c : Code} {Q : State → Prop} {A : Nat → Prop} {dC : Nat → ClassId} {dI : Nat → Nat → Nat} {a : Nat → Nat} {ac : Nat → ClassId} {n : Nat} {r : St × (St)} (C : nd_C p l s m args c A (dC, dI) cX1_readStatement 2 RX1 ow_dm_X1_readStatement (dk_X1 ac)) (K : nd_Kv p l e (headSpec ow_dm_X1_readStatement ({ frames := 8, cells := 0, slots := 0, locals := 182 })).room s m args below meth c Q A (dC, dI) cX1_readStatement (St × (St)) (dw_X1 a ac) r) : dj_X1_readStatement_188 p l e s m args below meth c Q A dC dI a ac (df_X1_readStatement_188 n) r := by
  obtain ⟨hlt, hx, hb, hml, hown, hts, hN, hA, hK⟩ := id C
  intro y1 s0 H locs ls h hP hD hS hl
  unfold df_X1_readStatement_188 at h
  obtain ⟨s63, hq, h⟩ := nd_b1_e h
  have hPc := hP
  have hDc := hD
  have hKc := hK
  have hFc := nd_rs hD hS hA
  refine nd_cVv (As := [.ref (dI 1002 y1)]) (rest := []) (w' := dw_X1 a ac s63) ⟨hx, hb, hml, hown, hts⟩ (fun sz => dm_X1_readInstruction l hlt dC dI a ac n (y1) s0 hq sz) (cwV 1 hts gi_dm_X1_readStatement_9 rfl rfl rfl (by decide +kernel) ⟨Nat.le_of_ble_eq_true rfl, Nat.le_of_ble_eq_true rfl⟩) hPc hDc hKc hS hA hN (va_recv hKc hPc (ci := 2) (q0 := 0) rfl rfl) rfl hl.1 rfl (Nat.le_of_ble_eq_true rfl) dX1_readStatement_188 (fun H locs hP1 hD1 hk1 hS => ?_)
  have hP := hP1
  have hD := hD1.weaken (fun k q _ h => hFc q.1 h)
  refine lv_goto (tgt := 206) hx hb dX1_readStatement_191 (by decide) ?_
  exact (db_X1_readStatement_206 C K)  s63 _ _ _ h hP hD hS (lv_sub hl [0] rfl)
set_option maxHeartbeats 40000000 in
set_option maxRecDepth 100000 in
theorem db_X1_readStatement_0 {p : Program} {l : Launch} {e : Env} {s : State} {m : MethodId} {args : Array Value} {below : List Frame} {meth : Method} {c : Code} {Q : State → Prop} {A : Nat → Prop} {dC : Nat → ClassId} {dI : Nat → Nat → Nat} {a : Nat → Nat} {ac : Nat → ClassId} {n : Nat} {r : St × (St)} (C : nd_C p l s m args c A (dC, dI) cX1_readStatement 2 RX1 ow_dm_X1_readStatement (dk_X1 ac)) (K : nd_Kv p l e (headSpec ow_dm_X1_readStatement ({ frames := 8, cells := 0, slots := 0, locals := 182 })).room s m args below meth c Q A (dC, dI) cX1_readStatement (St × (St)) (dw_X1 a ac) r) : dj_X1_readStatement_0 p l e s m args below meth c Q A dC dI a ac (df_X1_readStatement_0 n) r := by
  obtain ⟨hlt, hx, hb, hml, hown, hts, hN, hA, hK⟩ := id C
  intro v0 s0 H locs ls h hP hD hS hl
  unfold df_X1_readStatement_0 at h
  obtain ⟨b1, zb1, xb1, lb1, wb1⟩ := hN.2.2.2.2.2.2.2.2.2.2.1 nv_A0 (List.mem_of_getElem? (i := 0) rfl)
  have zb1 : va_Z "TimeMachine$1" "$SwitchMap$TimeMachine$Op" "[I" (.ref b1) A s s.heap := zb1
  have xb1 : va_X b1 128 tb_0 s s.heap := xb1
  refine va_gets (v := .ref b1) hx hb zb1 hS hown (hts (.fieldLink RX1 151 "TimeMachine$1" "$SwitchMap$TimeMachine$Op" "[I") (List.mem_of_getElem? (i := 1) rfl)) (fun _ h9 => h9) dX1_readStatement_0 ?_
  refine lv_aload_n hx hb dX1_readStatement_3 rfl (lv_at hl 1 rfl) ?_
  obtain ⟨i4, h⟩ := nd_lt_e h
  obtain ⟨q2, s3, hq, h⟩ := nd_b2_e h
  have hPc : va_P (dC, dI) vwCl (dw_P a ac ()) H := nd_p0
  have hDc : va_D A (dw_P a ac ()) := nd_d0
  have hKc : va_K (dC, dI) vwCl (dk_P ac) s := nd_y0 hK
  have hFc : ∀ q, va_A (dw_P a ac ()) H.size q → A q := nd_r0 hS hA
  refine nd_cUi (As := []) (rest := [.ref b1]) (q := q2) (w' := dw_P a ac s3) ⟨hx, hb, hml, hown, hts⟩ (fun sz => dm_Jx29ce0_ordinal_8abf5 l hlt dC dI a ac n (v0) () hq sz) (va_cwU 0 hts gi_dm_X1_readStatement_0 rfl rfl rfl rfl (by decide +kernel) ⟨Nat.le_of_ble_eq_true rfl, Nat.le_of_ble_eq_true rfl⟩) hPc hDc hKc hS hA hN (nv_rcO hN.2.2.2.2.2.2.2.2.2.2.2 i4 hS) rfl hl.1 rfl (Nat.le_of_ble_eq_true rfl) dX1_readStatement_4 (fun H locs hP1 hD1 hk1 hS => ?_)
  have hP := nd_n0 hP hk1
  obtain ⟨i6, h⟩ := nd_ck_e h
  refine va_sld (i := q2) hx hb xb1 lb1 wb1 hS i6 dX1_readStatement_7 ?_
  by_cases c7 : (tb_0 (Int32.toNatClampNeg q2)) = 1
  · have h := nd_pos h c7
    refine lv_tableIn (off := 64) (tgt := 72) hx hb dX1_readStatement_8 (by rw [c7]; decide) (by rw [c7]; decide) (by rw [c7]; decide) (by decide) ?_
    exact (db_X1_readStatement_72 C K) (v0) s0 _ _ _ h hP hD hS (lv_sub hl [0, 1] rfl)
  have h := nd_neg h c7
  by_cases c15 : (tb_0 (Int32.toNatClampNeg q2)) = 2
  · have h := nd_pos h c15
    refine lv_tableIn (off := 64) (tgt := 72) hx hb dX1_readStatement_8 (by rw [c15]; decide) (by rw [c15]; decide) (by rw [c15]; decide) (by decide) ?_
    exact (db_X1_readStatement_72 C K) (v0) s0 _ _ _ h hP hD hS (lv_sub hl [0, 1] rfl)
  have h := nd_neg h c15
  by_cases c16 : (tb_0 (Int32.toNatClampNeg q2)) = 3
  · have h := nd_pos h c16
    refine lv_tableIn (off := 75) (tgt := 83) hx hb dX1_readStatement_8 (by rw [c16]; decide) (by rw [c16]; decide) (by rw [c16]; decide) (by decide) ?_
    refine lv_aload_n hx hb dX1_readStatement_83 rfl (lv_at hl 0 rfl) ?_
    obtain ⟨s18, hq, h⟩ := nd_b1_e h
    have hPc := hP
    have hDc := hD
    have hKc := hK
    have hFc := nd_rs hD hS hA
    refine nd_cVv (As := []) (rest := []) (w' := dw_X1 a ac s18) ⟨hx, hb, hml, hown, hts⟩ (fun sz => dm_X1_readConstant l hlt dC dI a ac n  s0 hq sz) (cwV 0 hts gi_dm_X1_readStatement_2 rfl rfl rfl (by decide +kernel) ⟨Nat.le_of_ble_eq_true rfl, Nat.le_of_ble_eq_true rfl⟩) hPc hDc hKc hS hA hN (va_recv hKc hPc (ci := 2) (q0 := 0) rfl rfl) rfl hl.1 rfl (Nat.le_of_ble_eq_true rfl) dX1_readStatement_84 (fun H locs hP1 hD1 hk1 hS => ?_)
    have hP := hP1
    have hD := hD1.weaken (fun k q _ h => hFc q.1 h)
    refine lv_goto (tgt := 206) hx hb dX1_readStatement_87 (by decide) ?_
    exact (db_X1_readStatement_206 C K)  s18 _ _ _ h hP hD hS (lv_sub hl [0] rfl)
  have h := nd_neg h c16
  by_cases c20 : (tb_0 (Int32.toNatClampNeg q2)) = 4
  · have h := nd_pos h c20
    refine lv_tableIn (off := 82) (tgt := 90) hx hb dX1_readStatement_8 (by rw [c20]; decide) (by rw [c20]; decide) (by rw [c20]; decide) (by decide) ?_
    exact (db_X1_readStatement_90 C K) (v0) s0 _ _ _ h hP hD hS (lv_sub hl [0, 1] rfl)
  have h := nd_neg h c20
  by_cases c25 : (tb_0 (Int32.toNatClampNeg q2)) = 5
  · have h := nd_pos h c25
    refine lv_tableIn (off := 82) (tgt := 90) hx hb dX1_readStatement_8 (by rw [c25]; decide) (by rw [c25]; decide) (by rw [c25]; decide) (by decide) ?_
    exact (db_X1_readStatement_90 C K) (v0) s0 _ _ _ h hP hD hS (lv_sub hl [0, 1] rfl)
  have h := nd_neg h c25
  by_cases c26 : (tb_0 (Int32.toNatClampNeg q2)) = 6
  · have h := nd_pos h c26
    refine lv_tableIn (off := 82) (tgt := 90) hx hb dX1_readStatement_8 (by rw [c26]; decide) (by rw [c26]; decide) (by rw [c26]; decide) (by decide) ?_
    exact (db_X1_readStatement_90 C K) (v0) s0 _ _ _ h hP hD hS (lv_sub hl [0, 1] rfl)
  have h := nd_neg h c26
  by_cases c27 : (tb_0 (Int32.toNatClampNeg q2)) = 7
  · have h := nd_pos h c27
    refine lv_tableIn (off := 93) (tgt := 101) hx hb dX1_readStatement_8 (by rw [c27]; decide) (by rw [c27]; decide) (by rw [c27]; decide) (by decide) ?_
    exact (db_X1_readStatement_101 C K) (v0) s0 _ _ _ h hP hD hS (lv_sub hl [0, 1] rfl)
  have h := nd_neg h c27
  by_cases c33 : (tb_0 (Int32.toNatClampNeg q2)) = 8
  · have h := nd_pos h c33
    refine lv_tableIn (off := 93) (tgt := 101) hx hb dX1_readStatement_8 (by rw [c33]; decide) (by rw [c33]; decide) (by rw [c33]; decide) (by decide) ?_
    exact (db_X1_readStatement_101 C K) (v0) s0 _ _ _ h hP hD hS (lv_sub hl [0, 1] rfl)
  have h := nd_neg h c33
  by_cases c34 : (tb_0 (Int32.toNatClampNeg q2)) = 9
  · have h := nd_pos h c34
    refine lv_tableIn (off := 113) (tgt := 121) hx hb dX1_readStatement_8 (by rw [c34]; decide) (by rw [c34]; decide) (by rw [c34]; decide) (by decide) ?_
    refine lv_aload_n hx hb dX1_readStatement_121 rfl (lv_at hl 0 rfl) ?_
    refine lv_bipush (v := 7) hx hb dX1_readStatement_122 (by decide) ?_
    refine lv_aload_n hx hb dX1_readStatement_124 rfl (lv_at hl 0 rfl) ?_
    refine lv_aload_n hx hb dX1_readStatement_125 rfl (lv_at hl 0 rfl) ?_
    refine va_get (D := (dC, dI)) (ci := 2) (v := .ref (a 3)) (C := RX1) (T := TX1) (N := 13) hx hb hts hi_dm_X1_readStatement_X1 hown hK hP 0 rfl rfl 0 (by decide) (hts (.fieldLink RX1 12 "TimeMachine$Assembler" "reader" "LTimeMachine$Reader;") (List.mem_of_getElem? (i := 10) rfl)) (fun _ h9 => h9) rfl dX1_readStatement_126 ?_
    obtain ⟨q35, s36, hq, h⟩ := nd_b2_e h
    have hPc := dp_X1_3 hP
    have hDc := dd_X1_3 hD
    have hKc := dy_X1_3 hK
    have hFc := nd_rs hDc hS hA
    have hzA : ∀ q : Nat, H.size ≤ q → A q := fun q h => hA q (Nat.le_trans hS.1 h)
    refine nd_cVi (As := []) (rest := [.ref (a 0), .int 7, .ref (a 0)]) (q := q35) (w' := dw_X9 (fun k => a (k + 3)) (fun k => ac (k + 3)) s36) ⟨hx, hb, hml, hown, hts⟩ (fun sz => dm_X9_sum l hlt dC dI (fun k => a (k + 3)) (fun k => ac (k + 3)) n  s0.2 hq sz) (cwV 0 hts gi_dm_X1_readStatement_5 rfl rfl rfl (by decide +kernel) ⟨Nat.le_of_ble_eq_true rfl, Nat.le_of_ble_eq_true rfl⟩) hPc hDc hKc hS hA hN (va_recv hKc hPc (ci := 10) (q0 := 0) rfl rfl) rfl hl.1 rfl (Nat.le_of_ble_eq_true rfl) dX1_readStatement_129 (fun H locs hP1 hD1 hk1 hS => ?_)
    obtain ⟨hP, hD⟩ := dn_X1_3 hP hD hzA hk1 hP1 hD1
    obtain ⟨s38, es38, h⟩ := nd_let_e h
    have hP : va_P (dC, dI) vwCl (dw_X1 a ac s38) H := by rw [es38]; exact hP
    have hD : va_D A (dw_X1 a ac s38) := by rw [es38]; exact hD
    refine lv_iconst (v := 0) hx hb dX1_readStatement_132 (by decide) ?_
    refine lv_ldc hx hb hown (hts (.constant RX1 53 (32768)) (List.mem_of_getElem? (i := 29) rfl)) dX1_readStatement_133 ?_
    obtain ⟨q39, s40, hq, h⟩ := nd_b2_e h
    have hPc := hP
    have hDc := hD
    have hKc := hK
    have hFc := nd_rs hD hS hA
    refine nd_cVi (As := [.int q35, .int 0, .int 32768]) (rest := [.int 7, .ref (a 0)]) (q := q39) (w' := dw_X1 a ac s40) ⟨hx, hb, hml, hown, hts⟩ (fun sz => dm_X1_fixed l hlt dC dI a ac n (q35) (0) (32768) s38 hq sz) (cwV 3 hts gi_dm_X1_readStatement_6 rfl rfl rfl (by decide +kernel) ⟨Nat.le_of_ble_eq_true rfl, Nat.le_of_ble_eq_true rfl⟩) hPc hDc hKc hS hA hN (va_recv hKc hPc (ci := 2) (q0 := 0) rfl rfl) rfl hl.1 rfl (Nat.le_of_ble_eq_true rfl) dX1_readStatement_135 (fun H locs hP1 hD1 hk1 hS => ?_)
    have hP := hP1
    have hD := hD1.weaken (fun k q _ h => hFc q.1 h)
    refine lv_iconst (v := 0) hx hb dX1_readStatement_138 (by decide) ?_
    refine lv_iconst (v := (-1)) hx hb dX1_readStatement_139 (by decide) ?_
    obtain ⟨s43, hq, h⟩ := nd_b1_e h
    have hPc := hP
    have hDc := hD
    have hKc := hK
    have hFc := nd_rs hD hS hA
    refine nd_cVv (As := [.int 7, .int q39, .int 0, .int (-1)]) (rest := []) (w' := dw_X1 a ac s43) ⟨hx, hb, hml, hown, hts⟩ (fun sz => dm_X1_add l hlt dC dI a ac n (7) (q39) (0) ((-1)) s40 hq sz) (cwV 4 hts gi_dm_X1_readStatement_7 rfl rfl rfl (by decide +kernel) ⟨Nat.le_of_ble_eq_true rfl, Nat.le_of_ble_eq_true rfl⟩) hPc hDc hKc hS hA hN (va_recv hKc hPc (ci := 2) (q0 := 0) rfl rfl) rfl hl.1 rfl (Nat.le_of_ble_eq_true rfl) dX1_readStatement_140 (fun H locs hP1 hD1 hk1 hS => ?_)
    have hP := hP1
    have hD := hD1.weaken (fun k q _ h => hFc q.1 h)
    refine lv_goto (tgt := 206) hx hb dX1_readStatement_143 (by decide) ?_
    exact (db_X1_readStatement_206 C K)  s43 _ _ _ h hP hD hS (lv_sub hl [0] rfl)
  have h := nd_neg h c34
  by_cases c45 : (tb_0 (Int32.toNatClampNeg q2)) = 10
  · have h := nd_pos h c45
    refine lv_tableIn (off := 138) (tgt := 146) hx hb dX1_readStatement_8 (by rw [c45]; decide) (by rw [c45]; decide) (by rw [c45]; decide) (by decide) ?_
    refine lv_aload_n hx hb dX1_readStatement_146 rfl (lv_at hl 0 rfl) ?_
    refine lv_bipush (v := 8) hx hb dX1_readStatement_147 (by decide) ?_
    refine lv_iconst (v := 0) hx hb dX1_readStatement_149 (by decide) ?_
    refine lv_iconst (v := 1) hx hb dX1_readStatement_150 (by decide) ?_
    refine lv_aload_n hx hb dX1_readStatement_151 rfl (lv_at hl 0 rfl) ?_
    refine lv_aload_n hx hb dX1_readStatement_152 rfl (lv_at hl 0 rfl) ?_
    refine va_get (D := (dC, dI)) (ci := 2) (v := .ref (a 3)) (C := RX1) (T := TX1) (N := 13) hx hb hts hi_dm_X1_readStatement_X1 hown hK hP 0 rfl rfl 0 (by decide) (hts (.fieldLink RX1 12 "TimeMachine$Assembler" "reader" "LTimeMachine$Reader;") (List.mem_of_getElem? (i := 10) rfl)) (fun _ h9 => h9) rfl dX1_readStatement_153 ?_
    obtain ⟨q46, s47, hq, h⟩ := nd_b2_e h
    have hPc := dp_X1_3 hP
    have hDc := dd_X1_3 hD
    have hKc := dy_X1_3 hK
    have hFc := nd_rs hDc hS hA
    have hzA : ∀ q : Nat, H.size ≤ q → A q := fun q h => hA q (Nat.le_trans hS.1 h)
    refine nd_cVi (As := []) (rest := [.ref (a 0), .int 1, .int 0, .int 8, .ref (a 0)]) (q := q46) (w' := dw_X9 (fun k => a (k + 3)) (fun k => ac (k + 3)) s47) ⟨hx, hb, hml, hown, hts⟩ (fun sz => dm_X9_sum l hlt dC dI (fun k => a (k + 3)) (fun k => ac (k + 3)) n  s0.2 hq sz) (cwV 0 hts gi_dm_X1_readStatement_5 rfl rfl rfl (by decide +kernel) ⟨Nat.le_of_ble_eq_true rfl, Nat.le_of_ble_eq_true rfl⟩) hPc hDc hKc hS hA hN (va_recv hKc hPc (ci := 10) (q0 := 0) rfl rfl) rfl hl.1 rfl (Nat.le_of_ble_eq_true rfl) dX1_readStatement_156 (fun H locs hP1 hD1 hk1 hS => ?_)
    obtain ⟨hP, hD⟩ := dn_X1_3 hP hD hzA hk1 hP1 hD1
    obtain ⟨s49, es49, h⟩ := nd_let_e h
    have hP : va_P (dC, dI) vwCl (dw_X1 a ac s49) H := by rw [es49]; exact hP
    have hD : va_D A (dw_X1 a ac s49) := by rw [es49]; exact hD
    refine lv_iconst (v := 0) hx hb dX1_readStatement_159 (by decide) ?_
    refine lv_bipush (v := 10) hx hb dX1_readStatement_160 (by decide) ?_
    obtain ⟨q50, s51, hq, h⟩ := nd_b2_e h
    have hPc := hP
    have hDc := hD
    have hKc := hK
    have hFc := nd_rs hD hS hA
    refine nd_cVi (As := [.int q46, .int 0, .int 10]) (rest := [.int 1, .int 0, .int 8, .ref (a 0)]) (q := q50) (w' := dw_X1 a ac s51) ⟨hx, hb, hml, hown, hts⟩ (fun sz => dm_X1_fixed l hlt dC dI a ac n (q46) (0) (10) s49 hq sz) (cwV 3 hts gi_dm_X1_readStatement_6 rfl rfl rfl (by decide +kernel) ⟨Nat.le_of_ble_eq_true rfl, Nat.le_of_ble_eq_true rfl⟩) hPc hDc hKc hS hA hN (va_recv hKc hPc (ci := 2) (q0 := 0) rfl rfl) rfl hl.1 rfl (Nat.le_of_ble_eq_true rfl) dX1_readStatement_162 (fun H locs hP1 hD1 hk1 hS => ?_)
    have hP := hP1
    have hD := hD1.weaken (fun k q _ h => hFc q.1 h)
    refine lv_ishl hx hb dX1_readStatement_165 ?_
    refine lv_iconst (v := (-1)) hx hb dX1_readStatement_166 (by decide) ?_
    obtain ⟨s54, hq, h⟩ := nd_b1_e h
    have hPc := hP
    have hDc := hD
    have hKc := hK
    have hFc := nd_rs hD hS hA
    refine nd_cVv (As := [.int 8, .int 0, .int ((1 : Int32) <<< ((q50 : Int32) &&& 31)), .int (-1)]) (rest := []) (w' := dw_X1 a ac s54) ⟨hx, hb, hml, hown, hts⟩ (fun sz => dm_X1_add l hlt dC dI a ac n (8) (0) (((1 : Int32) <<< ((q50 : Int32) &&& 31))) ((-1)) s51 hq sz) (cwV 4 hts gi_dm_X1_readStatement_7 rfl rfl rfl (by decide +kernel) ⟨Nat.le_of_ble_eq_true rfl, Nat.le_of_ble_eq_true rfl⟩) hPc hDc hKc hS hA hN (va_recv hKc hPc (ci := 2) (q0 := 0) rfl rfl) rfl hl.1 rfl (Nat.le_of_ble_eq_true rfl) dX1_readStatement_167 (fun H locs hP1 hD1 hk1 hS => ?_)
    have hP := hP1
    have hD := hD1.weaken (fun k q _ h => hFc q.1 h)
    refine lv_goto (tgt := 206) hx hb dX1_readStatement_170 (by decide) ?_
    exact (db_X1_readStatement_206 C K)  s54 _ _ _ h hP hD hS (lv_sub hl [0] rfl)
  have h := nd_neg h c45
  by_cases c56 : (tb_0 (Int32.toNatClampNeg q2)) = 11
  · have h := nd_pos h c56
    refine lv_tableIn (off := 165) (tgt := 173) hx hb dX1_readStatement_8 (by rw [c56]; decide) (by rw [c56]; decide) (by rw [c56]; decide) (by decide) ?_
    refine lv_aload_n hx hb dX1_readStatement_173 rfl (lv_at hl 0 rfl) ?_
    refine lv_aload_n hx hb dX1_readStatement_174 rfl (lv_at hl 0 rfl) ?_
    obtain ⟨q57, s58, hq, h⟩ := nd_b2_e h
    have hPc := hP
    have hDc := hD
    have hKc := hK
    have hFc := nd_rs hD hS hA
    refine nd_cVi (As := []) (rest := [.ref (a 0)]) (q := q57) (w' := dw_X1 a ac s58) ⟨hx, hb, hml, hown, hts⟩ (fun sz => dm_X1_isRegister l hlt dC dI a ac n  s0 hq sz) (cwV 0 hts gi_dm_X1_readStatement_8 rfl rfl rfl (by decide +kernel) ⟨Nat.le_of_ble_eq_true rfl, Nat.le_of_ble_eq_true rfl⟩) hPc hDc hKc hS hA hN (va_recv hKc hPc (ci := 2) (q0 := 0) rfl rfl) rfl hl.1 rfl (Nat.le_of_ble_eq_true rfl) dX1_readStatement_175 (fun H locs hP1 hD1 hk1 hS => ?_)
    have hP := hP1
    have hD := hD1.weaken (fun k q _ h => hFc q.1 h)
    refine lv_if_eq (tgt := 185) hx hb dX1_readStatement_178 (by decide) (fun c60 => ?_) (fun c60 => ?_)
    · have h := nd_pos h c60
      have z61 : va_Z "TimeMachine$Op" "CALL" "LTimeMachine$Op;" (.ref (dI 1002 103)) A s s.heap := hN.2.2.2.2.2.2.2.2.2.2.2.2.2.2.2.1 103 (by decide)
      refine va_gets hx hb z61 hS hown (hts (.fieldLink RX1 184 "TimeMachine$Op" "CALL" "LTimeMachine$Op;") (List.mem_of_getElem? (i := 39) rfl)) (fun _ h9 => h9) dX1_readStatement_185 ?_
      exact (db_X1_readStatement_188 C K) (103) s58 _ _ _ h hP hD hS (lv_sub hl [0] rfl)
    · have h := nd_neg h c60
      refine lv_aload_n hx hb dX1_readStatement_181 rfl (lv_at hl 1 rfl) ?_
      refine lv_goto (tgt := 188) hx hb dX1_readStatement_182 (by decide) ?_
      exact (db_X1_readStatement_188 C K) (v0) s58 _ _ _ h hP hD hS (lv_sub hl [0] rfl)
  have h := nd_neg h c56
  by_cases c65 : (tb_0 (Int32.toNatClampNeg q2)) = 12
  · have h := nd_pos h c65
    refine lv_tableIn (off := 186) (tgt := 194) hx hb dX1_readStatement_8 (by rw [c65]; decide) (by rw [c65]; decide) (by rw [c65]; decide) (by decide) ?_
    refine lv_aload_n hx hb dX1_readStatement_194 rfl (lv_at hl 0 rfl) ?_
    obtain ⟨s67, hq, h⟩ := nd_b1_e h
    have hPc := hP
    have hDc := hD
    have hKc := hK
    have hFc := nd_rs hD hS hA
    refine nd_cVv (As := []) (rest := []) (w' := dw_X1 a ac s67) ⟨hx, hb, hml, hown, hts⟩ (fun sz => dm_X1_readJump l hlt dC dI a ac n  s0 hq sz) (cwV 0 hts gi_dm_X1_readStatement_10 rfl rfl rfl (by decide +kernel) ⟨Nat.le_of_ble_eq_true rfl, Nat.le_of_ble_eq_true rfl⟩) hPc hDc hKc hS hA hN (va_recv hKc hPc (ci := 2) (q0 := 0) rfl rfl) rfl hl.1 rfl (Nat.le_of_ble_eq_true rfl) dX1_readStatement_195 (fun H locs hP1 hD1 hk1 hS => ?_)
    have hP := hP1
    have hD := hD1.weaken (fun k q _ h => hFc q.1 h)
    refine lv_goto (tgt := 206) hx hb dX1_readStatement_198 (by decide) ?_
    exact (db_X1_readStatement_206 C K)  s67 _ _ _ h hP hD hS (lv_sub hl [0] rfl)
  have h := nd_neg h c65
  refine lv_tableOut (tgt := 201) hx hb dX1_readStatement_8 (by have g0 := nv_nei c7 (k := 1) (by decide); have g1 := nv_nei c15 (k := 2) (by decide); have g2 := nv_nei c16 (k := 3) (by decide); have g3 := nv_nei c20 (k := 4) (by decide); have g4 := nv_nei c25 (k := 5) (by decide); have g5 := nv_nei c26 (k := 6) (by decide); have g6 := nv_nei c27 (k := 7) (by decide); have g7 := nv_nei c33 (k := 8) (by decide); have g8 := nv_nei c34 (k := 9) (by decide); have g9 := nv_nei c45 (k := 10) (by decide); have g10 := nv_nei c56 (k := 11) (by decide); have g11 := nv_nei c65 (k := 12) (by decide); omega) (by decide) ?_
  refine lv_aload_n hx hb dX1_readStatement_201 rfl (lv_at hl 0 rfl) ?_
  refine lv_aload_n hx hb dX1_readStatement_202 rfl (lv_at hl 1 rfl) ?_
  obtain ⟨s70, hq, h⟩ := nd_b1_e h
  have hPc := hP
  have hDc := hD
  have hKc := hK
  have hFc := nd_rs hD hS hA
  refine nd_cVv (As := [.ref (dI 1002 v0)]) (rest := []) (w' := dw_X1 a ac s70) ⟨hx, hb, hml, hown, hts⟩ (fun sz => dm_X1_readInstruction l hlt dC dI a ac n (v0) s0 hq sz) (cwV 1 hts gi_dm_X1_readStatement_9 rfl rfl rfl (by decide +kernel) ⟨Nat.le_of_ble_eq_true rfl, Nat.le_of_ble_eq_true rfl⟩) hPc hDc hKc hS hA hN (va_recv hKc hPc (ci := 2) (q0 := 0) rfl rfl) rfl hl.1 rfl (Nat.le_of_ble_eq_true rfl) dX1_readStatement_203 (fun H locs hP1 hD1 hk1 hS => ?_)
  have hP := hP1
  have hD := hD1.weaken (fun k q _ h => hFc q.1 h)
  exact (db_X1_readStatement_206 C K)  s70 _ _ _ h hP hD hS (lv_sub hl [0] rfl)
set_option maxHeartbeats 40000000 in
set_option maxRecDepth 100000 in
theorem dm_X1_readStatement (l : Launch) (hlt : l.stackTraces = false) (dC : Nat → ClassId) (dI : Nat → Nat → Nat) (a : Nat → Nat) (ac : Nat → ClassId) (n : Nat) (v0 : Nat) (s0 : St × (St)) {r : St × (St)} (h : df_X1_readStatement n v0 s0 = some r) (sz : Nat) : Met l yX1_readStatement ow_dm_X1_readStatement ({ frames := 8, cells := 0, slots := 0, locals := 182 }) (va_Pc [.ref (a 0), .ref (dI 1002 v0)] (fun U => U.heap.size = sz ∧ va_P (dC, dI) vwCl (dw_X1 a ac s0) U.heap ∧ va_K (dC, dI) vwCl (dk_X1 ac) U ∧ va_D (fun _ => True) (dw_X1 a ac s0) ∧ nv_E dI (va_A (dw_X1 a ac s0) sz) U)) (va_Qv (fun _ => True) (fun (_ : Unit) t => va_P (dC, dI) vwCl (dw_X1 a ac r) t.heap ∧ va_K (dC, dI) vwCl (dk_X1 ac) t ∧ va_D (va_A (dw_X1 a ac s0) sz) (dw_X1 a ac r)) (va_A (dw_X1 a ac s0) sz)) 0 0 (va_A (dw_X1 a ac s0) sz) := by
  refine Met.ofW (cc := cX1_readStatement) (maxL := 2) (ret := none) (by decide) rfl ?_
  intro p e s m args below meth c s₁ B hml hv
  obtain ⟨rfl, hsz, hP, hK, hD0, hN⟩ := hv
  have hx := B.exec
  have hb := B.bytes
  have hr := B.returns
  have hts := atoms_spec (ws := ow_dm_X1_readStatement) B.pre
  have hown : s.vm.findClass RX1 = some m.cls := findClass_of_methodNamed B.named
  have hlocks := B.notSynchronized
  subst hsz
  have hD := hD0.self (sz := s.heap.size)
  generalize hAe : va_A (dw_X1 a ac s0) s.heap.size = A at hD hN ⊢
  have hA : ∀ q : Nat, s.heap.size ≤ q → A q := fun q h => by rw [← hAe]; exact Or.inr h
  have hl := lv_entry ([.ref (a 0), .ref (dI 1002 v0)]) (n := 2) (Nat.le_of_ble_eq_true rfl)
  rw [lg_entry_eq]
  generalize (lg_sl ([.ref (a 0), .ref (dI 1002 v0)]) ++ List.replicate (2 - (lg_sl ([.ref (a 0), .ref (dI 1002 v0)])).length) Slot.unset).toArray = ls at hl ⊢
  have hl : lv_has ls 2 [(0, .ref (a 0)), (1, .ref (dI 1002 v0))] := hl
  exact db_X1_readStatement_0 (dC := dC) (dI := dI) (a := a) (ac := ac) (n := n) (r := r) ⟨hlt, hx, hb, hml, hown, hts, hN, hA, hK⟩ (fun pc τ H locs ls d er hP hD hS => by subst er; exact W.vret hx hb hr (fun t ht hW => ⟨⟨(), rfl, trivial, by rw [ht]; exact hP, va_K.moved hW.alike hK, hD⟩, hS.F ht⟩) hS.2.2 d) v0 s0 _ _ _ h hP hD va_S.rf (lv_sub hl [0, 1] rfl)
def ow_dm_X1_make : List Cond := Cond.code yX1_make cX1_make 7 (some .int) :: ([Cond.methodLink RX1 28 yX1_start, Cond.instanceMethod yX1_start, Cond.selects RX1 yX1_start yX1_start, Cond.initialized RX1, Cond.fieldLink RX1 32 "TimeMachine$Assembler" "fault" "I", Cond.fieldLink RX1 36 "TimeMachine$Assembler" "line" "I", Cond.methodLink RX1 58 yX1_describe, Cond.instanceMethod yX1_describe, Cond.selects RX1 yX1_describe yX1_describe, Cond.methodLink RX1 47 yX1_layOut, Cond.instanceMethod yX1_layOut, Cond.selects RX1 yX1_layOut yX1_layOut, Cond.fieldLink RX1 50 "TimeMachine$Assembler" "size" "I", Cond.constant RX1 53 (32768), Cond.methodLink RX1 54 yX1_putAll, Cond.instanceMethod yX1_putAll, Cond.selects RX1 yX1_putAll yX1_putAll, Cond.methodLink RX1 39 yX1_readLine, Cond.instanceMethod yX1_readLine, Cond.selects RX1 yX1_readLine yX1_readLine, Cond.methodLink RX1 43 yX1_readStatement, Cond.instanceMethod yX1_readStatement, Cond.selects RX1 yX1_readStatement yX1_readStatement] ++ (u_ws RX1 TX1 13 ++ (ow_dm_X1_start ++ (ow_dm_X1_describe ++ (ow_dm_X1_layOut ++ (ow_dm_X1_putAll ++ (ow_dm_X1_readLine ++ (ow_dm_X1_readStatement ++ []))))))))
theorem gd_dm_X1_make : ∀ w ∈ ow_dm_X1_make, (w.onTables && w.keeps) = true ∨ ∃ ty, w = Cond.arrayClass ty := List.forall_mem_cons.mpr ⟨good_of_word rfl, List.forall_mem_append.mpr ⟨fun w h => good_of_word (List.all_eq_true.mp (by decide +kernel) w h), List.forall_mem_append.mpr ⟨gu_X1, List.forall_mem_append.mpr ⟨gd_dm_X1_start, List.forall_mem_append.mpr ⟨gd_dm_X1_describe, List.forall_mem_append.mpr ⟨gd_dm_X1_layOut, List.forall_mem_append.mpr ⟨gd_dm_X1_putAll, List.forall_mem_append.mpr ⟨gd_dm_X1_readLine, List.forall_mem_append.mpr ⟨gd_dm_X1_readStatement, fun _ h => nomatch h⟩⟩⟩⟩⟩⟩⟩⟩⟩
theorem hi_dm_X1_make_X1 : ∀ w ∈ u_ws RX1 TX1 13, w ∈ ow_dm_X1_make := fun w h => List.mem_cons_of_mem _ (List.mem_append_right _ (List.mem_append_left _ h))
theorem gi_dm_X1_make_0 : GoodIn ow_dm_X1_make (wsV RX1 28 RX1 yX1_start ow_dm_X1_start) := goodIn_app (goodIn_of _ (by decide +kernel)) (fun w h => ⟨List.mem_cons_of_mem _ (List.mem_append_right _ (List.mem_append_right _ (List.mem_append_left _ h))), gd_dm_X1_start w h⟩)
theorem gi_dm_X1_make_1 : GoodIn ow_dm_X1_make (wsV RX1 58 RX1 yX1_describe ow_dm_X1_describe) := goodIn_app (goodIn_of _ (by decide +kernel)) (fun w h => ⟨List.mem_cons_of_mem _ (List.mem_append_right _ (List.mem_append_right _ (List.mem_append_right _ (List.mem_append_left _ h)))), gd_dm_X1_describe w h⟩)
theorem gi_dm_X1_make_2 : GoodIn ow_dm_X1_make (wsV RX1 47 RX1 yX1_layOut ow_dm_X1_layOut) := goodIn_app (goodIn_of _ (by decide +kernel)) (fun w h => ⟨List.mem_cons_of_mem _ (List.mem_append_right _ (List.mem_append_right _ (List.mem_append_right _ (List.mem_append_right _ (List.mem_append_left _ h))))), gd_dm_X1_layOut w h⟩)
theorem gi_dm_X1_make_3 : GoodIn ow_dm_X1_make (wsV RX1 54 RX1 yX1_putAll ow_dm_X1_putAll) := goodIn_app (goodIn_of _ (by decide +kernel)) (fun w h => ⟨List.mem_cons_of_mem _ (List.mem_append_right _ (List.mem_append_right _ (List.mem_append_right _ (List.mem_append_right _ (List.mem_append_right _ (List.mem_append_left _ h)))))), gd_dm_X1_putAll w h⟩)
theorem gi_dm_X1_make_4 : GoodIn ow_dm_X1_make (wsV RX1 39 RX1 yX1_readLine ow_dm_X1_readLine) := goodIn_app (goodIn_of _ (by decide +kernel)) (fun w h => ⟨List.mem_cons_of_mem _ (List.mem_append_right _ (List.mem_append_right _ (List.mem_append_right _ (List.mem_append_right _ (List.mem_append_right _ (List.mem_append_right _ (List.mem_append_left _ h))))))), gd_dm_X1_readLine w h⟩)
theorem gi_dm_X1_make_5 : GoodIn ow_dm_X1_make (wsV RX1 43 RX1 yX1_readStatement ow_dm_X1_readStatement) := goodIn_app (goodIn_of _ (by decide +kernel)) (fun w h => ⟨List.mem_cons_of_mem _ (List.mem_append_right _ (List.mem_append_right _ (List.mem_append_right _ (List.mem_append_right _ (List.mem_append_right _ (List.mem_append_right _ (List.mem_append_right _ (List.mem_append_left _ h)))))))), gd_dm_X1_readStatement w h⟩)
def dj_X1_make_153 (p : Program) (l : Launch) (e : Env) (s : State) (m : MethodId) (args : Array Value) (below : List Frame) (meth : Method) (c : Code) (Q : State → Prop) (A : Nat → Prop) (dC : Nat → ClassId) (dI : Nat → Nat → Nat) (a : Nat → Nat) (ac : Nat → ClassId) (g : Int32 → (St × (St × (St)) × (St)) → Option (Int32 × (St × (St × (St)) × (St)))) (r : Int32 × (St × (St × (St)) × (St))) : Prop := ∀ (y0 : Int32) (s0 : St × (St × (St)) × (St)) (H : Heap) (locs : List Loc) (ls : Array Slot), g y0 s0 = some r → va_P (dC, dI) vwCl (dw_X1p a ac s0) H → va_D A (dw_X1p a ac s0) → va_S A s.heap H locs → lv_has ls 7 [] → W p l e (headSpec ow_dm_X1_make ({ frames := 9, cells := 0, slots := 0, locals := 203 })).room s m args below meth c H locs 0 0 Q (F0 m 153 ls [.int y0])
def dj_X1_make_130 (p : Program) (l : Launch) (e : Env) (s : State) (m : MethodId) (args : Array Value) (below : List Frame) (meth : Method) (c : Code) (Q : State → Prop) (A : Nat → Prop) (dC : Nat → ClassId) (dI : Nat → Nat → Nat) (a : Nat → Nat) (ac : Nat → ClassId) (g : (St × (St × (St)) × (St)) → Option (Int32 × (St × (St × (St)) × (St)))) (r : Int32 × (St × (St × (St)) × (St))) : Prop := ∀ (s0 : St × (St × (St)) × (St)) (H : Heap) (locs : List Loc) (ls : Array Slot), g s0 = some r → va_P (dC, dI) vwCl (dw_X1p a ac s0) H → va_D A (dw_X1p a ac s0) → va_S A s.heap H locs → lv_has ls 7 [(0, .ref (a 5))] → W p l e (headSpec ow_dm_X1_make ({ frames := 9, cells := 0, slots := 0, locals := 203 })).room s m args below meth c H locs 0 0 Q (F0 m 130 ls [])
def dj_X1_make_118 (p : Program) (l : Launch) (e : Env) (s : State) (m : MethodId) (args : Array Value) (below : List Frame) (meth : Method) (c : Code) (Q : State → Prop) (A : Nat → Prop) (dC : Nat → ClassId) (dI : Nat → Nat → Nat) (a : Nat → Nat) (ac : Nat → ClassId) (g : (St × (St × (St)) × (St)) → Option (Int32 × (St × (St × (St)) × (St)))) (r : Int32 × (St × (St × (St)) × (St))) : Prop := ∀ (s0 : St × (St × (St)) × (St)) (H : Heap) (locs : List Loc) (ls : Array Slot), g s0 = some r → va_P (dC, dI) vwCl (dw_X1p a ac s0) H → va_D A (dw_X1p a ac s0) → va_S A s.heap H locs → lv_has ls 7 [(0, .ref (a 5)), (3, .ref (a 0))] → W p l e (headSpec ow_dm_X1_make ({ frames := 9, cells := 0, slots := 0, locals := 203 })).room s m args below meth c H locs 0 0 Q (F0 m 118 ls [])
def dj_X1_make_90 (p : Program) (l : Launch) (e : Env) (s : State) (m : MethodId) (args : Array Value) (below : List Frame) (meth : Method) (c : Code) (Q : State → Prop) (A : Nat → Prop) (dC : Nat → ClassId) (dI : Nat → Nat → Nat) (a : Nat → Nat) (ac : Nat → ClassId) (g : (St × (St × (St)) × (St)) → Option (Int32 × (St × (St × (St)) × (St)))) (r : Int32 × (St × (St × (St)) × (St))) : Prop := ∀ (s0 : St × (St × (St)) × (St)) (H : Heap) (locs : List Loc) (ls : Array Slot), g s0 = some r → va_P (dC, dI) vwCl (dw_X1p a ac s0) H → va_D A (dw_X1p a ac s0) → va_S A s.heap H locs → lv_has ls 7 [(0, .ref (a 5)), (3, .ref (a 0))] → W p l e (headSpec ow_dm_X1_make ({ frames := 9, cells := 0, slots := 0, locals := 203 })).room s m args below meth c H locs 0 0 Q (F0 m 90 ls [])
def dj_X1_make_84 (p : Program) (l : Launch) (e : Env) (s : State) (m : MethodId) (args : Array Value) (below : List Frame) (meth : Method) (c : Code) (Q : State → Prop) (A : Nat → Prop) (dC : Nat → ClassId) (dI : Nat → Nat → Nat) (a : Nat → Nat) (ac : Nat → ClassId) (g : Int32 → Int32 → Int32 → (St × (St × (St)) × (St)) → Option (Int32 × (St × (St × (St)) × (St)))) (r : Int32 × (St × (St × (St)) × (St))) : Prop := ∀ (x2 : Int32) (x4 : Int32) (x5 : Int32) (s0 : St × (St × (St)) × (St)) (H : Heap) (locs : List Loc) (ls : Array Slot), g x2 x4 x5 s0 = some r → va_P (dC, dI) vwCl (dw_X1p a ac s0) H → va_D A (dw_X1p a ac s0) → va_S A s.heap H locs → lv_has ls 7 [(0, .ref (a 5)), (1, .ref (a 16)), (2, .int x2), (3, .ref (a 0)), (4, .int x4), (5, .int x5)] → W p l e (headSpec ow_dm_X1_make ({ frames := 9, cells := 0, slots := 0, locals := 203 })).room s m args below meth c H locs 0 0 Q (F0 m 84 ls [])
def dj_X1_make_78 (p : Program) (l : Launch) (e : Env) (s : State) (m : MethodId) (args : Array Value) (below : List Frame) (meth : Method) (c : Code) (Q : State → Prop) (A : Nat → Prop) (dC : Nat → ClassId) (dI : Nat → Nat → Nat) (a : Nat → Nat) (ac : Nat → ClassId) (g : Int32 → Int32 → (St × (St × (St)) × (St)) → Option (Int32 × (St × (St × (St)) × (St)))) (r : Int32 × (St × (St × (St)) × (St))) : Prop := ∀ (x2 : Int32) (x5 : Int32) (s0 : St × (St × (St)) × (St)) (H : Heap) (locs : List Loc) (ls : Array Slot), g x2 x5 s0 = some r → va_P (dC, dI) vwCl (dw_X1p a ac s0) H → va_D A (dw_X1p a ac s0) → va_S A s.heap H locs → lv_has ls 7 [(0, .ref (a 5)), (1, .ref (a 16)), (2, .int x2), (3, .ref (a 0)), (5, .int x5)] → W p l e (headSpec ow_dm_X1_make ({ frames := 9, cells := 0, slots := 0, locals := 203 })).room s m args below meth c H locs 0 0 Q (F0 m 78 ls [])
def dj_X1_make_40 (p : Program) (l : Launch) (e : Env) (s : State) (m : MethodId) (args : Array Value) (below : List Frame) (meth : Method) (c : Code) (Q : State → Prop) (A : Nat → Prop) (dC : Nat → ClassId) (dI : Nat → Nat → Nat) (a : Nat → Nat) (ac : Nat → ClassId) (g : Int32 → Int32 → Int32 → (St × (St × (St)) × (St)) → Option (Int32 × (St × (St × (St)) × (St)))) (r : Int32 × (St × (St × (St)) × (St))) : Prop := ∀ (x2 : Int32) (x4 : Int32) (x5 : Int32) (s0 : St × (St × (St)) × (St)) (H : Heap) (locs : List Loc) (ls : Array Slot), g x2 x4 x5 s0 = some r → va_P (dC, dI) vwCl (dw_X1p a ac s0) H → va_D A (dw_X1p a ac s0) → va_S A s.heap H locs → lv_has ls 7 [(0, .ref (a 5)), (1, .ref (a 16)), (2, .int x2), (3, .ref (a 0)), (4, .int x4), (5, .int x5)] → W p l e (headSpec ow_dm_X1_make ({ frames := 9, cells := 0, slots := 0, locals := 203 })).room s m args below meth c H locs 0 0 Q (F0 m 40 ls [])
def dj_X1_make_12 (p : Program) (l : Launch) (e : Env) (s : State) (m : MethodId) (args : Array Value) (below : List Frame) (meth : Method) (c : Code) (Q : State → Prop) (A : Nat → Prop) (dC : Nat → ClassId) (dI : Nat → Nat → Nat) (a : Nat → Nat) (ac : Nat → ClassId) (g : Int32 → Int32 → Int32 → (St × (St × (St)) × (St)) → Option (Int32 × (St × (St × (St)) × (St)))) (r : Int32 × (St × (St × (St)) × (St))) : Prop := ∀ (x2 : Int32) (x4 : Int32) (x5 : Int32) (s0 : St × (St × (St)) × (St)) (H : Heap) (locs : List Loc) (ls : Array Slot), g x2 x4 x5 s0 = some r → va_P (dC, dI) vwCl (dw_X1p a ac s0) H → va_D A (dw_X1p a ac s0) → va_S A s.heap H locs → lv_has ls 7 [(0, .ref (a 5)), (1, .ref (a 16)), (2, .int x2), (3, .ref (a 0)), (4, .int x4), (5, .int x5)] → W p l e (headSpec ow_dm_X1_make ({ frames := 9, cells := 0, slots := 0, locals := 203 })).room s m args below meth c H locs 0 0 Q (F0 m 12 ls [])
def dj_X1_make_0 (p : Program) (l : Launch) (e : Env) (s : State) (m : MethodId) (args : Array Value) (below : List Frame) (meth : Method) (c : Code) (Q : State → Prop) (A : Nat → Prop) (dC : Nat → ClassId) (dI : Nat → Nat → Nat) (a : Nat → Nat) (ac : Nat → ClassId) (g : Int32 → (St × (St × (St)) × (St)) → Option (Int32 × (St × (St × (St)) × (St)))) (r : Int32 × (St × (St × (St)) × (St))) : Prop := ∀ (v1 : Int32) (s0 : St × (St × (St)) × (St)) (H : Heap) (locs : List Loc) (ls : Array Slot), g v1 s0 = some r → va_P (dC, dI) vwCl (dw_X1p a ac s0) H → va_D A (dw_X1p a ac s0) → va_S A s.heap H locs → lv_has ls 7 [(0, .ref (a 5)), (1, .ref (a 16)), (2, .int v1), (3, .ref (a 0))] → W p l e (headSpec ow_dm_X1_make ({ frames := 9, cells := 0, slots := 0, locals := 203 })).room s m args below meth c H locs 0 0 Q (F0 m 0 ls [])
set_option maxHeartbeats 40000000 in
set_option maxRecDepth 100000 in
theorem db_X1_make_153 {p : Program} {l : Launch} {e : Env} {s : State} {m : MethodId} {args : Array Value} {below : List Frame} {meth : Method} {c : Code} {Q : State → Prop} {A : Nat → Prop} {dC : Nat → ClassId} {dI : Nat → Nat → Nat} {a : Nat → Nat} {ac : Nat → ClassId} {n : Nat} {r : Int32 × (St × (St × (St)) × (St))} (C : nd_C p l s m args c A (dC, dI) cX1_make 7 RX1 ow_dm_X1_make (dk_X1p ac)) (K : nd_Ki p l e (headSpec ow_dm_X1_make ({ frames := 9, cells := 0, slots := 0, locals := 203 })).room s m args below meth c Q A (dC, dI) cX1_make .int (St × (St × (St)) × (St)) (dw_X1p a ac) r) : dj_X1_make_153 p l e s m args below meth c Q A dC dI a ac (df_X1_make_153 n) r := by
  obtain ⟨hlt, hx, hb, hml, hown, hts, hN, hA, hK⟩ := id C
  intro y0 s0 H locs ls h hP hD hS hl
  unfold df_X1_make_153 at h
  exact K _ _ _ _ _ _ dX1_make_153 rfl (Option.some.inj h).symm hP hD hS
set_option maxHeartbeats 40000000 in
set_option maxRecDepth 100000 in
theorem db_X1_make_130 {p : Program} {l : Launch} {e : Env} {s : State} {m : MethodId} {args : Array Value} {below : List Frame} {meth : Method} {c : Code} {Q : State → Prop} {A : Nat → Prop} {dC : Nat → ClassId} {dI : Nat → Nat → Nat} {a : Nat → Nat} {ac : Nat → ClassId} {n : Nat} {r : Int32 × (St × (St × (St)) × (St))} (C : nd_C p l s m args c A (dC, dI) cX1_make 7 RX1 ow_dm_X1_make (dk_X1p ac)) (K : nd_Ki p l e (headSpec ow_dm_X1_make ({ frames := 9, cells := 0, slots := 0, locals := 203 })).room s m args below meth c Q A (dC, dI) cX1_make .int (St × (St × (St)) × (St)) (dw_X1p a ac) r) : dj_X1_make_130 p l e s m args below meth c Q A dC dI a ac (df_X1_make_130 n) r := by
  obtain ⟨hlt, hx, hb, hml, hown, hts, hN, hA, hK⟩ := id C
  intro s0 H locs ls h hP hD hS hl
  unfold df_X1_make_130 at h
  refine lv_aload_n hx hb dX1_make_130 rfl (lv_at hl 0 rfl) ?_
  refine va_get (D := (dC, dI)) (ci := 2) (v := .int (sI s0.2.1.1 2)) (C := RX1) (T := TX1) (N := 13) hx hb hts hi_dm_X1_make_X1 hown hK hP 0 rfl rfl 5 (by decide) (hts (.fieldLink RX1 32 "TimeMachine$Assembler" "fault" "I") (List.mem_of_getElem? (i := 5) rfl)) (fun _ h9 => h9) rfl dX1_make_131 ?_
  refine lv_if_ne (tgt := 141) hx hb dX1_make_134 (by decide) (fun c8 => ?_) (fun c8 => ?_)
  · have h := nd_neg h c8
    refine lv_aload_n hx hb dX1_make_141 rfl (lv_at hl 0 rfl) ?_
    refine va_get (D := (dC, dI)) (ci := 2) (v := .int (sI s0.2.1.1 2)) (C := RX1) (T := TX1) (N := 13) hx hb hts hi_dm_X1_make_X1 hown hK hP 0 rfl rfl 5 (by decide) (hts (.fieldLink RX1 32 "TimeMachine$Assembler" "fault" "I") (List.mem_of_getElem? (i := 5) rfl)) (fun _ h9 => h9) rfl dX1_make_142 ?_
    refine lv_bipush (v := 16) hx hb dX1_make_145 (by decide) ?_
    refine lv_aload_n hx hb dX1_make_147 rfl (lv_at hl 0 rfl) ?_
    refine va_get (D := (dC, dI)) (ci := 2) (v := .int (sI s0.2.1.1 3)) (C := RX1) (T := TX1) (N := 13) hx hb hts hi_dm_X1_make_X1 hown hK hP 0 rfl rfl 6 (by decide) (hts (.fieldLink RX1 36 "TimeMachine$Assembler" "line" "I") (List.mem_of_getElem? (i := 6) rfl)) (fun _ h9 => h9) rfl dX1_make_148 ?_
    refine lv_imul hx hb dX1_make_151 ?_
    refine lv_iadd hx hb dX1_make_152 ?_
    exact (db_X1_make_153 C K) (((sI s0.2.1.1 2) + (16 * (sI s0.2.1.1 3)))) s0 _ _ _ h hP hD hS (lv_sub hl [] rfl)
  · have h := nd_pos h c8
    refine lv_iconst (v := 0) hx hb dX1_make_137 (by decide) ?_
    refine lv_goto (tgt := 153) hx hb dX1_make_138 (by decide) ?_
    exact (db_X1_make_153 C K) (0) s0 _ _ _ h hP hD hS (lv_sub hl [] rfl)
set_option maxHeartbeats 40000000 in
set_option maxRecDepth 100000 in
theorem db_X1_make_118 {p : Program} {l : Launch} {e : Env} {s : State} {m : MethodId} {args : Array Value} {below : List Frame} {meth : Method} {c : Code} {Q : State → Prop} {A : Nat → Prop} {dC : Nat → ClassId} {dI : Nat → Nat → Nat} {a : Nat → Nat} {ac : Nat → ClassId} {n : Nat} {r : Int32 × (St × (St × (St)) × (St))} (C : nd_C p l s m args c A (dC, dI) cX1_make 7 RX1 ow_dm_X1_make (dk_X1p ac)) (K : nd_Ki p l e (headSpec ow_dm_X1_make ({ frames := 9, cells := 0, slots := 0, locals := 203 })).room s m args below meth c Q A (dC, dI) cX1_make .int (St × (St × (St)) × (St)) (dw_X1p a ac) r) : dj_X1_make_118 p l e s m args below meth c Q A dC dI a ac (df_X1_make_118 n) r := by
  obtain ⟨hlt, hx, hb, hml, hown, hts, hN, hA, hK⟩ := id C
  intro s0 H locs ls h hP hD hS hl
  unfold df_X1_make_118 at h
  refine lv_aload_n hx hb dX1_make_118 rfl (lv_at hl 0 rfl) ?_
  refine va_get (D := (dC, dI)) (ci := 2) (v := .int (sI s0.2.1.1 2)) (C := RX1) (T := TX1) (N := 13) hx hb hts hi_dm_X1_make_X1 hown hK hP 0 rfl rfl 5 (by decide) (hts (.fieldLink RX1 32 "TimeMachine$Assembler" "fault" "I") (List.mem_of_getElem? (i := 5) rfl)) (fun _ h9 => h9) rfl dX1_make_119 ?_
  refine lv_if_ne (tgt := 130) hx hb dX1_make_122 (by decide) (fun c7 => ?_) (fun c7 => ?_)
  · have h := nd_neg h c7
    exact (db_X1_make_130 C K)  s0 _ _ _ h hP hD hS (lv_sub hl [0] rfl)
  · have h := nd_pos h c7
    refine lv_aload_n hx hb dX1_make_125 rfl (lv_at hl 0 rfl) ?_
    refine lv_aload_n hx hb dX1_make_126 rfl (lv_at hl 1 rfl) ?_
    obtain ⟨s10, hq, h⟩ := nd_b1_e h
    have hPc := hP
    have hDc := hD
    have hKc := hK
    have hFc := nd_rs hD hS hA
    refine nd_cVv (As := [.ref (a 0)]) (rest := []) (w' := dw_X1p a ac s10) ⟨hx, hb, hml, hown, hts⟩ (fun sz => dm_X1_describe l hlt dC dI a ac n  s0 hq sz) (cwV 1 hts gi_dm_X1_make_1 rfl rfl rfl (by decide +kernel) ⟨Nat.le_of_ble_eq_true rfl, Nat.le_of_ble_eq_true rfl⟩) hPc hDc hKc hS hA hN (va_recv hKc hPc (ci := 2) (q0 := 0) rfl rfl) rfl hl.1 rfl (Nat.le_of_ble_eq_true rfl) dX1_make_127 (fun H locs hP1 hD1 hk1 hS => ?_)
    have hP := hP1
    have hD := hD1.weaken (fun k q _ h => hFc q.1 h)
    exact (db_X1_make_130 C K)  s10 _ _ _ h hP hD hS (lv_sub hl [0] rfl)
set_option maxHeartbeats 40000000 in
set_option maxRecDepth 100000 in
theorem db_X1_make_90 {p : Program} {l : Launch} {e : Env} {s : State} {m : MethodId} {args : Array Value} {below : List Frame} {meth : Method} {c : Code} {Q : State → Prop} {A : Nat → Prop} {dC : Nat → ClassId} {dI : Nat → Nat → Nat} {a : Nat → Nat} {ac : Nat → ClassId} {n : Nat} {r : Int32 × (St × (St × (St)) × (St))} (C : nd_C p l s m args c A (dC, dI) cX1_make 7 RX1 ow_dm_X1_make (dk_X1p ac)) (K : nd_Ki p l e (headSpec ow_dm_X1_make ({ frames := 9, cells := 0, slots := 0, locals := 203 })).room s m args below meth c Q A (dC, dI) cX1_make .int (St × (St × (St)) × (St)) (dw_X1p a ac) r) : dj_X1_make_90 p l e s m args below meth c Q A dC dI a ac (df_X1_make_90 n) r := by
  obtain ⟨hlt, hx, hb, hml, hown, hts, hN, hA, hK⟩ := id C
  intro s0 H locs ls h hP hD hS hl
  unfold df_X1_make_90 at h
  refine lv_aload_n hx hb dX1_make_90 rfl (lv_at hl 0 rfl) ?_
  refine va_get (D := (dC, dI)) (ci := 2) (v := .int (sI s0.2.1.1 2)) (C := RX1) (T := TX1) (N := 13) hx hb hts hi_dm_X1_make_X1 hown hK hP 0 rfl rfl 5 (by decide) (hts (.fieldLink RX1 32 "TimeMachine$Assembler" "fault" "I") (List.mem_of_getElem? (i := 5) rfl)) (fun _ h9 => h9) rfl dX1_make_91 ?_
  refine lv_if_ne (tgt := 118) hx hb dX1_make_94 (by decide) (fun c6 => ?_) (fun c6 => ?_)
  · have h := nd_neg h c6
    exact (db_X1_make_118 C K)  s0 _ _ _ h hP hD hS (lv_sub hl [0, 1] rfl)
  · have h := nd_pos h c6
    refine lv_aload_n hx hb dX1_make_97 rfl (lv_at hl 0 rfl) ?_
    obtain ⟨s13, hq, h⟩ := nd_b1_e h
    have hPc := dp_X1p_5 hP
    have hDc := dd_X1p_5 hD
    have hKc := dy_X1p_5 hK
    have hFc := nd_rs hDc hS hA
    have hzA : ∀ q : Nat, H.size ≤ q → A q := fun q h => hA q (Nat.le_trans hS.1 h)
    refine nd_cVv (As := []) (rest := []) (w' := dw_X1 (fun k => a (k + 5)) (fun k => ac (k + 5)) s13) ⟨hx, hb, hml, hown, hts⟩ (fun sz => dm_X1_layOut l hlt dC dI (fun k => a (k + 5)) (fun k => ac (k + 5)) n  s0.2.1 hq sz) (cwV 0 hts gi_dm_X1_make_2 rfl rfl rfl (by decide +kernel) ⟨Nat.le_of_ble_eq_true rfl, Nat.le_of_ble_eq_true rfl⟩) hPc hDc hKc hS hA hN (va_recv hKc hPc (ci := 2) (q0 := 0) rfl rfl) rfl hl.1 rfl (Nat.le_of_ble_eq_true rfl) dX1_make_98 (fun H locs hP1 hD1 hk1 hS => ?_)
    obtain ⟨hP, hD⟩ := dn_X1p_5 hP hD hzA hk1 hP1 hD1
    obtain ⟨s15, es15, h⟩ := nd_let_e h
    have hP : va_P (dC, dI) vwCl (dw_X1p a ac s15) H := by rw [es15]; exact hP
    have hD : va_D A (dw_X1p a ac s15) := by rw [es15]; exact hD
    refine lv_aload_n hx hb dX1_make_101 rfl (lv_at hl 0 rfl) ?_
    refine va_get (D := (dC, dI)) (ci := 2) (v := .int (sI s15.2.1.1 9)) (C := RX1) (T := TX1) (N := 13) hx hb hts hi_dm_X1_make_X1 hown hK hP 0 rfl rfl 12 (by decide) (hts (.fieldLink RX1 50 "TimeMachine$Assembler" "size" "I") (List.mem_of_getElem? (i := 13) rfl)) (fun _ h9 => h9) rfl dX1_make_102 ?_
    refine lv_ldc hx hb hown (hts (.constant RX1 53 (32768)) (List.mem_of_getElem? (i := 14) rfl)) dX1_make_105 ?_
    refine lv_icmp_le (tgt := 113) hx hb dX1_make_107 (by decide) (fun c16 => ?_) (fun c16 => ?_)
    · have h := nd_pos h c16
      refine lv_aload_n hx hb dX1_make_113 rfl (lv_at hl 0 rfl) ?_
      refine lv_aload_n hx hb dX1_make_114 rfl (lv_at hl 1 rfl) ?_
      obtain ⟨s18, hq, h⟩ := nd_b1_e h
      have hPc := hP
      have hDc := hD
      have hKc := hK
      have hFc := nd_rs hD hS hA
      refine nd_cVv (As := [.ref (a 0)]) (rest := []) (w' := dw_X1p a ac s18) ⟨hx, hb, hml, hown, hts⟩ (fun sz => dm_X1_putAll l hlt dC dI a ac n  s15 hq sz) (cwV 1 hts gi_dm_X1_make_3 rfl rfl rfl (by decide +kernel) ⟨Nat.le_of_ble_eq_true rfl, Nat.le_of_ble_eq_true rfl⟩) hPc hDc hKc hS hA hN (va_recv hKc hPc (ci := 2) (q0 := 0) rfl rfl) rfl hl.1 rfl (Nat.le_of_ble_eq_true rfl) dX1_make_115 (fun H locs hP1 hD1 hk1 hS => ?_)
      have hP := hP1
      have hD := hD1.weaken (fun k q _ h => hFc q.1 h)
      exact (db_X1_make_118 C K)  s18 _ _ _ h hP hD hS (lv_sub hl [0, 1] rfl)
    · have h := nd_neg h c16
      refine lv_bipush (v := 7) hx hb dX1_make_110 (by decide) ?_
      exact K _ _ _ _ _ _ dX1_make_112 rfl (Option.some.inj h).symm hP hD hS
set_option maxHeartbeats 40000000 in
set_option maxRecDepth 100000 in
theorem db_X1_make_84 {p : Program} {l : Launch} {e : Env} {s : State} {m : MethodId} {args : Array Value} {below : List Frame} {meth : Method} {c : Code} {Q : State → Prop} {A : Nat → Prop} {dC : Nat → ClassId} {dI : Nat → Nat → Nat} {a : Nat → Nat} {ac : Nat → ClassId} {n : Nat} {r : Int32 × (St × (St × (St)) × (St))} (C : nd_C p l s m args c A (dC, dI) cX1_make 7 RX1 ow_dm_X1_make (dk_X1p ac)) (K : nd_Ki p l e (headSpec ow_dm_X1_make ({ frames := 9, cells := 0, slots := 0, locals := 203 })).room s m args below meth c Q A (dC, dI) cX1_make .int (St × (St × (St)) × (St)) (dw_X1p a ac) r) {g12 : Int32 → Int32 → Int32 → (St × (St × (St)) × (St)) → Option (Int32 × (St × (St × (St)) × (St)))} (J12 : dj_X1_make_12 p l e s m args below meth c Q A dC dI a ac g12 r) : dj_X1_make_84 p l e s m args below meth c Q A dC dI a ac (df_X1_make_84 n g12) r := by
  obtain ⟨hlt, hx, hb, hml, hown, hts, hN, hA, hK⟩ := id C
  intro x2 x4 x5 s0 H locs ls h hP hD hS hl
  unfold df_X1_make_84 at h
  obtain ⟨z30, ez30, h⟩ := nd_let_e h
  refine lv_iinc (v := z30) (lv' := [(5, .int z30), (0, .ref (a 5)), (1, .ref (a 16)), (2, .int x2), (3, .ref (a 0)), (4, .int x4)]) hx hb dX1_make_84 hl (k := 5) rfl (by rw [ez30]) (by decide) rfl (fun ls hl => ?_)
  refine lv_goto (tgt := 12) hx hb dX1_make_87 (by decide) ?_
  exact (J12) (x2) (x4) (z30) s0 _ _ _ h hP hD hS (lv_sub hl [1, 2, 3, 4, 5, 0] rfl)
set_option maxHeartbeats 40000000 in
set_option maxRecDepth 100000 in
theorem db_X1_make_78 {p : Program} {l : Launch} {e : Env} {s : State} {m : MethodId} {args : Array Value} {below : List Frame} {meth : Method} {c : Code} {Q : State → Prop} {A : Nat → Prop} {dC : Nat → ClassId} {dI : Nat → Nat → Nat} {a : Nat → Nat} {ac : Nat → ClassId} {n : Nat} {r : Int32 × (St × (St × (St)) × (St))} (C : nd_C p l s m args c A (dC, dI) cX1_make 7 RX1 ow_dm_X1_make (dk_X1p ac)) (K : nd_Ki p l e (headSpec ow_dm_X1_make ({ frames := 9, cells := 0, slots := 0, locals := 203 })).room s m args below meth c Q A (dC, dI) cX1_make .int (St × (St × (St)) × (St)) (dw_X1p a ac) r) {g12 : Int32 → Int32 → Int32 → (St × (St × (St)) × (St)) → Option (Int32 × (St × (St × (St)) × (St)))} (J12 : dj_X1_make_12 p l e s m args below meth c Q A dC dI a ac g12 r) : dj_X1_make_78 p l e s m args below meth c Q A dC dI a ac (df_X1_make_78 n g12) r := by
  obtain ⟨hlt, hx, hb, hml, hown, hts, hN, hA, hK⟩ := id C
  intro x2 x5 s0 H locs ls h hP hD hS hl
  unfold df_X1_make_78 at h
  refine lv_iload hx hb dX1_make_78 (lv_at hl 4 rfl) ?_
  refine lv_iconst (v := 1) hx hb dX1_make_80 (by decide) ?_
  refine lv_iadd hx hb dX1_make_81 ?_
  refine lv_topi (fun z29 ez29 => ?_)
  have h := nd_at h ez29
  refine lv_istore (lv' := [(4, .int z29), (0, .ref (a 5)), (1, .ref (a 16)), (2, .int x2), (3, .ref (a 0)), (5, .int x5)]) hx hb dX1_make_82 hl (by decide) rfl (fun ls hl => ?_)
  exact (db_X1_make_84 C K J12) (x2) (z29) (x5) s0 _ _ _ h hP hD hS (lv_sub hl [1, 2, 3, 4, 0, 5] rfl)
set_option maxHeartbeats 40000000 in
set_option maxRecDepth 100000 in
theorem db_X1_make_40 {p : Program} {l : Launch} {e : Env} {s : State} {m : MethodId} {args : Array Value} {below : List Frame} {meth : Method} {c : Code} {Q : State → Prop} {A : Nat → Prop} {dC : Nat → ClassId} {dI : Nat → Nat → Nat} {a : Nat → Nat} {ac : Nat → ClassId} {n : Nat} {r : Int32 × (St × (St × (St)) × (St))} (C : nd_C p l s m args c A (dC, dI) cX1_make 7 RX1 ow_dm_X1_make (dk_X1p ac)) (K : nd_Ki p l e (headSpec ow_dm_X1_make ({ frames := 9, cells := 0, slots := 0, locals := 203 })).room s m args below meth c Q A (dC, dI) cX1_make .int (St × (St × (St)) × (St)) (dw_X1p a ac) r) {g12 : Int32 → Int32 → Int32 → (St × (St × (St)) × (St)) → Option (Int32 × (St × (St × (St)) × (St)))} (J12 : dj_X1_make_12 p l e s m args below meth c Q A dC dI a ac g12 r) : dj_X1_make_40 p l e s m args below meth c Q A dC dI a ac (df_X1_make_40 n g12) r := by
  obtain ⟨hlt, hx, hb, hml, hown, hts, hN, hA, hK⟩ := id C
  intro x2 x4 x5 s0 H locs ls h hP hD hS hl
  unfold df_X1_make_40 at h
  refine lv_aload_n hx hb dX1_make_40 rfl (lv_at hl 0 rfl) ?_
  refine lv_dup hx hb dX1_make_41 rfl ?_
  refine va_get (D := (dC, dI)) (ci := 2) (v := .int (sI s0.2.1.1 3)) (C := RX1) (T := TX1) (N := 13) hx hb hts hi_dm_X1_make_X1 hown hK hP 0 rfl rfl 6 (by decide) (hts (.fieldLink RX1 36 "TimeMachine$Assembler" "line" "I") (List.mem_of_getElem? (i := 6) rfl)) (fun _ h9 => h9) rfl dX1_make_42 ?_
  refine lv_iconst (v := 1) hx hb dX1_make_45 (by decide) ?_
  refine lv_iadd hx hb dX1_make_46 ?_
  refine va_put (D := (dC, dI)) (ci := 2) (v := .int ((sI s0.2.1.1 3) + 1)) (ty := .int) (C := RX1) (T := TX1) (N := 13) hx hb hts hi_dm_X1_make_X1 tyX1 tyX1_ok nmX1 hown hK hP hD hS 0 rfl rfl 6 (by decide) (hts (.fieldLink RX1 36 "TimeMachine$Assembler" "line" "I") (List.mem_of_getElem? (i := 6) rfl)) (fun _ h9 => h9) rfl (by decide +kernel) rfl rfl (Nat.le_of_ble_eq_true rfl) dX1_make_47 (fun H locs hP hD hS => ?_)
  obtain ⟨s22, es22, h⟩ := nd_let_e h
  have hP : va_P (dC, dI) vwCl (dw_X1p a ac s22) H := by rw [es22]; exact hP
  have hD : va_D A (dw_X1p a ac s22) := by rw [es22]; exact hD
  refine lv_aload_n hx hb dX1_make_50 rfl (lv_at hl 0 rfl) ?_
  refine lv_iload hx hb dX1_make_51 (lv_at hl 4 rfl) ?_
  refine lv_iload hx hb dX1_make_53 (lv_at hl 5 rfl) ?_
  obtain ⟨q23, s24, hq, h⟩ := nd_b2_e h
  have hPc := dp_X1p_5 hP
  have hDc := dd_X1p_5 hD
  have hKc := dy_X1p_5 hK
  have hFc := nd_rs hDc hS hA
  have hzA : ∀ q : Nat, H.size ≤ q → A q := fun q h => hA q (Nat.le_trans hS.1 h)
  refine nd_cVq (As := [.int x4, .int x5]) (rest := []) (q := Option.map (fun j => dI 1002 j) q23) (w' := dw_X1 (fun k => a (k + 5)) (fun k => ac (k + 5)) s24) ⟨hx, hb, hml, hown, hts⟩ (fun sz => dm_X1_readLine l hlt dC dI (fun k => a (k + 5)) (fun k => ac (k + 5)) n (x4) (x5) s22.2.1 hq sz) (cwV 2 hts gi_dm_X1_make_4 rfl rfl rfl (by decide +kernel) ⟨Nat.le_of_ble_eq_true rfl, Nat.le_of_ble_eq_true rfl⟩) hPc hDc hKc hS hA hN (va_recv hKc hPc (ci := 2) (q0 := 0) rfl rfl) rfl hl.1 rfl (Nat.le_of_ble_eq_true rfl) dX1_make_55 (fun H locs hP1 hD1 hk1 hS => ?_)
  obtain ⟨hP, hD⟩ := dn_X1p_5 hP hD hzA hk1 hP1 hD1
  obtain ⟨s26, es26, h⟩ := nd_let_e h
  have hP : va_P (dC, dI) vwCl (dw_X1p a ac s26) H := by rw [es26]; exact hP
  have hD : va_D A (dw_X1p a ac s26) := by rw [es26]; exact hD
  cases hrj27 : q23 with
  | none =>
    have h := nd_mN h hrj27
    refine W.eq (g2 := F0 m 58 ls [.null]) (by first | rfl | (show F0 m _ ls (va_rf (Option.map (fun j => dI 1002 j) q23) :: _) = _; rw [hrj27]; rfl)) ?_
    refine lv_astoreN (lv' := [(6, .null), (0, .ref (a 5)), (1, .ref (a 16)), (2, .int x2), (3, .ref (a 0)), (4, .int x4), (5, .int x5)]) hx hb dX1_make_58 hl (by decide) rfl (fun ls hl => ?_)
    refine lv_aload_n hx hb dX1_make_60 rfl (lv_at hl 1 rfl) ?_
    refine va_get (D := (dC, dI)) (ci := 2) (v := .int (sI s26.2.1.1 2)) (C := RX1) (T := TX1) (N := 13) hx hb hts hi_dm_X1_make_X1 hown hK hP 0 rfl rfl 5 (by decide) (hts (.fieldLink RX1 32 "TimeMachine$Assembler" "fault" "I") (List.mem_of_getElem? (i := 5) rfl)) (fun _ h9 => h9) rfl dX1_make_61 ?_
    refine lv_if_ne (tgt := 78) hx hb dX1_make_64 (by decide) (fun c28 => ?_) (fun c28 => ?_)
    · have h := nd_neg h c28
      exact (db_X1_make_78 C K J12) (x2) (x5) s26 _ _ _ h hP hD hS (lv_sub hl [1, 2, 3, 4, 6] rfl)
    · have h := nd_pos h c28
      refine lv_aloadN hx hb dX1_make_67 (lv_at hl 0 rfl) ?_
      refine lv_ifnullN (tgt := 78) hx hb dX1_make_69 (by decide) ?_
      exact (db_X1_make_78 C K J12) (x2) (x5) s26 _ _ _ h hP hD hS (lv_sub hl [1, 2, 3, 4, 6] rfl)
  | some j27 =>
    have h := nd_mS h hrj27
    refine W.eq (g2 := F0 m 58 ls [.ref (dI 1002 j27)]) (by first | rfl | (show F0 m _ ls (va_rf (Option.map (fun j => dI 1002 j) q23) :: _) = _; rw [hrj27]; rfl)) ?_
    refine lv_astore (lv' := [(6, .ref (dI 1002 j27)), (0, .ref (a 5)), (1, .ref (a 16)), (2, .int x2), (3, .ref (a 0)), (4, .int x4), (5, .int x5)]) hx hb dX1_make_58 hl (by decide) rfl (fun ls hl => ?_)
    refine lv_aload_n hx hb dX1_make_60 rfl (lv_at hl 1 rfl) ?_
    refine va_get (D := (dC, dI)) (ci := 2) (v := .int (sI s26.2.1.1 2)) (C := RX1) (T := TX1) (N := 13) hx hb hts hi_dm_X1_make_X1 hown hK hP 0 rfl rfl 5 (by decide) (hts (.fieldLink RX1 32 "TimeMachine$Assembler" "fault" "I") (List.mem_of_getElem? (i := 5) rfl)) (fun _ h9 => h9) rfl dX1_make_61 ?_
    refine lv_if_ne (tgt := 78) hx hb dX1_make_64 (by decide) (fun c31 => ?_) (fun c31 => ?_)
    · have h := nd_neg h c31
      exact (db_X1_make_78 C K J12) (x2) (x5) s26 _ _ _ h hP hD hS (lv_sub hl [1, 2, 3, 4, 6] rfl)
    · have h := nd_pos h c31
      refine lv_aload hx hb dX1_make_67 (lv_at hl 0 rfl) ?_
      refine lv_ifnull hx hb dX1_make_69 ?_
      refine lv_aload_n hx hb dX1_make_72 rfl (lv_at hl 1 rfl) ?_
      refine lv_aload hx hb dX1_make_73 (lv_at hl 0 rfl) ?_
      obtain ⟨s33, hq, h⟩ := nd_b1_e h
      have hPc := dp_X1p_5 hP
      have hDc := dd_X1p_5 hD
      have hKc := dy_X1p_5 hK
      have hFc := nd_rs hDc hS hA
      have hzA : ∀ q : Nat, H.size ≤ q → A q := fun q h => hA q (Nat.le_trans hS.1 h)
      refine nd_cVv (As := [.ref (dI 1002 j27)]) (rest := []) (w' := dw_X1 (fun k => a (k + 5)) (fun k => ac (k + 5)) s33) ⟨hx, hb, hml, hown, hts⟩ (fun sz => dm_X1_readStatement l hlt dC dI (fun k => a (k + 5)) (fun k => ac (k + 5)) n (j27) s26.2.1 hq sz) (cwV 1 hts gi_dm_X1_make_5 rfl rfl rfl (by decide +kernel) ⟨Nat.le_of_ble_eq_true rfl, Nat.le_of_ble_eq_true rfl⟩) hPc hDc hKc hS hA hN (va_recv hKc hPc (ci := 2) (q0 := 0) rfl rfl) rfl hl.1 rfl (Nat.le_of_ble_eq_true rfl) dX1_make_75 (fun H locs hP1 hD1 hk1 hS => ?_)
      obtain ⟨hP, hD⟩ := dn_X1p_5 hP hD hzA hk1 hP1 hD1
      obtain ⟨s35, es35, h⟩ := nd_let_e h
      have hP : va_P (dC, dI) vwCl (dw_X1p a ac s35) H := by rw [es35]; exact hP
      have hD : va_D A (dw_X1p a ac s35) := by rw [es35]; exact hD
      exact (db_X1_make_78 C K J12) (x2) (x5) s35 _ _ _ h hP hD hS (lv_sub hl [1, 2, 3, 4, 6] rfl)
set_option maxHeartbeats 40000000 in
set_option maxRecDepth 100000 in
theorem dB_X1_make_12 {p : Program} {l : Launch} {e : Env} {s : State} {m : MethodId} {args : Array Value} {below : List Frame} {meth : Method} {c : Code} {Q : State → Prop} {A : Nat → Prop} {dC : Nat → ClassId} {dI : Nat → Nat → Nat} {a : Nat → Nat} {ac : Nat → ClassId} {n : Nat} {r : Int32 × (St × (St × (St)) × (St))} (C : nd_C p l s m args c A (dC, dI) cX1_make 7 RX1 ow_dm_X1_make (dk_X1p ac)) (K : nd_Ki p l e (headSpec ow_dm_X1_make ({ frames := 9, cells := 0, slots := 0, locals := 203 })).room s m args below meth c Q A (dC, dI) cX1_make .int (St × (St × (St)) × (St)) (dw_X1p a ac) r) {g12 : Int32 → Int32 → Int32 → (St × (St × (St)) × (St)) → Option (Int32 × (St × (St × (St)) × (St)))} (J12 : dj_X1_make_12 p l e s m args below meth c Q A dC dI a ac g12 r) : dj_X1_make_12 p l e s m args below meth c Q A dC dI a ac (dF_X1_make_12 n g12) r := by
  obtain ⟨hlt, hx, hb, hml, hown, hts, hN, hA, hK⟩ := id C
  intro x2 x4 x5 s0 H locs ls h hP hD hS hl
  unfold dF_X1_make_12 at h
  refine lv_iload hx hb dX1_make_12 (lv_at hl 5 rfl) ?_
  refine lv_iload_n hx hb dX1_make_14 rfl (lv_at hl 2 rfl) ?_
  refine lv_icmp_gt (tgt := 90) hx hb dX1_make_15 (by decide) (fun c5 => ?_) (fun c5 => ?_)
  · have h := nd_pos h c5
    exact (db_X1_make_90 C K)  s0 _ _ _ h hP hD hS (lv_sub hl [0, 3] rfl)
  · have h := nd_neg h c5
    refine lv_aload_n hx hb dX1_make_18 rfl (lv_at hl 0 rfl) ?_
    refine va_get (D := (dC, dI)) (ci := 2) (v := .int (sI s0.2.1.1 2)) (C := RX1) (T := TX1) (N := 13) hx hb hts hi_dm_X1_make_X1 hown hK hP 0 rfl rfl 5 (by decide) (hts (.fieldLink RX1 32 "TimeMachine$Assembler" "fault" "I") (List.mem_of_getElem? (i := 5) rfl)) (fun _ h9 => h9) rfl dX1_make_19 ?_
    refine lv_if_ne (tgt := 90) hx hb dX1_make_22 (by decide) (fun c20 => ?_) (fun c20 => ?_)
    · have h := nd_neg h c20
      exact (db_X1_make_90 C K)  s0 _ _ _ h hP hD hS (lv_sub hl [0, 3] rfl)
    · have h := nd_pos h c20
      refine lv_iload hx hb dX1_make_25 (lv_at hl 5 rfl) ?_
      refine lv_iload_n hx hb dX1_make_27 rfl (lv_at hl 2 rfl) ?_
      refine lv_icmp_eq (tgt := 40) hx hb dX1_make_28 (by decide) (fun c21 => ?_) (fun c21 => ?_)
      · have h := nd_pos h c21
        exact (db_X1_make_40 C K J12) (x2) (x4) (x5) s0 _ _ _ h hP hD hS (lv_sub hl [0, 1, 2, 3, 4, 5] rfl)
      · have h := nd_neg h c21
        refine lv_aload_n hx hb dX1_make_31 rfl (lv_at hl 1 rfl) ?_
        refine lv_iload hx hb dX1_make_32 (lv_at hl 5 rfl) ?_
        obtain ⟨i36, h⟩ := nd_ck_e h
        refine va_bald (i := x5) hx hb hK hP 11 9 rfl rfl i36 dX1_make_34 ?_
        refine lv_bipush (v := 10) hx hb dX1_make_35 (by decide) ?_
        refine lv_icmp_ne (tgt := 84) hx hb dX1_make_37 (by decide) (fun c37 => ?_) (fun c37 => ?_)
        · have h := nd_neg h c37
          exact (db_X1_make_84 C K J12) (x2) (x4) (x5) s0 _ _ _ h hP hD hS (lv_sub hl [0, 1, 2, 3, 4, 5] rfl)
        · have h := nd_pos h c37
          exact (db_X1_make_40 C K J12) (x2) (x4) (x5) s0 _ _ _ h hP hD hS (lv_sub hl [0, 1, 2, 3, 4, 5] rfl)
set_option maxHeartbeats 40000000 in
set_option maxRecDepth 100000 in
theorem db_X1_make_12 {p : Program} {l : Launch} {e : Env} {s : State} {m : MethodId} {args : Array Value} {below : List Frame} {meth : Method} {c : Code} {Q : State → Prop} {A : Nat → Prop} {dC : Nat → ClassId} {dI : Nat → Nat → Nat} {a : Nat → Nat} {ac : Nat → ClassId} {n : Nat} {r : Int32 × (St × (St × (St)) × (St))} (C : nd_C p l s m args c A (dC, dI) cX1_make 7 RX1 ow_dm_X1_make (dk_X1p ac)) (K : nd_Ki p l e (headSpec ow_dm_X1_make ({ frames := 9, cells := 0, slots := 0, locals := 203 })).room s m args below meth c Q A (dC, dI) cX1_make .int (St × (St × (St)) × (St)) (dw_X1p a ac) r) (k : Nat) : dj_X1_make_12 p l e s m args below meth c Q A dC dI a ac (df_X1_make_12 n k) r := by
  induction k with
  | zero => intro x2 x4 x5 s0 H locs ls h; exact nomatch (show (none : Option (Int32 × (St × (St × (St)) × (St)))) = some r from h)
  | succ k ih => exact dB_X1_make_12 C K ih
set_option maxHeartbeats 40000000 in
set_option maxRecDepth 100000 in
theorem db_X1_make_0 {p : Program} {l : Launch} {e : Env} {s : State} {m : MethodId} {args : Array Value} {below : List Frame} {meth : Method} {c : Code} {Q : State → Prop} {A : Nat → Prop} {dC : Nat → ClassId} {dI : Nat → Nat → Nat} {a : Nat → Nat} {ac : Nat → ClassId} {n : Nat} {r : Int32 × (St × (St × (St)) × (St))} (C : nd_C p l s m args c A (dC, dI) cX1_make 7 RX1 ow_dm_X1_make (dk_X1p ac)) (K : nd_Ki p l e (headSpec ow_dm_X1_make ({ frames := 9, cells := 0, slots := 0, locals := 203 })).room s m args below meth c Q A (dC, dI) cX1_make .int (St × (St × (St)) × (St)) (dw_X1p a ac) r) : dj_X1_make_0 p l e s m args below meth c Q A dC dI a ac (df_X1_make_0 n) r := by
  obtain ⟨hlt, hx, hb, hml, hown, hts, hN, hA, hK⟩ := id C
  intro v1 s0 H locs ls h hP hD hS hl
  unfold df_X1_make_0 at h
  refine lv_aload_n hx hb dX1_make_0 rfl (lv_at hl 0 rfl) ?_
  refine lv_aload_n hx hb dX1_make_1 rfl (lv_at hl 1 rfl) ?_
  refine lv_iload_n hx hb dX1_make_2 rfl (lv_at hl 2 rfl) ?_
  obtain ⟨s2, hq, h⟩ := nd_b1_e h
  have hPc := dp_X1p_5 hP
  have hDc := dd_X1p_5 hD
  have hKc := dy_X1p_5 hK
  have hFc := nd_rs hDc hS hA
  have hzA : ∀ q : Nat, H.size ≤ q → A q := fun q h => hA q (Nat.le_trans hS.1 h)
  refine nd_cVv (As := [.ref (a 16), .int v1]) (rest := []) (w' := dw_X1 (fun k => a (k + 5)) (fun k => ac (k + 5)) s2) ⟨hx, hb, hml, hown, hts⟩ (fun sz => dm_X1_start l hlt dC dI (fun k => a (k + 5)) (fun k => ac (k + 5)) n (v1) s0.2.1 hq sz) (cwV 2 hts gi_dm_X1_make_0 rfl rfl rfl (by decide +kernel) ⟨Nat.le_of_ble_eq_true rfl, Nat.le_of_ble_eq_true rfl⟩) hPc hDc hKc hS hA hN (va_recv hKc hPc (ci := 2) (q0 := 0) rfl rfl) rfl hl.1 rfl (Nat.le_of_ble_eq_true rfl) dX1_make_3 (fun H locs hP1 hD1 hk1 hS => ?_)
  obtain ⟨hP, hD⟩ := dn_X1p_5 hP hD hzA hk1 hP1 hD1
  obtain ⟨s4, es4, h⟩ := nd_let_e h
  have hP : va_P (dC, dI) vwCl (dw_X1p a ac s4) H := by rw [es4]; exact hP
  have hD : va_D A (dw_X1p a ac s4) := by rw [es4]; exact hD
  refine lv_iconst (v := 0) hx hb dX1_make_6 (by decide) ?_
  refine lv_istore (lv' := [(4, .int 0), (0, .ref (a 5)), (1, .ref (a 16)), (2, .int v1), (3, .ref (a 0))]) hx hb dX1_make_7 hl (by decide) rfl (fun ls hl => ?_)
  refine lv_iconst (v := 0) hx hb dX1_make_9 (by decide) ?_
  refine lv_istore (lv' := [(5, .int 0), (4, .int 0), (0, .ref (a 5)), (1, .ref (a 16)), (2, .int v1), (3, .ref (a 0))]) hx hb dX1_make_10 hl (by decide) rfl (fun ls hl => ?_)
  exact (db_X1_make_12 C K n) (v1) (0) (0) s4 _ _ _ h hP hD hS (lv_sub hl [2, 3, 4, 5, 1, 0] rfl)
set_option maxHeartbeats 40000000 in
set_option maxRecDepth 100000 in
theorem dm_X1_make (l : Launch) (hlt : l.stackTraces = false) (dC : Nat → ClassId) (dI : Nat → Nat → Nat) (a : Nat → Nat) (ac : Nat → ClassId) (n : Nat) (v1 : Int32) (s0 : St × (St × (St)) × (St)) {r : Int32 × (St × (St × (St)) × (St))} (h : df_X1_make n v1 s0 = some r) (sz : Nat) : Met l yX1_make ow_dm_X1_make ({ frames := 9, cells := 0, slots := 0, locals := 203 }) (va_Pc [.ref (a 5), .ref (a 16), .int v1, .ref (a 0)] (fun U => U.heap.size = sz ∧ va_P (dC, dI) vwCl (dw_X1p a ac s0) U.heap ∧ va_K (dC, dI) vwCl (dk_X1p ac) U ∧ va_D (fun _ => True) (dw_X1p a ac s0) ∧ nv_E dI (va_A (dw_X1p a ac s0) sz) U)) (va_Qi (fun x _ => x = r.1) (fun (_ : Unit) t => va_P (dC, dI) vwCl (dw_X1p a ac r.2) t.heap ∧ va_K (dC, dI) vwCl (dk_X1p ac) t ∧ va_D (va_A (dw_X1p a ac s0) sz) (dw_X1p a ac r.2)) (va_A (dw_X1p a ac s0) sz)) 0 0 (va_A (dw_X1p a ac s0) sz) := by
  refine Met.ofW (cc := cX1_make) (maxL := 7) (ret := (some .int)) (by decide) rfl ?_
  intro p e s m args below meth c s₁ B hml hv
  obtain ⟨rfl, hsz, hP, hK, hD0, hN⟩ := hv
  have hx := B.exec
  have hb := B.bytes
  have hr := B.returns
  have hts := atoms_spec (ws := ow_dm_X1_make) B.pre
  have hown : s.vm.findClass RX1 = some m.cls := findClass_of_methodNamed B.named
  have hlocks := B.notSynchronized
  subst hsz
  have hD := hD0.self (sz := s.heap.size)
  generalize hAe : va_A (dw_X1p a ac s0) s.heap.size = A at hD hN ⊢
  have hA : ∀ q : Nat, s.heap.size ≤ q → A q := fun q h => by rw [← hAe]; exact Or.inr h
  have hl := lv_entry ([.ref (a 5), .ref (a 16), .int v1, .ref (a 0)]) (n := 7) (Nat.le_of_ble_eq_true rfl)
  rw [lg_entry_eq]
  generalize (lg_sl ([.ref (a 5), .ref (a 16), .int v1, .ref (a 0)]) ++ List.replicate (7 - (lg_sl ([.ref (a 5), .ref (a 16), .int v1, .ref (a 0)])).length) Slot.unset).toArray = ls at hl ⊢
  have hl : lv_has ls 7 [(0, .ref (a 5)), (1, .ref (a 16)), (2, .int v1), (3, .ref (a 0))] := hl
  exact db_X1_make_0 (dC := dC) (dI := dI) (a := a) (ac := ac) (n := n) (r := r) ⟨hlt, hx, hb, hml, hown, hts, hN, hA, hK⟩ (fun pc v τ H locs ls d z er hP hD hS => by subst er; exact W.zret (v := v) hx hb hr z (fun t ht hW => ⟨⟨v, (), rfl, rfl, by rw [ht]; exact hP, va_K.moved hW.alike hK, hD⟩, hS.F ht⟩) hS.2.2 d) v1 s0 _ _ _ h hP hD va_S.rf (lv_sub hl [0, 1, 2, 3] rfl)

