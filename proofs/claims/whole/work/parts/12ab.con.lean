def ow_dm_X14_pack : List Cond := .code yX14_pack cX14_pack 4 (some .int) :: ([.fieldLink RX14 31 "TimeMachineModel$Codec" "size" "I", .fieldLink RX14 27 "TimeMachineModel$Codec" "events" "I", .methodLink RX14 44 yX14_varint, .instanceMethod yX14_varint, .selects RX14 yX14_varint yX14_varint, .initialized RX14, .methodLink RX14 56 yX14_isAlike, .instanceMethod yX14_isAlike, .selects RX14 yX14_isAlike yX14_isAlike, .methodLink RX14 62 yX14_entry, .instanceMethod yX14_entry, .selects RX14 yX14_entry yX14_entry, .methodLink RX14 59 yX14_run, .instanceMethod yX14_run, .selects RX14 yX14_run yX14_run] ++ (u_ws RX14 TX14 11 ++ (ow_dm_X14_varint ++ (ow_dm_X14_isAlike ++ (ow_dm_X14_entry ++ (ow_dm_X14_run ++ []))))))
theorem gd_dm_X14_pack : ∀ w ∈ ow_dm_X14_pack, (w.onTables && w.keeps) = true ∨ ∃ ty, w = Cond.arrayClass ty := List.forall_mem_cons.mpr ⟨good_of_word rfl, List.forall_mem_append.mpr ⟨fun w h => good_of_word (List.all_eq_true.mp (by decide +kernel) w h), List.forall_mem_append.mpr ⟨gu_X14, List.forall_mem_append.mpr ⟨gd_dm_X14_varint, List.forall_mem_append.mpr ⟨gd_dm_X14_isAlike, List.forall_mem_append.mpr ⟨gd_dm_X14_entry, List.forall_mem_append.mpr ⟨gd_dm_X14_run, fun _ h => nomatch h⟩⟩⟩⟩⟩⟩⟩
theorem hi_dm_X14_pack_X14 : ∀ w ∈ u_ws RX14 TX14 11, w ∈ ow_dm_X14_pack := fun w h => List.mem_cons_of_mem _ (List.mem_append_right _ (List.mem_append_left _ h))
theorem gi_dm_X14_pack_0 : GoodIn ow_dm_X14_pack (wsV RX14 44 RX14 yX14_varint ow_dm_X14_varint) := goodIn_app (goodIn_of _ (by decide +kernel)) (fun w h => ⟨List.mem_cons_of_mem _ (List.mem_append_right _ (List.mem_append_right _ (List.mem_append_left _ h))), gd_dm_X14_varint w h⟩)
theorem gi_dm_X14_pack_1 : GoodIn ow_dm_X14_pack (wsV RX14 56 RX14 yX14_isAlike ow_dm_X14_isAlike) := goodIn_app (goodIn_of _ (by decide +kernel)) (fun w h => ⟨List.mem_cons_of_mem _ (List.mem_append_right _ (List.mem_append_right _ (List.mem_append_right _ (List.mem_append_left _ h)))), gd_dm_X14_isAlike w h⟩)
theorem gi_dm_X14_pack_2 : GoodIn ow_dm_X14_pack (wsV RX14 62 RX14 yX14_entry ow_dm_X14_entry) := goodIn_app (goodIn_of _ (by decide +kernel)) (fun w h => ⟨List.mem_cons_of_mem _ (List.mem_append_right _ (List.mem_append_right _ (List.mem_append_right _ (List.mem_append_right _ (List.mem_append_left _ h))))), gd_dm_X14_entry w h⟩)
theorem gi_dm_X14_pack_3 : GoodIn ow_dm_X14_pack (wsV RX14 59 RX14 yX14_run ow_dm_X14_run) := goodIn_app (goodIn_of _ (by decide +kernel)) (fun w h => ⟨List.mem_cons_of_mem _ (List.mem_append_right _ (List.mem_append_right _ (List.mem_append_right _ (List.mem_append_right _ (List.mem_append_right _ (List.mem_append_left _ h)))))), gd_dm_X14_run w h⟩)
def dj_X14_pack_96 (p : Program) (l : Launch) (e : Env) (s : State) (m : MethodId) (args : Array Value) (below : List Frame) (meth : Method) (c : Code) (Q : State → Prop) (A : Nat → Prop) (dC : Nat → ClassId) (dI : Nat → Nat → Nat) (a : Nat → Nat) (ac : Nat → ClassId) (g : Int32 → Int32 → (St) → Option (Int32 × (St))) (r : Int32 × (St)) : Prop := ∀ (x1 : Int32) (x2 : Int32) (s0 : St) (H : Heap) (locs : List Loc) (ls : Array Slot), g x1 x2 s0 = some r → va_P (dC, dI) vwCl (dw_X14 a ac s0) H → va_D A (dw_X14 a ac s0) → va_S A s.heap H locs → lv_has ls 4 [(0, .ref (a 0)), (1, .int x1), (2, .int x2)] → W p l e (headSpec ow_dm_X14_pack ({ frames := 3, cells := 0, slots := 0, locals := 72 })).room s m args below meth c H locs 0 0 Q (F0 m 96 ls [])
def dj_X14_pack_79 (p : Program) (l : Launch) (e : Env) (s : State) (m : MethodId) (args : Array Value) (below : List Frame) (meth : Method) (c : Code) (Q : State → Prop) (A : Nat → Prop) (dC : Nat → ClassId) (dI : Nat → Nat → Nat) (a : Nat → Nat) (ac : Nat → ClassId) (g : Int32 → Int32 → (St) → Option (Int32 × (St))) (r : Int32 × (St)) : Prop := ∀ (x1 : Int32) (x2 : Int32) (s0 : St) (H : Heap) (locs : List Loc) (ls : Array Slot), g x1 x2 s0 = some r → va_P (dC, dI) vwCl (dw_X14 a ac s0) H → va_D A (dw_X14 a ac s0) → va_S A s.heap H locs → lv_has ls 4 [(0, .ref (a 0)), (1, .int x1), (2, .int x2)] → W p l e (headSpec ow_dm_X14_pack ({ frames := 3, cells := 0, slots := 0, locals := 72 })).room s m args below meth c H locs 0 0 Q (F0 m 79 ls [])
def dj_X14_pack_67 (p : Program) (l : Launch) (e : Env) (s : State) (m : MethodId) (args : Array Value) (below : List Frame) (meth : Method) (c : Code) (Q : State → Prop) (A : Nat → Prop) (dC : Nat → ClassId) (dI : Nat → Nat → Nat) (a : Nat → Nat) (ac : Nat → ClassId) (g : Int32 → Int32 → Int32 → (St) → Option (Int32 × (St))) (r : Int32 × (St)) : Prop := ∀ (x1 : Int32) (x2 : Int32) (y0 : Int32) (s0 : St) (H : Heap) (locs : List Loc) (ls : Array Slot), g x1 x2 y0 s0 = some r → va_P (dC, dI) vwCl (dw_X14 a ac s0) H → va_D A (dw_X14 a ac s0) → va_S A s.heap H locs → lv_has ls 4 [(0, .ref (a 0)), (1, .int x1), (2, .int x2)] → W p l e (headSpec ow_dm_X14_pack ({ frames := 3, cells := 0, slots := 0, locals := 72 })).room s m args below meth c H locs 0 0 Q (F0 m 67 ls [.int y0])
def dj_X14_pack_62 (p : Program) (l : Launch) (e : Env) (s : State) (m : MethodId) (args : Array Value) (below : List Frame) (meth : Method) (c : Code) (Q : State → Prop) (A : Nat → Prop) (dC : Nat → ClassId) (dI : Nat → Nat → Nat) (a : Nat → Nat) (ac : Nat → ClassId) (g : Int32 → Int32 → (St) → Option (Int32 × (St))) (r : Int32 × (St)) : Prop := ∀ (x1 : Int32) (x2 : Int32) (s0 : St) (H : Heap) (locs : List Loc) (ls : Array Slot), g x1 x2 s0 = some r → va_P (dC, dI) vwCl (dw_X14 a ac s0) H → va_D A (dw_X14 a ac s0) → va_S A s.heap H locs → lv_has ls 4 [(0, .ref (a 0)), (1, .int x1), (2, .int x2)] → W p l e (headSpec ow_dm_X14_pack ({ frames := 3, cells := 0, slots := 0, locals := 72 })).room s m args below meth c H locs 0 0 Q (F0 m 62 ls [])
def dj_X14_pack_41 (p : Program) (l : Launch) (e : Env) (s : State) (m : MethodId) (args : Array Value) (below : List Frame) (meth : Method) (c : Code) (Q : State → Prop) (A : Nat → Prop) (dC : Nat → ClassId) (dI : Nat → Nat → Nat) (a : Nat → Nat) (ac : Nat → ClassId) (g : Int32 → Int32 → (St) → Option (Int32 × (St))) (r : Int32 × (St)) : Prop := ∀ (x2 : Int32) (y0 : Int32) (s0 : St) (H : Heap) (locs : List Loc) (ls : Array Slot), g x2 y0 s0 = some r → va_P (dC, dI) vwCl (dw_X14 a ac s0) H → va_D A (dw_X14 a ac s0) → va_S A s.heap H locs → lv_has ls 4 [(0, .ref (a 0)), (2, .int x2)] → W p l e (headSpec ow_dm_X14_pack ({ frames := 3, cells := 0, slots := 0, locals := 72 })).room s m args below meth c H locs 0 0 Q (F0 m 41 ls [.int y0])
def dj_X14_pack_18 (p : Program) (l : Launch) (e : Env) (s : State) (m : MethodId) (args : Array Value) (below : List Frame) (meth : Method) (c : Code) (Q : State → Prop) (A : Nat → Prop) (dC : Nat → ClassId) (dI : Nat → Nat → Nat) (a : Nat → Nat) (ac : Nat → ClassId) (g : Int32 → Int32 → (St) → Option (Int32 × (St))) (r : Int32 × (St)) : Prop := ∀ (x1 : Int32) (x2 : Int32) (s0 : St) (H : Heap) (locs : List Loc) (ls : Array Slot), g x1 x2 s0 = some r → va_P (dC, dI) vwCl (dw_X14 a ac s0) H → va_D A (dw_X14 a ac s0) → va_S A s.heap H locs → lv_has ls 4 [(0, .ref (a 0)), (1, .int x1), (2, .int x2)] → W p l e (headSpec ow_dm_X14_pack ({ frames := 3, cells := 0, slots := 0, locals := 72 })).room s m args below meth c H locs 0 0 Q (F0 m 18 ls [])
def dj_X14_pack_0 (p : Program) (l : Launch) (e : Env) (s : State) (m : MethodId) (args : Array Value) (below : List Frame) (meth : Method) (c : Code) (Q : State → Prop) (A : Nat → Prop) (dC : Nat → ClassId) (dI : Nat → Nat → Nat) (a : Nat → Nat) (ac : Nat → ClassId) (g : (St) → Option (Int32 × (St))) (r : Int32 × (St)) : Prop := ∀ (s0 : St) (H : Heap) (locs : List Loc) (ls : Array Slot), g s0 = some r → va_P (dC, dI) vwCl (dw_X14 a ac s0) H → va_D A (dw_X14 a ac s0) → va_S A s.heap H locs → lv_has ls 4 [(0, .ref (a 0))] → W p l e (headSpec ow_dm_X14_pack ({ frames := 3, cells := 0, slots := 0, locals := 72 })).room s m args below meth c H locs 0 0 Q (F0 m 0 ls [])
set_option maxHeartbeats 40000000 in
set_option maxRecDepth 100000 in
theorem db_X14_pack_96 {p : Program} {l : Launch} {e : Env} {s : State} {m : MethodId} {args : Array Value} {below : List Frame} {meth : Method} {c : Code} {Q : State → Prop} {A : Nat → Prop} {dC : Nat → ClassId} {dI : Nat → Nat → Nat} {a : Nat → Nat} {ac : Nat → ClassId} {n : Nat} {r : Int32 × (St)} (C : nd_C p l s m args c A (dC, dI) cX14_pack 4 RX14 ow_dm_X14_pack (dk_X14 ac)) (K : nd_Ki p l e (headSpec ow_dm_X14_pack ({ frames := 3, cells := 0, slots := 0, locals := 72 })).room s m args below meth c Q A (dC, dI) cX14_pack .int (St) (dw_X14 a ac) r) {g18 : Int32 → Int32 → (St) → Option (Int32 × (St))} (J18 : dj_X14_pack_18 p l e s m args below meth c Q A dC dI a ac g18 r) : dj_X14_pack_96 p l e s m args below meth c Q A dC dI a ac (df_X14_pack_96 n g18) r := by
  obtain ⟨hlt, hx, hb, hml, hown, hts, hN, hA, hK⟩ := id C
  intro x1 x2 s0 H locs ls h hP hD hS hl
  unfold df_X14_pack_96 at h
  obtain ⟨z16, ez16, h⟩ := nd_let_e h
  refine lv_iinc (v := z16) (lv' := [(2, .int z16), (0, .ref (a 0)), (1, .int x1)]) hx hb dX14_pack_96 hl (k := 2) rfl (by rw [ez16]) (by decide) rfl (fun ls hl => ?_)
  refine lv_goto (tgt := 18) hx hb dX14_pack_99 (by decide) ?_
  exact (J18) (x1) (z16) s0 _ _ _ h hP hD hS (lv_sub hl [1, 2, 0] rfl)
set_option maxHeartbeats 40000000 in
set_option maxRecDepth 100000 in
theorem db_X14_pack_79 {p : Program} {l : Launch} {e : Env} {s : State} {m : MethodId} {args : Array Value} {below : List Frame} {meth : Method} {c : Code} {Q : State → Prop} {A : Nat → Prop} {dC : Nat → ClassId} {dI : Nat → Nat → Nat} {a : Nat → Nat} {ac : Nat → ClassId} {n : Nat} {r : Int32 × (St)} (C : nd_C p l s m args c A (dC, dI) cX14_pack 4 RX14 ow_dm_X14_pack (dk_X14 ac)) (K : nd_Ki p l e (headSpec ow_dm_X14_pack ({ frames := 3, cells := 0, slots := 0, locals := 72 })).room s m args below meth c Q A (dC, dI) cX14_pack .int (St) (dw_X14 a ac) r) {g18 : Int32 → Int32 → (St) → Option (Int32 × (St))} (J18 : dj_X14_pack_18 p l e s m args below meth c Q A dC dI a ac g18 r) : dj_X14_pack_79 p l e s m args below meth c Q A dC dI a ac (df_X14_pack_79 n g18) r := by
  obtain ⟨hlt, hx, hb, hml, hown, hts, hN, hA, hK⟩ := id C
  intro x1 x2 s0 H locs ls h hP hD hS hl
  unfold df_X14_pack_79 at h
  refine lv_iload_n hx hb dX14_pack_79 rfl (lv_at hl 1 rfl) ?_
  refine lv_if_le (tgt := 91) hx hb dX14_pack_80 (by decide) (fun c12 => ?_) (fun c12 => ?_)
  · have h := nd_pos h c12
    refine lv_aload_n hx hb dX14_pack_91 rfl (lv_at hl 0 rfl) ?_
    refine lv_iload_n hx hb dX14_pack_92 rfl (lv_at hl 2 rfl) ?_
    obtain ⟨s14, hq, h⟩ := nd_b1_e h
    have hPc := hP
    have hDc := hD
    have hKc := hK
    have hFc := nd_rs hD hS hA
    refine va_callv (va_runV (As := [.int x2]) (rest := []) ⟨hx, hb, hml, hown, hts⟩ (dm_X14_entry l hlt dC dI a ac n (x2) s0 hq _) (cwV 1 hts gi_dm_X14_pack_2 rfl rfl rfl (by decide +kernel) ⟨Nat.le_of_ble_eq_true rfl, Nat.le_of_ble_eq_true rfl⟩) ⟨fun a U g mk q => by obtain ⟨q0, q1, qP, qK, qD, qN⟩ := q; exact ⟨q0, q1, qP, va_K.moved (u := U) (U := U.calling g mk a) (Vm.Alike.refl U.vm) qK, qD, nv_same rfl rfl qN⟩, va_recv hKc hPc (ci := 15) (q0 := 0) rfl rfl, fun U hU hW => ⟨rfl, by rw [hU], by rw [hU]; exact hPc, va_K.moved hW.alike hKc, hDc.weaken (fun _ _ _ _ => trivial), nv_call hS hFc hU hW hN⟩⟩ rfl rfl hl.1 rfl (lv_room (Nat.le_of_ble_eq_true rfl)) dX14_pack_93 ⟨by decide +kernel, by decide +kernel⟩) hS (fun q _ h => hFc q h) hFc (fun u t H locs ht hvm hw hB hz1 hk1 hS => ?_)
    obtain ⟨hP1, -, hD1⟩ := hB
    rw [ht] at hP1
    have hP := hP1
    have hD := hD1.weaken (fun k q _ h => hFc q.1 h)
    refine W.widen (k := 0) (n := 0) (Nat.le_refl _) (Nat.le_refl _) ?_
    exact (db_X14_pack_96 C K J18) (x1) (x2) s14 _ _ _ h hP hD hS (lv_sub hl [0, 1, 2] rfl)
  · have h := nd_neg h c12
    refine lv_aload_n hx hb dX14_pack_83 rfl (lv_at hl 0 rfl) ?_
    refine lv_iload_n hx hb dX14_pack_84 rfl (lv_at hl 1 rfl) ?_
    obtain ⟨s18, hq, h⟩ := nd_b1_e h
    have hPc := hP
    have hDc := hD
    have hKc := hK
    have hFc := nd_rs hD hS hA
    refine va_callv (va_runV (As := [.int x1]) (rest := []) ⟨hx, hb, hml, hown, hts⟩ (dm_X14_run l hlt dC dI a ac n (x1) s0 hq _) (cwV 1 hts gi_dm_X14_pack_3 rfl rfl rfl (by decide +kernel) ⟨Nat.le_of_ble_eq_true rfl, Nat.le_of_ble_eq_true rfl⟩) ⟨fun a U g mk q => by obtain ⟨q0, q1, qP, qK, qD, qN⟩ := q; exact ⟨q0, q1, qP, va_K.moved (u := U) (U := U.calling g mk a) (Vm.Alike.refl U.vm) qK, qD, nv_same rfl rfl qN⟩, va_recv hKc hPc (ci := 15) (q0 := 0) rfl rfl, fun U hU hW => ⟨rfl, by rw [hU], by rw [hU]; exact hPc, va_K.moved hW.alike hKc, hDc.weaken (fun _ _ _ _ => trivial), nv_call hS hFc hU hW hN⟩⟩ rfl rfl hl.1 rfl (lv_room (Nat.le_of_ble_eq_true rfl)) dX14_pack_85 ⟨by decide +kernel, by decide +kernel⟩) hS (fun q _ h => hFc q h) hFc (fun u t H locs ht hvm hw hB hz1 hk1 hS => ?_)
    obtain ⟨hP1, -, hD1⟩ := hB
    rw [ht] at hP1
    have hP := hP1
    have hD := hD1.weaken (fun k q _ h => hFc q.1 h)
    refine W.widen (k := 0) (n := 0) (Nat.le_refl _) (Nat.le_refl _) ?_
    refine lv_goto (tgt := 96) hx hb dX14_pack_88 (by decide) ?_
    exact (db_X14_pack_96 C K J18) (x1) (x2) s18 _ _ _ h hP hD hS (lv_sub hl [0, 1, 2] rfl)
set_option maxHeartbeats 40000000 in
set_option maxRecDepth 100000 in
theorem db_X14_pack_67 {p : Program} {l : Launch} {e : Env} {s : State} {m : MethodId} {args : Array Value} {below : List Frame} {meth : Method} {c : Code} {Q : State → Prop} {A : Nat → Prop} {dC : Nat → ClassId} {dI : Nat → Nat → Nat} {a : Nat → Nat} {ac : Nat → ClassId} {n : Nat} {r : Int32 × (St)} (C : nd_C p l s m args c A (dC, dI) cX14_pack 4 RX14 ow_dm_X14_pack (dk_X14 ac)) (K : nd_Ki p l e (headSpec ow_dm_X14_pack ({ frames := 3, cells := 0, slots := 0, locals := 72 })).room s m args below meth c Q A (dC, dI) cX14_pack .int (St) (dw_X14 a ac) r) {g18 : Int32 → Int32 → (St) → Option (Int32 × (St))} (J18 : dj_X14_pack_18 p l e s m args below meth c Q A dC dI a ac g18 r) : dj_X14_pack_67 p l e s m args below meth c Q A dC dI a ac (df_X14_pack_67 n g18) r := by
  obtain ⟨hlt, hx, hb, hml, hown, hts, hN, hA, hK⟩ := id C
  intro x1 x2 y0 s0 H locs ls h hP hD hS hl
  unfold df_X14_pack_67 at h
  refine lv_istore_n (lv' := [(3, .int y0), (0, .ref (a 0)), (1, .int x1), (2, .int x2)]) hx hb dX14_pack_67 rfl hl (by decide) rfl (fun ls hl => ?_)
  refine lv_iload_n hx hb dX14_pack_68 rfl (lv_at hl 2 rfl) ?_
  refine lv_if_le (tgt := 79) hx hb dX14_pack_69 (by decide) (fun c11 => ?_) (fun c11 => ?_)
  · have h := nd_pos h c11
    exact (db_X14_pack_79 C K J18) (x1) (x2) s0 _ _ _ h hP hD hS (lv_sub hl [1, 2, 3] rfl)
  · have h := nd_neg h c11
    refine lv_iload_n hx hb dX14_pack_72 rfl (lv_at hl 0 rfl) ?_
    refine lv_if_ne (tgt := 79) hx hb dX14_pack_73 (by decide) (fun c20 => ?_) (fun c20 => ?_)
    · have h := nd_neg h c20
      exact (db_X14_pack_79 C K J18) (x1) (x2) s0 _ _ _ h hP hD hS (lv_sub hl [1, 2, 3] rfl)
    · have h := nd_pos h c20
      refine lv_goto (tgt := 96) hx hb dX14_pack_76 (by decide) ?_
      exact (db_X14_pack_96 C K J18) (x1) (x2) s0 _ _ _ h hP hD hS (lv_sub hl [1, 2, 3] rfl)
set_option maxHeartbeats 40000000 in
set_option maxRecDepth 100000 in
theorem db_X14_pack_62 {p : Program} {l : Launch} {e : Env} {s : State} {m : MethodId} {args : Array Value} {below : List Frame} {meth : Method} {c : Code} {Q : State → Prop} {A : Nat → Prop} {dC : Nat → ClassId} {dI : Nat → Nat → Nat} {a : Nat → Nat} {ac : Nat → ClassId} {n : Nat} {r : Int32 × (St)} (C : nd_C p l s m args c A (dC, dI) cX14_pack 4 RX14 ow_dm_X14_pack (dk_X14 ac)) (K : nd_Ki p l e (headSpec ow_dm_X14_pack ({ frames := 3, cells := 0, slots := 0, locals := 72 })).room s m args below meth c Q A (dC, dI) cX14_pack .int (St) (dw_X14 a ac) r) {g18 : Int32 → Int32 → (St) → Option (Int32 × (St))} (J18 : dj_X14_pack_18 p l e s m args below meth c Q A dC dI a ac g18 r) : dj_X14_pack_62 p l e s m args below meth c Q A dC dI a ac (df_X14_pack_62 n g18) r := by
  obtain ⟨hlt, hx, hb, hml, hown, hts, hN, hA, hK⟩ := id C
  intro x1 x2 s0 H locs ls h hP hD hS hl
  unfold df_X14_pack_62 at h
  refine lv_iconst (v := 1) hx hb dX14_pack_62 (by decide) ?_
  refine lv_goto (tgt := 67) hx hb dX14_pack_63 (by decide) ?_
  exact (db_X14_pack_67 C K J18) (x1) (x2) (1) s0 _ _ _ h hP hD hS (lv_sub hl [0, 1, 2] rfl)
set_option maxHeartbeats 40000000 in
set_option maxRecDepth 100000 in
theorem db_X14_pack_41 {p : Program} {l : Launch} {e : Env} {s : State} {m : MethodId} {args : Array Value} {below : List Frame} {meth : Method} {c : Code} {Q : State → Prop} {A : Nat → Prop} {dC : Nat → ClassId} {dI : Nat → Nat → Nat} {a : Nat → Nat} {ac : Nat → ClassId} {n : Nat} {r : Int32 × (St)} (C : nd_C p l s m args c A (dC, dI) cX14_pack 4 RX14 ow_dm_X14_pack (dk_X14 ac)) (K : nd_Ki p l e (headSpec ow_dm_X14_pack ({ frames := 3, cells := 0, slots := 0, locals := 72 })).room s m args below meth c Q A (dC, dI) cX14_pack .int (St) (dw_X14 a ac) r) {g18 : Int32 → Int32 → (St) → Option (Int32 × (St))} (J18 : dj_X14_pack_18 p l e s m args below meth c Q A dC dI a ac g18 r) : dj_X14_pack_41 p l e s m args below meth c Q A dC dI a ac (df_X14_pack_41 n g18) r := by
  obtain ⟨hlt, hx, hb, hml, hown, hts, hN, hA, hK⟩ := id C
  intro x2 y0 s0 H locs ls h hP hD hS hl
  unfold df_X14_pack_41 at h
  refine lv_istore_n (lv' := [(1, .int y0), (0, .ref (a 0)), (2, .int x2)]) hx hb dX14_pack_41 rfl hl (by decide) rfl (fun ls hl => ?_)
  refine lv_iload_n hx hb dX14_pack_42 rfl (lv_at hl 2 rfl) ?_
  refine lv_iconst (v := 1) hx hb dX14_pack_43 (by decide) ?_
  refine lv_iadd hx hb dX14_pack_44 ?_
  refine lv_aload_n hx hb dX14_pack_45 rfl (lv_at hl 1 rfl) ?_
  refine va_get (D := (dC, dI)) (ci := 15) (v := .int (sI s0 0)) (C := RX14) (T := TX14) (N := 11) hx hb hts hi_dm_X14_pack_X14 hown hK hP 0 rfl rfl 0 (by decide) (hts (.fieldLink RX14 27 "TimeMachineModel$Codec" "events" "I") (List.mem_of_getElem? (i := 2) rfl)) (fun _ h9 => h9) rfl dX14_pack_46 ?_
  refine lv_icmp_eq (tgt := 62) hx hb dX14_pack_49 (by decide) (fun c10 => ?_) (fun c10 => ?_)
  · have h := nd_pos h c10
    exact (db_X14_pack_62 C K J18) (y0) (x2) s0 _ _ _ h hP hD hS (lv_sub hl [1, 0, 2] rfl)
  · have h := nd_neg h c10
    refine lv_aload_n hx hb dX14_pack_52 rfl (lv_at hl 1 rfl) ?_
    refine lv_iload_n hx hb dX14_pack_53 rfl (lv_at hl 2 rfl) ?_
    refine lv_iconst (v := 1) hx hb dX14_pack_54 (by decide) ?_
    refine lv_iadd hx hb dX14_pack_55 ?_
    obtain ⟨q21, s22, hq, h⟩ := nd_b2_e h
    have hPc := hP
    have hDc := hD
    have hKc := hK
    have hFc := nd_rs hD hS hA
    refine va_calli (va_runV (As := [.int (x2 + 1)]) (rest := []) ⟨hx, hb, hml, hown, hts⟩ (dm_X14_isAlike l hlt dC dI a ac n ((x2 + 1)) s0 hq _) (cwV 1 hts gi_dm_X14_pack_1 rfl rfl rfl (by decide +kernel) ⟨Nat.le_of_ble_eq_true rfl, Nat.le_of_ble_eq_true rfl⟩) ⟨fun a U g mk q => by obtain ⟨q0, q1, qP, qK, qD, qN⟩ := q; exact ⟨q0, q1, qP, va_K.moved (u := U) (U := U.calling g mk a) (Vm.Alike.refl U.vm) qK, qD, nv_same rfl rfl qN⟩, va_recv hKc hPc (ci := 15) (q0 := 0) rfl rfl, fun U hU hW => ⟨rfl, by rw [hU], by rw [hU]; exact hPc, va_K.moved hW.alike hKc, hDc.weaken (fun _ _ _ _ => trivial), nv_call hS hFc hU hW hN⟩⟩ rfl rfl hl.1 rfl (lv_room (Nat.le_of_ble_eq_true rfl)) dX14_pack_56 ⟨by decide +kernel, by decide +kernel⟩) hS (fun q _ h => hFc q h) hFc (fun r23 u t H locs ht hvm hw hB hz1 hk1 hS => ?_)
    obtain rfl : q21 = r23 := Eq.symm hw
    obtain ⟨hP1, -, hD1⟩ := hB
    rw [ht] at hP1
    have hP := hP1
    have hD := hD1.weaken (fun k q _ h => hFc q.1 h)
    refine W.widen (k := 0) (n := 0) (Nat.le_refl _) (Nat.le_refl _) ?_
    refine lv_if_ne (tgt := 66) hx hb dX14_pack_59 (by decide) (fun c24 => ?_) (fun c24 => ?_)
    · have h := nd_neg h c24
      refine lv_iconst (v := 0) hx hb dX14_pack_66 (by decide) ?_
      exact (db_X14_pack_67 C K J18) (y0) (x2) (0) s22 _ _ _ h hP hD hS (lv_sub hl [1, 0, 2] rfl)
    · have h := nd_pos h c24
      exact (db_X14_pack_62 C K J18) (y0) (x2) s22 _ _ _ h hP hD hS (lv_sub hl [1, 0, 2] rfl)
set_option maxHeartbeats 40000000 in
set_option maxRecDepth 100000 in
theorem dB_X14_pack_18 {p : Program} {l : Launch} {e : Env} {s : State} {m : MethodId} {args : Array Value} {below : List Frame} {meth : Method} {c : Code} {Q : State → Prop} {A : Nat → Prop} {dC : Nat → ClassId} {dI : Nat → Nat → Nat} {a : Nat → Nat} {ac : Nat → ClassId} {n : Nat} {r : Int32 × (St)} (C : nd_C p l s m args c A (dC, dI) cX14_pack 4 RX14 ow_dm_X14_pack (dk_X14 ac)) (K : nd_Ki p l e (headSpec ow_dm_X14_pack ({ frames := 3, cells := 0, slots := 0, locals := 72 })).room s m args below meth c Q A (dC, dI) cX14_pack .int (St) (dw_X14 a ac) r) {g18 : Int32 → Int32 → (St) → Option (Int32 × (St))} (J18 : dj_X14_pack_18 p l e s m args below meth c Q A dC dI a ac g18 r) : dj_X14_pack_18 p l e s m args below meth c Q A dC dI a ac (dF_X14_pack_18 n g18) r := by
  obtain ⟨hlt, hx, hb, hml, hown, hts, hN, hA, hK⟩ := id C
  intro x1 x2 s0 H locs ls h hP hD hS hl
  unfold dF_X14_pack_18 at h
  refine lv_iload_n hx hb dX14_pack_18 rfl (lv_at hl 2 rfl) ?_
  refine lv_aload_n hx hb dX14_pack_19 rfl (lv_at hl 0 rfl) ?_
  refine va_get (D := (dC, dI)) (ci := 15) (v := .int (sI s0 0)) (C := RX14) (T := TX14) (N := 11) hx hb hts hi_dm_X14_pack_X14 hown hK hP 0 rfl rfl 0 (by decide) (hts (.fieldLink RX14 27 "TimeMachineModel$Codec" "events" "I") (List.mem_of_getElem? (i := 2) rfl)) (fun _ h9 => h9) rfl dX14_pack_20 ?_
  refine lv_icmp_ge (tgt := 102) hx hb dX14_pack_23 (by decide) (fun c5 => ?_) (fun c5 => ?_)
  · have h := nd_pos h c5
    refine lv_aload_n hx hb dX14_pack_102 rfl (lv_at hl 0 rfl) ?_
    refine va_get (D := (dC, dI)) (ci := 15) (v := .int (sI s0 1)) (C := RX14) (T := TX14) (N := 11) hx hb hts hi_dm_X14_pack_X14 hown hK hP 0 rfl rfl 6 (by decide) (hts (.fieldLink RX14 31 "TimeMachineModel$Codec" "size" "I") (List.mem_of_getElem? (i := 1) rfl)) (fun _ h9 => h9) rfl dX14_pack_103 ?_
    exact K _ _ _ _ _ _ dX14_pack_106 rfl (Option.some.inj h).symm hP hD hS
  · have h := nd_neg h c5
    refine lv_aload_n hx hb dX14_pack_26 rfl (lv_at hl 0 rfl) ?_
    refine lv_iload_n hx hb dX14_pack_27 rfl (lv_at hl 2 rfl) ?_
    obtain ⟨q6, s7, hq, h⟩ := nd_b2_e h
    have hPc := hP
    have hDc := hD
    have hKc := hK
    have hFc := nd_rs hD hS hA
    refine va_calli (va_runV (As := [.int x2]) (rest := []) ⟨hx, hb, hml, hown, hts⟩ (dm_X14_isAlike l hlt dC dI a ac n (x2) s0 hq _) (cwV 1 hts gi_dm_X14_pack_1 rfl rfl rfl (by decide +kernel) ⟨Nat.le_of_ble_eq_true rfl, Nat.le_of_ble_eq_true rfl⟩) ⟨fun a U g mk q => by obtain ⟨q0, q1, qP, qK, qD, qN⟩ := q; exact ⟨q0, q1, qP, va_K.moved (u := U) (U := U.calling g mk a) (Vm.Alike.refl U.vm) qK, qD, nv_same rfl rfl qN⟩, va_recv hKc hPc (ci := 15) (q0 := 0) rfl rfl, fun U hU hW => ⟨rfl, by rw [hU], by rw [hU]; exact hPc, va_K.moved hW.alike hKc, hDc.weaken (fun _ _ _ _ => trivial), nv_call hS hFc hU hW hN⟩⟩ rfl rfl hl.1 rfl (lv_room (Nat.le_of_ble_eq_true rfl)) dX14_pack_28 ⟨by decide +kernel, by decide +kernel⟩) hS (fun q _ h => hFc q h) hFc (fun r8 u t H locs ht hvm hw hB hz1 hk1 hS => ?_)
    obtain rfl : q6 = r8 := Eq.symm hw
    obtain ⟨hP1, -, hD1⟩ := hB
    rw [ht] at hP1
    have hP := hP1
    have hD := hD1.weaken (fun k q _ h => hFc q.1 h)
    refine W.widen (k := 0) (n := 0) (Nat.le_refl _) (Nat.le_refl _) ?_
    refine lv_if_eq (tgt := 40) hx hb dX14_pack_31 (by decide) (fun c9 => ?_) (fun c9 => ?_)
    · have h := nd_pos h c9
      refine lv_iconst (v := 0) hx hb dX14_pack_40 (by decide) ?_
      exact (db_X14_pack_41 C K J18) (x2) (0) s7 _ _ _ h hP hD hS (lv_sub hl [0, 2] rfl)
    · have h := nd_neg h c9
      refine lv_iload_n hx hb dX14_pack_34 rfl (lv_at hl 1 rfl) ?_
      refine lv_iconst (v := 1) hx hb dX14_pack_35 (by decide) ?_
      refine lv_iadd hx hb dX14_pack_36 ?_
      refine lv_goto (tgt := 41) hx hb dX14_pack_37 (by decide) ?_
      exact (db_X14_pack_41 C K J18) (x2) ((x1 + 1)) s7 _ _ _ h hP hD hS (lv_sub hl [0, 2] rfl)
set_option maxHeartbeats 40000000 in
set_option maxRecDepth 100000 in
theorem db_X14_pack_18 {p : Program} {l : Launch} {e : Env} {s : State} {m : MethodId} {args : Array Value} {below : List Frame} {meth : Method} {c : Code} {Q : State → Prop} {A : Nat → Prop} {dC : Nat → ClassId} {dI : Nat → Nat → Nat} {a : Nat → Nat} {ac : Nat → ClassId} {n : Nat} {r : Int32 × (St)} (C : nd_C p l s m args c A (dC, dI) cX14_pack 4 RX14 ow_dm_X14_pack (dk_X14 ac)) (K : nd_Ki p l e (headSpec ow_dm_X14_pack ({ frames := 3, cells := 0, slots := 0, locals := 72 })).room s m args below meth c Q A (dC, dI) cX14_pack .int (St) (dw_X14 a ac) r) (k : Nat) : dj_X14_pack_18 p l e s m args below meth c Q A dC dI a ac (df_X14_pack_18 n k) r := by
  induction k with
  | zero => intro x1 x2 s0 H locs ls h; exact nomatch (show (none : Option (Int32 × (St))) = some r from h)
  | succ k ih => exact dB_X14_pack_18 C K ih
set_option maxHeartbeats 40000000 in
set_option maxRecDepth 100000 in
theorem db_X14_pack_0 {p : Program} {l : Launch} {e : Env} {s : State} {m : MethodId} {args : Array Value} {below : List Frame} {meth : Method} {c : Code} {Q : State → Prop} {A : Nat → Prop} {dC : Nat → ClassId} {dI : Nat → Nat → Nat} {a : Nat → Nat} {ac : Nat → ClassId} {n : Nat} {r : Int32 × (St)} (C : nd_C p l s m args c A (dC, dI) cX14_pack 4 RX14 ow_dm_X14_pack (dk_X14 ac)) (K : nd_Ki p l e (headSpec ow_dm_X14_pack ({ frames := 3, cells := 0, slots := 0, locals := 72 })).room s m args below meth c Q A (dC, dI) cX14_pack .int (St) (dw_X14 a ac) r) : dj_X14_pack_0 p l e s m args below meth c Q A dC dI a ac (df_X14_pack_0 n) r := by
  obtain ⟨hlt, hx, hb, hml, hown, hts, hN, hA, hK⟩ := id C
  intro s0 H locs ls h hP hD hS hl
  unfold df_X14_pack_0 at h
  refine lv_aload_n hx hb dX14_pack_0 rfl (lv_at hl 0 rfl) ?_
  refine lv_iconst (v := 0) hx hb dX14_pack_1 (by decide) ?_
  refine va_put (D := (dC, dI)) (ci := 15) (v := .int 0) (ty := .int) (C := RX14) (T := TX14) (N := 11) hx hb hts hi_dm_X14_pack_X14 tyX14 tyX14_ok nmX14 hown hK hP hD hS 0 rfl rfl 6 (by decide) (hts (.fieldLink RX14 31 "TimeMachineModel$Codec" "size" "I") (List.mem_of_getElem? (i := 1) rfl)) (fun _ h9 => h9) rfl (by decide +kernel) rfl rfl (Nat.le_of_ble_eq_true rfl) dX14_pack_2 (fun H locs hP hD hS => ?_)
  obtain ⟨s1, es1, h⟩ := nd_let_e h
  have hP : va_P (dC, dI) vwCl (dw_X14 a ac s1) H := by rw [es1]; exact hP
  have hD : va_D A (dw_X14 a ac s1) := by rw [es1]; exact hD
  refine lv_aload_n hx hb dX14_pack_5 rfl (lv_at hl 0 rfl) ?_
  refine lv_aload_n hx hb dX14_pack_6 rfl (lv_at hl 0 rfl) ?_
  refine va_get (D := (dC, dI)) (ci := 15) (v := .int (sI s1 0)) (C := RX14) (T := TX14) (N := 11) hx hb hts hi_dm_X14_pack_X14 hown hK hP 0 rfl rfl 0 (by decide) (hts (.fieldLink RX14 27 "TimeMachineModel$Codec" "events" "I") (List.mem_of_getElem? (i := 2) rfl)) (fun _ h9 => h9) rfl dX14_pack_7 ?_
  refine lv_i2l hx hb dX14_pack_10 rfl ?_
  obtain ⟨s3, hq, h⟩ := nd_b1_e h
  have hPc := hP
  have hDc := hD
  have hKc := hK
  have hFc := nd_rs hD hS hA
  refine va_callv (va_runV (As := [.long (((sI s1 0) : Int32).toInt64)]) (rest := []) ⟨hx, hb, hml, hown, hts⟩ (dm_X14_varint l hlt dC dI a ac n ((((sI s1 0) : Int32).toInt64)) s1 hq _) (cwV 1 hts gi_dm_X14_pack_0 rfl rfl rfl (by decide +kernel) ⟨Nat.le_of_ble_eq_true rfl, Nat.le_of_ble_eq_true rfl⟩) ⟨fun a U g mk q => by obtain ⟨q0, q1, qP, qK, qD, qN⟩ := q; exact ⟨q0, q1, qP, va_K.moved (u := U) (U := U.calling g mk a) (Vm.Alike.refl U.vm) qK, qD, nv_same rfl rfl qN⟩, va_recv hKc hPc (ci := 15) (q0 := 0) rfl rfl, fun U hU hW => ⟨rfl, by rw [hU], by rw [hU]; exact hPc, va_K.moved hW.alike hKc, hDc.weaken (fun _ _ _ _ => trivial), nv_call hS hFc hU hW hN⟩⟩ rfl rfl hl.1 rfl (lv_room (Nat.le_of_ble_eq_true rfl)) dX14_pack_11 ⟨by decide +kernel, by decide +kernel⟩) hS (fun q _ h => hFc q h) hFc (fun u t H locs ht hvm hw hB hz1 hk1 hS => ?_)
  obtain ⟨hP1, -, hD1⟩ := hB
  rw [ht] at hP1
  have hP := hP1
  have hD := hD1.weaken (fun k q _ h => hFc q.1 h)
  refine W.widen (k := 0) (n := 0) (Nat.le_refl _) (Nat.le_refl _) ?_
  refine lv_iconst (v := 0) hx hb dX14_pack_14 (by decide) ?_
  refine lv_istore_n (lv' := [(1, .int 0), (0, .ref (a 0))]) hx hb dX14_pack_15 rfl hl (by decide) rfl (fun ls hl => ?_)
  refine lv_iconst (v := 0) hx hb dX14_pack_16 (by decide) ?_
  refine lv_istore_n (lv' := [(2, .int 0), (1, .int 0), (0, .ref (a 0))]) hx hb dX14_pack_17 rfl hl (by decide) rfl (fun ls hl => ?_)
  exact (db_X14_pack_18 C K n) (0) (0) s3 _ _ _ h hP hD hS (lv_sub hl [2, 1, 0] rfl)
set_option maxHeartbeats 40000000 in
set_option maxRecDepth 100000 in
theorem dm_X14_pack (l : Launch) (hlt : l.stackTraces = false) (dC : Nat → ClassId) (dI : Nat → Nat → Nat) (a : Nat → Nat) (ac : Nat → ClassId) (n : Nat) (s0 : St) {r : Int32 × (St)} (h : df_X14_pack n s0 = some r) (sz : Nat) : Met l yX14_pack ow_dm_X14_pack ({ frames := 3, cells := 0, slots := 0, locals := 72 }) (va_Pc [.ref (a 0)] (fun U => U.heap.size = sz ∧ va_P (dC, dI) vwCl (dw_X14 a ac s0) U.heap ∧ va_K (dC, dI) vwCl (dk_X14 ac) U ∧ va_D (fun _ => True) (dw_X14 a ac s0) ∧ nv_E (va_A (dw_X14 a ac s0) sz) U)) (va_Qi (fun x _ => x = r.1) (fun (_ : Unit) t => va_P (dC, dI) vwCl (dw_X14 a ac r.2) t.heap ∧ va_K (dC, dI) vwCl (dk_X14 ac) t ∧ va_D (va_A (dw_X14 a ac s0) sz) (dw_X14 a ac r.2)) (va_A (dw_X14 a ac s0) sz)) 0 0 (va_A (dw_X14 a ac s0) sz) := by
  refine Met.ofW (cc := cX14_pack) (maxL := 4) (ret := (some .int)) (by decide) rfl ?_
  intro p e s m args below meth c s₁ B hml hv
  obtain ⟨rfl, hsz, hP, hK, hD0, hN⟩ := hv
  have hx := B.exec
  have hb := B.bytes
  have hr := B.returns
  have hts := atoms_spec (ws := ow_dm_X14_pack) B.pre
  have hown : s.vm.findClass RX14 = some m.cls := findClass_of_methodNamed B.named
  have hlocks := B.notSynchronized
  subst hsz
  have hD := hD0.self (sz := s.heap.size)
  generalize hAe : va_A (dw_X14 a ac s0) s.heap.size = A at hD hN ⊢
  have hA : ∀ q : Nat, s.heap.size ≤ q → A q := fun q h => by rw [← hAe]; exact Or.inr h
  have hl := lv_entry ([.ref (a 0)]) (n := 4) (Nat.le_of_ble_eq_true rfl)
  rw [lg_entry_eq]
  generalize (lg_sl ([.ref (a 0)]) ++ List.replicate (4 - (lg_sl ([.ref (a 0)])).length) Slot.unset).toArray = ls at hl ⊢
  have hl : lv_has ls 4 [(0, .ref (a 0))] := hl
  exact db_X14_pack_0 (dC := dC) (dI := dI) (a := a) (ac := ac) (n := n) (r := r) ⟨hlt, hx, hb, hml, hown, hts, hN, hA, hK⟩ (fun pc v τ H locs ls d z er hP hD hS => by subst er; exact W.zret (v := v) hx hb hr z (fun t ht hW => ⟨⟨v, (), rfl, rfl, by rw [ht]; exact hP, va_K.moved hW.alike hK, hD⟩, hS.F ht⟩) hS.2.2 d) s0 _ _ _ h hP hD va_S.rf (lv_sub hl [0] rfl)
def ow_dm_X14_meet : List Cond := .code yX14_meet cX14_meet 3 none :: ([.fieldLink RX14 65 "TimeMachineModel$Codec" "fault" "I"] ++ (u_ws RX14 TX14 11 ++ []))
theorem gd_dm_X14_meet : ∀ w ∈ ow_dm_X14_meet, (w.onTables && w.keeps) = true ∨ ∃ ty, w = Cond.arrayClass ty := List.forall_mem_cons.mpr ⟨good_of_word rfl, List.forall_mem_append.mpr ⟨fun w h => good_of_word (List.all_eq_true.mp (by decide +kernel) w h), List.forall_mem_append.mpr ⟨gu_X14, fun _ h => nomatch h⟩⟩⟩
theorem hi_dm_X14_meet_X14 : ∀ w ∈ u_ws RX14 TX14 11, w ∈ ow_dm_X14_meet := fun w h => List.mem_cons_of_mem _ (List.mem_append_right _ (List.mem_append_left _ h))
def dj_X14_meet_17 (p : Program) (l : Launch) (e : Env) (s : State) (m : MethodId) (args : Array Value) (below : List Frame) (meth : Method) (c : Code) (Q : State → Prop) (A : Nat → Prop) (dC : Nat → ClassId) (dI : Nat → Nat → Nat) (a : Nat → Nat) (ac : Nat → ClassId) (g : (St) → Option (St)) (r : St) : Prop := ∀ (s0 : St) (H : Heap) (locs : List Loc) (ls : Array Slot), g s0 = some r → va_P (dC, dI) vwCl (dw_X14 a ac s0) H → va_D A (dw_X14 a ac s0) → va_S A s.heap H locs → lv_has ls 3 [] → W p l e (headSpec ow_dm_X14_meet ({ frames := 0, cells := 0, slots := 0, locals := 0 })).room s m args below meth c H locs 0 0 Q (F0 m 17 ls [])
def dj_X14_meet_0 (p : Program) (l : Launch) (e : Env) (s : State) (m : MethodId) (args : Array Value) (below : List Frame) (meth : Method) (c : Code) (Q : State → Prop) (A : Nat → Prop) (dC : Nat → ClassId) (dI : Nat → Nat → Nat) (a : Nat → Nat) (ac : Nat → ClassId) (g : Int32 → Int32 → (St) → Option (St)) (r : St) : Prop := ∀ (v0 : Int32) (v1 : Int32) (s0 : St) (H : Heap) (locs : List Loc) (ls : Array Slot), g v0 v1 s0 = some r → va_P (dC, dI) vwCl (dw_X14 a ac s0) H → va_D A (dw_X14 a ac s0) → va_S A s.heap H locs → lv_has ls 3 [(0, .ref (a 0)), (1, .int v0), (2, .int v1)] → W p l e (headSpec ow_dm_X14_meet ({ frames := 0, cells := 0, slots := 0, locals := 0 })).room s m args below meth c H locs 0 0 Q (F0 m 0 ls [])
set_option maxHeartbeats 40000000 in
set_option maxRecDepth 100000 in
theorem db_X14_meet_17 {p : Program} {l : Launch} {e : Env} {s : State} {m : MethodId} {args : Array Value} {below : List Frame} {meth : Method} {c : Code} {Q : State → Prop} {A : Nat → Prop} {dC : Nat → ClassId} {dI : Nat → Nat → Nat} {a : Nat → Nat} {ac : Nat → ClassId} {n : Nat} {r : St} (C : nd_C p l s m args c A (dC, dI) cX14_meet 3 RX14 ow_dm_X14_meet (dk_X14 ac)) (K : nd_Kv p l e (headSpec ow_dm_X14_meet ({ frames := 0, cells := 0, slots := 0, locals := 0 })).room s m args below meth c Q A (dC, dI) cX14_meet (St) (dw_X14 a ac) r) : dj_X14_meet_17 p l e s m args below meth c Q A dC dI a ac (df_X14_meet_17 n) r := by
  obtain ⟨hlt, hx, hb, hml, hown, hts, hN, hA, hK⟩ := id C
  intro s0 H locs ls h hP hD hS hl
  unfold df_X14_meet_17 at h
  exact K _ _ _ _ _ dX14_meet_17 (Option.some.inj h).symm hP hD hS
set_option maxHeartbeats 40000000 in
set_option maxRecDepth 100000 in
theorem db_X14_meet_0 {p : Program} {l : Launch} {e : Env} {s : State} {m : MethodId} {args : Array Value} {below : List Frame} {meth : Method} {c : Code} {Q : State → Prop} {A : Nat → Prop} {dC : Nat → ClassId} {dI : Nat → Nat → Nat} {a : Nat → Nat} {ac : Nat → ClassId} {n : Nat} {r : St} (C : nd_C p l s m args c A (dC, dI) cX14_meet 3 RX14 ow_dm_X14_meet (dk_X14 ac)) (K : nd_Kv p l e (headSpec ow_dm_X14_meet ({ frames := 0, cells := 0, slots := 0, locals := 0 })).room s m args below meth c Q A (dC, dI) cX14_meet (St) (dw_X14 a ac) r) : dj_X14_meet_0 p l e s m args below meth c Q A dC dI a ac (df_X14_meet_0 n) r := by
  obtain ⟨hlt, hx, hb, hml, hown, hts, hN, hA, hK⟩ := id C
  intro v0 v1 s0 H locs ls h hP hD hS hl
  unfold df_X14_meet_0 at h
  refine lv_aload_n hx hb dX14_meet_0 rfl (lv_at hl 0 rfl) ?_
  refine va_get (D := (dC, dI)) (ci := 15) (v := .int (sI s0 4)) (C := RX14) (T := TX14) (N := 11) hx hb hts hi_dm_X14_meet_X14 hown hK hP 0 rfl rfl 10 (by decide) (hts (.fieldLink RX14 65 "TimeMachineModel$Codec" "fault" "I") (List.mem_of_getElem? (i := 1) rfl)) (fun _ h9 => h9) rfl dX14_meet_1 ?_
  refine lv_if_ne (tgt := 17) hx hb dX14_meet_4 (by decide) (fun c1 => ?_) (fun c1 => ?_)
  · have h := nd_neg h c1
    exact (db_X14_meet_17 C K)  s0 _ _ _ h hP hD hS (lv_sub hl [] rfl)
  · have h := nd_pos h c1
    refine lv_aload_n hx hb dX14_meet_7 rfl (lv_at hl 0 rfl) ?_
    refine lv_iload_n hx hb dX14_meet_8 rfl (lv_at hl 1 rfl) ?_
    refine lv_bipush (v := 8) hx hb dX14_meet_9 (by decide) ?_
    refine lv_iload_n hx hb dX14_meet_11 rfl (lv_at hl 2 rfl) ?_
    refine lv_imul hx hb dX14_meet_12 ?_
    refine lv_iadd hx hb dX14_meet_13 ?_
    refine va_put (D := (dC, dI)) (ci := 15) (v := .int (v0 + (8 * v1))) (ty := .int) (C := RX14) (T := TX14) (N := 11) hx hb hts hi_dm_X14_meet_X14 tyX14 tyX14_ok nmX14 hown hK hP hD hS 0 rfl rfl 10 (by decide) (hts (.fieldLink RX14 65 "TimeMachineModel$Codec" "fault" "I") (List.mem_of_getElem? (i := 1) rfl)) (fun _ h9 => h9) rfl (by decide +kernel) rfl rfl (Nat.le_of_ble_eq_true rfl) dX14_meet_14 (fun H locs hP hD hS => ?_)
    obtain ⟨s2, es2, h⟩ := nd_let_e h
    have hP : va_P (dC, dI) vwCl (dw_X14 a ac s2) H := by rw [es2]; exact hP
    have hD : va_D A (dw_X14 a ac s2) := by rw [es2]; exact hD
    exact (db_X14_meet_17 C K)  s2 _ _ _ h hP hD hS (lv_sub hl [] rfl)
set_option maxHeartbeats 40000000 in
set_option maxRecDepth 100000 in
theorem dm_X14_meet (l : Launch) (hlt : l.stackTraces = false) (dC : Nat → ClassId) (dI : Nat → Nat → Nat) (a : Nat → Nat) (ac : Nat → ClassId) (n : Nat) (v0 : Int32) (v1 : Int32) (s0 : St) {r : St} (h : df_X14_meet n v0 v1 s0 = some r) (sz : Nat) : Met l yX14_meet ow_dm_X14_meet ({ frames := 0, cells := 0, slots := 0, locals := 0 }) (va_Pc [.ref (a 0), .int v0, .int v1] (fun U => U.heap.size = sz ∧ va_P (dC, dI) vwCl (dw_X14 a ac s0) U.heap ∧ va_K (dC, dI) vwCl (dk_X14 ac) U ∧ va_D (fun _ => True) (dw_X14 a ac s0) ∧ nv_E (va_A (dw_X14 a ac s0) sz) U)) (va_Qv (fun _ => True) (fun (_ : Unit) t => va_P (dC, dI) vwCl (dw_X14 a ac r) t.heap ∧ va_K (dC, dI) vwCl (dk_X14 ac) t ∧ va_D (va_A (dw_X14 a ac s0) sz) (dw_X14 a ac r)) (va_A (dw_X14 a ac s0) sz)) 0 0 (va_A (dw_X14 a ac s0) sz) := by
  refine Met.ofW (cc := cX14_meet) (maxL := 3) (ret := none) (by decide) rfl ?_
  intro p e s m args below meth c s₁ B hml hv
  obtain ⟨rfl, hsz, hP, hK, hD0, hN⟩ := hv
  have hx := B.exec
  have hb := B.bytes
  have hr := B.returns
  have hts := atoms_spec (ws := ow_dm_X14_meet) B.pre
  have hown : s.vm.findClass RX14 = some m.cls := findClass_of_methodNamed B.named
  have hlocks := B.notSynchronized
  subst hsz
  have hD := hD0.self (sz := s.heap.size)
  generalize hAe : va_A (dw_X14 a ac s0) s.heap.size = A at hD hN ⊢
  have hA : ∀ q : Nat, s.heap.size ≤ q → A q := fun q h => by rw [← hAe]; exact Or.inr h
  have hl := lv_entry ([.ref (a 0), .int v0, .int v1]) (n := 3) (Nat.le_of_ble_eq_true rfl)
  rw [lg_entry_eq]
  generalize (lg_sl ([.ref (a 0), .int v0, .int v1]) ++ List.replicate (3 - (lg_sl ([.ref (a 0), .int v0, .int v1])).length) Slot.unset).toArray = ls at hl ⊢
  have hl : lv_has ls 3 [(0, .ref (a 0)), (1, .int v0), (2, .int v1)] := hl
  exact db_X14_meet_0 (dC := dC) (dI := dI) (a := a) (ac := ac) (n := n) (r := r) ⟨hlt, hx, hb, hml, hown, hts, hN, hA, hK⟩ (fun pc τ H locs ls d er hP hD hS => by subst er; exact W.vret hx hb hr (fun t ht hW => ⟨⟨(), rfl, trivial, by rw [ht]; exact hP, va_K.moved hW.alike hK, hD⟩, hS.F ht⟩) hS.2.2 d) v0 v1 s0 _ _ _ h hP hD va_S.rf (lv_sub hl [0, 1, 2] rfl)
def ow_dm_X14_next : List Cond := .code yX14_next cX14_next 1 (some .int) :: ([.fieldLink RX14 68 "TimeMachineModel$Codec" "at" "I", .fieldLink RX14 71 "TimeMachineModel$Codec" "length" "I", .fieldLink RX14 65 "TimeMachineModel$Codec" "fault" "I", .fieldLink RX14 78 "TimeMachineModel$Codec" "log" "[I", .methodLink RX14 74 yX14_meet, .instanceMethod yX14_meet, .selects RX14 yX14_meet yX14_meet, .initialized RX14] ++ (u_ws RX14 TX14 11 ++ (ow_dm_X14_meet ++ [])))
theorem gd_dm_X14_next : ∀ w ∈ ow_dm_X14_next, (w.onTables && w.keeps) = true ∨ ∃ ty, w = Cond.arrayClass ty := List.forall_mem_cons.mpr ⟨good_of_word rfl, List.forall_mem_append.mpr ⟨fun w h => good_of_word (List.all_eq_true.mp (by decide +kernel) w h), List.forall_mem_append.mpr ⟨gu_X14, List.forall_mem_append.mpr ⟨gd_dm_X14_meet, fun _ h => nomatch h⟩⟩⟩⟩
theorem hi_dm_X14_next_X14 : ∀ w ∈ u_ws RX14 TX14 11, w ∈ ow_dm_X14_next := fun w h => List.mem_cons_of_mem _ (List.mem_append_right _ (List.mem_append_left _ h))
theorem gi_dm_X14_next_0 : GoodIn ow_dm_X14_next (wsV RX14 74 RX14 yX14_meet ow_dm_X14_meet) := goodIn_app (goodIn_of _ (by decide +kernel)) (fun w h => ⟨List.mem_cons_of_mem _ (List.mem_append_right _ (List.mem_append_right _ (List.mem_append_left _ h))), gd_dm_X14_meet w h⟩)
def dj_X14_next_52 (p : Program) (l : Launch) (e : Env) (s : State) (m : MethodId) (args : Array Value) (below : List Frame) (meth : Method) (c : Code) (Q : State → Prop) (A : Nat → Prop) (dC : Nat → ClassId) (dI : Nat → Nat → Nat) (a : Nat → Nat) (ac : Nat → ClassId) (g : Int32 → (St) → Option (Int32 × (St))) (r : Int32 × (St)) : Prop := ∀ (y0 : Int32) (s0 : St) (H : Heap) (locs : List Loc) (ls : Array Slot), g y0 s0 = some r → va_P (dC, dI) vwCl (dw_X14 a ac s0) H → va_D A (dw_X14 a ac s0) → va_S A s.heap H locs → lv_has ls 1 [] → W p l e (headSpec ow_dm_X14_next ({ frames := 1, cells := 0, slots := 0, locals := 22 })).room s m args below meth c H locs 0 0 Q (F0 m 52 ls [.int y0])
def dj_X14_next_20 (p : Program) (l : Launch) (e : Env) (s : State) (m : MethodId) (args : Array Value) (below : List Frame) (meth : Method) (c : Code) (Q : State → Prop) (A : Nat → Prop) (dC : Nat → ClassId) (dI : Nat → Nat → Nat) (a : Nat → Nat) (ac : Nat → ClassId) (g : (St) → Option (Int32 × (St))) (r : Int32 × (St)) : Prop := ∀ (s0 : St) (H : Heap) (locs : List Loc) (ls : Array Slot), g s0 = some r → va_P (dC, dI) vwCl (dw_X14 a ac s0) H → va_D A (dw_X14 a ac s0) → va_S A s.heap H locs → lv_has ls 1 [(0, .ref (a 0))] → W p l e (headSpec ow_dm_X14_next ({ frames := 1, cells := 0, slots := 0, locals := 22 })).room s m args below meth c H locs 0 0 Q (F0 m 20 ls [])
def dj_X14_next_0 (p : Program) (l : Launch) (e : Env) (s : State) (m : MethodId) (args : Array Value) (below : List Frame) (meth : Method) (c : Code) (Q : State → Prop) (A : Nat → Prop) (dC : Nat → ClassId) (dI : Nat → Nat → Nat) (a : Nat → Nat) (ac : Nat → ClassId) (g : (St) → Option (Int32 × (St))) (r : Int32 × (St)) : Prop := ∀ (s0 : St) (H : Heap) (locs : List Loc) (ls : Array Slot), g s0 = some r → va_P (dC, dI) vwCl (dw_X14 a ac s0) H → va_D A (dw_X14 a ac s0) → va_S A s.heap H locs → lv_has ls 1 [(0, .ref (a 0))] → W p l e (headSpec ow_dm_X14_next ({ frames := 1, cells := 0, slots := 0, locals := 22 })).room s m args below meth c H locs 0 0 Q (F0 m 0 ls [])
set_option maxHeartbeats 40000000 in
set_option maxRecDepth 100000 in
theorem db_X14_next_52 {p : Program} {l : Launch} {e : Env} {s : State} {m : MethodId} {args : Array Value} {below : List Frame} {meth : Method} {c : Code} {Q : State → Prop} {A : Nat → Prop} {dC : Nat → ClassId} {dI : Nat → Nat → Nat} {a : Nat → Nat} {ac : Nat → ClassId} {n : Nat} {r : Int32 × (St)} (C : nd_C p l s m args c A (dC, dI) cX14_next 1 RX14 ow_dm_X14_next (dk_X14 ac)) (K : nd_Ki p l e (headSpec ow_dm_X14_next ({ frames := 1, cells := 0, slots := 0, locals := 22 })).room s m args below meth c Q A (dC, dI) cX14_next .int (St) (dw_X14 a ac) r) : dj_X14_next_52 p l e s m args below meth c Q A dC dI a ac (df_X14_next_52 n) r := by
  obtain ⟨hlt, hx, hb, hml, hown, hts, hN, hA, hK⟩ := id C
  intro y0 s0 H locs ls h hP hD hS hl
  unfold df_X14_next_52 at h
  exact K _ _ _ _ _ _ dX14_next_52 rfl (Option.some.inj h).symm hP hD hS
set_option maxHeartbeats 40000000 in
set_option maxRecDepth 100000 in
theorem db_X14_next_20 {p : Program} {l : Launch} {e : Env} {s : State} {m : MethodId} {args : Array Value} {below : List Frame} {meth : Method} {c : Code} {Q : State → Prop} {A : Nat → Prop} {dC : Nat → ClassId} {dI : Nat → Nat → Nat} {a : Nat → Nat} {ac : Nat → ClassId} {n : Nat} {r : Int32 × (St)} (C : nd_C p l s m args c A (dC, dI) cX14_next 1 RX14 ow_dm_X14_next (dk_X14 ac)) (K : nd_Ki p l e (headSpec ow_dm_X14_next ({ frames := 1, cells := 0, slots := 0, locals := 22 })).room s m args below meth c Q A (dC, dI) cX14_next .int (St) (dw_X14 a ac) r) : dj_X14_next_20 p l e s m args below meth c Q A dC dI a ac (df_X14_next_20 n) r := by
  obtain ⟨hlt, hx, hb, hml, hown, hts, hN, hA, hK⟩ := id C
  intro s0 H locs ls h hP hD hS hl
  unfold df_X14_next_20 at h
  refine lv_aload_n hx hb dX14_next_20 rfl (lv_at hl 0 rfl) ?_
  refine lv_dup hx hb dX14_next_21 rfl ?_
  refine va_get (D := (dC, dI)) (ci := 15) (v := .int (sI s0 3)) (C := RX14) (T := TX14) (N := 11) hx hb hts hi_dm_X14_next_X14 hown hK hP 0 rfl rfl 9 (by decide) (hts (.fieldLink RX14 68 "TimeMachineModel$Codec" "at" "I") (List.mem_of_getElem? (i := 1) rfl)) (fun _ h9 => h9) rfl dX14_next_22 ?_
  refine lv_iconst (v := 1) hx hb dX14_next_25 (by decide) ?_
  refine lv_iadd hx hb dX14_next_26 ?_
  refine va_put (D := (dC, dI)) (ci := 15) (v := .int ((sI s0 3) + 1)) (ty := .int) (C := RX14) (T := TX14) (N := 11) hx hb hts hi_dm_X14_next_X14 tyX14 tyX14_ok nmX14 hown hK hP hD hS 0 rfl rfl 9 (by decide) (hts (.fieldLink RX14 68 "TimeMachineModel$Codec" "at" "I") (List.mem_of_getElem? (i := 1) rfl)) (fun _ h9 => h9) rfl (by decide +kernel) rfl rfl (Nat.le_of_ble_eq_true rfl) dX14_next_27 (fun H locs hP hD hS => ?_)
  obtain ⟨s2, es2, h⟩ := nd_let_e h
  have hP : va_P (dC, dI) vwCl (dw_X14 a ac s2) H := by rw [es2]; exact hP
  have hD : va_D A (dw_X14 a ac s2) := by rw [es2]; exact hD
  refine lv_aload_n hx hb dX14_next_30 rfl (lv_at hl 0 rfl) ?_
  refine va_get (D := (dC, dI)) (ci := 15) (v := .int (sI s2 4)) (C := RX14) (T := TX14) (N := 11) hx hb hts hi_dm_X14_next_X14 hown hK hP 0 rfl rfl 10 (by decide) (hts (.fieldLink RX14 65 "TimeMachineModel$Codec" "fault" "I") (List.mem_of_getElem? (i := 3) rfl)) (fun _ h9 => h9) rfl dX14_next_31 ?_
  refine lv_if_le (tgt := 41) hx hb dX14_next_34 (by decide) (fun c3 => ?_) (fun c3 => ?_)
  · have h := nd_pos h c3
    refine lv_aload_n hx hb dX14_next_41 rfl (lv_at hl 0 rfl) ?_
    obtain ⟨o4, h⟩ := nd_o_e h
    refine va_get (D := (dC, dI)) (ci := 15) (v := .ref (a 6)) (C := RX14) (T := TX14) (N := 11) hx hb hts hi_dm_X14_next_X14 hown hK hP 0 rfl rfl 7 (by decide) (hts (.fieldLink RX14 78 "TimeMachineModel$Codec" "log" "[I") (List.mem_of_getElem? (i := 4) rfl)) (fun _ h9 => h9) (congrArg (fun z => some (va_rf (Option.map a z))) o4) dX14_next_42 ?_
    refine lv_aload_n hx hb dX14_next_45 rfl (lv_at hl 0 rfl) ?_
    refine va_get (D := (dC, dI)) (ci := 15) (v := .int (sI s2 3)) (C := RX14) (T := TX14) (N := 11) hx hb hts hi_dm_X14_next_X14 hown hK hP 0 rfl rfl 9 (by decide) (hts (.fieldLink RX14 68 "TimeMachineModel$Codec" "at" "I") (List.mem_of_getElem? (i := 1) rfl)) (fun _ h9 => h9) rfl dX14_next_46 ?_
    refine lv_iconst (v := 1) hx hb dX14_next_49 (by decide) ?_
    refine lv_isub hx hb dX14_next_50 ?_
    obtain ⟨i5, h⟩ := nd_ck_e h
    refine va_iald (i := ((sI s2 3) - 1)) hx hb hK hP 6 5 rfl rfl i5 dX14_next_51 ?_
    exact (db_X14_next_52 C K) ((sR s2 3 (Int32.toNatClampNeg ((sI s2 3) - 1)))) s2 _ _ _ h hP hD hS (lv_sub hl [] rfl)
  · have h := nd_neg h c3
    refine lv_iconst (v := 0) hx hb dX14_next_37 (by decide) ?_
    refine lv_goto (tgt := 52) hx hb dX14_next_38 (by decide) ?_
    exact (db_X14_next_52 C K) (0) s2 _ _ _ h hP hD hS (lv_sub hl [] rfl)
set_option maxHeartbeats 40000000 in
set_option maxRecDepth 100000 in
theorem db_X14_next_0 {p : Program} {l : Launch} {e : Env} {s : State} {m : MethodId} {args : Array Value} {below : List Frame} {meth : Method} {c : Code} {Q : State → Prop} {A : Nat → Prop} {dC : Nat → ClassId} {dI : Nat → Nat → Nat} {a : Nat → Nat} {ac : Nat → ClassId} {n : Nat} {r : Int32 × (St)} (C : nd_C p l s m args c A (dC, dI) cX14_next 1 RX14 ow_dm_X14_next (dk_X14 ac)) (K : nd_Ki p l e (headSpec ow_dm_X14_next ({ frames := 1, cells := 0, slots := 0, locals := 22 })).room s m args below meth c Q A (dC, dI) cX14_next .int (St) (dw_X14 a ac) r) : dj_X14_next_0 p l e s m args below meth c Q A dC dI a ac (df_X14_next_0 n) r := by
  obtain ⟨hlt, hx, hb, hml, hown, hts, hN, hA, hK⟩ := id C
  intro s0 H locs ls h hP hD hS hl
  unfold df_X14_next_0 at h
  refine lv_aload_n hx hb dX14_next_0 rfl (lv_at hl 0 rfl) ?_
  refine va_get (D := (dC, dI)) (ci := 15) (v := .int (sI s0 3)) (C := RX14) (T := TX14) (N := 11) hx hb hts hi_dm_X14_next_X14 hown hK hP 0 rfl rfl 9 (by decide) (hts (.fieldLink RX14 68 "TimeMachineModel$Codec" "at" "I") (List.mem_of_getElem? (i := 1) rfl)) (fun _ h9 => h9) rfl dX14_next_1 ?_
  refine lv_aload_n hx hb dX14_next_4 rfl (lv_at hl 0 rfl) ?_
  refine va_get (D := (dC, dI)) (ci := 15) (v := .int (sI s0 2)) (C := RX14) (T := TX14) (N := 11) hx hb hts hi_dm_X14_next_X14 hown hK hP 0 rfl rfl 8 (by decide) (hts (.fieldLink RX14 71 "TimeMachineModel$Codec" "length" "I") (List.mem_of_getElem? (i := 2) rfl)) (fun _ h9 => h9) rfl dX14_next_5 ?_
  refine lv_icmp_lt (tgt := 20) hx hb dX14_next_8 (by decide) (fun c1 => ?_) (fun c1 => ?_)
  · have h := nd_pos h c1
    exact (db_X14_next_20 C K)  s0 _ _ _ h hP hD hS (lv_sub hl [0] rfl)
  · have h := nd_neg h c1
    refine lv_aload_n hx hb dX14_next_11 rfl (lv_at hl 0 rfl) ?_
    refine lv_iconst (v := 2) hx hb dX14_next_12 (by decide) ?_
    refine lv_aload_n hx hb dX14_next_13 rfl (lv_at hl 0 rfl) ?_
    refine va_get (D := (dC, dI)) (ci := 15) (v := .int (sI s0 2)) (C := RX14) (T := TX14) (N := 11) hx hb hts hi_dm_X14_next_X14 hown hK hP 0 rfl rfl 8 (by decide) (hts (.fieldLink RX14 71 "TimeMachineModel$Codec" "length" "I") (List.mem_of_getElem? (i := 2) rfl)) (fun _ h9 => h9) rfl dX14_next_14 ?_
    obtain ⟨s7, hq, h⟩ := nd_b1_e h
    have hPc := hP
    have hDc := hD
    have hKc := hK
    have hFc := nd_rs hD hS hA
    refine va_callv (va_runV (As := [.int 2, .int (sI s0 2)]) (rest := []) ⟨hx, hb, hml, hown, hts⟩ (dm_X14_meet l hlt dC dI a ac n (2) ((sI s0 2)) s0 hq _) (cwV 2 hts gi_dm_X14_next_0 rfl rfl rfl (by decide +kernel) ⟨Nat.le_of_ble_eq_true rfl, Nat.le_of_ble_eq_true rfl⟩) ⟨fun a U g mk q => by obtain ⟨q0, q1, qP, qK, qD, qN⟩ := q; exact ⟨q0, q1, qP, va_K.moved (u := U) (U := U.calling g mk a) (Vm.Alike.refl U.vm) qK, qD, nv_same rfl rfl qN⟩, va_recv hKc hPc (ci := 15) (q0 := 0) rfl rfl, fun U hU hW => ⟨rfl, by rw [hU], by rw [hU]; exact hPc, va_K.moved hW.alike hKc, hDc.weaken (fun _ _ _ _ => trivial), nv_call hS hFc hU hW hN⟩⟩ rfl rfl hl.1 rfl (lv_room (Nat.le_of_ble_eq_true rfl)) dX14_next_17 ⟨by decide +kernel, by decide +kernel⟩) hS (fun q _ h => hFc q h) hFc (fun u t H locs ht hvm hw hB hz1 hk1 hS => ?_)
    obtain ⟨hP1, -, hD1⟩ := hB
    rw [ht] at hP1
    have hP := hP1
    have hD := hD1.weaken (fun k q _ h => hFc q.1 h)
    refine W.widen (k := 0) (n := 0) (Nat.le_refl _) (Nat.le_refl _) ?_
    exact (db_X14_next_20 C K)  s7 _ _ _ h hP hD hS (lv_sub hl [0] rfl)
set_option maxHeartbeats 40000000 in
set_option maxRecDepth 100000 in
theorem dm_X14_next (l : Launch) (hlt : l.stackTraces = false) (dC : Nat → ClassId) (dI : Nat → Nat → Nat) (a : Nat → Nat) (ac : Nat → ClassId) (n : Nat) (s0 : St) {r : Int32 × (St)} (h : df_X14_next n s0 = some r) (sz : Nat) : Met l yX14_next ow_dm_X14_next ({ frames := 1, cells := 0, slots := 0, locals := 22 }) (va_Pc [.ref (a 0)] (fun U => U.heap.size = sz ∧ va_P (dC, dI) vwCl (dw_X14 a ac s0) U.heap ∧ va_K (dC, dI) vwCl (dk_X14 ac) U ∧ va_D (fun _ => True) (dw_X14 a ac s0) ∧ nv_E (va_A (dw_X14 a ac s0) sz) U)) (va_Qi (fun x _ => x = r.1) (fun (_ : Unit) t => va_P (dC, dI) vwCl (dw_X14 a ac r.2) t.heap ∧ va_K (dC, dI) vwCl (dk_X14 ac) t ∧ va_D (va_A (dw_X14 a ac s0) sz) (dw_X14 a ac r.2)) (va_A (dw_X14 a ac s0) sz)) 0 0 (va_A (dw_X14 a ac s0) sz) := by
  refine Met.ofW (cc := cX14_next) (maxL := 1) (ret := (some .int)) (by decide) rfl ?_
  intro p e s m args below meth c s₁ B hml hv
  obtain ⟨rfl, hsz, hP, hK, hD0, hN⟩ := hv
  have hx := B.exec
  have hb := B.bytes
  have hr := B.returns
  have hts := atoms_spec (ws := ow_dm_X14_next) B.pre
  have hown : s.vm.findClass RX14 = some m.cls := findClass_of_methodNamed B.named
  have hlocks := B.notSynchronized
  subst hsz
  have hD := hD0.self (sz := s.heap.size)
  generalize hAe : va_A (dw_X14 a ac s0) s.heap.size = A at hD hN ⊢
  have hA : ∀ q : Nat, s.heap.size ≤ q → A q := fun q h => by rw [← hAe]; exact Or.inr h
  have hl := lv_entry ([.ref (a 0)]) (n := 1) (Nat.le_of_ble_eq_true rfl)
  rw [lg_entry_eq]
  generalize (lg_sl ([.ref (a 0)]) ++ List.replicate (1 - (lg_sl ([.ref (a 0)])).length) Slot.unset).toArray = ls at hl ⊢
  have hl : lv_has ls 1 [(0, .ref (a 0))] := hl
  exact db_X14_next_0 (dC := dC) (dI := dI) (a := a) (ac := ac) (n := n) (r := r) ⟨hlt, hx, hb, hml, hown, hts, hN, hA, hK⟩ (fun pc v τ H locs ls d z er hP hD hS => by subst er; exact W.zret (v := v) hx hb hr z (fun t ht hW => ⟨⟨v, (), rfl, rfl, by rw [ht]; exact hP, va_K.moved hW.alike hK, hD⟩, hS.F ht⟩) hS.2.2 d) s0 _ _ _ h hP hD va_S.rf (lv_sub hl [0] rfl)
def ow_dm_X14_readVarint : List Cond := .code yX14_readVarint cX14_readVarint 5 (some .long) :: ([.constantLong RX14 85 (1099511627776), .fieldLink RX14 68 "TimeMachineModel$Codec" "at" "I", .methodLink RX14 74 yX14_meet, .instanceMethod yX14_meet, .selects RX14 yX14_meet yX14_meet, .initialized RX14, .fieldLink RX14 65 "TimeMachineModel$Codec" "fault" "I", .methodLink RX14 81 yX14_next, .instanceMethod yX14_next, .selects RX14 yX14_next yX14_next] ++ (u_ws RX14 TX14 11 ++ (ow_dm_X14_meet ++ (ow_dm_X14_next ++ []))))
theorem gd_dm_X14_readVarint : ∀ w ∈ ow_dm_X14_readVarint, (w.onTables && w.keeps) = true ∨ ∃ ty, w = Cond.arrayClass ty := List.forall_mem_cons.mpr ⟨good_of_word rfl, List.forall_mem_append.mpr ⟨fun w h => good_of_word (List.all_eq_true.mp (by decide +kernel) w h), List.forall_mem_append.mpr ⟨gu_X14, List.forall_mem_append.mpr ⟨gd_dm_X14_meet, List.forall_mem_append.mpr ⟨gd_dm_X14_next, fun _ h => nomatch h⟩⟩⟩⟩⟩
theorem hi_dm_X14_readVarint_X14 : ∀ w ∈ u_ws RX14 TX14 11, w ∈ ow_dm_X14_readVarint := fun w h => List.mem_cons_of_mem _ (List.mem_append_right _ (List.mem_append_left _ h))
theorem gi_dm_X14_readVarint_0 : GoodIn ow_dm_X14_readVarint (wsV RX14 74 RX14 yX14_meet ow_dm_X14_meet) := goodIn_app (goodIn_of _ (by decide +kernel)) (fun w h => ⟨List.mem_cons_of_mem _ (List.mem_append_right _ (List.mem_append_right _ (List.mem_append_left _ h))), gd_dm_X14_meet w h⟩)
theorem gi_dm_X14_readVarint_1 : GoodIn ow_dm_X14_readVarint (wsV RX14 81 RX14 yX14_next ow_dm_X14_next) := goodIn_app (goodIn_of _ (by decide +kernel)) (fun w h => ⟨List.mem_cons_of_mem _ (List.mem_append_right _ (List.mem_append_right _ (List.mem_append_right _ (List.mem_append_left _ h)))), gd_dm_X14_next w h⟩)
def dj_X14_readVarint_102 (p : Program) (l : Launch) (e : Env) (s : State) (m : MethodId) (args : Array Value) (below : List Frame) (meth : Method) (c : Code) (Q : State → Prop) (A : Nat → Prop) (dC : Nat → ClassId) (dI : Nat → Nat → Nat) (a : Nat → Nat) (ac : Nat → ClassId) (g : Int64 → (St) → Option (Int64 × (St))) (r : Int64 × (St)) : Prop := ∀ (x1 : Int64) (s0 : St) (H : Heap) (locs : List Loc) (ls : Array Slot), g x1 s0 = some r → va_P (dC, dI) vwCl (dw_X14 a ac s0) H → va_D A (dw_X14 a ac s0) → va_S A s.heap H locs → lv_has ls 5 [(1, .long x1)] → W p l e (headSpec ow_dm_X14_readVarint ({ frames := 2, cells := 0, slots := 0, locals := 42 })).room s m args below meth c H locs 0 0 Q (F0 m 102 ls [])
def dj_X14_readVarint_91 (p : Program) (l : Launch) (e : Env) (s : State) (m : MethodId) (args : Array Value) (below : List Frame) (meth : Method) (c : Code) (Q : State → Prop) (A : Nat → Prop) (dC : Nat → ClassId) (dI : Nat → Nat → Nat) (a : Nat → Nat) (ac : Nat → ClassId) (g : Int64 → (St) → Option (Int64 × (St))) (r : Int64 × (St)) : Prop := ∀ (x1 : Int64) (s0 : St) (H : Heap) (locs : List Loc) (ls : Array Slot), g x1 s0 = some r → va_P (dC, dI) vwCl (dw_X14 a ac s0) H → va_D A (dw_X14 a ac s0) → va_S A s.heap H locs → lv_has ls 5 [(0, .ref (a 0)), (1, .long x1)] → W p l e (headSpec ow_dm_X14_readVarint ({ frames := 2, cells := 0, slots := 0, locals := 42 })).room s m args below meth c H locs 0 0 Q (F0 m 91 ls [])
def dj_X14_readVarint_83 (p : Program) (l : Launch) (e : Env) (s : State) (m : MethodId) (args : Array Value) (below : List Frame) (meth : Method) (c : Code) (Q : State → Prop) (A : Nat → Prop) (dC : Nat → ClassId) (dI : Nat → Nat → Nat) (a : Nat → Nat) (ac : Nat → ClassId) (g : Int64 → (St) → Option (Int64 × (St))) (r : Int64 × (St)) : Prop := ∀ (x1 : Int64) (s0 : St) (H : Heap) (locs : List Loc) (ls : Array Slot), g x1 s0 = some r → va_P (dC, dI) vwCl (dw_X14 a ac s0) H → va_D A (dw_X14 a ac s0) → va_S A s.heap H locs → lv_has ls 5 [(0, .ref (a 0)), (1, .long x1)] → W p l e (headSpec ow_dm_X14_readVarint ({ frames := 2, cells := 0, slots := 0, locals := 42 })).room s m args below meth c H locs 0 0 Q (F0 m 83 ls [])
def dj_X14_readVarint_73 (p : Program) (l : Launch) (e : Env) (s : State) (m : MethodId) (args : Array Value) (below : List Frame) (meth : Method) (c : Code) (Q : State → Prop) (A : Nat → Prop) (dC : Nat → ClassId) (dI : Nat → Nat → Nat) (a : Nat → Nat) (ac : Nat → ClassId) (g : Int64 → Int32 → Int32 → (St) → Option (Int64 × (St))) (r : Int64 × (St)) : Prop := ∀ (x1 : Int64) (x3 : Int32) (x4 : Int32) (s0 : St) (H : Heap) (locs : List Loc) (ls : Array Slot), g x1 x3 x4 s0 = some r → va_P (dC, dI) vwCl (dw_X14 a ac s0) H → va_D A (dw_X14 a ac s0) → va_S A s.heap H locs → lv_has ls 5 [(0, .ref (a 0)), (1, .long x1), (3, .int x3), (4, .int x4)] → W p l e (headSpec ow_dm_X14_readVarint ({ frames := 2, cells := 0, slots := 0, locals := 42 })).room s m args below meth c H locs 0 0 Q (F0 m 73 ls [])
def dj_X14_readVarint_9 (p : Program) (l : Launch) (e : Env) (s : State) (m : MethodId) (args : Array Value) (below : List Frame) (meth : Method) (c : Code) (Q : State → Prop) (A : Nat → Prop) (dC : Nat → ClassId) (dI : Nat → Nat → Nat) (a : Nat → Nat) (ac : Nat → ClassId) (g : Int64 → Int32 → Int32 → (St) → Option (Int64 × (St))) (r : Int64 × (St)) : Prop := ∀ (x1 : Int64) (x3 : Int32) (x4 : Int32) (s0 : St) (H : Heap) (locs : List Loc) (ls : Array Slot), g x1 x3 x4 s0 = some r → va_P (dC, dI) vwCl (dw_X14 a ac s0) H → va_D A (dw_X14 a ac s0) → va_S A s.heap H locs → lv_has ls 5 [(0, .ref (a 0)), (1, .long x1), (3, .int x3), (4, .int x4)] → W p l e (headSpec ow_dm_X14_readVarint ({ frames := 2, cells := 0, slots := 0, locals := 42 })).room s m args below meth c H locs 0 0 Q (F0 m 9 ls [])
def dj_X14_readVarint_0 (p : Program) (l : Launch) (e : Env) (s : State) (m : MethodId) (args : Array Value) (below : List Frame) (meth : Method) (c : Code) (Q : State → Prop) (A : Nat → Prop) (dC : Nat → ClassId) (dI : Nat → Nat → Nat) (a : Nat → Nat) (ac : Nat → ClassId) (g : (St) → Option (Int64 × (St))) (r : Int64 × (St)) : Prop := ∀ (s0 : St) (H : Heap) (locs : List Loc) (ls : Array Slot), g s0 = some r → va_P (dC, dI) vwCl (dw_X14 a ac s0) H → va_D A (dw_X14 a ac s0) → va_S A s.heap H locs → lv_has ls 5 [(0, .ref (a 0))] → W p l e (headSpec ow_dm_X14_readVarint ({ frames := 2, cells := 0, slots := 0, locals := 42 })).room s m args below meth c H locs 0 0 Q (F0 m 0 ls [])
set_option maxHeartbeats 40000000 in
set_option maxRecDepth 100000 in
theorem db_X14_readVarint_102 {p : Program} {l : Launch} {e : Env} {s : State} {m : MethodId} {args : Array Value} {below : List Frame} {meth : Method} {c : Code} {Q : State → Prop} {A : Nat → Prop} {dC : Nat → ClassId} {dI : Nat → Nat → Nat} {a : Nat → Nat} {ac : Nat → ClassId} {n : Nat} {r : Int64 × (St)} (C : nd_C p l s m args c A (dC, dI) cX14_readVarint 5 RX14 ow_dm_X14_readVarint (dk_X14 ac)) (K : nd_Kl p l e (headSpec ow_dm_X14_readVarint ({ frames := 2, cells := 0, slots := 0, locals := 42 })).room s m args below meth c Q A (dC, dI) cX14_readVarint (St) (dw_X14 a ac) r) : dj_X14_readVarint_102 p l e s m args below meth c Q A dC dI a ac (df_X14_readVarint_102 n) r := by
  obtain ⟨hlt, hx, hb, hml, hown, hts, hN, hA, hK⟩ := id C
  intro x1 s0 H locs ls h hP hD hS hl
  unfold df_X14_readVarint_102 at h
  refine lv_lload_n hx hb dX14_readVarint_102 rfl (lv_at hl 0 rfl) ?_
  exact K _ _ _ _ _ _ dX14_readVarint_103 (Option.some.inj h).symm hP hD hS
set_option maxHeartbeats 40000000 in
set_option maxRecDepth 100000 in
theorem db_X14_readVarint_91 {p : Program} {l : Launch} {e : Env} {s : State} {m : MethodId} {args : Array Value} {below : List Frame} {meth : Method} {c : Code} {Q : State → Prop} {A : Nat → Prop} {dC : Nat → ClassId} {dI : Nat → Nat → Nat} {a : Nat → Nat} {ac : Nat → ClassId} {n : Nat} {r : Int64 × (St)} (C : nd_C p l s m args c A (dC, dI) cX14_readVarint 5 RX14 ow_dm_X14_readVarint (dk_X14 ac)) (K : nd_Kl p l e (headSpec ow_dm_X14_readVarint ({ frames := 2, cells := 0, slots := 0, locals := 42 })).room s m args below meth c Q A (dC, dI) cX14_readVarint (St) (dw_X14 a ac) r) : dj_X14_readVarint_91 p l e s m args below meth c Q A dC dI a ac (df_X14_readVarint_91 n) r := by
  obtain ⟨hlt, hx, hb, hml, hown, hts, hN, hA, hK⟩ := id C
  intro x1 s0 H locs ls h hP hD hS hl
  unfold df_X14_readVarint_91 at h
  refine lv_aload_n hx hb dX14_readVarint_91 rfl (lv_at hl 0 rfl) ?_
  refine lv_iconst (v := 3) hx hb dX14_readVarint_92 (by decide) ?_
  refine lv_aload_n hx hb dX14_readVarint_93 rfl (lv_at hl 0 rfl) ?_
  refine va_get (D := (dC, dI)) (ci := 15) (v := .int (sI s0 3)) (C := RX14) (T := TX14) (N := 11) hx hb hts hi_dm_X14_readVarint_X14 hown hK hP 0 rfl rfl 9 (by decide) (hts (.fieldLink RX14 68 "TimeMachineModel$Codec" "at" "I") (List.mem_of_getElem? (i := 2) rfl)) (fun _ h9 => h9) rfl dX14_readVarint_94 ?_
  refine lv_iconst (v := 1) hx hb dX14_readVarint_97 (by decide) ?_
  refine lv_isub hx hb dX14_readVarint_98 ?_
  obtain ⟨s5, hq, h⟩ := nd_b1_e h
  have hPc := hP
  have hDc := hD
  have hKc := hK
  have hFc := nd_rs hD hS hA
  refine va_callv (va_runV (As := [.int 3, .int ((sI s0 3) - 1)]) (rest := []) ⟨hx, hb, hml, hown, hts⟩ (dm_X14_meet l hlt dC dI a ac n (3) (((sI s0 3) - 1)) s0 hq _) (cwV 2 hts gi_dm_X14_readVarint_0 rfl rfl rfl (by decide +kernel) ⟨Nat.le_of_ble_eq_true rfl, Nat.le_of_ble_eq_true rfl⟩) ⟨fun a U g mk q => by obtain ⟨q0, q1, qP, qK, qD, qN⟩ := q; exact ⟨q0, q1, qP, va_K.moved (u := U) (U := U.calling g mk a) (Vm.Alike.refl U.vm) qK, qD, nv_same rfl rfl qN⟩, va_recv hKc hPc (ci := 15) (q0 := 0) rfl rfl, fun U hU hW => ⟨rfl, by rw [hU], by rw [hU]; exact hPc, va_K.moved hW.alike hKc, hDc.weaken (fun _ _ _ _ => trivial), nv_call hS hFc hU hW hN⟩⟩ rfl rfl hl.1 rfl (lv_room (Nat.le_of_ble_eq_true rfl)) dX14_readVarint_99 ⟨by decide +kernel, by decide +kernel⟩) hS (fun q _ h => hFc q h) hFc (fun u t H locs ht hvm hw hB hz1 hk1 hS => ?_)
  obtain ⟨hP1, -, hD1⟩ := hB
  rw [ht] at hP1
  have hP := hP1
  have hD := hD1.weaken (fun k q _ h => hFc q.1 h)
  refine W.widen (k := 0) (n := 0) (Nat.le_refl _) (Nat.le_refl _) ?_
  exact (db_X14_readVarint_102 C K) (x1) s5 _ _ _ h hP hD hS (lv_sub hl [1] rfl)
set_option maxHeartbeats 40000000 in
set_option maxRecDepth 100000 in
theorem db_X14_readVarint_83 {p : Program} {l : Launch} {e : Env} {s : State} {m : MethodId} {args : Array Value} {below : List Frame} {meth : Method} {c : Code} {Q : State → Prop} {A : Nat → Prop} {dC : Nat → ClassId} {dI : Nat → Nat → Nat} {a : Nat → Nat} {ac : Nat → ClassId} {n : Nat} {r : Int64 × (St)} (C : nd_C p l s m args c A (dC, dI) cX14_readVarint 5 RX14 ow_dm_X14_readVarint (dk_X14 ac)) (K : nd_Kl p l e (headSpec ow_dm_X14_readVarint ({ frames := 2, cells := 0, slots := 0, locals := 42 })).room s m args below meth c Q A (dC, dI) cX14_readVarint (St) (dw_X14 a ac) r) : dj_X14_readVarint_83 p l e s m args below meth c Q A dC dI a ac (df_X14_readVarint_83 n) r := by
  obtain ⟨hlt, hx, hb, hml, hown, hts, hN, hA, hK⟩ := id C
  intro x1 s0 H locs ls h hP hD hS hl
  unfold df_X14_readVarint_83 at h
  refine lv_lload_n hx hb dX14_readVarint_83 rfl (lv_at hl 1 rfl) ?_
  refine lv_ldc2 hx hb hown (hts (.constantLong RX14 85 (1099511627776)) (List.mem_of_getElem? (i := 1) rfl)) dX14_readVarint_84 ?_
  refine W.lcmp hx hb dX14_readVarint_87 ?_
  refine lv_if_le (tgt := 102) hx hb dX14_readVarint_88 (by decide) (fun c3 => ?_) (fun c3 => ?_)
  · have h := nd_pos h c3
    exact (db_X14_readVarint_102 C K) (x1) s0 _ _ _ h hP hD hS (lv_sub hl [1] rfl)
  · have h := nd_neg h c3
    exact (db_X14_readVarint_91 C K) (x1) s0 _ _ _ h hP hD hS (lv_sub hl [0, 1] rfl)
set_option maxHeartbeats 40000000 in
set_option maxRecDepth 100000 in
theorem db_X14_readVarint_73 {p : Program} {l : Launch} {e : Env} {s : State} {m : MethodId} {args : Array Value} {below : List Frame} {meth : Method} {c : Code} {Q : State → Prop} {A : Nat → Prop} {dC : Nat → ClassId} {dI : Nat → Nat → Nat} {a : Nat → Nat} {ac : Nat → ClassId} {n : Nat} {r : Int64 × (St)} (C : nd_C p l s m args c A (dC, dI) cX14_readVarint 5 RX14 ow_dm_X14_readVarint (dk_X14 ac)) (K : nd_Kl p l e (headSpec ow_dm_X14_readVarint ({ frames := 2, cells := 0, slots := 0, locals := 42 })).room s m args below meth c Q A (dC, dI) cX14_readVarint (St) (dw_X14 a ac) r) : dj_X14_readVarint_73 p l e s m args below meth c Q A dC dI a ac (df_X14_readVarint_73 n) r := by
  obtain ⟨hlt, hx, hb, hml, hown, hts, hN, hA, hK⟩ := id C
  intro x1 x3 x4 s0 H locs ls h hP hD hS hl
  unfold df_X14_readVarint_73 at h
  refine lv_iload_n hx hb dX14_readVarint_73 rfl (lv_at hl 2 rfl) ?_
  refine lv_iconst (v := 1) hx hb dX14_readVarint_74 (by decide) ?_
  refine lv_icmp_le (tgt := 83) hx hb dX14_readVarint_75 (by decide) (fun c2 => ?_) (fun c2 => ?_)
  · have h := nd_pos h c2
    exact (db_X14_readVarint_83 C K) (x1) s0 _ _ _ h hP hD hS (lv_sub hl [0, 1] rfl)
  · have h := nd_neg h c2
    refine lv_iload hx hb dX14_readVarint_78 (lv_at hl 3 rfl) ?_
    refine lv_if_eq (tgt := 91) hx hb dX14_readVarint_80 (by decide) (fun c7 => ?_) (fun c7 => ?_)
    · have h := nd_pos h c7
      exact (db_X14_readVarint_91 C K) (x1) s0 _ _ _ h hP hD hS (lv_sub hl [0, 1] rfl)
    · have h := nd_neg h c7
      exact (db_X14_readVarint_83 C K) (x1) s0 _ _ _ h hP hD hS (lv_sub hl [0, 1] rfl)
set_option maxHeartbeats 40000000 in
set_option maxRecDepth 100000 in
theorem dB_X14_readVarint_9 {p : Program} {l : Launch} {e : Env} {s : State} {m : MethodId} {args : Array Value} {below : List Frame} {meth : Method} {c : Code} {Q : State → Prop} {A : Nat → Prop} {dC : Nat → ClassId} {dI : Nat → Nat → Nat} {a : Nat → Nat} {ac : Nat → ClassId} {n : Nat} {r : Int64 × (St)} (C : nd_C p l s m args c A (dC, dI) cX14_readVarint 5 RX14 ow_dm_X14_readVarint (dk_X14 ac)) (K : nd_Kl p l e (headSpec ow_dm_X14_readVarint ({ frames := 2, cells := 0, slots := 0, locals := 42 })).room s m args below meth c Q A (dC, dI) cX14_readVarint (St) (dw_X14 a ac) r) {g9 : Int64 → Int32 → Int32 → (St) → Option (Int64 × (St))} (J9 : dj_X14_readVarint_9 p l e s m args below meth c Q A dC dI a ac g9 r) : dj_X14_readVarint_9 p l e s m args below meth c Q A dC dI a ac (dF_X14_readVarint_9 n g9) r := by
  obtain ⟨hlt, hx, hb, hml, hown, hts, hN, hA, hK⟩ := id C
  intro x1 x3 x4 s0 H locs ls h hP hD hS hl
  unfold dF_X14_readVarint_9 at h
  refine lv_iload hx hb dX14_readVarint_9 (lv_at hl 3 rfl) ?_
  refine lv_bipush (v := 127) hx hb dX14_readVarint_11 (by decide) ?_
  refine lv_icmp_le (tgt := 73) hx hb dX14_readVarint_13 (by decide) (fun c1 => ?_) (fun c1 => ?_)
  · have h := nd_pos h c1
    exact (db_X14_readVarint_73 C K) (x1) (x3) (x4) s0 _ _ _ h hP hD hS (lv_sub hl [0, 1, 2, 3] rfl)
  · have h := nd_neg h c1
    refine lv_aload_n hx hb dX14_readVarint_16 rfl (lv_at hl 0 rfl) ?_
    refine va_get (D := (dC, dI)) (ci := 15) (v := .int (sI s0 4)) (C := RX14) (T := TX14) (N := 11) hx hb hts hi_dm_X14_readVarint_X14 hown hK hP 0 rfl rfl 10 (by decide) (hts (.fieldLink RX14 65 "TimeMachineModel$Codec" "fault" "I") (List.mem_of_getElem? (i := 7) rfl)) (fun _ h9 => h9) rfl dX14_readVarint_17 ?_
    refine lv_if_ne (tgt := 73) hx hb dX14_readVarint_20 (by decide) (fun c8 => ?_) (fun c8 => ?_)
    · have h := nd_neg h c8
      exact (db_X14_readVarint_73 C K) (x1) (x3) (x4) s0 _ _ _ h hP hD hS (lv_sub hl [0, 1, 2, 3] rfl)
    · have h := nd_pos h c8
      refine lv_aload_n hx hb dX14_readVarint_23 rfl (lv_at hl 0 rfl) ?_
      obtain ⟨q9, s10, hq, h⟩ := nd_b2_e h
      have hPc := hP
      have hDc := hD
      have hKc := hK
      have hFc := nd_rs hD hS hA
      refine va_calli (va_runV (As := []) (rest := []) ⟨hx, hb, hml, hown, hts⟩ (dm_X14_next l hlt dC dI a ac n  s0 hq _) (cwV 0 hts gi_dm_X14_readVarint_1 rfl rfl rfl (by decide +kernel) ⟨Nat.le_of_ble_eq_true rfl, Nat.le_of_ble_eq_true rfl⟩) ⟨fun a U g mk q => by obtain ⟨q0, q1, qP, qK, qD, qN⟩ := q; exact ⟨q0, q1, qP, va_K.moved (u := U) (U := U.calling g mk a) (Vm.Alike.refl U.vm) qK, qD, nv_same rfl rfl qN⟩, va_recv hKc hPc (ci := 15) (q0 := 0) rfl rfl, fun U hU hW => ⟨rfl, by rw [hU], by rw [hU]; exact hPc, va_K.moved hW.alike hKc, hDc.weaken (fun _ _ _ _ => trivial), nv_call hS hFc hU hW hN⟩⟩ rfl rfl hl.1 rfl (lv_room (Nat.le_of_ble_eq_true rfl)) dX14_readVarint_24 ⟨by decide +kernel, by decide +kernel⟩) hS (fun q _ h => hFc q h) hFc (fun r11 u t H locs ht hvm hw hB hz1 hk1 hS => ?_)
      obtain rfl : q9 = r11 := Eq.symm hw
      obtain ⟨hP1, -, hD1⟩ := hB
      rw [ht] at hP1
      have hP := hP1
      have hD := hD1.weaken (fun k q _ h => hFc q.1 h)
      refine W.widen (k := 0) (n := 0) (Nat.le_refl _) (Nat.le_refl _) ?_
      refine lv_istore (lv' := [(4, .int q9), (0, .ref (a 0)), (1, .long x1), (3, .int x3)]) hx hb dX14_readVarint_27 hl (by decide) rfl (fun ls hl => ?_)
      refine lv_lload_n hx hb dX14_readVarint_29 rfl (lv_at hl 2 rfl) ?_
      refine lv_iload hx hb dX14_readVarint_30 (lv_at hl 0 rfl) ?_
      refine lv_bipush (v := 127) hx hb dX14_readVarint_32 (by decide) ?_
      refine lv_iand hx hb dX14_readVarint_34 ?_
      refine lv_i2l hx hb dX14_readVarint_35 rfl ?_
      refine lv_bipush (v := 7) hx hb dX14_readVarint_36 (by decide) ?_
      refine lv_iload_n hx hb dX14_readVarint_38 rfl (lv_at hl 3 rfl) ?_
      refine lv_imul hx hb dX14_readVarint_39 ?_
      refine lv_lshl hx hb dX14_readVarint_40 rfl ?_
      refine lv_lor hx hb dX14_readVarint_41 ?_
      refine lv_topl (fun z12 ez12 => ?_)
      have h := nd_at h ez12
      refine lv_lstore_n (lv' := [(1, .long z12), (4, .int q9), (0, .ref (a 0)), (3, .int x3)]) hx hb dX14_readVarint_42 rfl hl (by decide) rfl (fun ls hl => ?_)
      obtain ⟨z13, ez13, h⟩ := nd_let_e h
      refine lv_iinc (v := z13) (lv' := [(3, .int z13), (1, .long z12), (4, .int q9), (0, .ref (a 0))]) hx hb dX14_readVarint_43 hl (k := 3) rfl (by rw [ez13]) (by decide) rfl (fun ls hl => ?_)
      refine lv_iload_n hx hb dX14_readVarint_46 rfl (lv_at hl 0 rfl) ?_
      refine lv_bipush (v := 7) hx hb dX14_readVarint_47 (by decide) ?_
      refine lv_icmp_ne (tgt := 9) hx hb dX14_readVarint_49 (by decide) (fun c14 => ?_) (fun c14 => ?_)
      · have h := nd_neg h c14
        exact (J9) (z12) (z13) (q9) s10 _ _ _ h hP hD hS (lv_sub hl [3, 1, 0, 2] rfl)
      · have h := nd_pos h c14
        refine lv_iload hx hb dX14_readVarint_52 (lv_at hl 2 rfl) ?_
        refine lv_bipush (v := 127) hx hb dX14_readVarint_54 (by decide) ?_
        refine lv_icmp_le (tgt := 9) hx hb dX14_readVarint_56 (by decide) (fun c15 => ?_) (fun c15 => ?_)
        · have h := nd_pos h c15
          exact (J9) (z12) (z13) (q9) s10 _ _ _ h hP hD hS (lv_sub hl [3, 1, 0, 2] rfl)
        · have h := nd_neg h c15
          refine lv_aload_n hx hb dX14_readVarint_59 rfl (lv_at hl 3 rfl) ?_
          refine lv_iconst (v := 3) hx hb dX14_readVarint_60 (by decide) ?_
          refine lv_aload_n hx hb dX14_readVarint_61 rfl (lv_at hl 3 rfl) ?_
          refine va_get (D := (dC, dI)) (ci := 15) (v := .int (sI s10 3)) (C := RX14) (T := TX14) (N := 11) hx hb hts hi_dm_X14_readVarint_X14 hown hK hP 0 rfl rfl 9 (by decide) (hts (.fieldLink RX14 68 "TimeMachineModel$Codec" "at" "I") (List.mem_of_getElem? (i := 2) rfl)) (fun _ h9 => h9) rfl dX14_readVarint_62 ?_
          refine lv_iconst (v := 1) hx hb dX14_readVarint_65 (by decide) ?_
          refine lv_isub hx hb dX14_readVarint_66 ?_
          obtain ⟨s17, hq, h⟩ := nd_b1_e h
          have hPc := hP
          have hDc := hD
          have hKc := hK
          have hFc := nd_rs hD hS hA
          refine va_callv (va_runV (As := [.int 3, .int ((sI s10 3) - 1)]) (rest := []) ⟨hx, hb, hml, hown, hts⟩ (dm_X14_meet l hlt dC dI a ac n (3) (((sI s10 3) - 1)) s10 hq _) (cwV 2 hts gi_dm_X14_readVarint_0 rfl rfl rfl (by decide +kernel) ⟨Nat.le_of_ble_eq_true rfl, Nat.le_of_ble_eq_true rfl⟩) ⟨fun a U g mk q => by obtain ⟨q0, q1, qP, qK, qD, qN⟩ := q; exact ⟨q0, q1, qP, va_K.moved (u := U) (U := U.calling g mk a) (Vm.Alike.refl U.vm) qK, qD, nv_same rfl rfl qN⟩, va_recv hKc hPc (ci := 15) (q0 := 0) rfl rfl, fun U hU hW => ⟨rfl, by rw [hU], by rw [hU]; exact hPc, va_K.moved hW.alike hKc, hDc.weaken (fun _ _ _ _ => trivial), nv_call hS hFc hU hW hN⟩⟩ rfl rfl hl.1 rfl (lv_room (Nat.le_of_ble_eq_true rfl)) dX14_readVarint_67 ⟨by decide +kernel, by decide +kernel⟩) hS (fun q _ h => hFc q h) hFc (fun u t H locs ht hvm hw hB hz1 hk1 hS => ?_)
          obtain ⟨hP1, -, hD1⟩ := hB
          rw [ht] at hP1
          have hP := hP1
          have hD := hD1.weaken (fun k q _ h => hFc q.1 h)
          refine W.widen (k := 0) (n := 0) (Nat.le_refl _) (Nat.le_refl _) ?_
          refine lv_goto (tgt := 9) hx hb dX14_readVarint_70 (by decide) ?_
          exact (J9) (z12) (z13) (q9) s17 _ _ _ h hP hD hS (lv_sub hl [3, 1, 0, 2] rfl)
set_option maxHeartbeats 40000000 in
set_option maxRecDepth 100000 in
theorem db_X14_readVarint_9 {p : Program} {l : Launch} {e : Env} {s : State} {m : MethodId} {args : Array Value} {below : List Frame} {meth : Method} {c : Code} {Q : State → Prop} {A : Nat → Prop} {dC : Nat → ClassId} {dI : Nat → Nat → Nat} {a : Nat → Nat} {ac : Nat → ClassId} {n : Nat} {r : Int64 × (St)} (C : nd_C p l s m args c A (dC, dI) cX14_readVarint 5 RX14 ow_dm_X14_readVarint (dk_X14 ac)) (K : nd_Kl p l e (headSpec ow_dm_X14_readVarint ({ frames := 2, cells := 0, slots := 0, locals := 42 })).room s m args below meth c Q A (dC, dI) cX14_readVarint (St) (dw_X14 a ac) r) (k : Nat) : dj_X14_readVarint_9 p l e s m args below meth c Q A dC dI a ac (df_X14_readVarint_9 n k) r := by
  induction k with
  | zero => intro x1 x3 x4 s0 H locs ls h; exact nomatch (show (none : Option (Int64 × (St))) = some r from h)
  | succ k ih => exact dB_X14_readVarint_9 C K ih
set_option maxHeartbeats 40000000 in
set_option maxRecDepth 100000 in
theorem db_X14_readVarint_0 {p : Program} {l : Launch} {e : Env} {s : State} {m : MethodId} {args : Array Value} {below : List Frame} {meth : Method} {c : Code} {Q : State → Prop} {A : Nat → Prop} {dC : Nat → ClassId} {dI : Nat → Nat → Nat} {a : Nat → Nat} {ac : Nat → ClassId} {n : Nat} {r : Int64 × (St)} (C : nd_C p l s m args c A (dC, dI) cX14_readVarint 5 RX14 ow_dm_X14_readVarint (dk_X14 ac)) (K : nd_Kl p l e (headSpec ow_dm_X14_readVarint ({ frames := 2, cells := 0, slots := 0, locals := 42 })).room s m args below meth c Q A (dC, dI) cX14_readVarint (St) (dw_X14 a ac) r) : dj_X14_readVarint_0 p l e s m args below meth c Q A dC dI a ac (df_X14_readVarint_0 n) r := by
  obtain ⟨hlt, hx, hb, hml, hown, hts, hN, hA, hK⟩ := id C
  intro s0 H locs ls h hP hD hS hl
  unfold df_X14_readVarint_0 at h
  refine lv_lconst (v := 0) hx hb dX14_readVarint_0 (by decide) ?_
  refine lv_lstore_n (lv' := [(1, .long 0), (0, .ref (a 0))]) hx hb dX14_readVarint_1 rfl hl (by decide) rfl (fun ls hl => ?_)
  refine lv_iconst (v := 0) hx hb dX14_readVarint_2 (by decide) ?_
  refine lv_istore_n (lv' := [(3, .int 0), (1, .long 0), (0, .ref (a 0))]) hx hb dX14_readVarint_3 rfl hl (by decide) rfl (fun ls hl => ?_)
  refine lv_sipush (v := 128) hx hb dX14_readVarint_4 (by decide) ?_
  refine lv_istore (lv' := [(4, .int 128), (3, .int 0), (1, .long 0), (0, .ref (a 0))]) hx hb dX14_readVarint_7 hl (by decide) rfl (fun ls hl => ?_)
  exact (db_X14_readVarint_9 C K n) (0) (0) (128) s0 _ _ _ h hP hD hS (lv_sub hl [3, 2, 1, 0] rfl)
set_option maxHeartbeats 40000000 in
set_option maxRecDepth 100000 in
theorem dm_X14_readVarint (l : Launch) (hlt : l.stackTraces = false) (dC : Nat → ClassId) (dI : Nat → Nat → Nat) (a : Nat → Nat) (ac : Nat → ClassId) (n : Nat) (s0 : St) {r : Int64 × (St)} (h : df_X14_readVarint n s0 = some r) (sz : Nat) : Met l yX14_readVarint ow_dm_X14_readVarint ({ frames := 2, cells := 0, slots := 0, locals := 42 }) (va_Pc [.ref (a 0)] (fun U => U.heap.size = sz ∧ va_P (dC, dI) vwCl (dw_X14 a ac s0) U.heap ∧ va_K (dC, dI) vwCl (dk_X14 ac) U ∧ va_D (fun _ => True) (dw_X14 a ac s0) ∧ nv_E (va_A (dw_X14 a ac s0) sz) U)) (va_Ql (fun x _ => x = r.1) (fun (_ : Unit) t => va_P (dC, dI) vwCl (dw_X14 a ac r.2) t.heap ∧ va_K (dC, dI) vwCl (dk_X14 ac) t ∧ va_D (va_A (dw_X14 a ac s0) sz) (dw_X14 a ac r.2)) (va_A (dw_X14 a ac s0) sz)) 0 0 (va_A (dw_X14 a ac s0) sz) := by
  refine Met.ofW (cc := cX14_readVarint) (maxL := 5) (ret := (some .long)) (by decide) rfl ?_
  intro p e s m args below meth c s₁ B hml hv
  obtain ⟨rfl, hsz, hP, hK, hD0, hN⟩ := hv
  have hx := B.exec
  have hb := B.bytes
  have hr := B.returns
  have hts := atoms_spec (ws := ow_dm_X14_readVarint) B.pre
  have hown : s.vm.findClass RX14 = some m.cls := findClass_of_methodNamed B.named
  have hlocks := B.notSynchronized
  subst hsz
  have hD := hD0.self (sz := s.heap.size)
  generalize hAe : va_A (dw_X14 a ac s0) s.heap.size = A at hD hN ⊢
  have hA : ∀ q : Nat, s.heap.size ≤ q → A q := fun q h => by rw [← hAe]; exact Or.inr h
  have hl := lv_entry ([.ref (a 0)]) (n := 5) (Nat.le_of_ble_eq_true rfl)
  rw [lg_entry_eq]
  generalize (lg_sl ([.ref (a 0)]) ++ List.replicate (5 - (lg_sl ([.ref (a 0)])).length) Slot.unset).toArray = ls at hl ⊢
  have hl : lv_has ls 5 [(0, .ref (a 0))] := hl
  exact db_X14_readVarint_0 (dC := dC) (dI := dI) (a := a) (ac := ac) (n := n) (r := r) ⟨hlt, hx, hb, hml, hown, hts, hN, hA, hK⟩ (fun pc v τ H locs ls d er hP hD hS => by subst er; exact W.lret (v := v) hx hb hr (fun t ht hW => ⟨⟨v, (), rfl, rfl, by rw [ht]; exact hP, va_K.moved hW.alike hK, hD⟩, hS.F ht⟩) hS.2.2 d) s0 _ _ _ h hP hD va_S.rf (lv_sub hl [0] rfl)
def ow_dm_X14_before : List Cond := .code yX14_before cX14_before 7 (some .int) :: ([.fieldLink RX14 27 "TimeMachineModel$Codec" "events" "I", .fieldLink RX14 9 "TimeMachineModel$Codec" "kind" "[I"] ++ (u_ws RX14 TX14 11 ++ []))
theorem gd_dm_X14_before : ∀ w ∈ ow_dm_X14_before, (w.onTables && w.keeps) = true ∨ ∃ ty, w = Cond.arrayClass ty := List.forall_mem_cons.mpr ⟨good_of_word rfl, List.forall_mem_append.mpr ⟨fun w h => good_of_word (List.all_eq_true.mp (by decide +kernel) w h), List.forall_mem_append.mpr ⟨gu_X14, fun _ h => nomatch h⟩⟩⟩
theorem hi_dm_X14_before_X14 : ∀ w ∈ u_ws RX14 TX14 11, w ∈ ow_dm_X14_before := fun w h => List.mem_cons_of_mem _ (List.mem_append_right _ (List.mem_append_left _ h))
def dj_X14_before_59 (p : Program) (l : Launch) (e : Env) (s : State) (m : MethodId) (args : Array Value) (below : List Frame) (meth : Method) (c : Code) (Q : State → Prop) (A : Nat → Prop) (dC : Nat → ClassId) (dI : Nat → Nat → Nat) (a : Nat → Nat) (ac : Nat → ClassId) (g : Int32 → Int64 → Int32 → (St) → Option (Int32 × (St))) (r : Int32 × (St)) : Prop := ∀ (x1 : Int32) (x4 : Int64) (x6 : Int32) (s0 : St) (H : Heap) (locs : List Loc) (ls : Array Slot), g x1 x4 x6 s0 = some r → va_P (dC, dI) vwCl (dw_X14 a ac s0) H → va_D A (dw_X14 a ac s0) → va_S A s.heap H locs → lv_has ls 7 [(0, .ref (a 0)), (1, .int x1), (4, .long x4), (6, .int x6)] → W p l e (headSpec ow_dm_X14_before ({ frames := 0, cells := 0, slots := 0, locals := 0 })).room s m args below meth c H locs 0 0 Q (F0 m 59 ls [])
def dj_X14_before_36 (p : Program) (l : Launch) (e : Env) (s : State) (m : MethodId) (args : Array Value) (below : List Frame) (meth : Method) (c : Code) (Q : State → Prop) (A : Nat → Prop) (dC : Nat → ClassId) (dI : Nat → Nat → Nat) (a : Nat → Nat) (ac : Nat → ClassId) (g : Int32 → Int32 → Int64 → (St) → Option (Int32 × (St))) (r : Int32 × (St)) : Prop := ∀ (x1 : Int32) (x6 : Int32) (y0 : Int64) (s0 : St) (H : Heap) (locs : List Loc) (ls : Array Slot), g x1 x6 y0 s0 = some r → va_P (dC, dI) vwCl (dw_X14 a ac s0) H → va_D A (dw_X14 a ac s0) → va_S A s.heap H locs → lv_has ls 7 [(0, .ref (a 0)), (1, .int x1), (6, .int x6)] → W p l e (headSpec ow_dm_X14_before ({ frames := 0, cells := 0, slots := 0, locals := 0 })).room s m args below meth c H locs 0 0 Q (F0 m 36 ls [.long y0])
def dj_X14_before_11 (p : Program) (l : Launch) (e : Env) (s : State) (m : MethodId) (args : Array Value) (below : List Frame) (meth : Method) (c : Code) (Q : State → Prop) (A : Nat → Prop) (dC : Nat → ClassId) (dI : Nat → Nat → Nat) (a : Nat → Nat) (ac : Nat → ClassId) (g : Int32 → Int64 → Int32 → (St) → Option (Int32 × (St))) (r : Int32 × (St)) : Prop := ∀ (x1 : Int32) (x4 : Int64) (x6 : Int32) (s0 : St) (H : Heap) (locs : List Loc) (ls : Array Slot), g x1 x4 x6 s0 = some r → va_P (dC, dI) vwCl (dw_X14 a ac s0) H → va_D A (dw_X14 a ac s0) → va_S A s.heap H locs → lv_has ls 7 [(0, .ref (a 0)), (1, .int x1), (4, .long x4), (6, .int x6)] → W p l e (headSpec ow_dm_X14_before ({ frames := 0, cells := 0, slots := 0, locals := 0 })).room s m args below meth c H locs 0 0 Q (F0 m 11 ls [])
def dj_X14_before_0 (p : Program) (l : Launch) (e : Env) (s : State) (m : MethodId) (args : Array Value) (below : List Frame) (meth : Method) (c : Code) (Q : State → Prop) (A : Nat → Prop) (dC : Nat → ClassId) (dI : Nat → Nat → Nat) (a : Nat → Nat) (ac : Nat → ClassId) (g : Int32 → Int64 → (St) → Option (Int32 × (St))) (r : Int32 × (St)) : Prop := ∀ (v0 : Int32) (v1 : Int64) (s0 : St) (H : Heap) (locs : List Loc) (ls : Array Slot), g v0 v1 s0 = some r → va_P (dC, dI) vwCl (dw_X14 a ac s0) H → va_D A (dw_X14 a ac s0) → va_S A s.heap H locs → lv_has ls 7 [(0, .ref (a 0)), (1, .int v0), (2, .long v1)] → W p l e (headSpec ow_dm_X14_before ({ frames := 0, cells := 0, slots := 0, locals := 0 })).room s m args below meth c H locs 0 0 Q (F0 m 0 ls [])
set_option maxHeartbeats 40000000 in
set_option maxRecDepth 100000 in
theorem db_X14_before_59 {p : Program} {l : Launch} {e : Env} {s : State} {m : MethodId} {args : Array Value} {below : List Frame} {meth : Method} {c : Code} {Q : State → Prop} {A : Nat → Prop} {dC : Nat → ClassId} {dI : Nat → Nat → Nat} {a : Nat → Nat} {ac : Nat → ClassId} {n : Nat} {r : Int32 × (St)} (C : nd_C p l s m args c A (dC, dI) cX14_before 7 RX14 ow_dm_X14_before (dk_X14 ac)) (K : nd_Ki p l e (headSpec ow_dm_X14_before ({ frames := 0, cells := 0, slots := 0, locals := 0 })).room s m args below meth c Q A (dC, dI) cX14_before .int (St) (dw_X14 a ac) r) {g11 : Int32 → Int64 → Int32 → (St) → Option (Int32 × (St))} (J11 : dj_X14_before_11 p l e s m args below meth c Q A dC dI a ac g11 r) : dj_X14_before_59 p l e s m args below meth c Q A dC dI a ac (df_X14_before_59 n g11) r := by
  obtain ⟨hlt, hx, hb, hml, hown, hts, hN, hA, hK⟩ := id C
  intro x1 x4 x6 s0 H locs ls h hP hD hS hl
  unfold df_X14_before_59 at h
  obtain ⟨z7, ez7, h⟩ := nd_let_e h
  refine lv_iinc (v := z7) (lv' := [(6, .int z7), (0, .ref (a 0)), (1, .int x1), (4, .long x4)]) hx hb dX14_before_59 hl (k := 3) rfl (by rw [ez7]) (by decide) rfl (fun ls hl => ?_)
  refine lv_goto (tgt := 11) hx hb dX14_before_62 (by decide) ?_
  exact (J11) (x1) (x4) (z7) s0 _ _ _ h hP hD hS (lv_sub hl [1, 2, 3, 0] rfl)
set_option maxHeartbeats 40000000 in
set_option maxRecDepth 100000 in
theorem db_X14_before_36 {p : Program} {l : Launch} {e : Env} {s : State} {m : MethodId} {args : Array Value} {below : List Frame} {meth : Method} {c : Code} {Q : State → Prop} {A : Nat → Prop} {dC : Nat → ClassId} {dI : Nat → Nat → Nat} {a : Nat → Nat} {ac : Nat → ClassId} {n : Nat} {r : Int32 × (St)} (C : nd_C p l s m args c A (dC, dI) cX14_before 7 RX14 ow_dm_X14_before (dk_X14 ac)) (K : nd_Ki p l e (headSpec ow_dm_X14_before ({ frames := 0, cells := 0, slots := 0, locals := 0 })).room s m args below meth c Q A (dC, dI) cX14_before .int (St) (dw_X14 a ac) r) {g11 : Int32 → Int64 → Int32 → (St) → Option (Int32 × (St))} (J11 : dj_X14_before_11 p l e s m args below meth c Q A dC dI a ac g11 r) : dj_X14_before_36 p l e s m args below meth c Q A dC dI a ac (df_X14_before_36 n g11) r := by
  obtain ⟨hlt, hx, hb, hml, hown, hts, hN, hA, hK⟩ := id C
  intro x1 x6 y0 s0 H locs ls h hP hD hS hl
  unfold df_X14_before_36 at h
  refine lv_lstore (lv' := [(4, .long y0), (0, .ref (a 0)), (1, .int x1), (6, .int x6)]) hx hb dX14_before_36 hl (by decide) rfl (fun ls hl => ?_)
  refine lv_aload_n hx hb dX14_before_38 rfl (lv_at hl 1 rfl) ?_
  refine va_get (D := (dC, dI)) (ci := 15) (v := .ref (a 1)) (C := RX14) (T := TX14) (N := 11) hx hb hts hi_dm_X14_before_X14 hown hK hP 0 rfl rfl 1 (by decide) (hts (.fieldLink RX14 9 "TimeMachineModel$Codec" "kind" "[I") (List.mem_of_getElem? (i := 2) rfl)) (fun _ h9 => h9) rfl dX14_before_39 ?_
  refine lv_iload hx hb dX14_before_42 (lv_at hl 3 rfl) ?_
  obtain ⟨i5, h⟩ := nd_ck_e h
  refine va_iald (i := x6) hx hb hK hP 1 0 rfl rfl i5 dX14_before_44 ?_
  refine lv_iload_n hx hb dX14_before_45 rfl (lv_at hl 2 rfl) ?_
  refine lv_icmp_ne (tgt := 59) hx hb dX14_before_46 (by decide) (fun c6 => ?_) (fun c6 => ?_)
  · have h := nd_neg h c6
    exact (db_X14_before_59 C K J11) (x1) (y0) (x6) s0 _ _ _ h hP hD hS (lv_sub hl [1, 2, 0, 3] rfl)
  · have h := nd_pos h c6
    refine lv_lload hx hb dX14_before_49 (lv_at hl 0 rfl) ?_
    refine lv_lconst (v := 0) hx hb dX14_before_51 (by decide) ?_
    refine W.lcmp hx hb dX14_before_52 ?_
    refine lv_if_ne (tgt := 59) hx hb dX14_before_53 (by decide) (fun c8 => ?_) (fun c8 => ?_)
    · have h := nd_neg h c8
      exact (db_X14_before_59 C K J11) (x1) (y0) (x6) s0 _ _ _ h hP hD hS (lv_sub hl [1, 2, 0, 3] rfl)
    · have h := nd_pos h c8
      refine lv_iload hx hb dX14_before_56 (lv_at hl 3 rfl) ?_
      exact K _ _ _ _ _ _ dX14_before_58 rfl (Option.some.inj h).symm hP hD hS
set_option maxHeartbeats 40000000 in
set_option maxRecDepth 100000 in
theorem dB_X14_before_11 {p : Program} {l : Launch} {e : Env} {s : State} {m : MethodId} {args : Array Value} {below : List Frame} {meth : Method} {c : Code} {Q : State → Prop} {A : Nat → Prop} {dC : Nat → ClassId} {dI : Nat → Nat → Nat} {a : Nat → Nat} {ac : Nat → ClassId} {n : Nat} {r : Int32 × (St)} (C : nd_C p l s m args c A (dC, dI) cX14_before 7 RX14 ow_dm_X14_before (dk_X14 ac)) (K : nd_Ki p l e (headSpec ow_dm_X14_before ({ frames := 0, cells := 0, slots := 0, locals := 0 })).room s m args below meth c Q A (dC, dI) cX14_before .int (St) (dw_X14 a ac) r) {g11 : Int32 → Int64 → Int32 → (St) → Option (Int32 × (St))} (J11 : dj_X14_before_11 p l e s m args below meth c Q A dC dI a ac g11 r) : dj_X14_before_11 p l e s m args below meth c Q A dC dI a ac (dF_X14_before_11 n g11) r := by
  obtain ⟨hlt, hx, hb, hml, hown, hts, hN, hA, hK⟩ := id C
  intro x1 x4 x6 s0 H locs ls h hP hD hS hl
  unfold dF_X14_before_11 at h
  refine lv_iload hx hb dX14_before_11 (lv_at hl 3 rfl) ?_
  refine lv_if_lt (tgt := 65) hx hb dX14_before_13 (by decide) (fun c2 => ?_) (fun c2 => ?_)
  · have h := nd_pos h c2
    refine lv_iconst (v := (-1)) hx hb dX14_before_65 (by decide) ?_
    exact K _ _ _ _ _ _ dX14_before_66 rfl (Option.some.inj h).symm hP hD hS
  · have h := nd_neg h c2
    refine lv_aload_n hx hb dX14_before_16 rfl (lv_at hl 0 rfl) ?_
    refine va_get (D := (dC, dI)) (ci := 15) (v := .ref (a 1)) (C := RX14) (T := TX14) (N := 11) hx hb hts hi_dm_X14_before_X14 hown hK hP 0 rfl rfl 1 (by decide) (hts (.fieldLink RX14 9 "TimeMachineModel$Codec" "kind" "[I") (List.mem_of_getElem? (i := 2) rfl)) (fun _ h9 => h9) rfl dX14_before_17 ?_
    refine lv_iload hx hb dX14_before_20 (lv_at hl 3 rfl) ?_
    obtain ⟨i3, h⟩ := nd_ck_e h
    refine va_iald (i := x6) hx hb hK hP 1 0 rfl rfl i3 dX14_before_22 ?_
    refine lv_iload_n hx hb dX14_before_23 rfl (lv_at hl 1 rfl) ?_
    refine lv_icmp_ne (tgt := 34) hx hb dX14_before_24 (by decide) (fun c4 => ?_) (fun c4 => ?_)
    · have h := nd_neg h c4
      refine lv_lload hx hb dX14_before_34 (lv_at hl 2 rfl) ?_
      exact (db_X14_before_36 C K J11) (x1) (x6) (x4) s0 _ _ _ h hP hD hS (lv_sub hl [0, 1, 3] rfl)
    · have h := nd_pos h c4
      refine lv_lload hx hb dX14_before_27 (lv_at hl 2 rfl) ?_
      refine lv_lconst (v := 1) hx hb dX14_before_29 (by decide) ?_
      refine lv_lsub hx hb dX14_before_30 ?_
      refine lv_goto (tgt := 36) hx hb dX14_before_31 (by decide) ?_
      exact (db_X14_before_36 C K J11) (x1) (x6) (((x4 : Int64) - 1)) s0 _ _ _ h hP hD hS (lv_sub hl [0, 1, 3] rfl)
set_option maxHeartbeats 40000000 in
set_option maxRecDepth 100000 in
theorem db_X14_before_11 {p : Program} {l : Launch} {e : Env} {s : State} {m : MethodId} {args : Array Value} {below : List Frame} {meth : Method} {c : Code} {Q : State → Prop} {A : Nat → Prop} {dC : Nat → ClassId} {dI : Nat → Nat → Nat} {a : Nat → Nat} {ac : Nat → ClassId} {n : Nat} {r : Int32 × (St)} (C : nd_C p l s m args c A (dC, dI) cX14_before 7 RX14 ow_dm_X14_before (dk_X14 ac)) (K : nd_Ki p l e (headSpec ow_dm_X14_before ({ frames := 0, cells := 0, slots := 0, locals := 0 })).room s m args below meth c Q A (dC, dI) cX14_before .int (St) (dw_X14 a ac) r) (k : Nat) : dj_X14_before_11 p l e s m args below meth c Q A dC dI a ac (df_X14_before_11 n k) r := by
  induction k with
  | zero => intro x1 x4 x6 s0 H locs ls h; exact nomatch (show (none : Option (Int32 × (St))) = some r from h)
  | succ k ih => exact dB_X14_before_11 C K ih
set_option maxHeartbeats 40000000 in
set_option maxRecDepth 100000 in
theorem db_X14_before_0 {p : Program} {l : Launch} {e : Env} {s : State} {m : MethodId} {args : Array Value} {below : List Frame} {meth : Method} {c : Code} {Q : State → Prop} {A : Nat → Prop} {dC : Nat → ClassId} {dI : Nat → Nat → Nat} {a : Nat → Nat} {ac : Nat → ClassId} {n : Nat} {r : Int32 × (St)} (C : nd_C p l s m args c A (dC, dI) cX14_before 7 RX14 ow_dm_X14_before (dk_X14 ac)) (K : nd_Ki p l e (headSpec ow_dm_X14_before ({ frames := 0, cells := 0, slots := 0, locals := 0 })).room s m args below meth c Q A (dC, dI) cX14_before .int (St) (dw_X14 a ac) r) : dj_X14_before_0 p l e s m args below meth c Q A dC dI a ac (df_X14_before_0 n) r := by
  obtain ⟨hlt, hx, hb, hml, hown, hts, hN, hA, hK⟩ := id C
  intro v0 v1 s0 H locs ls h hP hD hS hl
  unfold df_X14_before_0 at h
  refine lv_lload_n hx hb dX14_before_0 rfl (lv_at hl 2 rfl) ?_
  refine lv_lstore (lv' := [(4, .long v1), (0, .ref (a 0)), (1, .int v0), (2, .long v1)]) hx hb dX14_before_1 hl (by decide) rfl (fun ls hl => ?_)
  refine lv_aload_n hx hb dX14_before_3 rfl (lv_at hl 1 rfl) ?_
  refine va_get (D := (dC, dI)) (ci := 15) (v := .int (sI s0 0)) (C := RX14) (T := TX14) (N := 11) hx hb hts hi_dm_X14_before_X14 hown hK hP 0 rfl rfl 0 (by decide) (hts (.fieldLink RX14 27 "TimeMachineModel$Codec" "events" "I") (List.mem_of_getElem? (i := 1) rfl)) (fun _ h9 => h9) rfl dX14_before_4 ?_
  refine lv_iconst (v := 1) hx hb dX14_before_7 (by decide) ?_
  refine lv_isub hx hb dX14_before_8 ?_
  refine lv_topi (fun z1 ez1 => ?_)
  have h := nd_at h ez1
  refine lv_istore (lv' := [(6, .int z1), (4, .long v1), (0, .ref (a 0)), (1, .int v0), (2, .long v1)]) hx hb dX14_before_9 hl (by decide) rfl (fun ls hl => ?_)
  exact (db_X14_before_11 C K n) (v0) (v1) (z1) s0 _ _ _ h hP hD hS (lv_sub hl [2, 3, 1, 0] rfl)
set_option maxHeartbeats 40000000 in
set_option maxRecDepth 100000 in
theorem dm_X14_before (l : Launch) (hlt : l.stackTraces = false) (dC : Nat → ClassId) (dI : Nat → Nat → Nat) (a : Nat → Nat) (ac : Nat → ClassId) (n : Nat) (v0 : Int32) (v1 : Int64) (s0 : St) {r : Int32 × (St)} (h : df_X14_before n v0 v1 s0 = some r) (sz : Nat) : Met l yX14_before ow_dm_X14_before ({ frames := 0, cells := 0, slots := 0, locals := 0 }) (va_Pc [.ref (a 0), .int v0, .long v1] (fun U => U.heap.size = sz ∧ va_P (dC, dI) vwCl (dw_X14 a ac s0) U.heap ∧ va_K (dC, dI) vwCl (dk_X14 ac) U ∧ va_D (fun _ => True) (dw_X14 a ac s0) ∧ nv_E (va_A (dw_X14 a ac s0) sz) U)) (va_Qi (fun x _ => x = r.1) (fun (_ : Unit) t => va_P (dC, dI) vwCl (dw_X14 a ac r.2) t.heap ∧ va_K (dC, dI) vwCl (dk_X14 ac) t ∧ va_D (va_A (dw_X14 a ac s0) sz) (dw_X14 a ac r.2)) (va_A (dw_X14 a ac s0) sz)) 0 0 (va_A (dw_X14 a ac s0) sz) := by
  refine Met.ofW (cc := cX14_before) (maxL := 7) (ret := (some .int)) (by decide) rfl ?_
  intro p e s m args below meth c s₁ B hml hv
  obtain ⟨rfl, hsz, hP, hK, hD0, hN⟩ := hv
  have hx := B.exec
  have hb := B.bytes
  have hr := B.returns
  have hts := atoms_spec (ws := ow_dm_X14_before) B.pre
  have hown : s.vm.findClass RX14 = some m.cls := findClass_of_methodNamed B.named
  have hlocks := B.notSynchronized
  subst hsz
  have hD := hD0.self (sz := s.heap.size)
  generalize hAe : va_A (dw_X14 a ac s0) s.heap.size = A at hD hN ⊢
  have hA : ∀ q : Nat, s.heap.size ≤ q → A q := fun q h => by rw [← hAe]; exact Or.inr h
  have hl := lv_entry ([.ref (a 0), .int v0, .long v1]) (n := 7) (Nat.le_of_ble_eq_true rfl)
  rw [lg_entry_eq]
  generalize (lg_sl ([.ref (a 0), .int v0, .long v1]) ++ List.replicate (7 - (lg_sl ([.ref (a 0), .int v0, .long v1])).length) Slot.unset).toArray = ls at hl ⊢
  have hl : lv_has ls 7 [(0, .ref (a 0)), (1, .int v0), (2, .long v1)] := hl
  exact db_X14_before_0 (dC := dC) (dI := dI) (a := a) (ac := ac) (n := n) (r := r) ⟨hlt, hx, hb, hml, hown, hts, hN, hA, hK⟩ (fun pc v τ H locs ls d z er hP hD hS => by subst er; exact W.zret (v := v) hx hb hr z (fun t ht hW => ⟨⟨v, (), rfl, rfl, by rw [ht]; exact hP, va_K.moved hW.alike hK, hD⟩, hS.F ht⟩) hS.2.2 d) v0 v1 s0 _ _ _ h hP hD va_S.rf (lv_sub hl [0, 1, 2] rfl)
def ow_dm_X14_readCount : List Cond := .code yX14_readCount cX14_readCount 4 (some .long) :: ([.fieldLink RX14 68 "TimeMachineModel$Codec" "at" "I", .methodLink RX14 87 yX14_readVarint, .instanceMethod yX14_readVarint, .selects RX14 yX14_readVarint yX14_readVarint, .initialized RX14, .fieldLink RX14 65 "TimeMachineModel$Codec" "fault" "I", .methodLink RX14 74 yX14_meet, .instanceMethod yX14_meet, .selects RX14 yX14_meet yX14_meet] ++ (u_ws RX14 TX14 11 ++ (ow_dm_X14_readVarint ++ (ow_dm_X14_meet ++ []))))
theorem gd_dm_X14_readCount : ∀ w ∈ ow_dm_X14_readCount, (w.onTables && w.keeps) = true ∨ ∃ ty, w = Cond.arrayClass ty := List.forall_mem_cons.mpr ⟨good_of_word rfl, List.forall_mem_append.mpr ⟨fun w h => good_of_word (List.all_eq_true.mp (by decide +kernel) w h), List.forall_mem_append.mpr ⟨gu_X14, List.forall_mem_append.mpr ⟨gd_dm_X14_readVarint, List.forall_mem_append.mpr ⟨gd_dm_X14_meet, fun _ h => nomatch h⟩⟩⟩⟩⟩
theorem hi_dm_X14_readCount_X14 : ∀ w ∈ u_ws RX14 TX14 11, w ∈ ow_dm_X14_readCount := fun w h => List.mem_cons_of_mem _ (List.mem_append_right _ (List.mem_append_left _ h))
theorem gi_dm_X14_readCount_0 : GoodIn ow_dm_X14_readCount (wsV RX14 87 RX14 yX14_readVarint ow_dm_X14_readVarint) := goodIn_app (goodIn_of _ (by decide +kernel)) (fun w h => ⟨List.mem_cons_of_mem _ (List.mem_append_right _ (List.mem_append_right _ (List.mem_append_left _ h))), gd_dm_X14_readVarint w h⟩)
theorem gi_dm_X14_readCount_1 : GoodIn ow_dm_X14_readCount (wsV RX14 74 RX14 yX14_meet ow_dm_X14_meet) := goodIn_app (goodIn_of _ (by decide +kernel)) (fun w h => ⟨List.mem_cons_of_mem _ (List.mem_append_right _ (List.mem_append_right _ (List.mem_append_right _ (List.mem_append_left _ h)))), gd_dm_X14_meet w h⟩)
def dj_X14_readCount_29 (p : Program) (l : Launch) (e : Env) (s : State) (m : MethodId) (args : Array Value) (below : List Frame) (meth : Method) (c : Code) (Q : State → Prop) (A : Nat → Prop) (dC : Nat → ClassId) (dI : Nat → Nat → Nat) (a : Nat → Nat) (ac : Nat → ClassId) (g : Int64 → (St) → Option (Int64 × (St))) (r : Int64 × (St)) : Prop := ∀ (x2 : Int64) (s0 : St) (H : Heap) (locs : List Loc) (ls : Array Slot), g x2 s0 = some r → va_P (dC, dI) vwCl (dw_X14 a ac s0) H → va_D A (dw_X14 a ac s0) → va_S A s.heap H locs → lv_has ls 4 [(2, .long x2)] → W p l e (headSpec ow_dm_X14_readCount ({ frames := 3, cells := 0, slots := 0, locals := 66 })).room s m args below meth c H locs 0 0 Q (F0 m 29 ls [])
def dj_X14_readCount_0 (p : Program) (l : Launch) (e : Env) (s : State) (m : MethodId) (args : Array Value) (below : List Frame) (meth : Method) (c : Code) (Q : State → Prop) (A : Nat → Prop) (dC : Nat → ClassId) (dI : Nat → Nat → Nat) (a : Nat → Nat) (ac : Nat → ClassId) (g : (St) → Option (Int64 × (St))) (r : Int64 × (St)) : Prop := ∀ (s0 : St) (H : Heap) (locs : List Loc) (ls : Array Slot), g s0 = some r → va_P (dC, dI) vwCl (dw_X14 a ac s0) H → va_D A (dw_X14 a ac s0) → va_S A s.heap H locs → lv_has ls 4 [(0, .ref (a 0))] → W p l e (headSpec ow_dm_X14_readCount ({ frames := 3, cells := 0, slots := 0, locals := 66 })).room s m args below meth c H locs 0 0 Q (F0 m 0 ls [])
set_option maxHeartbeats 40000000 in
set_option maxRecDepth 100000 in
theorem db_X14_readCount_29 {p : Program} {l : Launch} {e : Env} {s : State} {m : MethodId} {args : Array Value} {below : List Frame} {meth : Method} {c : Code} {Q : State → Prop} {A : Nat → Prop} {dC : Nat → ClassId} {dI : Nat → Nat → Nat} {a : Nat → Nat} {ac : Nat → ClassId} {n : Nat} {r : Int64 × (St)} (C : nd_C p l s m args c A (dC, dI) cX14_readCount 4 RX14 ow_dm_X14_readCount (dk_X14 ac)) (K : nd_Kl p l e (headSpec ow_dm_X14_readCount ({ frames := 3, cells := 0, slots := 0, locals := 66 })).room s m args below meth c Q A (dC, dI) cX14_readCount (St) (dw_X14 a ac) r) : dj_X14_readCount_29 p l e s m args below meth c Q A dC dI a ac (df_X14_readCount_29 n) r := by
  obtain ⟨hlt, hx, hb, hml, hown, hts, hN, hA, hK⟩ := id C
  intro x2 s0 H locs ls h hP hD hS hl
  unfold df_X14_readCount_29 at h
  refine lv_lload_n hx hb dX14_readCount_29 rfl (lv_at hl 0 rfl) ?_
  exact K _ _ _ _ _ _ dX14_readCount_30 (Option.some.inj h).symm hP hD hS
set_option maxHeartbeats 40000000 in
set_option maxRecDepth 100000 in
theorem db_X14_readCount_0 {p : Program} {l : Launch} {e : Env} {s : State} {m : MethodId} {args : Array Value} {below : List Frame} {meth : Method} {c : Code} {Q : State → Prop} {A : Nat → Prop} {dC : Nat → ClassId} {dI : Nat → Nat → Nat} {a : Nat → Nat} {ac : Nat → ClassId} {n : Nat} {r : Int64 × (St)} (C : nd_C p l s m args c A (dC, dI) cX14_readCount 4 RX14 ow_dm_X14_readCount (dk_X14 ac)) (K : nd_Kl p l e (headSpec ow_dm_X14_readCount ({ frames := 3, cells := 0, slots := 0, locals := 66 })).room s m args below meth c Q A (dC, dI) cX14_readCount (St) (dw_X14 a ac) r) : dj_X14_readCount_0 p l e s m args below meth c Q A dC dI a ac (df_X14_readCount_0 n) r := by
  obtain ⟨hlt, hx, hb, hml, hown, hts, hN, hA, hK⟩ := id C
  intro s0 H locs ls h hP hD hS hl
  unfold df_X14_readCount_0 at h
  refine lv_aload_n hx hb dX14_readCount_0 rfl (lv_at hl 0 rfl) ?_
  refine va_get (D := (dC, dI)) (ci := 15) (v := .int (sI s0 3)) (C := RX14) (T := TX14) (N := 11) hx hb hts hi_dm_X14_readCount_X14 hown hK hP 0 rfl rfl 9 (by decide) (hts (.fieldLink RX14 68 "TimeMachineModel$Codec" "at" "I") (List.mem_of_getElem? (i := 1) rfl)) (fun _ h9 => h9) rfl dX14_readCount_1 ?_
  refine lv_topi (fun z1 ez1 => ?_)
  have h := nd_at h ez1
  refine lv_istore_n (lv' := [(1, .int z1), (0, .ref (a 0))]) hx hb dX14_readCount_4 rfl hl (by decide) rfl (fun ls hl => ?_)
  refine lv_aload_n hx hb dX14_readCount_5 rfl (lv_at hl 1 rfl) ?_
  obtain ⟨q2, s3, hq, h⟩ := nd_b2_e h
  have hPc := hP
  have hDc := hD
  have hKc := hK
  have hFc := nd_rs hD hS hA
  refine va_calll (va_runV (As := []) (rest := []) ⟨hx, hb, hml, hown, hts⟩ (dm_X14_readVarint l hlt dC dI a ac n  s0 hq _) (cwV 0 hts gi_dm_X14_readCount_0 rfl rfl rfl (by decide +kernel) ⟨Nat.le_of_ble_eq_true rfl, Nat.le_of_ble_eq_true rfl⟩) ⟨fun a U g mk q => by obtain ⟨q0, q1, qP, qK, qD, qN⟩ := q; exact ⟨q0, q1, qP, va_K.moved (u := U) (U := U.calling g mk a) (Vm.Alike.refl U.vm) qK, qD, nv_same rfl rfl qN⟩, va_recv hKc hPc (ci := 15) (q0 := 0) rfl rfl, fun U hU hW => ⟨rfl, by rw [hU], by rw [hU]; exact hPc, va_K.moved hW.alike hKc, hDc.weaken (fun _ _ _ _ => trivial), nv_call hS hFc hU hW hN⟩⟩ rfl rfl hl.1 rfl (lv_room (Nat.le_of_ble_eq_true rfl)) dX14_readCount_6 ⟨by decide +kernel, by decide +kernel⟩) hS (fun q _ h => hFc q h) hFc (fun r4 u t H locs ht hvm hw hB hz1 hk1 hS => ?_)
  obtain rfl : q2 = r4 := Eq.symm hw
  obtain ⟨hP1, -, hD1⟩ := hB
  rw [ht] at hP1
  have hP := hP1
  have hD := hD1.weaken (fun k q _ h => hFc q.1 h)
  refine W.widen (k := 0) (n := 0) (Nat.le_refl _) (Nat.le_refl _) ?_
  refine lv_lstore_n (lv' := [(2, .long q2), (1, .int z1), (0, .ref (a 0))]) hx hb dX14_readCount_9 rfl hl (by decide) rfl (fun ls hl => ?_)
  refine lv_aload_n hx hb dX14_readCount_10 rfl (lv_at hl 2 rfl) ?_
  refine va_get (D := (dC, dI)) (ci := 15) (v := .int (sI s3 4)) (C := RX14) (T := TX14) (N := 11) hx hb hts hi_dm_X14_readCount_X14 hown hK hP 0 rfl rfl 10 (by decide) (hts (.fieldLink RX14 65 "TimeMachineModel$Codec" "fault" "I") (List.mem_of_getElem? (i := 6) rfl)) (fun _ h9 => h9) rfl dX14_readCount_11 ?_
  refine lv_if_ne (tgt := 29) hx hb dX14_readCount_14 (by decide) (fun c5 => ?_) (fun c5 => ?_)
  · have h := nd_neg h c5
    exact (db_X14_readCount_29 C K) (q2) s3 _ _ _ h hP hD hS (lv_sub hl [0] rfl)
  · have h := nd_pos h c5
    refine lv_lload_n hx hb dX14_readCount_17 rfl (lv_at hl 0 rfl) ?_
    refine lv_lconst (v := 0) hx hb dX14_readCount_18 (by decide) ?_
    refine W.lcmp hx hb dX14_readCount_19 ?_
    refine lv_if_ne (tgt := 29) hx hb dX14_readCount_20 (by decide) (fun c6 => ?_) (fun c6 => ?_)
    · have h := nd_neg h c6
      exact (db_X14_readCount_29 C K) (q2) s3 _ _ _ h hP hD hS (lv_sub hl [0] rfl)
    · have h := nd_pos h c6
      refine lv_aload_n hx hb dX14_readCount_23 rfl (lv_at hl 2 rfl) ?_
      refine lv_iconst (v := 5) hx hb dX14_readCount_24 (by decide) ?_
      refine lv_iload_n hx hb dX14_readCount_25 rfl (lv_at hl 1 rfl) ?_
      obtain ⟨s8, hq, h⟩ := nd_b1_e h
      have hPc := hP
      have hDc := hD
      have hKc := hK
      have hFc := nd_rs hD hS hA
      refine va_callv (va_runV (As := [.int 5, .int z1]) (rest := []) ⟨hx, hb, hml, hown, hts⟩ (dm_X14_meet l hlt dC dI a ac n (5) (z1) s3 hq _) (cwV 2 hts gi_dm_X14_readCount_1 rfl rfl rfl (by decide +kernel) ⟨Nat.le_of_ble_eq_true rfl, Nat.le_of_ble_eq_true rfl⟩) ⟨fun a U g mk q => by obtain ⟨q0, q1, qP, qK, qD, qN⟩ := q; exact ⟨q0, q1, qP, va_K.moved (u := U) (U := U.calling g mk a) (Vm.Alike.refl U.vm) qK, qD, nv_same rfl rfl qN⟩, va_recv hKc hPc (ci := 15) (q0 := 0) rfl rfl, fun U hU hW => ⟨rfl, by rw [hU], by rw [hU]; exact hPc, va_K.moved hW.alike hKc, hDc.weaken (fun _ _ _ _ => trivial), nv_call hS hFc hU hW hN⟩⟩ rfl rfl hl.1 rfl (lv_room (Nat.le_of_ble_eq_true rfl)) dX14_readCount_26 ⟨by decide +kernel, by decide +kernel⟩) hS (fun q _ h => hFc q h) hFc (fun u t H locs ht hvm hw hB hz1 hk1 hS => ?_)
      obtain ⟨hP1, -, hD1⟩ := hB
      rw [ht] at hP1
      have hP := hP1
      have hD := hD1.weaken (fun k q _ h => hFc q.1 h)
      refine W.widen (k := 0) (n := 0) (Nat.le_refl _) (Nat.le_refl _) ?_
      exact (db_X14_readCount_29 C K) (q2) s8 _ _ _ h hP hD hS (lv_sub hl [0] rfl)
set_option maxHeartbeats 40000000 in
set_option maxRecDepth 100000 in
theorem dm_X14_readCount (l : Launch) (hlt : l.stackTraces = false) (dC : Nat → ClassId) (dI : Nat → Nat → Nat) (a : Nat → Nat) (ac : Nat → ClassId) (n : Nat) (s0 : St) {r : Int64 × (St)} (h : df_X14_readCount n s0 = some r) (sz : Nat) : Met l yX14_readCount ow_dm_X14_readCount ({ frames := 3, cells := 0, slots := 0, locals := 66 }) (va_Pc [.ref (a 0)] (fun U => U.heap.size = sz ∧ va_P (dC, dI) vwCl (dw_X14 a ac s0) U.heap ∧ va_K (dC, dI) vwCl (dk_X14 ac) U ∧ va_D (fun _ => True) (dw_X14 a ac s0) ∧ nv_E (va_A (dw_X14 a ac s0) sz) U)) (va_Ql (fun x _ => x = r.1) (fun (_ : Unit) t => va_P (dC, dI) vwCl (dw_X14 a ac r.2) t.heap ∧ va_K (dC, dI) vwCl (dk_X14 ac) t ∧ va_D (va_A (dw_X14 a ac s0) sz) (dw_X14 a ac r.2)) (va_A (dw_X14 a ac s0) sz)) 0 0 (va_A (dw_X14 a ac s0) sz) := by
  refine Met.ofW (cc := cX14_readCount) (maxL := 4) (ret := (some .long)) (by decide) rfl ?_
  intro p e s m args below meth c s₁ B hml hv
  obtain ⟨rfl, hsz, hP, hK, hD0, hN⟩ := hv
  have hx := B.exec
  have hb := B.bytes
  have hr := B.returns
  have hts := atoms_spec (ws := ow_dm_X14_readCount) B.pre
  have hown : s.vm.findClass RX14 = some m.cls := findClass_of_methodNamed B.named
  have hlocks := B.notSynchronized
  subst hsz
  have hD := hD0.self (sz := s.heap.size)
  generalize hAe : va_A (dw_X14 a ac s0) s.heap.size = A at hD hN ⊢
  have hA : ∀ q : Nat, s.heap.size ≤ q → A q := fun q h => by rw [← hAe]; exact Or.inr h
  have hl := lv_entry ([.ref (a 0)]) (n := 4) (Nat.le_of_ble_eq_true rfl)
  rw [lg_entry_eq]
  generalize (lg_sl ([.ref (a 0)]) ++ List.replicate (4 - (lg_sl ([.ref (a 0)])).length) Slot.unset).toArray = ls at hl ⊢
  have hl : lv_has ls 4 [(0, .ref (a 0))] := hl
  exact db_X14_readCount_0 (dC := dC) (dI := dI) (a := a) (ac := ac) (n := n) (r := r) ⟨hlt, hx, hb, hml, hown, hts, hN, hA, hK⟩ (fun pc v τ H locs ls d er hP hD hS => by subst er; exact W.lret (v := v) hx hb hr (fun t ht hW => ⟨⟨v, (), rfl, rfl, by rw [ht]; exact hP, va_K.moved hW.alike hK, hD⟩, hS.F ht⟩) hS.2.2 d) s0 _ _ _ h hP hD va_S.rf (lv_sub hl [0] rfl)
def ow_dm_X14_readRun : List Cond := .code yX14_readRun cX14_readRun 8 none :: ([.fieldLink RX14 27 "TimeMachineModel$Codec" "events" "I", .fieldLink RX14 65 "TimeMachineModel$Codec" "fault" "I", .methodLink RX14 91 yX14_readCount, .instanceMethod yX14_readCount, .selects RX14 yX14_readCount yX14_readCount, .initialized RX14, .fieldLink RX14 9 "TimeMachineModel$Codec" "kind" "[I", .fieldLink RX14 16 "TimeMachineModel$Codec" "difference" "[J", .fieldLink RX14 20 "TimeMachineModel$Codec" "a" "[J", .fieldLink RX14 13 "TimeMachineModel$Codec" "b" "[I", .methodLink RX14 94 yX14_take, .instanceMethod yX14_take, .selects RX14 yX14_take yX14_take, .methodLink RX14 74 yX14_meet, .instanceMethod yX14_meet, .selects RX14 yX14_meet yX14_meet] ++ (u_ws RX14 TX14 11 ++ (ow_dm_X14_readCount ++ (ow_dm_X14_take ++ (ow_dm_X14_meet ++ [])))))
theorem gd_dm_X14_readRun : ∀ w ∈ ow_dm_X14_readRun, (w.onTables && w.keeps) = true ∨ ∃ ty, w = Cond.arrayClass ty := List.forall_mem_cons.mpr ⟨good_of_word rfl, List.forall_mem_append.mpr ⟨fun w h => good_of_word (List.all_eq_true.mp (by decide +kernel) w h), List.forall_mem_append.mpr ⟨gu_X14, List.forall_mem_append.mpr ⟨gd_dm_X14_readCount, List.forall_mem_append.mpr ⟨gd_dm_X14_take, List.forall_mem_append.mpr ⟨gd_dm_X14_meet, fun _ h => nomatch h⟩⟩⟩⟩⟩⟩
theorem hi_dm_X14_readRun_X14 : ∀ w ∈ u_ws RX14 TX14 11, w ∈ ow_dm_X14_readRun := fun w h => List.mem_cons_of_mem _ (List.mem_append_right _ (List.mem_append_left _ h))
theorem gi_dm_X14_readRun_0 : GoodIn ow_dm_X14_readRun (wsV RX14 91 RX14 yX14_readCount ow_dm_X14_readCount) := goodIn_app (goodIn_of _ (by decide +kernel)) (fun w h => ⟨List.mem_cons_of_mem _ (List.mem_append_right _ (List.mem_append_right _ (List.mem_append_left _ h))), gd_dm_X14_readCount w h⟩)
theorem gi_dm_X14_readRun_1 : GoodIn ow_dm_X14_readRun (wsV RX14 94 RX14 yX14_take ow_dm_X14_take) := goodIn_app (goodIn_of _ (by decide +kernel)) (fun w h => ⟨List.mem_cons_of_mem _ (List.mem_append_right _ (List.mem_append_right _ (List.mem_append_right _ (List.mem_append_left _ h)))), gd_dm_X14_take w h⟩)
theorem gi_dm_X14_readRun_2 : GoodIn ow_dm_X14_readRun (wsV RX14 74 RX14 yX14_meet ow_dm_X14_meet) := goodIn_app (goodIn_of _ (by decide +kernel)) (fun w h => ⟨List.mem_cons_of_mem _ (List.mem_append_right _ (List.mem_append_right _ (List.mem_append_right _ (List.mem_append_right _ (List.mem_append_left _ h))))), gd_dm_X14_meet w h⟩)
def dj_X14_readRun_156 (p : Program) (l : Launch) (e : Env) (s : State) (m : MethodId) (args : Array Value) (below : List Frame) (meth : Method) (c : Code) (Q : State → Prop) (A : Nat → Prop) (dC : Nat → ClassId) (dI : Nat → Nat → Nat) (a : Nat → Nat) (ac : Nat → ClassId) (g : (St) → Option (St)) (r : St) : Prop := ∀ (s0 : St) (H : Heap) (locs : List Loc) (ls : Array Slot), g s0 = some r → va_P (dC, dI) vwCl (dw_X14 a ac s0) H → va_D A (dw_X14 a ac s0) → va_S A s.heap H locs → lv_has ls 8 [] → W p l e (headSpec ow_dm_X14_readRun ({ frames := 4, cells := 0, slots := 0, locals := 89 })).room s m args below meth c H locs 0 0 Q (F0 m 156 ls [])
def dj_X14_readRun_84 (p : Program) (l : Launch) (e : Env) (s : State) (m : MethodId) (args : Array Value) (below : List Frame) (meth : Method) (c : Code) (Q : State → Prop) (A : Nat → Prop) (dC : Nat → ClassId) (dI : Nat → Nat → Nat) (a : Nat → Nat) (ac : Nat → ClassId) (g : Int64 → Int64 → (St) → Option (St)) (r : St) : Prop := ∀ (x4 : Int64) (x6 : Int64) (s0 : St) (H : Heap) (locs : List Loc) (ls : Array Slot), g x4 x6 s0 = some r → va_P (dC, dI) vwCl (dw_X14 a ac s0) H → va_D A (dw_X14 a ac s0) → va_S A s.heap H locs → lv_has ls 8 [(0, .ref (a 0)), (4, .long x4), (6, .long x6)] → W p l e (headSpec ow_dm_X14_readRun ({ frames := 4, cells := 0, slots := 0, locals := 89 })).room s m args below meth c H locs 0 0 Q (F0 m 84 ls [])
def dj_X14_readRun_81 (p : Program) (l : Launch) (e : Env) (s : State) (m : MethodId) (args : Array Value) (below : List Frame) (meth : Method) (c : Code) (Q : State → Prop) (A : Nat → Prop) (dC : Nat → ClassId) (dI : Nat → Nat → Nat) (a : Nat → Nat) (ac : Nat → ClassId) (g : Int64 → (St) → Option (St)) (r : St) : Prop := ∀ (x4 : Int64) (s0 : St) (H : Heap) (locs : List Loc) (ls : Array Slot), g x4 s0 = some r → va_P (dC, dI) vwCl (dw_X14 a ac s0) H → va_D A (dw_X14 a ac s0) → va_S A s.heap H locs → lv_has ls 8 [(0, .ref (a 0)), (4, .long x4)] → W p l e (headSpec ow_dm_X14_readRun ({ frames := 4, cells := 0, slots := 0, locals := 89 })).room s m args below meth c H locs 0 0 Q (F0 m 81 ls [])
def dj_X14_readRun_51 (p : Program) (l : Launch) (e : Env) (s : State) (m : MethodId) (args : Array Value) (below : List Frame) (meth : Method) (c : Code) (Q : State → Prop) (A : Nat → Prop) (dC : Nat → ClassId) (dI : Nat → Nat → Nat) (a : Nat → Nat) (ac : Nat → ClassId) (g : Int32 → Int32 → Int64 → (St) → Option (St)) (r : St) : Prop := ∀ (x2 : Int32) (x3 : Int32) (y0 : Int64) (s0 : St) (H : Heap) (locs : List Loc) (ls : Array Slot), g x2 x3 y0 s0 = some r → va_P (dC, dI) vwCl (dw_X14 a ac s0) H → va_D A (dw_X14 a ac s0) → va_S A s.heap H locs → lv_has ls 8 [(0, .ref (a 0)), (2, .int x2), (3, .int x3)] → W p l e (headSpec ow_dm_X14_readRun ({ frames := 4, cells := 0, slots := 0, locals := 89 })).room s m args below meth c H locs 0 0 Q (F0 m 51 ls [.long y0])
def dj_X14_readRun_26 (p : Program) (l : Launch) (e : Env) (s : State) (m : MethodId) (args : Array Value) (below : List Frame) (meth : Method) (c : Code) (Q : State → Prop) (A : Nat → Prop) (dC : Nat → ClassId) (dI : Nat → Nat → Nat) (a : Nat → Nat) (ac : Nat → ClassId) (g : Int32 → Int32 → Int32 → (St) → Option (St)) (r : St) : Prop := ∀ (x1 : Int32) (x2 : Int32) (x3 : Int32) (s0 : St) (H : Heap) (locs : List Loc) (ls : Array Slot), g x1 x2 x3 s0 = some r → va_P (dC, dI) vwCl (dw_X14 a ac s0) H → va_D A (dw_X14 a ac s0) → va_S A s.heap H locs → lv_has ls 8 [(0, .ref (a 0)), (1, .int x1), (2, .int x2), (3, .int x3)] → W p l e (headSpec ow_dm_X14_readRun ({ frames := 4, cells := 0, slots := 0, locals := 89 })).room s m args below meth c H locs 0 0 Q (F0 m 26 ls [])
def dj_X14_readRun_13 (p : Program) (l : Launch) (e : Env) (s : State) (m : MethodId) (args : Array Value) (below : List Frame) (meth : Method) (c : Code) (Q : State → Prop) (A : Nat → Prop) (dC : Nat → ClassId) (dI : Nat → Nat → Nat) (a : Nat → Nat) (ac : Nat → ClassId) (g : Int32 → Int32 → Int32 → (St) → Option (St)) (r : St) : Prop := ∀ (x1 : Int32) (x2 : Int32) (x3 : Int32) (s0 : St) (H : Heap) (locs : List Loc) (ls : Array Slot), g x1 x2 x3 s0 = some r → va_P (dC, dI) vwCl (dw_X14 a ac s0) H → va_D A (dw_X14 a ac s0) → va_S A s.heap H locs → lv_has ls 8 [(0, .ref (a 0)), (1, .int x1), (2, .int x2), (3, .int x3)] → W p l e (headSpec ow_dm_X14_readRun ({ frames := 4, cells := 0, slots := 0, locals := 89 })).room s m args below meth c H locs 0 0 Q (F0 m 13 ls [])
def dj_X14_readRun_0 (p : Program) (l : Launch) (e : Env) (s : State) (m : MethodId) (args : Array Value) (below : List Frame) (meth : Method) (c : Code) (Q : State → Prop) (A : Nat → Prop) (dC : Nat → ClassId) (dI : Nat → Nat → Nat) (a : Nat → Nat) (ac : Nat → ClassId) (g : Int32 → Int32 → Int32 → (St) → Option (St)) (r : St) : Prop := ∀ (v0 : Int32) (v1 : Int32) (v2 : Int32) (s0 : St) (H : Heap) (locs : List Loc) (ls : Array Slot), g v0 v1 v2 s0 = some r → va_P (dC, dI) vwCl (dw_X14 a ac s0) H → va_D A (dw_X14 a ac s0) → va_S A s.heap H locs → lv_has ls 8 [(0, .ref (a 0)), (1, .int v0), (2, .int v1), (3, .int v2)] → W p l e (headSpec ow_dm_X14_readRun ({ frames := 4, cells := 0, slots := 0, locals := 89 })).room s m args below meth c H locs 0 0 Q (F0 m 0 ls [])
set_option maxHeartbeats 40000000 in
set_option maxRecDepth 100000 in
theorem db_X14_readRun_156 {p : Program} {l : Launch} {e : Env} {s : State} {m : MethodId} {args : Array Value} {below : List Frame} {meth : Method} {c : Code} {Q : State → Prop} {A : Nat → Prop} {dC : Nat → ClassId} {dI : Nat → Nat → Nat} {a : Nat → Nat} {ac : Nat → ClassId} {n : Nat} {r : St} (C : nd_C p l s m args c A (dC, dI) cX14_readRun 8 RX14 ow_dm_X14_readRun (dk_X14 ac)) (K : nd_Kv p l e (headSpec ow_dm_X14_readRun ({ frames := 4, cells := 0, slots := 0, locals := 89 })).room s m args below meth c Q A (dC, dI) cX14_readRun (St) (dw_X14 a ac) r) : dj_X14_readRun_156 p l e s m args below meth c Q A dC dI a ac (df_X14_readRun_156 n) r := by
  obtain ⟨hlt, hx, hb, hml, hown, hts, hN, hA, hK⟩ := id C
  intro s0 H locs ls h hP hD hS hl
  unfold df_X14_readRun_156 at h
  exact K _ _ _ _ _ dX14_readRun_156 (Option.some.inj h).symm hP hD hS
set_option maxHeartbeats 40000000 in
set_option maxRecDepth 100000 in
theorem dB_X14_readRun_84 {p : Program} {l : Launch} {e : Env} {s : State} {m : MethodId} {args : Array Value} {below : List Frame} {meth : Method} {c : Code} {Q : State → Prop} {A : Nat → Prop} {dC : Nat → ClassId} {dI : Nat → Nat → Nat} {a : Nat → Nat} {ac : Nat → ClassId} {n : Nat} {r : St} (C : nd_C p l s m args c A (dC, dI) cX14_readRun 8 RX14 ow_dm_X14_readRun (dk_X14 ac)) (K : nd_Kv p l e (headSpec ow_dm_X14_readRun ({ frames := 4, cells := 0, slots := 0, locals := 89 })).room s m args below meth c Q A (dC, dI) cX14_readRun (St) (dw_X14 a ac) r) {g84 : Int64 → Int64 → (St) → Option (St)} (J84 : dj_X14_readRun_84 p l e s m args below meth c Q A dC dI a ac g84 r) : dj_X14_readRun_84 p l e s m args below meth c Q A dC dI a ac (dF_X14_readRun_84 n g84) r := by
  obtain ⟨hlt, hx, hb, hml, hown, hts, hN, hA, hK⟩ := id C
  intro x4 x6 s0 H locs ls h hP hD hS hl
  unfold dF_X14_readRun_84 at h
  refine lv_lload hx hb dX14_readRun_84 (lv_at hl 2 rfl) ?_
  refine lv_lload hx hb dX14_readRun_86 (lv_at hl 1 rfl) ?_
  refine W.lcmp hx hb dX14_readRun_88 ?_
  refine lv_if_ge (tgt := 156) hx hb dX14_readRun_89 (by decide) (fun c9 => ?_) (fun c9 => ?_)
  · have h := nd_pos h c9
    exact (db_X14_readRun_156 C K)  s0 _ _ _ h hP hD hS (lv_sub hl [] rfl)
  · have h := nd_neg h c9
    refine lv_aload_n hx hb dX14_readRun_92 rfl (lv_at hl 0 rfl) ?_
    refine va_get (D := (dC, dI)) (ci := 15) (v := .int (sI s0 4)) (C := RX14) (T := TX14) (N := 11) hx hb hts hi_dm_X14_readRun_X14 hown hK hP 0 rfl rfl 10 (by decide) (hts (.fieldLink RX14 65 "TimeMachineModel$Codec" "fault" "I") (List.mem_of_getElem? (i := 2) rfl)) (fun _ h9 => h9) rfl dX14_readRun_93 ?_
    refine lv_if_ne (tgt := 156) hx hb dX14_readRun_96 (by decide) (fun c10 => ?_) (fun c10 => ?_)
    · have h := nd_neg h c10
      exact (db_X14_readRun_156 C K)  s0 _ _ _ h hP hD hS (lv_sub hl [] rfl)
    · have h := nd_pos h c10
      refine lv_aload_n hx hb dX14_readRun_99 rfl (lv_at hl 0 rfl) ?_
      refine lv_aload_n hx hb dX14_readRun_100 rfl (lv_at hl 0 rfl) ?_
      refine va_get (D := (dC, dI)) (ci := 15) (v := .ref (a 1)) (C := RX14) (T := TX14) (N := 11) hx hb hts hi_dm_X14_readRun_X14 hown hK hP 0 rfl rfl 1 (by decide) (hts (.fieldLink RX14 9 "TimeMachineModel$Codec" "kind" "[I") (List.mem_of_getElem? (i := 7) rfl)) (fun _ h9 => h9) rfl dX14_readRun_101 ?_
      refine lv_aload_n hx hb dX14_readRun_104 rfl (lv_at hl 0 rfl) ?_
      refine va_get (D := (dC, dI)) (ci := 15) (v := .int (sI s0 0)) (C := RX14) (T := TX14) (N := 11) hx hb hts hi_dm_X14_readRun_X14 hown hK hP 0 rfl rfl 0 (by decide) (hts (.fieldLink RX14 27 "TimeMachineModel$Codec" "events" "I") (List.mem_of_getElem? (i := 1) rfl)) (fun _ h9 => h9) rfl dX14_readRun_105 ?_
      refine lv_iconst (v := 1) hx hb dX14_readRun_108 (by decide) ?_
      refine lv_isub hx hb dX14_readRun_109 ?_
      obtain ⟨i11, h⟩ := nd_ck_e h
      refine va_iald (i := ((sI s0 0) - 1)) hx hb hK hP 1 0 rfl rfl i11 dX14_readRun_110 ?_
      refine lv_aload_n hx hb dX14_readRun_111 rfl (lv_at hl 0 rfl) ?_
      refine va_get (D := (dC, dI)) (ci := 15) (v := .ref (a 3)) (C := RX14) (T := TX14) (N := 11) hx hb hts hi_dm_X14_readRun_X14 hown hK hP 0 rfl rfl 3 (by decide) (hts (.fieldLink RX14 16 "TimeMachineModel$Codec" "difference" "[J") (List.mem_of_getElem? (i := 8) rfl)) (fun _ h9 => h9) rfl dX14_readRun_112 ?_
      refine lv_aload_n hx hb dX14_readRun_115 rfl (lv_at hl 0 rfl) ?_
      refine va_get (D := (dC, dI)) (ci := 15) (v := .int (sI s0 0)) (C := RX14) (T := TX14) (N := 11) hx hb hts hi_dm_X14_readRun_X14 hown hK hP 0 rfl rfl 0 (by decide) (hts (.fieldLink RX14 27 "TimeMachineModel$Codec" "events" "I") (List.mem_of_getElem? (i := 1) rfl)) (fun _ h9 => h9) rfl dX14_readRun_116 ?_
      refine lv_iconst (v := 1) hx hb dX14_readRun_119 (by decide) ?_
      refine lv_isub hx hb dX14_readRun_120 ?_
      obtain ⟨i12, h⟩ := nd_ck_e h
      refine va_lald (i := ((sI s0 0) - 1)) hx hb hK hP 3 2 rfl rfl i12 dX14_readRun_121 ?_
      refine lv_aload_n hx hb dX14_readRun_122 rfl (lv_at hl 0 rfl) ?_
      refine va_get (D := (dC, dI)) (ci := 15) (v := .ref (a 4)) (C := RX14) (T := TX14) (N := 11) hx hb hts hi_dm_X14_readRun_X14 hown hK hP 0 rfl rfl 4 (by decide) (hts (.fieldLink RX14 20 "TimeMachineModel$Codec" "a" "[J") (List.mem_of_getElem? (i := 9) rfl)) (fun _ h9 => h9) rfl dX14_readRun_123 ?_
      refine lv_aload_n hx hb dX14_readRun_126 rfl (lv_at hl 0 rfl) ?_
      refine va_get (D := (dC, dI)) (ci := 15) (v := .int (sI s0 0)) (C := RX14) (T := TX14) (N := 11) hx hb hts hi_dm_X14_readRun_X14 hown hK hP 0 rfl rfl 0 (by decide) (hts (.fieldLink RX14 27 "TimeMachineModel$Codec" "events" "I") (List.mem_of_getElem? (i := 1) rfl)) (fun _ h9 => h9) rfl dX14_readRun_127 ?_
      refine lv_iconst (v := 1) hx hb dX14_readRun_130 (by decide) ?_
      refine lv_isub hx hb dX14_readRun_131 ?_
      obtain ⟨i13, h⟩ := nd_ck_e h
      refine va_lald (i := ((sI s0 0) - 1)) hx hb hK hP 4 3 rfl rfl i13 dX14_readRun_132 ?_
      refine lv_aload_n hx hb dX14_readRun_133 rfl (lv_at hl 0 rfl) ?_
      refine va_get (D := (dC, dI)) (ci := 15) (v := .ref (a 2)) (C := RX14) (T := TX14) (N := 11) hx hb hts hi_dm_X14_readRun_X14 hown hK hP 0 rfl rfl 2 (by decide) (hts (.fieldLink RX14 13 "TimeMachineModel$Codec" "b" "[I") (List.mem_of_getElem? (i := 10) rfl)) (fun _ h9 => h9) rfl dX14_readRun_134 ?_
      refine lv_aload_n hx hb dX14_readRun_137 rfl (lv_at hl 0 rfl) ?_
      refine va_get (D := (dC, dI)) (ci := 15) (v := .int (sI s0 0)) (C := RX14) (T := TX14) (N := 11) hx hb hts hi_dm_X14_readRun_X14 hown hK hP 0 rfl rfl 0 (by decide) (hts (.fieldLink RX14 27 "TimeMachineModel$Codec" "events" "I") (List.mem_of_getElem? (i := 1) rfl)) (fun _ h9 => h9) rfl dX14_readRun_138 ?_
      refine lv_iconst (v := 1) hx hb dX14_readRun_141 (by decide) ?_
      refine lv_isub hx hb dX14_readRun_142 ?_
      obtain ⟨i14, h⟩ := nd_ck_e h
      refine va_iald (i := ((sI s0 0) - 1)) hx hb hK hP 2 1 rfl rfl i14 dX14_readRun_143 ?_
      obtain ⟨s16, hq, h⟩ := nd_b1_e h
      have hPc := hP
      have hDc := hD
      have hKc := hK
      have hFc := nd_rs hD hS hA
      refine va_callv (va_runV (As := [.int (sR s0 0 (Int32.toNatClampNeg ((sI s0 0) - 1))), .long (sQ s0 0 (Int32.toNatClampNeg ((sI s0 0) - 1))), .long (sQ s0 1 (Int32.toNatClampNeg ((sI s0 0) - 1))), .int (sR s0 1 (Int32.toNatClampNeg ((sI s0 0) - 1)))]) (rest := []) ⟨hx, hb, hml, hown, hts⟩ (dm_X14_take l hlt dC dI a ac n ((sR s0 0 (Int32.toNatClampNeg ((sI s0 0) - 1)))) ((sQ s0 0 (Int32.toNatClampNeg ((sI s0 0) - 1)))) ((sQ s0 1 (Int32.toNatClampNeg ((sI s0 0) - 1)))) ((sR s0 1 (Int32.toNatClampNeg ((sI s0 0) - 1)))) s0 hq _) (cwV 4 hts gi_dm_X14_readRun_1 rfl rfl rfl (by decide +kernel) ⟨Nat.le_of_ble_eq_true rfl, Nat.le_of_ble_eq_true rfl⟩) ⟨fun a U g mk q => by obtain ⟨q0, q1, qP, qK, qD, qN⟩ := q; exact ⟨q0, q1, qP, va_K.moved (u := U) (U := U.calling g mk a) (Vm.Alike.refl U.vm) qK, qD, nv_same rfl rfl qN⟩, va_recv hKc hPc (ci := 15) (q0 := 0) rfl rfl, fun U hU hW => ⟨rfl, by rw [hU], by rw [hU]; exact hPc, va_K.moved hW.alike hKc, hDc.weaken (fun _ _ _ _ => trivial), nv_call hS hFc hU hW hN⟩⟩ rfl rfl hl.1 rfl (lv_room (Nat.le_of_ble_eq_true rfl)) dX14_readRun_144 ⟨by decide +kernel, by decide +kernel⟩) hS (fun q _ h => hFc q h) hFc (fun u t H locs ht hvm hw hB hz1 hk1 hS => ?_)
      obtain ⟨hP1, -, hD1⟩ := hB
      rw [ht] at hP1
      have hP := hP1
      have hD := hD1.weaken (fun k q _ h => hFc q.1 h)
      refine W.widen (k := 0) (n := 0) (Nat.le_refl _) (Nat.le_refl _) ?_
      refine lv_lload hx hb dX14_readRun_147 (lv_at hl 2 rfl) ?_
      refine lv_lconst (v := 1) hx hb dX14_readRun_149 (by decide) ?_
      refine lv_ladd hx hb dX14_readRun_150 ?_
      refine lv_topl (fun z18 ez18 => ?_)
      have h := nd_at h ez18
      refine lv_lstore (lv' := [(6, .long z18), (0, .ref (a 0)), (4, .long x4)]) hx hb dX14_readRun_151 hl (by decide) rfl (fun ls hl => ?_)
      refine lv_goto (tgt := 84) hx hb dX14_readRun_153 (by decide) ?_
      exact (J84) (x4) (z18) s16 _ _ _ h hP hD hS (lv_sub hl [1, 2, 0] rfl)
set_option maxHeartbeats 40000000 in
set_option maxRecDepth 100000 in
theorem db_X14_readRun_84 {p : Program} {l : Launch} {e : Env} {s : State} {m : MethodId} {args : Array Value} {below : List Frame} {meth : Method} {c : Code} {Q : State → Prop} {A : Nat → Prop} {dC : Nat → ClassId} {dI : Nat → Nat → Nat} {a : Nat → Nat} {ac : Nat → ClassId} {n : Nat} {r : St} (C : nd_C p l s m args c A (dC, dI) cX14_readRun 8 RX14 ow_dm_X14_readRun (dk_X14 ac)) (K : nd_Kv p l e (headSpec ow_dm_X14_readRun ({ frames := 4, cells := 0, slots := 0, locals := 89 })).room s m args below meth c Q A (dC, dI) cX14_readRun (St) (dw_X14 a ac) r) (k : Nat) : dj_X14_readRun_84 p l e s m args below meth c Q A dC dI a ac (df_X14_readRun_84 n k) r := by
  induction k with
  | zero => intro x4 x6 s0 H locs ls h; exact nomatch (show (none : Option (St)) = some r from h)
  | succ k ih => exact dB_X14_readRun_84 C K ih
set_option maxHeartbeats 40000000 in
set_option maxRecDepth 100000 in
theorem db_X14_readRun_81 {p : Program} {l : Launch} {e : Env} {s : State} {m : MethodId} {args : Array Value} {below : List Frame} {meth : Method} {c : Code} {Q : State → Prop} {A : Nat → Prop} {dC : Nat → ClassId} {dI : Nat → Nat → Nat} {a : Nat → Nat} {ac : Nat → ClassId} {n : Nat} {r : St} (C : nd_C p l s m args c A (dC, dI) cX14_readRun 8 RX14 ow_dm_X14_readRun (dk_X14 ac)) (K : nd_Kv p l e (headSpec ow_dm_X14_readRun ({ frames := 4, cells := 0, slots := 0, locals := 89 })).room s m args below meth c Q A (dC, dI) cX14_readRun (St) (dw_X14 a ac) r) : dj_X14_readRun_81 p l e s m args below meth c Q A dC dI a ac (df_X14_readRun_81 n) r := by
  obtain ⟨hlt, hx, hb, hml, hown, hts, hN, hA, hK⟩ := id C
  intro x4 s0 H locs ls h hP hD hS hl
  unfold df_X14_readRun_81 at h
  refine lv_lconst (v := 0) hx hb dX14_readRun_81 (by decide) ?_
  refine lv_lstore (lv' := [(6, .long 0), (0, .ref (a 0)), (4, .long x4)]) hx hb dX14_readRun_82 hl (by decide) rfl (fun ls hl => ?_)
  exact (db_X14_readRun_84 C K n) (x4) (0) s0 _ _ _ h hP hD hS (lv_sub hl [1, 2, 0] rfl)
set_option maxHeartbeats 40000000 in
set_option maxRecDepth 100000 in
theorem db_X14_readRun_51 {p : Program} {l : Launch} {e : Env} {s : State} {m : MethodId} {args : Array Value} {below : List Frame} {meth : Method} {c : Code} {Q : State → Prop} {A : Nat → Prop} {dC : Nat → ClassId} {dI : Nat → Nat → Nat} {a : Nat → Nat} {ac : Nat → ClassId} {n : Nat} {r : St} (C : nd_C p l s m args c A (dC, dI) cX14_readRun 8 RX14 ow_dm_X14_readRun (dk_X14 ac)) (K : nd_Kv p l e (headSpec ow_dm_X14_readRun ({ frames := 4, cells := 0, slots := 0, locals := 89 })).room s m args below meth c Q A (dC, dI) cX14_readRun (St) (dw_X14 a ac) r) : dj_X14_readRun_51 p l e s m args below meth c Q A dC dI a ac (df_X14_readRun_51 n) r := by
  obtain ⟨hlt, hx, hb, hml, hown, hts, hN, hA, hK⟩ := id C
  intro x2 x3 y0 s0 H locs ls h hP hD hS hl
  unfold df_X14_readRun_51 at h
  refine lv_lstore (lv' := [(4, .long y0), (0, .ref (a 0)), (2, .int x2), (3, .int x3)]) hx hb dX14_readRun_51 hl (by decide) rfl (fun ls hl => ?_)
  refine lv_aload_n hx hb dX14_readRun_53 rfl (lv_at hl 1 rfl) ?_
  refine va_get (D := (dC, dI)) (ci := 15) (v := .int (sI s0 4)) (C := RX14) (T := TX14) (N := 11) hx hb hts hi_dm_X14_readRun_X14 hown hK hP 0 rfl rfl 10 (by decide) (hts (.fieldLink RX14 65 "TimeMachineModel$Codec" "fault" "I") (List.mem_of_getElem? (i := 2) rfl)) (fun _ h9 => h9) rfl dX14_readRun_54 ?_
  refine lv_if_ne (tgt := 81) hx hb dX14_readRun_57 (by decide) (fun c8 => ?_) (fun c8 => ?_)
  · have h := nd_neg h c8
    exact (db_X14_readRun_81 C K) (y0) s0 _ _ _ h hP hD hS (lv_sub hl [1, 0] rfl)
  · have h := nd_pos h c8
    refine lv_aload_n hx hb dX14_readRun_60 rfl (lv_at hl 1 rfl) ?_
    refine va_get (D := (dC, dI)) (ci := 15) (v := .int (sI s0 0)) (C := RX14) (T := TX14) (N := 11) hx hb hts hi_dm_X14_readRun_X14 hown hK hP 0 rfl rfl 0 (by decide) (hts (.fieldLink RX14 27 "TimeMachineModel$Codec" "events" "I") (List.mem_of_getElem? (i := 1) rfl)) (fun _ h9 => h9) rfl dX14_readRun_61 ?_
    refine lv_i2l hx hb dX14_readRun_64 rfl ?_
    refine lv_lload hx hb dX14_readRun_65 (lv_at hl 0 rfl) ?_
    refine lv_ladd hx hb dX14_readRun_67 ?_
    refine lv_iload_n hx hb dX14_readRun_68 rfl (lv_at hl 3 rfl) ?_
    refine lv_i2l hx hb dX14_readRun_69 rfl ?_
    refine W.lcmp hx hb dX14_readRun_70 ?_
    refine lv_if_le (tgt := 81) hx hb dX14_readRun_71 (by decide) (fun c19 => ?_) (fun c19 => ?_)
    · have h := nd_pos h c19
      exact (db_X14_readRun_81 C K) (y0) s0 _ _ _ h hP hD hS (lv_sub hl [1, 0] rfl)
    · have h := nd_neg h c19
      refine lv_aload_n hx hb dX14_readRun_74 rfl (lv_at hl 1 rfl) ?_
      refine lv_bipush (v := 6) hx hb dX14_readRun_75 (by decide) ?_
      refine lv_iload_n hx hb dX14_readRun_77 rfl (lv_at hl 2 rfl) ?_
      obtain ⟨s21, hq, h⟩ := nd_b1_e h
      have hPc := hP
      have hDc := hD
      have hKc := hK
      have hFc := nd_rs hD hS hA
      refine va_callv (va_runV (As := [.int 6, .int x2]) (rest := []) ⟨hx, hb, hml, hown, hts⟩ (dm_X14_meet l hlt dC dI a ac n (6) (x2) s0 hq _) (cwV 2 hts gi_dm_X14_readRun_2 rfl rfl rfl (by decide +kernel) ⟨Nat.le_of_ble_eq_true rfl, Nat.le_of_ble_eq_true rfl⟩) ⟨fun a U g mk q => by obtain ⟨q0, q1, qP, qK, qD, qN⟩ := q; exact ⟨q0, q1, qP, va_K.moved (u := U) (U := U.calling g mk a) (Vm.Alike.refl U.vm) qK, qD, nv_same rfl rfl qN⟩, va_recv hKc hPc (ci := 15) (q0 := 0) rfl rfl, fun U hU hW => ⟨rfl, by rw [hU], by rw [hU]; exact hPc, va_K.moved hW.alike hKc, hDc.weaken (fun _ _ _ _ => trivial), nv_call hS hFc hU hW hN⟩⟩ rfl rfl hl.1 rfl (lv_room (Nat.le_of_ble_eq_true rfl)) dX14_readRun_78 ⟨by decide +kernel, by decide +kernel⟩) hS (fun q _ h => hFc q h) hFc (fun u t H locs ht hvm hw hB hz1 hk1 hS => ?_)
      obtain ⟨hP1, -, hD1⟩ := hB
      rw [ht] at hP1
      have hP := hP1
      have hD := hD1.weaken (fun k q _ h => hFc q.1 h)
      refine W.widen (k := 0) (n := 0) (Nat.le_refl _) (Nat.le_refl _) ?_
      exact (db_X14_readRun_81 C K) (y0) s21 _ _ _ h hP hD hS (lv_sub hl [1, 0] rfl)
set_option maxHeartbeats 40000000 in
set_option maxRecDepth 100000 in
theorem db_X14_readRun_26 {p : Program} {l : Launch} {e : Env} {s : State} {m : MethodId} {args : Array Value} {below : List Frame} {meth : Method} {c : Code} {Q : State → Prop} {A : Nat → Prop} {dC : Nat → ClassId} {dI : Nat → Nat → Nat} {a : Nat → Nat} {ac : Nat → ClassId} {n : Nat} {r : St} (C : nd_C p l s m args c A (dC, dI) cX14_readRun 8 RX14 ow_dm_X14_readRun (dk_X14 ac)) (K : nd_Kv p l e (headSpec ow_dm_X14_readRun ({ frames := 4, cells := 0, slots := 0, locals := 89 })).room s m args below meth c Q A (dC, dI) cX14_readRun (St) (dw_X14 a ac) r) : dj_X14_readRun_26 p l e s m args below meth c Q A dC dI a ac (df_X14_readRun_26 n) r := by
  obtain ⟨hlt, hx, hb, hml, hown, hts, hN, hA, hK⟩ := id C
  intro x1 x2 x3 s0 H locs ls h hP hD hS hl
  unfold df_X14_readRun_26 at h
  refine lv_aload_n hx hb dX14_readRun_26 rfl (lv_at hl 0 rfl) ?_
  refine va_get (D := (dC, dI)) (ci := 15) (v := .int (sI s0 4)) (C := RX14) (T := TX14) (N := 11) hx hb hts hi_dm_X14_readRun_X14 hown hK hP 0 rfl rfl 10 (by decide) (hts (.fieldLink RX14 65 "TimeMachineModel$Codec" "fault" "I") (List.mem_of_getElem? (i := 2) rfl)) (fun _ h9 => h9) rfl dX14_readRun_27 ?_
  refine lv_if_le (tgt := 34) hx hb dX14_readRun_30 (by decide) (fun c3 => ?_) (fun c3 => ?_)
  · have h := nd_pos h c3
    refine lv_iload_n hx hb dX14_readRun_34 rfl (lv_at hl 1 rfl) ?_
    refine lv_iconst (v := 4) hx hb dX14_readRun_35 (by decide) ?_
    refine lv_ishr hx hb dX14_readRun_36 ?_
    refine lv_if_le (tgt := 47) hx hb dX14_readRun_37 (by decide) (fun c4 => ?_) (fun c4 => ?_)
    · have h := nd_pos h c4
      refine lv_aload_n hx hb dX14_readRun_47 rfl (lv_at hl 0 rfl) ?_
      obtain ⟨q5, s6, hq, h⟩ := nd_b2_e h
      have hPc := hP
      have hDc := hD
      have hKc := hK
      have hFc := nd_rs hD hS hA
      refine va_calll (va_runV (As := []) (rest := []) ⟨hx, hb, hml, hown, hts⟩ (dm_X14_readCount l hlt dC dI a ac n  s0 hq _) (cwV 0 hts gi_dm_X14_readRun_0 rfl rfl rfl (by decide +kernel) ⟨Nat.le_of_ble_eq_true rfl, Nat.le_of_ble_eq_true rfl⟩) ⟨fun a U g mk q => by obtain ⟨q0, q1, qP, qK, qD, qN⟩ := q; exact ⟨q0, q1, qP, va_K.moved (u := U) (U := U.calling g mk a) (Vm.Alike.refl U.vm) qK, qD, nv_same rfl rfl qN⟩, va_recv hKc hPc (ci := 15) (q0 := 0) rfl rfl, fun U hU hW => ⟨rfl, by rw [hU], by rw [hU]; exact hPc, va_K.moved hW.alike hKc, hDc.weaken (fun _ _ _ _ => trivial), nv_call hS hFc hU hW hN⟩⟩ rfl rfl hl.1 rfl (lv_room (Nat.le_of_ble_eq_true rfl)) dX14_readRun_48 ⟨by decide +kernel, by decide +kernel⟩) hS (fun q _ h => hFc q h) hFc (fun r7 u t H locs ht hvm hw hB hz1 hk1 hS => ?_)
      obtain rfl : q5 = r7 := Eq.symm hw
      obtain ⟨hP1, -, hD1⟩ := hB
      rw [ht] at hP1
      have hP := hP1
      have hD := hD1.weaken (fun k q _ h => hFc q.1 h)
      refine W.widen (k := 0) (n := 0) (Nat.le_refl _) (Nat.le_refl _) ?_
      exact (db_X14_readRun_51 C K) (x2) (x3) (q5) s6 _ _ _ h hP hD hS (lv_sub hl [0, 2, 3] rfl)
    · have h := nd_neg h c4
      refine lv_iload_n hx hb dX14_readRun_40 rfl (lv_at hl 1 rfl) ?_
      refine lv_iconst (v := 4) hx hb dX14_readRun_41 (by decide) ?_
      refine lv_ishr hx hb dX14_readRun_42 ?_
      refine lv_i2l hx hb dX14_readRun_43 rfl ?_
      refine lv_goto (tgt := 51) hx hb dX14_readRun_44 (by decide) ?_
      exact (db_X14_readRun_51 C K) (x2) (x3) (((((x1 : Int32) >>> ((4 : Int32) &&& 31)) : Int32).toInt64)) s0 _ _ _ h hP hD hS (lv_sub hl [0, 2, 3] rfl)
  · have h := nd_neg h c3
    exact K _ _ _ _ _ dX14_readRun_33 (Option.some.inj h).symm hP hD hS
set_option maxHeartbeats 40000000 in
set_option maxRecDepth 100000 in
theorem db_X14_readRun_13 {p : Program} {l : Launch} {e : Env} {s : State} {m : MethodId} {args : Array Value} {below : List Frame} {meth : Method} {c : Code} {Q : State → Prop} {A : Nat → Prop} {dC : Nat → ClassId} {dI : Nat → Nat → Nat} {a : Nat → Nat} {ac : Nat → ClassId} {n : Nat} {r : St} (C : nd_C p l s m args c A (dC, dI) cX14_readRun 8 RX14 ow_dm_X14_readRun (dk_X14 ac)) (K : nd_Kv p l e (headSpec ow_dm_X14_readRun ({ frames := 4, cells := 0, slots := 0, locals := 89 })).room s m args below meth c Q A (dC, dI) cX14_readRun (St) (dw_X14 a ac) r) : dj_X14_readRun_13 p l e s m args below meth c Q A dC dI a ac (df_X14_readRun_13 n) r := by
  obtain ⟨hlt, hx, hb, hml, hown, hts, hN, hA, hK⟩ := id C
  intro x1 x2 x3 s0 H locs ls h hP hD hS hl
  unfold df_X14_readRun_13 at h
  refine lv_aload_n hx hb dX14_readRun_13 rfl (lv_at hl 0 rfl) ?_
  refine va_get (D := (dC, dI)) (ci := 15) (v := .int (sI s0 0)) (C := RX14) (T := TX14) (N := 11) hx hb hts hi_dm_X14_readRun_X14 hown hK hP 0 rfl rfl 0 (by decide) (hts (.fieldLink RX14 27 "TimeMachineModel$Codec" "events" "I") (List.mem_of_getElem? (i := 1) rfl)) (fun _ h9 => h9) rfl dX14_readRun_14 ?_
  refine lv_if_ne (tgt := 26) hx hb dX14_readRun_17 (by decide) (fun c2 => ?_) (fun c2 => ?_)
  · have h := nd_neg h c2
    exact (db_X14_readRun_26 C K) (x1) (x2) (x3) s0 _ _ _ h hP hD hS (lv_sub hl [0, 1, 2, 3] rfl)
  · have h := nd_pos h c2
    refine lv_aload_n hx hb dX14_readRun_20 rfl (lv_at hl 0 rfl) ?_
    refine lv_iconst (v := 4) hx hb dX14_readRun_21 (by decide) ?_
    refine lv_iload_n hx hb dX14_readRun_22 rfl (lv_at hl 2 rfl) ?_
    obtain ⟨s24, hq, h⟩ := nd_b1_e h
    have hPc := hP
    have hDc := hD
    have hKc := hK
    have hFc := nd_rs hD hS hA
    refine va_callv (va_runV (As := [.int 4, .int x2]) (rest := []) ⟨hx, hb, hml, hown, hts⟩ (dm_X14_meet l hlt dC dI a ac n (4) (x2) s0 hq _) (cwV 2 hts gi_dm_X14_readRun_2 rfl rfl rfl (by decide +kernel) ⟨Nat.le_of_ble_eq_true rfl, Nat.le_of_ble_eq_true rfl⟩) ⟨fun a U g mk q => by obtain ⟨q0, q1, qP, qK, qD, qN⟩ := q; exact ⟨q0, q1, qP, va_K.moved (u := U) (U := U.calling g mk a) (Vm.Alike.refl U.vm) qK, qD, nv_same rfl rfl qN⟩, va_recv hKc hPc (ci := 15) (q0 := 0) rfl rfl, fun U hU hW => ⟨rfl, by rw [hU], by rw [hU]; exact hPc, va_K.moved hW.alike hKc, hDc.weaken (fun _ _ _ _ => trivial), nv_call hS hFc hU hW hN⟩⟩ rfl rfl hl.1 rfl (lv_room (Nat.le_of_ble_eq_true rfl)) dX14_readRun_23 ⟨by decide +kernel, by decide +kernel⟩) hS (fun q _ h => hFc q h) hFc (fun u t H locs ht hvm hw hB hz1 hk1 hS => ?_)
    obtain ⟨hP1, -, hD1⟩ := hB
    rw [ht] at hP1
    have hP := hP1
    have hD := hD1.weaken (fun k q _ h => hFc q.1 h)
    refine W.widen (k := 0) (n := 0) (Nat.le_refl _) (Nat.le_refl _) ?_
    exact (db_X14_readRun_26 C K) (x1) (x2) (x3) s24 _ _ _ h hP hD hS (lv_sub hl [0, 1, 2, 3] rfl)
set_option maxHeartbeats 40000000 in
set_option maxRecDepth 100000 in
theorem db_X14_readRun_0 {p : Program} {l : Launch} {e : Env} {s : State} {m : MethodId} {args : Array Value} {below : List Frame} {meth : Method} {c : Code} {Q : State → Prop} {A : Nat → Prop} {dC : Nat → ClassId} {dI : Nat → Nat → Nat} {a : Nat → Nat} {ac : Nat → ClassId} {n : Nat} {r : St} (C : nd_C p l s m args c A (dC, dI) cX14_readRun 8 RX14 ow_dm_X14_readRun (dk_X14 ac)) (K : nd_Kv p l e (headSpec ow_dm_X14_readRun ({ frames := 4, cells := 0, slots := 0, locals := 89 })).room s m args below meth c Q A (dC, dI) cX14_readRun (St) (dw_X14 a ac) r) : dj_X14_readRun_0 p l e s m args below meth c Q A dC dI a ac (df_X14_readRun_0 n) r := by
  obtain ⟨hlt, hx, hb, hml, hown, hts, hN, hA, hK⟩ := id C
  intro v0 v1 v2 s0 H locs ls h hP hD hS hl
  unfold df_X14_readRun_0 at h
  refine lv_iload_n hx hb dX14_readRun_0 rfl (lv_at hl 1 rfl) ?_
  refine lv_bipush (v := 8) hx hb dX14_readRun_1 (by decide) ?_
  refine lv_iand hx hb dX14_readRun_3 ?_
  refine lv_if_le (tgt := 13) hx hb dX14_readRun_4 (by decide) (fun c1 => ?_) (fun c1 => ?_)
  · have h := nd_pos h c1
    exact (db_X14_readRun_13 C K) (v0) (v1) (v2) s0 _ _ _ h hP hD hS (lv_sub hl [0, 1, 2, 3] rfl)
  · have h := nd_neg h c1
    refine lv_aload_n hx hb dX14_readRun_7 rfl (lv_at hl 0 rfl) ?_
    refine lv_iconst (v := 1) hx hb dX14_readRun_8 (by decide) ?_
    refine lv_iload_n hx hb dX14_readRun_9 rfl (lv_at hl 2 rfl) ?_
    obtain ⟨s27, hq, h⟩ := nd_b1_e h
    have hPc := hP
    have hDc := hD
    have hKc := hK
    have hFc := nd_rs hD hS hA
    refine va_callv (va_runV (As := [.int 1, .int v1]) (rest := []) ⟨hx, hb, hml, hown, hts⟩ (dm_X14_meet l hlt dC dI a ac n (1) (v1) s0 hq _) (cwV 2 hts gi_dm_X14_readRun_2 rfl rfl rfl (by decide +kernel) ⟨Nat.le_of_ble_eq_true rfl, Nat.le_of_ble_eq_true rfl⟩) ⟨fun a U g mk q => by obtain ⟨q0, q1, qP, qK, qD, qN⟩ := q; exact ⟨q0, q1, qP, va_K.moved (u := U) (U := U.calling g mk a) (Vm.Alike.refl U.vm) qK, qD, nv_same rfl rfl qN⟩, va_recv hKc hPc (ci := 15) (q0 := 0) rfl rfl, fun U hU hW => ⟨rfl, by rw [hU], by rw [hU]; exact hPc, va_K.moved hW.alike hKc, hDc.weaken (fun _ _ _ _ => trivial), nv_call hS hFc hU hW hN⟩⟩ rfl rfl hl.1 rfl (lv_room (Nat.le_of_ble_eq_true rfl)) dX14_readRun_10 ⟨by decide +kernel, by decide +kernel⟩) hS (fun q _ h => hFc q h) hFc (fun u t H locs ht hvm hw hB hz1 hk1 hS => ?_)
    obtain ⟨hP1, -, hD1⟩ := hB
    rw [ht] at hP1
    have hP := hP1
    have hD := hD1.weaken (fun k q _ h => hFc q.1 h)
    refine W.widen (k := 0) (n := 0) (Nat.le_refl _) (Nat.le_refl _) ?_
    exact (db_X14_readRun_13 C K) (v0) (v1) (v2) s27 _ _ _ h hP hD hS (lv_sub hl [0, 1, 2, 3] rfl)
set_option maxHeartbeats 40000000 in
set_option maxRecDepth 100000 in
theorem dm_X14_readRun (l : Launch) (hlt : l.stackTraces = false) (dC : Nat → ClassId) (dI : Nat → Nat → Nat) (a : Nat → Nat) (ac : Nat → ClassId) (n : Nat) (v0 : Int32) (v1 : Int32) (v2 : Int32) (s0 : St) {r : St} (h : df_X14_readRun n v0 v1 v2 s0 = some r) (sz : Nat) : Met l yX14_readRun ow_dm_X14_readRun ({ frames := 4, cells := 0, slots := 0, locals := 89 }) (va_Pc [.ref (a 0), .int v0, .int v1, .int v2] (fun U => U.heap.size = sz ∧ va_P (dC, dI) vwCl (dw_X14 a ac s0) U.heap ∧ va_K (dC, dI) vwCl (dk_X14 ac) U ∧ va_D (fun _ => True) (dw_X14 a ac s0) ∧ nv_E (va_A (dw_X14 a ac s0) sz) U)) (va_Qv (fun _ => True) (fun (_ : Unit) t => va_P (dC, dI) vwCl (dw_X14 a ac r) t.heap ∧ va_K (dC, dI) vwCl (dk_X14 ac) t ∧ va_D (va_A (dw_X14 a ac s0) sz) (dw_X14 a ac r)) (va_A (dw_X14 a ac s0) sz)) 0 0 (va_A (dw_X14 a ac s0) sz) := by
  refine Met.ofW (cc := cX14_readRun) (maxL := 8) (ret := none) (by decide) rfl ?_
  intro p e s m args below meth c s₁ B hml hv
  obtain ⟨rfl, hsz, hP, hK, hD0, hN⟩ := hv
  have hx := B.exec
  have hb := B.bytes
  have hr := B.returns
  have hts := atoms_spec (ws := ow_dm_X14_readRun) B.pre
  have hown : s.vm.findClass RX14 = some m.cls := findClass_of_methodNamed B.named
  have hlocks := B.notSynchronized
  subst hsz
  have hD := hD0.self (sz := s.heap.size)
  generalize hAe : va_A (dw_X14 a ac s0) s.heap.size = A at hD hN ⊢
  have hA : ∀ q : Nat, s.heap.size ≤ q → A q := fun q h => by rw [← hAe]; exact Or.inr h
  have hl := lv_entry ([.ref (a 0), .int v0, .int v1, .int v2]) (n := 8) (Nat.le_of_ble_eq_true rfl)
  rw [lg_entry_eq]
  generalize (lg_sl ([.ref (a 0), .int v0, .int v1, .int v2]) ++ List.replicate (8 - (lg_sl ([.ref (a 0), .int v0, .int v1, .int v2])).length) Slot.unset).toArray = ls at hl ⊢
  have hl : lv_has ls 8 [(0, .ref (a 0)), (1, .int v0), (2, .int v1), (3, .int v2)] := hl
  exact db_X14_readRun_0 (dC := dC) (dI := dI) (a := a) (ac := ac) (n := n) (r := r) ⟨hlt, hx, hb, hml, hown, hts, hN, hA, hK⟩ (fun pc τ H locs ls d er hP hD hS => by subst er; exact W.vret hx hb hr (fun t ht hW => ⟨⟨(), rfl, trivial, by rw [ht]; exact hP, va_K.moved hW.alike hK, hD⟩, hS.F ht⟩) hS.2.2 d) v0 v1 v2 s0 _ _ _ h hP hD va_S.rf (lv_sub hl [0, 1, 2, 3] rfl)
def ow_dm_X14_readBytes : List Cond := .code yX14_readBytes cX14_readBytes 5 (some .long) :: ([.methodLink RX14 81 yX14_next, .instanceMethod yX14_next, .selects RX14 yX14_next yX14_next, .initialized RX14] ++ (ow_dm_X14_next ++ []))
theorem gd_dm_X14_readBytes : ∀ w ∈ ow_dm_X14_readBytes, (w.onTables && w.keeps) = true ∨ ∃ ty, w = Cond.arrayClass ty := List.forall_mem_cons.mpr ⟨good_of_word rfl, List.forall_mem_append.mpr ⟨fun w h => good_of_word (List.all_eq_true.mp (by decide +kernel) w h), List.forall_mem_append.mpr ⟨gd_dm_X14_next, fun _ h => nomatch h⟩⟩⟩
theorem gi_dm_X14_readBytes_0 : GoodIn ow_dm_X14_readBytes (wsV RX14 81 RX14 yX14_next ow_dm_X14_next) := goodIn_app (goodIn_of _ (by decide +kernel)) (fun w h => ⟨List.mem_cons_of_mem _ (List.mem_append_right _ (List.mem_append_left _ h)), gd_dm_X14_next w h⟩)
def dj_X14_readBytes_5 (p : Program) (l : Launch) (e : Env) (s : State) (m : MethodId) (args : Array Value) (below : List Frame) (meth : Method) (c : Code) (Q : State → Prop) (A : Nat → Prop) (dC : Nat → ClassId) (dI : Nat → Nat → Nat) (a : Nat → Nat) (ac : Nat → ClassId) (g : Int32 → Int64 → Int32 → (St) → Option (Int64 × (St))) (r : Int64 × (St)) : Prop := ∀ (x1 : Int32) (x2 : Int64) (x4 : Int32) (s0 : St) (H : Heap) (locs : List Loc) (ls : Array Slot), g x1 x2 x4 s0 = some r → va_P (dC, dI) vwCl (dw_X14 a ac s0) H → va_D A (dw_X14 a ac s0) → va_S A s.heap H locs → lv_has ls 5 [(0, .ref (a 0)), (1, .int x1), (2, .long x2), (4, .int x4)] → W p l e (headSpec ow_dm_X14_readBytes ({ frames := 2, cells := 0, slots := 0, locals := 42 })).room s m args below meth c H locs 0 0 Q (F0 m 5 ls [])
def dj_X14_readBytes_0 (p : Program) (l : Launch) (e : Env) (s : State) (m : MethodId) (args : Array Value) (below : List Frame) (meth : Method) (c : Code) (Q : State → Prop) (A : Nat → Prop) (dC : Nat → ClassId) (dI : Nat → Nat → Nat) (a : Nat → Nat) (ac : Nat → ClassId) (g : Int32 → (St) → Option (Int64 × (St))) (r : Int64 × (St)) : Prop := ∀ (v0 : Int32) (s0 : St) (H : Heap) (locs : List Loc) (ls : Array Slot), g v0 s0 = some r → va_P (dC, dI) vwCl (dw_X14 a ac s0) H → va_D A (dw_X14 a ac s0) → va_S A s.heap H locs → lv_has ls 5 [(0, .ref (a 0)), (1, .int v0)] → W p l e (headSpec ow_dm_X14_readBytes ({ frames := 2, cells := 0, slots := 0, locals := 42 })).room s m args below meth c H locs 0 0 Q (F0 m 0 ls [])
set_option maxHeartbeats 40000000 in
set_option maxRecDepth 100000 in
theorem dB_X14_readBytes_5 {p : Program} {l : Launch} {e : Env} {s : State} {m : MethodId} {args : Array Value} {below : List Frame} {meth : Method} {c : Code} {Q : State → Prop} {A : Nat → Prop} {dC : Nat → ClassId} {dI : Nat → Nat → Nat} {a : Nat → Nat} {ac : Nat → ClassId} {n : Nat} {r : Int64 × (St)} (C : nd_C p l s m args c A (dC, dI) cX14_readBytes 5 RX14 ow_dm_X14_readBytes (dk_X14 ac)) (K : nd_Kl p l e (headSpec ow_dm_X14_readBytes ({ frames := 2, cells := 0, slots := 0, locals := 42 })).room s m args below meth c Q A (dC, dI) cX14_readBytes (St) (dw_X14 a ac) r) {g5 : Int32 → Int64 → Int32 → (St) → Option (Int64 × (St))} (J5 : dj_X14_readBytes_5 p l e s m args below meth c Q A dC dI a ac g5 r) : dj_X14_readBytes_5 p l e s m args below meth c Q A dC dI a ac (dF_X14_readBytes_5 n g5) r := by
  obtain ⟨hlt, hx, hb, hml, hown, hts, hN, hA, hK⟩ := id C
  intro x1 x2 x4 s0 H locs ls h hP hD hS hl
  unfold dF_X14_readBytes_5 at h
  refine lv_iload hx hb dX14_readBytes_5 (lv_at hl 3 rfl) ?_
  refine lv_iload_n hx hb dX14_readBytes_7 rfl (lv_at hl 1 rfl) ?_
  refine lv_icmp_ge (tgt := 28) hx hb dX14_readBytes_8 (by decide) (fun c1 => ?_) (fun c1 => ?_)
  · have h := nd_pos h c1
    refine lv_lload_n hx hb dX14_readBytes_28 rfl (lv_at hl 2 rfl) ?_
    exact K _ _ _ _ _ _ dX14_readBytes_29 (Option.some.inj h).symm hP hD hS
  · have h := nd_neg h c1
    refine lv_lload_n hx hb dX14_readBytes_11 rfl (lv_at hl 2 rfl) ?_
    refine lv_bipush (v := 8) hx hb dX14_readBytes_12 (by decide) ?_
    refine lv_lshl hx hb dX14_readBytes_14 rfl ?_
    refine lv_aload_n hx hb dX14_readBytes_15 rfl (lv_at hl 0 rfl) ?_
    obtain ⟨q2, s3, hq, h⟩ := nd_b2_e h
    have hPc := hP
    have hDc := hD
    have hKc := hK
    have hFc := nd_rs hD hS hA
    refine va_calli (va_runV (As := []) (rest := [.long ((x2 : Int64) <<< ((8 : Int32).toInt64 &&& 63))]) ⟨hx, hb, hml, hown, hts⟩ (dm_X14_next l hlt dC dI a ac n  s0 hq _) (cwV 0 hts gi_dm_X14_readBytes_0 rfl rfl rfl (by decide +kernel) ⟨Nat.le_of_ble_eq_true rfl, Nat.le_of_ble_eq_true rfl⟩) ⟨fun a U g mk q => by obtain ⟨q0, q1, qP, qK, qD, qN⟩ := q; exact ⟨q0, q1, qP, va_K.moved (u := U) (U := U.calling g mk a) (Vm.Alike.refl U.vm) qK, qD, nv_same rfl rfl qN⟩, va_recv hKc hPc (ci := 15) (q0 := 0) rfl rfl, fun U hU hW => ⟨rfl, by rw [hU], by rw [hU]; exact hPc, va_K.moved hW.alike hKc, hDc.weaken (fun _ _ _ _ => trivial), nv_call hS hFc hU hW hN⟩⟩ rfl rfl hl.1 rfl (lv_room (Nat.le_of_ble_eq_true rfl)) dX14_readBytes_16 ⟨by decide +kernel, by decide +kernel⟩) hS (fun q _ h => hFc q h) hFc (fun r4 u t H locs ht hvm hw hB hz1 hk1 hS => ?_)
    obtain rfl : q2 = r4 := Eq.symm hw
    obtain ⟨hP1, -, hD1⟩ := hB
    rw [ht] at hP1
    have hP := hP1
    have hD := hD1.weaken (fun k q _ h => hFc q.1 h)
    refine W.widen (k := 0) (n := 0) (Nat.le_refl _) (Nat.le_refl _) ?_
    refine lv_i2l hx hb dX14_readBytes_19 rfl ?_
    refine lv_lor hx hb dX14_readBytes_20 ?_
    refine lv_topl (fun z5 ez5 => ?_)
    have h := nd_at h ez5
    refine lv_lstore_n (lv' := [(2, .long z5), (0, .ref (a 0)), (1, .int x1), (4, .int x4)]) hx hb dX14_readBytes_21 rfl hl (by decide) rfl (fun ls hl => ?_)
    obtain ⟨z6, ez6, h⟩ := nd_let_e h
    refine lv_iinc (v := z6) (lv' := [(4, .int z6), (2, .long z5), (0, .ref (a 0)), (1, .int x1)]) hx hb dX14_readBytes_22 hl (k := 3) rfl (by rw [ez6]) (by decide) rfl (fun ls hl => ?_)
    refine lv_goto (tgt := 5) hx hb dX14_readBytes_25 (by decide) ?_
    exact (J5) (x1) (z5) (z6) s3 _ _ _ h hP hD hS (lv_sub hl [2, 3, 1, 0] rfl)
set_option maxHeartbeats 40000000 in
set_option maxRecDepth 100000 in
theorem db_X14_readBytes_5 {p : Program} {l : Launch} {e : Env} {s : State} {m : MethodId} {args : Array Value} {below : List Frame} {meth : Method} {c : Code} {Q : State → Prop} {A : Nat → Prop} {dC : Nat → ClassId} {dI : Nat → Nat → Nat} {a : Nat → Nat} {ac : Nat → ClassId} {n : Nat} {r : Int64 × (St)} (C : nd_C p l s m args c A (dC, dI) cX14_readBytes 5 RX14 ow_dm_X14_readBytes (dk_X14 ac)) (K : nd_Kl p l e (headSpec ow_dm_X14_readBytes ({ frames := 2, cells := 0, slots := 0, locals := 42 })).room s m args below meth c Q A (dC, dI) cX14_readBytes (St) (dw_X14 a ac) r) (k : Nat) : dj_X14_readBytes_5 p l e s m args below meth c Q A dC dI a ac (df_X14_readBytes_5 n k) r := by
  induction k with
  | zero => intro x1 x2 x4 s0 H locs ls h; exact nomatch (show (none : Option (Int64 × (St))) = some r from h)
  | succ k ih => exact dB_X14_readBytes_5 C K ih
set_option maxHeartbeats 40000000 in
set_option maxRecDepth 100000 in
theorem db_X14_readBytes_0 {p : Program} {l : Launch} {e : Env} {s : State} {m : MethodId} {args : Array Value} {below : List Frame} {meth : Method} {c : Code} {Q : State → Prop} {A : Nat → Prop} {dC : Nat → ClassId} {dI : Nat → Nat → Nat} {a : Nat → Nat} {ac : Nat → ClassId} {n : Nat} {r : Int64 × (St)} (C : nd_C p l s m args c A (dC, dI) cX14_readBytes 5 RX14 ow_dm_X14_readBytes (dk_X14 ac)) (K : nd_Kl p l e (headSpec ow_dm_X14_readBytes ({ frames := 2, cells := 0, slots := 0, locals := 42 })).room s m args below meth c Q A (dC, dI) cX14_readBytes (St) (dw_X14 a ac) r) : dj_X14_readBytes_0 p l e s m args below meth c Q A dC dI a ac (df_X14_readBytes_0 n) r := by
  obtain ⟨hlt, hx, hb, hml, hown, hts, hN, hA, hK⟩ := id C
  intro v0 s0 H locs ls h hP hD hS hl
  unfold df_X14_readBytes_0 at h
  refine lv_lconst (v := 0) hx hb dX14_readBytes_0 (by decide) ?_
  refine lv_lstore_n (lv' := [(2, .long 0), (0, .ref (a 0)), (1, .int v0)]) hx hb dX14_readBytes_1 rfl hl (by decide) rfl (fun ls hl => ?_)
  refine lv_iconst (v := 0) hx hb dX14_readBytes_2 (by decide) ?_
  refine lv_istore (lv' := [(4, .int 0), (2, .long 0), (0, .ref (a 0)), (1, .int v0)]) hx hb dX14_readBytes_3 hl (by decide) rfl (fun ls hl => ?_)
  exact (db_X14_readBytes_5 C K n) (v0) (0) (0) s0 _ _ _ h hP hD hS (lv_sub hl [2, 3, 1, 0] rfl)
set_option maxHeartbeats 40000000 in
set_option maxRecDepth 100000 in
theorem dm_X14_readBytes (l : Launch) (hlt : l.stackTraces = false) (dC : Nat → ClassId) (dI : Nat → Nat → Nat) (a : Nat → Nat) (ac : Nat → ClassId) (n : Nat) (v0 : Int32) (s0 : St) {r : Int64 × (St)} (h : df_X14_readBytes n v0 s0 = some r) (sz : Nat) : Met l yX14_readBytes ow_dm_X14_readBytes ({ frames := 2, cells := 0, slots := 0, locals := 42 }) (va_Pc [.ref (a 0), .int v0] (fun U => U.heap.size = sz ∧ va_P (dC, dI) vwCl (dw_X14 a ac s0) U.heap ∧ va_K (dC, dI) vwCl (dk_X14 ac) U ∧ va_D (fun _ => True) (dw_X14 a ac s0) ∧ nv_E (va_A (dw_X14 a ac s0) sz) U)) (va_Ql (fun x _ => x = r.1) (fun (_ : Unit) t => va_P (dC, dI) vwCl (dw_X14 a ac r.2) t.heap ∧ va_K (dC, dI) vwCl (dk_X14 ac) t ∧ va_D (va_A (dw_X14 a ac s0) sz) (dw_X14 a ac r.2)) (va_A (dw_X14 a ac s0) sz)) 0 0 (va_A (dw_X14 a ac s0) sz) := by
  refine Met.ofW (cc := cX14_readBytes) (maxL := 5) (ret := (some .long)) (by decide) rfl ?_
  intro p e s m args below meth c s₁ B hml hv
  obtain ⟨rfl, hsz, hP, hK, hD0, hN⟩ := hv
  have hx := B.exec
  have hb := B.bytes
  have hr := B.returns
  have hts := atoms_spec (ws := ow_dm_X14_readBytes) B.pre
  have hown : s.vm.findClass RX14 = some m.cls := findClass_of_methodNamed B.named
  have hlocks := B.notSynchronized
  subst hsz
  have hD := hD0.self (sz := s.heap.size)
  generalize hAe : va_A (dw_X14 a ac s0) s.heap.size = A at hD hN ⊢
  have hA : ∀ q : Nat, s.heap.size ≤ q → A q := fun q h => by rw [← hAe]; exact Or.inr h
  have hl := lv_entry ([.ref (a 0), .int v0]) (n := 5) (Nat.le_of_ble_eq_true rfl)
  rw [lg_entry_eq]
  generalize (lg_sl ([.ref (a 0), .int v0]) ++ List.replicate (5 - (lg_sl ([.ref (a 0), .int v0])).length) Slot.unset).toArray = ls at hl ⊢
  have hl : lv_has ls 5 [(0, .ref (a 0)), (1, .int v0)] := hl
  exact db_X14_readBytes_0 (dC := dC) (dI := dI) (a := a) (ac := ac) (n := n) (r := r) ⟨hlt, hx, hb, hml, hown, hts, hN, hA, hK⟩ (fun pc v τ H locs ls d er hP hD hS => by subst er; exact W.lret (v := v) hx hb hr (fun t ht hW => ⟨⟨v, (), rfl, rfl, by rw [ht]; exact hP, va_K.moved hW.alike hK, hD⟩, hS.F ht⟩) hS.2.2 d) v0 s0 _ _ _ h hP hD va_S.rf (lv_sub hl [0, 1] rfl)
def ow_dm_X14_readEntry : List Cond := .code yX14_readEntry cX14_readEntry 12 none :: ([.methodLink RX14 74 yX14_meet, .instanceMethod yX14_meet, .selects RX14 yX14_meet yX14_meet, .initialized RX14, .fieldLink RX14 65 "TimeMachineModel$Codec" "fault" "I", .methodLink RX14 98 yX14_before, .instanceMethod yX14_before, .selects RX14 yX14_before yX14_before, .fieldLink RX14 27 "TimeMachineModel$Codec" "events" "I", .fieldLink RX14 16 "TimeMachineModel$Codec" "difference" "[J", .methodLink RX14 94 yX14_take, .instanceMethod yX14_take, .selects RX14 yX14_take yX14_take, .methodLink RX14 81 yX14_next, .instanceMethod yX14_next, .selects RX14 yX14_next yX14_next, .fieldLink RX14 68 "TimeMachineModel$Codec" "at" "I", .methodLink RX14 91 yX14_readCount, .instanceMethod yX14_readCount, .selects RX14 yX14_readCount yX14_readCount, .fieldLink RX14 20 "TimeMachineModel$Codec" "a" "[J", .fieldLink RX14 13 "TimeMachineModel$Codec" "b" "[I", .methodLink RX14 87 yX14_readVarint, .instanceMethod yX14_readVarint, .selects RX14 yX14_readVarint yX14_readVarint, .methodLink RX14 102 yX14_readBytes, .instanceMethod yX14_readBytes, .selects RX14 yX14_readBytes yX14_readBytes] ++ (u_ws RX14 TX14 11 ++ (ow_dm_X14_meet ++ (ow_dm_X14_before ++ (ow_dm_X14_take ++ (ow_dm_X14_next ++ (ow_dm_X14_readCount ++ (ow_dm_X14_readVarint ++ (ow_dm_X14_readBytes ++ [])))))))))
theorem gd_dm_X14_readEntry : ∀ w ∈ ow_dm_X14_readEntry, (w.onTables && w.keeps) = true ∨ ∃ ty, w = Cond.arrayClass ty := List.forall_mem_cons.mpr ⟨good_of_word rfl, List.forall_mem_append.mpr ⟨fun w h => good_of_word (List.all_eq_true.mp (by decide +kernel) w h), List.forall_mem_append.mpr ⟨gu_X14, List.forall_mem_append.mpr ⟨gd_dm_X14_meet, List.forall_mem_append.mpr ⟨gd_dm_X14_before, List.forall_mem_append.mpr ⟨gd_dm_X14_take, List.forall_mem_append.mpr ⟨gd_dm_X14_next, List.forall_mem_append.mpr ⟨gd_dm_X14_readCount, List.forall_mem_append.mpr ⟨gd_dm_X14_readVarint, List.forall_mem_append.mpr ⟨gd_dm_X14_readBytes, fun _ h => nomatch h⟩⟩⟩⟩⟩⟩⟩⟩⟩⟩
theorem hi_dm_X14_readEntry_X14 : ∀ w ∈ u_ws RX14 TX14 11, w ∈ ow_dm_X14_readEntry := fun w h => List.mem_cons_of_mem _ (List.mem_append_right _ (List.mem_append_left _ h))
theorem gi_dm_X14_readEntry_0 : GoodIn ow_dm_X14_readEntry (wsV RX14 74 RX14 yX14_meet ow_dm_X14_meet) := goodIn_app (goodIn_of _ (by decide +kernel)) (fun w h => ⟨List.mem_cons_of_mem _ (List.mem_append_right _ (List.mem_append_right _ (List.mem_append_left _ h))), gd_dm_X14_meet w h⟩)
theorem gi_dm_X14_readEntry_1 : GoodIn ow_dm_X14_readEntry (wsV RX14 98 RX14 yX14_before ow_dm_X14_before) := goodIn_app (goodIn_of _ (by decide +kernel)) (fun w h => ⟨List.mem_cons_of_mem _ (List.mem_append_right _ (List.mem_append_right _ (List.mem_append_right _ (List.mem_append_left _ h)))), gd_dm_X14_before w h⟩)
theorem gi_dm_X14_readEntry_2 : GoodIn ow_dm_X14_readEntry (wsV RX14 94 RX14 yX14_take ow_dm_X14_take) := goodIn_app (goodIn_of _ (by decide +kernel)) (fun w h => ⟨List.mem_cons_of_mem _ (List.mem_append_right _ (List.mem_append_right _ (List.mem_append_right _ (List.mem_append_right _ (List.mem_append_left _ h))))), gd_dm_X14_take w h⟩)
theorem gi_dm_X14_readEntry_3 : GoodIn ow_dm_X14_readEntry (wsV RX14 81 RX14 yX14_next ow_dm_X14_next) := goodIn_app (goodIn_of _ (by decide +kernel)) (fun w h => ⟨List.mem_cons_of_mem _ (List.mem_append_right _ (List.mem_append_right _ (List.mem_append_right _ (List.mem_append_right _ (List.mem_append_right _ (List.mem_append_left _ h)))))), gd_dm_X14_next w h⟩)
theorem gi_dm_X14_readEntry_4 : GoodIn ow_dm_X14_readEntry (wsV RX14 91 RX14 yX14_readCount ow_dm_X14_readCount) := goodIn_app (goodIn_of _ (by decide +kernel)) (fun w h => ⟨List.mem_cons_of_mem _ (List.mem_append_right _ (List.mem_append_right _ (List.mem_append_right _ (List.mem_append_right _ (List.mem_append_right _ (List.mem_append_right _ (List.mem_append_left _ h))))))), gd_dm_X14_readCount w h⟩)
theorem gi_dm_X14_readEntry_5 : GoodIn ow_dm_X14_readEntry (wsV RX14 87 RX14 yX14_readVarint ow_dm_X14_readVarint) := goodIn_app (goodIn_of _ (by decide +kernel)) (fun w h => ⟨List.mem_cons_of_mem _ (List.mem_append_right _ (List.mem_append_right _ (List.mem_append_right _ (List.mem_append_right _ (List.mem_append_right _ (List.mem_append_right _ (List.mem_append_right _ (List.mem_append_left _ h)))))))), gd_dm_X14_readVarint w h⟩)
theorem gi_dm_X14_readEntry_6 : GoodIn ow_dm_X14_readEntry (wsV RX14 102 RX14 yX14_readBytes ow_dm_X14_readBytes) := goodIn_app (goodIn_of _ (by decide +kernel)) (fun w h => ⟨List.mem_cons_of_mem _ (List.mem_append_right _ (List.mem_append_right _ (List.mem_append_right _ (List.mem_append_right _ (List.mem_append_right _ (List.mem_append_right _ (List.mem_append_right _ (List.mem_append_right _ (List.mem_append_left _ h))))))))), gd_dm_X14_readBytes w h⟩)
def dj_X14_readEntry_350 (p : Program) (l : Launch) (e : Env) (s : State) (m : MethodId) (args : Array Value) (below : List Frame) (meth : Method) (c : Code) (Q : State → Prop) (A : Nat → Prop) (dC : Nat → ClassId) (dI : Nat → Nat → Nat) (a : Nat → Nat) (ac : Nat → ClassId) (g : (St) → Option (St)) (r : St) : Prop := ∀ (s0 : St) (H : Heap) (locs : List Loc) (ls : Array Slot), g s0 = some r → va_P (dC, dI) vwCl (dw_X14 a ac s0) H → va_D A (dw_X14 a ac s0) → va_S A s.heap H locs → lv_has ls 12 [] → W p l e (headSpec ow_dm_X14_readEntry ({ frames := 4, cells := 0, slots := 0, locals := 89 })).room s m args below meth c H locs 0 0 Q (F0 m 350 ls [])
def dj_X14_readEntry_332 (p : Program) (l : Launch) (e : Env) (s : State) (m : MethodId) (args : Array Value) (below : List Frame) (meth : Method) (c : Code) (Q : State → Prop) (A : Nat → Prop) (dC : Nat → ClassId) (dI : Nat → Nat → Nat) (a : Nat → Nat) (ac : Nat → ClassId) (g : Int32 → Int64 → Int64 → Int32 → (St) → Option (St)) (r : St) : Prop := ∀ (x3 : Int32) (x6 : Int64) (x8 : Int64) (x10 : Int32) (s0 : St) (H : Heap) (locs : List Loc) (ls : Array Slot), g x3 x6 x8 x10 s0 = some r → va_P (dC, dI) vwCl (dw_X14 a ac s0) H → va_D A (dw_X14 a ac s0) → va_S A s.heap H locs → lv_has ls 12 [(0, .ref (a 0)), (3, .int x3), (6, .long x6), (8, .long x8), (10, .int x10)] → W p l e (headSpec ow_dm_X14_readEntry ({ frames := 4, cells := 0, slots := 0, locals := 89 })).room s m args below meth c H locs 0 0 Q (F0 m 332 ls [])
def dj_X14_readEntry_321 (p : Program) (l : Launch) (e : Env) (s : State) (m : MethodId) (args : Array Value) (below : List Frame) (meth : Method) (c : Code) (Q : State → Prop) (A : Nat → Prop) (dC : Nat → ClassId) (dI : Nat → Nat → Nat) (a : Nat → Nat) (ac : Nat → ClassId) (g : Int32 → Int64 → Int64 → Int32 → (St) → Option (St)) (r : St) : Prop := ∀ (x3 : Int32) (x6 : Int64) (x8 : Int64) (x10 : Int32) (s0 : St) (H : Heap) (locs : List Loc) (ls : Array Slot), g x3 x6 x8 x10 s0 = some r → va_P (dC, dI) vwCl (dw_X14 a ac s0) H → va_D A (dw_X14 a ac s0) → va_S A s.heap H locs → lv_has ls 12 [(0, .ref (a 0)), (3, .int x3), (6, .long x6), (8, .long x8), (10, .int x10)] → W p l e (headSpec ow_dm_X14_readEntry ({ frames := 4, cells := 0, slots := 0, locals := 89 })).room s m args below meth c H locs 0 0 Q (F0 m 321 ls [])
def dj_X14_readEntry_283 (p : Program) (l : Launch) (e : Env) (s : State) (m : MethodId) (args : Array Value) (below : List Frame) (meth : Method) (c : Code) (Q : State → Prop) (A : Nat → Prop) (dC : Nat → ClassId) (dI : Nat → Nat → Nat) (a : Nat → Nat) (ac : Nat → ClassId) (g : Int32 → Int64 → Int64 → Int32 → (St) → Option (St)) (r : St) : Prop := ∀ (x3 : Int32) (x6 : Int64) (x8 : Int64) (x10 : Int32) (s0 : St) (H : Heap) (locs : List Loc) (ls : Array Slot), g x3 x6 x8 x10 s0 = some r → va_P (dC, dI) vwCl (dw_X14 a ac s0) H → va_D A (dw_X14 a ac s0) → va_S A s.heap H locs → lv_has ls 12 [(0, .ref (a 0)), (3, .int x3), (6, .long x6), (8, .long x8), (10, .int x10)] → W p l e (headSpec ow_dm_X14_readEntry ({ frames := 4, cells := 0, slots := 0, locals := 89 })).room s m args below meth c H locs 0 0 Q (F0 m 283 ls [])
def dj_X14_readEntry_281 (p : Program) (l : Launch) (e : Env) (s : State) (m : MethodId) (args : Array Value) (below : List Frame) (meth : Method) (c : Code) (Q : State → Prop) (A : Nat → Prop) (dC : Nat → ClassId) (dI : Nat → Nat → Nat) (a : Nat → Nat) (ac : Nat → ClassId) (g : Int32 → Int64 → Int64 → Int32 → (St) → Option (St)) (r : St) : Prop := ∀ (x3 : Int32) (x6 : Int64) (x8 : Int64) (y0 : Int32) (s0 : St) (H : Heap) (locs : List Loc) (ls : Array Slot), g x3 x6 x8 y0 s0 = some r → va_P (dC, dI) vwCl (dw_X14 a ac s0) H → va_D A (dw_X14 a ac s0) → va_S A s.heap H locs → lv_has ls 12 [(0, .ref (a 0)), (3, .int x3), (6, .long x6), (8, .long x8)] → W p l e (headSpec ow_dm_X14_readEntry ({ frames := 4, cells := 0, slots := 0, locals := 89 })).room s m args below meth c H locs 0 0 Q (F0 m 281 ls [.int y0])
def dj_X14_readEntry_263 (p : Program) (l : Launch) (e : Env) (s : State) (m : MethodId) (args : Array Value) (below : List Frame) (meth : Method) (c : Code) (Q : State → Prop) (A : Nat → Prop) (dC : Nat → ClassId) (dI : Nat → Nat → Nat) (a : Nat → Nat) (ac : Nat → ClassId) (g : Int32 → Int64 → Int32 → Int64 → (St) → Option (St)) (r : St) : Prop := ∀ (x3 : Int32) (x6 : Int64) (x11 : Int32) (y0 : Int64) (s0 : St) (H : Heap) (locs : List Loc) (ls : Array Slot), g x3 x6 x11 y0 s0 = some r → va_P (dC, dI) vwCl (dw_X14 a ac s0) H → va_D A (dw_X14 a ac s0) → va_S A s.heap H locs → lv_has ls 12 [(0, .ref (a 0)), (3, .int x3), (6, .long x6), (11, .int x11)] → W p l e (headSpec ow_dm_X14_readEntry ({ frames := 4, cells := 0, slots := 0, locals := 89 })).room s m args below meth c H locs 0 0 Q (F0 m 263 ls [.long y0])
def dj_X14_readEntry_247 (p : Program) (l : Launch) (e : Env) (s : State) (m : MethodId) (args : Array Value) (below : List Frame) (meth : Method) (c : Code) (Q : State → Prop) (A : Nat → Prop) (dC : Nat → ClassId) (dI : Nat → Nat → Nat) (a : Nat → Nat) (ac : Nat → ClassId) (g : Int32 → Int64 → Int32 → (St) → Option (St)) (r : St) : Prop := ∀ (x3 : Int32) (x6 : Int64) (x11 : Int32) (s0 : St) (H : Heap) (locs : List Loc) (ls : Array Slot), g x3 x6 x11 s0 = some r → va_P (dC, dI) vwCl (dw_X14 a ac s0) H → va_D A (dw_X14 a ac s0) → va_S A s.heap H locs → lv_has ls 12 [(0, .ref (a 0)), (3, .int x3), (6, .long x6), (11, .int x11)] → W p l e (headSpec ow_dm_X14_readEntry ({ frames := 4, cells := 0, slots := 0, locals := 89 })).room s m args below meth c H locs 0 0 Q (F0 m 247 ls [])
def dj_X14_readEntry_213 (p : Program) (l : Launch) (e : Env) (s : State) (m : MethodId) (args : Array Value) (below : List Frame) (meth : Method) (c : Code) (Q : State → Prop) (A : Nat → Prop) (dC : Nat → ClassId) (dI : Nat → Nat → Nat) (a : Nat → Nat) (ac : Nat → ClassId) (g : Int32 → Int32 → Int32 → Int64 → Int64 → Int32 → (St) → Option (St)) (r : St) : Prop := ∀ (x2 : Int32) (x3 : Int32) (x4 : Int32) (x6 : Int64) (x8 : Int64) (y0 : Int32) (s0 : St) (H : Heap) (locs : List Loc) (ls : Array Slot), g x2 x3 x4 x6 x8 y0 s0 = some r → va_P (dC, dI) vwCl (dw_X14 a ac s0) H → va_D A (dw_X14 a ac s0) → va_S A s.heap H locs → lv_has ls 12 [(0, .ref (a 0)), (2, .int x2), (3, .int x3), (4, .int x4), (6, .long x6), (8, .long x8)] → W p l e (headSpec ow_dm_X14_readEntry ({ frames := 4, cells := 0, slots := 0, locals := 89 })).room s m args below meth c H locs 0 0 Q (F0 m 213 ls [.int y0])
def dj_X14_readEntry_200 (p : Program) (l : Launch) (e : Env) (s : State) (m : MethodId) (args : Array Value) (below : List Frame) (meth : Method) (c : Code) (Q : State → Prop) (A : Nat → Prop) (dC : Nat → ClassId) (dI : Nat → Nat → Nat) (a : Nat → Nat) (ac : Nat → ClassId) (g : Int32 → Int32 → Int32 → Int64 → Int64 → (St) → Option (St)) (r : St) : Prop := ∀ (x2 : Int32) (x3 : Int32) (x4 : Int32) (x6 : Int64) (y0 : Int64) (s0 : St) (H : Heap) (locs : List Loc) (ls : Array Slot), g x2 x3 x4 x6 y0 s0 = some r → va_P (dC, dI) vwCl (dw_X14 a ac s0) H → va_D A (dw_X14 a ac s0) → va_S A s.heap H locs → lv_has ls 12 [(0, .ref (a 0)), (2, .int x2), (3, .int x3), (4, .int x4), (6, .long x6)] → W p l e (headSpec ow_dm_X14_readEntry ({ frames := 4, cells := 0, slots := 0, locals := 89 })).room s m args below meth c H locs 0 0 Q (F0 m 200 ls [.long y0])
def dj_X14_readEntry_147 (p : Program) (l : Launch) (e : Env) (s : State) (m : MethodId) (args : Array Value) (below : List Frame) (meth : Method) (c : Code) (Q : State → Prop) (A : Nat → Prop) (dC : Nat → ClassId) (dI : Nat → Nat → Nat) (a : Nat → Nat) (ac : Nat → ClassId) (g : Int32 → Int32 → Int32 → Int64 → (St) → Option (St)) (r : St) : Prop := ∀ (x2 : Int32) (x3 : Int32) (x4 : Int32) (x6 : Int64) (s0 : St) (H : Heap) (locs : List Loc) (ls : Array Slot), g x2 x3 x4 x6 s0 = some r → va_P (dC, dI) vwCl (dw_X14 a ac s0) H → va_D A (dw_X14 a ac s0) → va_S A s.heap H locs → lv_has ls 12 [(0, .ref (a 0)), (2, .int x2), (3, .int x3), (4, .int x4), (6, .long x6)] → W p l e (headSpec ow_dm_X14_readEntry ({ frames := 4, cells := 0, slots := 0, locals := 89 })).room s m args below meth c H locs 0 0 Q (F0 m 147 ls [])
def dj_X14_readEntry_130 (p : Program) (l : Launch) (e : Env) (s : State) (m : MethodId) (args : Array Value) (below : List Frame) (meth : Method) (c : Code) (Q : State → Prop) (A : Nat → Prop) (dC : Nat → ClassId) (dI : Nat → Nat → Nat) (a : Nat → Nat) (ac : Nat → ClassId) (g : Int32 → Int32 → Int32 → Int32 → Int64 → (St) → Option (St)) (r : St) : Prop := ∀ (x2 : Int32) (x3 : Int32) (x4 : Int32) (x5 : Int32) (x6 : Int64) (s0 : St) (H : Heap) (locs : List Loc) (ls : Array Slot), g x2 x3 x4 x5 x6 s0 = some r → va_P (dC, dI) vwCl (dw_X14 a ac s0) H → va_D A (dw_X14 a ac s0) → va_S A s.heap H locs → lv_has ls 12 [(0, .ref (a 0)), (2, .int x2), (3, .int x3), (4, .int x4), (5, .int x5), (6, .long x6)] → W p l e (headSpec ow_dm_X14_readEntry ({ frames := 4, cells := 0, slots := 0, locals := 89 })).room s m args below meth c H locs 0 0 Q (F0 m 130 ls [])
def dj_X14_readEntry_106 (p : Program) (l : Launch) (e : Env) (s : State) (m : MethodId) (args : Array Value) (below : List Frame) (meth : Method) (c : Code) (Q : State → Prop) (A : Nat → Prop) (dC : Nat → ClassId) (dI : Nat → Nat → Nat) (a : Nat → Nat) (ac : Nat → ClassId) (g : Int32 → Int32 → Int32 → Int32 → Int64 → (St) → Option (St)) (r : St) : Prop := ∀ (x2 : Int32) (x3 : Int32) (x4 : Int32) (x5 : Int32) (y0 : Int64) (s0 : St) (H : Heap) (locs : List Loc) (ls : Array Slot), g x2 x3 x4 x5 y0 s0 = some r → va_P (dC, dI) vwCl (dw_X14 a ac s0) H → va_D A (dw_X14 a ac s0) → va_S A s.heap H locs → lv_has ls 12 [(0, .ref (a 0)), (2, .int x2), (3, .int x3), (4, .int x4), (5, .int x5)] → W p l e (headSpec ow_dm_X14_readEntry ({ frames := 4, cells := 0, slots := 0, locals := 89 })).room s m args below meth c H locs 0 0 Q (F0 m 106 ls [.long y0])
def dj_X14_readEntry_54 (p : Program) (l : Launch) (e : Env) (s : State) (m : MethodId) (args : Array Value) (below : List Frame) (meth : Method) (c : Code) (Q : State → Prop) (A : Nat → Prop) (dC : Nat → ClassId) (dI : Nat → Nat → Nat) (a : Nat → Nat) (ac : Nat → ClassId) (g : Int32 → Int32 → Int32 → Int32 → (St) → Option (St)) (r : St) : Prop := ∀ (x1 : Int32) (x2 : Int32) (x3 : Int32) (x4 : Int32) (s0 : St) (H : Heap) (locs : List Loc) (ls : Array Slot), g x1 x2 x3 x4 s0 = some r → va_P (dC, dI) vwCl (dw_X14 a ac s0) H → va_D A (dw_X14 a ac s0) → va_S A s.heap H locs → lv_has ls 12 [(0, .ref (a 0)), (1, .int x1), (2, .int x2), (3, .int x3), (4, .int x4)] → W p l e (headSpec ow_dm_X14_readEntry ({ frames := 4, cells := 0, slots := 0, locals := 89 })).room s m args below meth c H locs 0 0 Q (F0 m 54 ls [])
def dj_X14_readEntry_48 (p : Program) (l : Launch) (e : Env) (s : State) (m : MethodId) (args : Array Value) (below : List Frame) (meth : Method) (c : Code) (Q : State → Prop) (A : Nat → Prop) (dC : Nat → ClassId) (dI : Nat → Nat → Nat) (a : Nat → Nat) (ac : Nat → ClassId) (g : Int32 → Int32 → Int32 → Int32 → (St) → Option (St)) (r : St) : Prop := ∀ (x1 : Int32) (x2 : Int32) (x3 : Int32) (x4 : Int32) (s0 : St) (H : Heap) (locs : List Loc) (ls : Array Slot), g x1 x2 x3 x4 s0 = some r → va_P (dC, dI) vwCl (dw_X14 a ac s0) H → va_D A (dw_X14 a ac s0) → va_S A s.heap H locs → lv_has ls 12 [(0, .ref (a 0)), (1, .int x1), (2, .int x2), (3, .int x3), (4, .int x4)] → W p l e (headSpec ow_dm_X14_readEntry ({ frames := 4, cells := 0, slots := 0, locals := 89 })).room s m args below meth c H locs 0 0 Q (F0 m 48 ls [])
def dj_X14_readEntry_38 (p : Program) (l : Launch) (e : Env) (s : State) (m : MethodId) (args : Array Value) (below : List Frame) (meth : Method) (c : Code) (Q : State → Prop) (A : Nat → Prop) (dC : Nat → ClassId) (dI : Nat → Nat → Nat) (a : Nat → Nat) (ac : Nat → ClassId) (g : Int32 → Int32 → Int32 → Int32 → (St) → Option (St)) (r : St) : Prop := ∀ (x1 : Int32) (x2 : Int32) (x3 : Int32) (x4 : Int32) (s0 : St) (H : Heap) (locs : List Loc) (ls : Array Slot), g x1 x2 x3 x4 s0 = some r → va_P (dC, dI) vwCl (dw_X14 a ac s0) H → va_D A (dw_X14 a ac s0) → va_S A s.heap H locs → lv_has ls 12 [(0, .ref (a 0)), (1, .int x1), (2, .int x2), (3, .int x3), (4, .int x4)] → W p l e (headSpec ow_dm_X14_readEntry ({ frames := 4, cells := 0, slots := 0, locals := 89 })).room s m args below meth c H locs 0 0 Q (F0 m 38 ls [])
def dj_X14_readEntry_27 (p : Program) (l : Launch) (e : Env) (s : State) (m : MethodId) (args : Array Value) (below : List Frame) (meth : Method) (c : Code) (Q : State → Prop) (A : Nat → Prop) (dC : Nat → ClassId) (dI : Nat → Nat → Nat) (a : Nat → Nat) (ac : Nat → ClassId) (g : Int32 → Int32 → Int32 → Int32 → (St) → Option (St)) (r : St) : Prop := ∀ (x1 : Int32) (x2 : Int32) (x3 : Int32) (x4 : Int32) (s0 : St) (H : Heap) (locs : List Loc) (ls : Array Slot), g x1 x2 x3 x4 s0 = some r → va_P (dC, dI) vwCl (dw_X14 a ac s0) H → va_D A (dw_X14 a ac s0) → va_S A s.heap H locs → lv_has ls 12 [(0, .ref (a 0)), (1, .int x1), (2, .int x2), (3, .int x3), (4, .int x4)] → W p l e (headSpec ow_dm_X14_readEntry ({ frames := 4, cells := 0, slots := 0, locals := 89 })).room s m args below meth c H locs 0 0 Q (F0 m 27 ls [])
def dj_X14_readEntry_0 (p : Program) (l : Launch) (e : Env) (s : State) (m : MethodId) (args : Array Value) (below : List Frame) (meth : Method) (c : Code) (Q : State → Prop) (A : Nat → Prop) (dC : Nat → ClassId) (dI : Nat → Nat → Nat) (a : Nat → Nat) (ac : Nat → ClassId) (g : Int32 → Int32 → (St) → Option (St)) (r : St) : Prop := ∀ (v0 : Int32) (v1 : Int32) (s0 : St) (H : Heap) (locs : List Loc) (ls : Array Slot), g v0 v1 s0 = some r → va_P (dC, dI) vwCl (dw_X14 a ac s0) H → va_D A (dw_X14 a ac s0) → va_S A s.heap H locs → lv_has ls 12 [(0, .ref (a 0)), (1, .int v0), (2, .int v1)] → W p l e (headSpec ow_dm_X14_readEntry ({ frames := 4, cells := 0, slots := 0, locals := 89 })).room s m args below meth c H locs 0 0 Q (F0 m 0 ls [])
set_option maxHeartbeats 40000000 in
set_option maxRecDepth 100000 in
theorem db_X14_readEntry_350 {p : Program} {l : Launch} {e : Env} {s : State} {m : MethodId} {args : Array Value} {below : List Frame} {meth : Method} {c : Code} {Q : State → Prop} {A : Nat → Prop} {dC : Nat → ClassId} {dI : Nat → Nat → Nat} {a : Nat → Nat} {ac : Nat → ClassId} {n : Nat} {r : St} (C : nd_C p l s m args c A (dC, dI) cX14_readEntry 12 RX14 ow_dm_X14_readEntry (dk_X14 ac)) (K : nd_Kv p l e (headSpec ow_dm_X14_readEntry ({ frames := 4, cells := 0, slots := 0, locals := 89 })).room s m args below meth c Q A (dC, dI) cX14_readEntry (St) (dw_X14 a ac) r) : dj_X14_readEntry_350 p l e s m args below meth c Q A dC dI a ac (df_X14_readEntry_350 n) r := by
  obtain ⟨hlt, hx, hb, hml, hown, hts, hN, hA, hK⟩ := id C
  intro s0 H locs ls h hP hD hS hl
  unfold df_X14_readEntry_350 at h
  exact K _ _ _ _ _ dX14_readEntry_350 (Option.some.inj h).symm hP hD hS
