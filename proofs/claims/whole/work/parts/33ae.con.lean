def ow_dm_X5_readName_t1 : List Cond := .code yX5_readName cX5_readName 8 (some .int) :: ([.methodLink RX5 332 yJ7_fill_031fb, .static yJ7_fill_031fb, .initialized RJ7, .fieldLink RX5 18 "TimeMachine$Kernel" "machine" "LTimeMachine$Machine;", .methodLink RX5 338 yX6_may, .instanceMethod yX6_may, .selects RX6 yX6_may yX6_may, .initialized RX6, .methodLink RX5 318 yX6_byteAt, .instanceMethod yX6_byteAt, .selects RX6 yX6_byteAt yX6_byteAt] ++ (u_ws RX5 TX5 8 ++ (ow_dm_J7_fill_031fb ++ (ow_dm_X6_may ++ (ow_dm_X6_byteAt ++ [])))))
theorem gd_dm_X5_readName_t1 : ∀ w ∈ ow_dm_X5_readName_t1, (w.onTables && w.keeps) = true ∨ ∃ ty, w = Cond.arrayClass ty := List.forall_mem_cons.mpr ⟨good_of_word rfl, List.forall_mem_append.mpr ⟨fun w h => good_of_word (List.all_eq_true.mp (by decide +kernel) w h), List.forall_mem_append.mpr ⟨gu_X5, List.forall_mem_append.mpr ⟨gd_dm_J7_fill_031fb, List.forall_mem_append.mpr ⟨gd_dm_X6_may, List.forall_mem_append.mpr ⟨gd_dm_X6_byteAt, fun _ h => nomatch h⟩⟩⟩⟩⟩⟩
theorem hi_dm_X5_readName_t1_X5 : ∀ w ∈ u_ws RX5 TX5 8, w ∈ ow_dm_X5_readName_t1 := fun w h => List.mem_cons_of_mem _ (List.mem_append_right _ (List.mem_append_left _ h))
theorem gi_dm_X5_readName_t1_0 : GoodIn ow_dm_X5_readName_t1 (va_wsS RX5 332 yJ7_fill_031fb ow_dm_J7_fill_031fb) := goodIn_app (goodIn_of _ (by decide +kernel)) (fun w h => ⟨List.mem_cons_of_mem _ (List.mem_append_right _ (List.mem_append_right _ (List.mem_append_left _ h))), gd_dm_J7_fill_031fb w h⟩)
theorem gi_dm_X5_readName_t1_1 : GoodIn ow_dm_X5_readName_t1 (wsV RX5 338 RX6 yX6_may ow_dm_X6_may) := goodIn_app (goodIn_of _ (by decide +kernel)) (fun w h => ⟨List.mem_cons_of_mem _ (List.mem_append_right _ (List.mem_append_right _ (List.mem_append_right _ (List.mem_append_left _ h)))), gd_dm_X6_may w h⟩)
theorem gi_dm_X5_readName_t1_2 : GoodIn ow_dm_X5_readName_t1 (wsV RX5 318 RX6 yX6_byteAt ow_dm_X6_byteAt) := goodIn_app (goodIn_of _ (by decide +kernel)) (fun w h => ⟨List.mem_cons_of_mem _ (List.mem_append_right _ (List.mem_append_right _ (List.mem_append_right _ (List.mem_append_right _ (List.mem_append_left _ h))))), gd_dm_X6_byteAt w h⟩)
def dj_X5_readName_t1_126 (p : Program) (l : Launch) (e : Env) (s : State) (m : MethodId) (args : Array Value) (below : List Frame) (meth : Method) (c : Code) (Q : State → Prop) (A : Nat → Prop) (dC : Nat → ClassId) (dI : Nat → Nat → Nat) (a : Nat → Nat) (ac : Nat → ClassId) (g : Int32 → (St × (St × (St × (St)))) → Option (Int32 × (St × (St × (St × (St)))))) (r : Int32 × (St × (St × (St × (St))))) : Prop := ∀ (y0 : Int32) (s0 : St × (St × (St × (St)))) (H : Heap) (locs : List Loc) (ls : Array Slot), g y0 s0 = some r → va_P (dC, dI) vwCl (dw_X5 a ac s0) H → va_D A (dw_X5 a ac s0) → va_S A s.heap H locs → lv_has ls 8 [] → W p l e (headSpec ow_dm_X5_readName_t1 ({ frames := 1, cells := 0, slots := 0, locals := 23 })).room s m args below meth c H locs 0 0 Q (F0 m 126 ls [.int y0])
def dj_X5_readName_t1_124 (p : Program) (l : Launch) (e : Env) (s : State) (m : MethodId) (args : Array Value) (below : List Frame) (meth : Method) (c : Code) (Q : State → Prop) (A : Nat → Prop) (dC : Nat → ClassId) (dI : Nat → Nat → Nat) (a : Nat → Nat) (ac : Nat → ClassId) (g : (St × (St × (St × (St)))) → Option (Int32 × (St × (St × (St × (St)))))) (r : Int32 × (St × (St × (St × (St))))) : Prop := ∀ (s0 : St × (St × (St × (St)))) (H : Heap) (locs : List Loc) (ls : Array Slot), g s0 = some r → va_P (dC, dI) vwCl (dw_X5 a ac s0) H → va_D A (dw_X5 a ac s0) → va_S A s.heap H locs → lv_has ls 8 [] → W p l e (headSpec ow_dm_X5_readName_t1 ({ frames := 1, cells := 0, slots := 0, locals := 23 })).room s m args below meth c H locs 0 0 Q (F0 m 124 ls [])
def dj_X5_readName_t1_110 (p : Program) (l : Launch) (e : Env) (s : State) (m : MethodId) (args : Array Value) (below : List Frame) (meth : Method) (c : Code) (Q : State → Prop) (A : Nat → Prop) (dC : Nat → ClassId) (dI : Nat → Nat → Nat) (a : Nat → Nat) (ac : Nat → ClassId) (g : Int32 → Int32 → (St × (St × (St × (St)))) → Option (Int32 × (St × (St × (St × (St)))))) (r : Int32 × (St × (St × (St × (St))))) : Prop := ∀ (x4 : Int32) (x5 : Int32) (s0 : St × (St × (St × (St)))) (H : Heap) (locs : List Loc) (ls : Array Slot), g x4 x5 s0 = some r → va_P (dC, dI) vwCl (dw_X5 a ac s0) H → va_D A (dw_X5 a ac s0) → va_S A s.heap H locs → lv_has ls 8 [(4, .int x4), (5, .int x5)] → W p l e (headSpec ow_dm_X5_readName_t1 ({ frames := 1, cells := 0, slots := 0, locals := 23 })).room s m args below meth c H locs 0 0 Q (F0 m 110 ls [])
def dj_X5_readName_t1_104 (p : Program) (l : Launch) (e : Env) (s : State) (m : MethodId) (args : Array Value) (below : List Frame) (meth : Method) (c : Code) (Q : State → Prop) (A : Nat → Prop) (dC : Nat → ClassId) (dI : Nat → Nat → Nat) (a : Nat → Nat) (ac : Nat → ClassId) (g : Int32 → Int32 → Int32 → Int32 → Int32 → (St × (St × (St × (St)))) → Option (Int32 × (St × (St × (St × (St)))))) (r : Int32 × (St × (St × (St × (St))))) : Prop := ∀ (x1 : Int32) (x2 : Int32) (x4 : Int32) (x5 : Int32) (x6 : Int32) (s0 : St × (St × (St × (St)))) (H : Heap) (locs : List Loc) (ls : Array Slot), g x1 x2 x4 x5 x6 s0 = some r → va_P (dC, dI) vwCl (dw_X5 a ac s0) H → va_D A (dw_X5 a ac s0) → va_S A s.heap H locs → lv_has ls 8 [(0, .ref (a 0)), (1, .int x1), (2, .int x2), (3, .ref (a 1)), (4, .int x4), (5, .int x5), (6, .int x6)] → W p l e (headSpec ow_dm_X5_readName_t1 ({ frames := 1, cells := 0, slots := 0, locals := 23 })).room s m args below meth c H locs 0 0 Q (F0 m 104 ls [])
def dj_X5_readName_t1_95 (p : Program) (l : Launch) (e : Env) (s : State) (m : MethodId) (args : Array Value) (below : List Frame) (meth : Method) (c : Code) (Q : State → Prop) (A : Nat → Prop) (dC : Nat → ClassId) (dI : Nat → Nat → Nat) (a : Nat → Nat) (ac : Nat → ClassId) (g : Int32 → Int32 → Int32 → Int32 → Int32 → Int32 → (St × (St × (St × (St)))) → Option (Int32 × (St × (St × (St × (St)))))) (r : Int32 × (St × (St × (St × (St))))) : Prop := ∀ (x1 : Int32) (x2 : Int32) (x4 : Int32) (x6 : Int32) (x7 : Int32) (y0 : Int32) (s0 : St × (St × (St × (St)))) (H : Heap) (locs : List Loc) (ls : Array Slot), g x1 x2 x4 x6 x7 y0 s0 = some r → va_P (dC, dI) vwCl (dw_X5 a ac s0) H → va_D A (dw_X5 a ac s0) → va_S A s.heap H locs → lv_has ls 8 [(0, .ref (a 0)), (1, .int x1), (2, .int x2), (3, .ref (a 1)), (4, .int x4), (6, .int x6), (7, .int x7)] → W p l e (headSpec ow_dm_X5_readName_t1 ({ frames := 1, cells := 0, slots := 0, locals := 23 })).room s m args below meth c H locs 0 0 Q (F0 m 95 ls [.int y0])
def dj_X5_readName_t1_94 (p : Program) (l : Launch) (e : Env) (s : State) (m : MethodId) (args : Array Value) (below : List Frame) (meth : Method) (c : Code) (Q : State → Prop) (A : Nat → Prop) (dC : Nat → ClassId) (dI : Nat → Nat → Nat) (a : Nat → Nat) (ac : Nat → ClassId) (g : Int32 → Int32 → Int32 → Int32 → Int32 → (St × (St × (St × (St)))) → Option (Int32 × (St × (St × (St × (St)))))) (r : Int32 × (St × (St × (St × (St))))) : Prop := ∀ (x1 : Int32) (x2 : Int32) (x4 : Int32) (x6 : Int32) (x7 : Int32) (s0 : St × (St × (St × (St)))) (H : Heap) (locs : List Loc) (ls : Array Slot), g x1 x2 x4 x6 x7 s0 = some r → va_P (dC, dI) vwCl (dw_X5 a ac s0) H → va_D A (dw_X5 a ac s0) → va_S A s.heap H locs → lv_has ls 8 [(0, .ref (a 0)), (1, .int x1), (2, .int x2), (3, .ref (a 1)), (4, .int x4), (6, .int x6), (7, .int x7)] → W p l e (headSpec ow_dm_X5_readName_t1 ({ frames := 1, cells := 0, slots := 0, locals := 23 })).room s m args below meth c H locs 0 0 Q (F0 m 94 ls [])
def dj_X5_readName_t1_14 (p : Program) (l : Launch) (e : Env) (s : State) (m : MethodId) (args : Array Value) (below : List Frame) (meth : Method) (c : Code) (Q : State → Prop) (A : Nat → Prop) (dC : Nat → ClassId) (dI : Nat → Nat → Nat) (a : Nat → Nat) (ac : Nat → ClassId) (g : Int32 → Int32 → Int32 → Int32 → Int32 → (St × (St × (St × (St)))) → Option (Int32 × (St × (St × (St × (St)))))) (r : Int32 × (St × (St × (St × (St))))) : Prop := ∀ (x1 : Int32) (x2 : Int32) (x4 : Int32) (x5 : Int32) (x6 : Int32) (s0 : St × (St × (St × (St)))) (H : Heap) (locs : List Loc) (ls : Array Slot), g x1 x2 x4 x5 x6 s0 = some r → va_P (dC, dI) vwCl (dw_X5 a ac s0) H → va_D A (dw_X5 a ac s0) → va_S A s.heap H locs → lv_has ls 8 [(0, .ref (a 0)), (1, .int x1), (2, .int x2), (3, .ref (a 1)), (4, .int x4), (5, .int x5), (6, .int x6)] → W p l e (headSpec ow_dm_X5_readName_t1 ({ frames := 1, cells := 0, slots := 0, locals := 23 })).room s m args below meth c H locs 0 0 Q (F0 m 14 ls [])
def dj_X5_readName_t1_0 (p : Program) (l : Launch) (e : Env) (s : State) (m : MethodId) (args : Array Value) (below : List Frame) (meth : Method) (c : Code) (Q : State → Prop) (A : Nat → Prop) (dC : Nat → ClassId) (dI : Nat → Nat → Nat) (a : Nat → Nat) (ac : Nat → ClassId) (g : Int32 → Int32 → (St × (St × (St × (St)))) → Option (Int32 × (St × (St × (St × (St)))))) (r : Int32 × (St × (St × (St × (St))))) : Prop := ∀ (v0 : Int32) (v1 : Int32) (s0 : St × (St × (St × (St)))) (H : Heap) (locs : List Loc) (ls : Array Slot), g v0 v1 s0 = some r → va_P (dC, dI) vwCl (dw_X5 a ac s0) H → va_D A (dw_X5 a ac s0) → va_S A s.heap H locs → lv_has ls 8 [(0, .ref (a 0)), (1, .int v0), (2, .int v1), (3, .ref (a 1))] → W p l e (headSpec ow_dm_X5_readName_t1 ({ frames := 1, cells := 0, slots := 0, locals := 23 })).room s m args below meth c H locs 0 0 Q (F0 m 0 ls [])
set_option maxHeartbeats 40000000 in
set_option maxRecDepth 100000 in
theorem db_X5_readName_t1_126 {p : Program} {l : Launch} {e : Env} {s : State} {m : MethodId} {args : Array Value} {below : List Frame} {meth : Method} {c : Code} {Q : State → Prop} {A : Nat → Prop} {dC : Nat → ClassId} {dI : Nat → Nat → Nat} {a : Nat → Nat} {ac : Nat → ClassId} {n : Nat} {r : Int32 × (St × (St × (St × (St))))} (C : nd_C p l s m args c A (dC, dI) cX5_readName 8 RX5 ow_dm_X5_readName_t1 (dk_X5 ac)) (K : nd_Ki p l e (headSpec ow_dm_X5_readName_t1 ({ frames := 1, cells := 0, slots := 0, locals := 23 })).room s m args below meth c Q A (dC, dI) cX5_readName .int (St × (St × (St × (St)))) (dw_X5 a ac) r) : dj_X5_readName_t1_126 p l e s m args below meth c Q A dC dI a ac (df_X5_readName_t1_126 n) r := by
  obtain ⟨hlt, hx, hb, hml, hown, hts, hN, hA, hK⟩ := id C
  intro y0 s0 H locs ls h hP hD hS hl
  unfold df_X5_readName_t1_126 at h
  exact K _ _ _ _ _ _ dX5_readName_126 rfl (Option.some.inj h).symm hP hD hS
set_option maxHeartbeats 40000000 in
set_option maxRecDepth 100000 in
theorem db_X5_readName_t1_124 {p : Program} {l : Launch} {e : Env} {s : State} {m : MethodId} {args : Array Value} {below : List Frame} {meth : Method} {c : Code} {Q : State → Prop} {A : Nat → Prop} {dC : Nat → ClassId} {dI : Nat → Nat → Nat} {a : Nat → Nat} {ac : Nat → ClassId} {n : Nat} {r : Int32 × (St × (St × (St × (St))))} (C : nd_C p l s m args c A (dC, dI) cX5_readName 8 RX5 ow_dm_X5_readName_t1 (dk_X5 ac)) (K : nd_Ki p l e (headSpec ow_dm_X5_readName_t1 ({ frames := 1, cells := 0, slots := 0, locals := 23 })).room s m args below meth c Q A (dC, dI) cX5_readName .int (St × (St × (St × (St)))) (dw_X5 a ac) r) : dj_X5_readName_t1_124 p l e s m args below meth c Q A dC dI a ac (df_X5_readName_t1_124 n) r := by
  obtain ⟨hlt, hx, hb, hml, hown, hts, hN, hA, hK⟩ := id C
  intro s0 H locs ls h hP hD hS hl
  unfold df_X5_readName_t1_124 at h
  refine lv_bipush (v := (-22)) hx hb dX5_readName_124 (by decide) ?_
  exact (db_X5_readName_t1_126 C K) ((-22)) s0 _ _ _ h hP hD hS (lv_sub hl [] rfl)
set_option maxHeartbeats 40000000 in
set_option maxRecDepth 100000 in
theorem db_X5_readName_t1_110 {p : Program} {l : Launch} {e : Env} {s : State} {m : MethodId} {args : Array Value} {below : List Frame} {meth : Method} {c : Code} {Q : State → Prop} {A : Nat → Prop} {dC : Nat → ClassId} {dI : Nat → Nat → Nat} {a : Nat → Nat} {ac : Nat → ClassId} {n : Nat} {r : Int32 × (St × (St × (St × (St))))} (C : nd_C p l s m args c A (dC, dI) cX5_readName 8 RX5 ow_dm_X5_readName_t1 (dk_X5 ac)) (K : nd_Ki p l e (headSpec ow_dm_X5_readName_t1 ({ frames := 1, cells := 0, slots := 0, locals := 23 })).room s m args below meth c Q A (dC, dI) cX5_readName .int (St × (St × (St × (St)))) (dw_X5 a ac) r) : dj_X5_readName_t1_110 p l e s m args below meth c Q A dC dI a ac (df_X5_readName_t1_110 n) r := by
  obtain ⟨hlt, hx, hb, hml, hown, hts, hN, hA, hK⟩ := id C
  intro x4 x5 s0 H locs ls h hP hD hS hl
  unfold df_X5_readName_t1_110 at h
  refine lv_iload hx hb dX5_readName_110 (lv_at hl 1 rfl) ?_
  refine lv_if_eq (tgt := 124) hx hb dX5_readName_112 (by decide) (fun c3 => ?_) (fun c3 => ?_)
  · have h := nd_pos h c3
    exact (db_X5_readName_t1_124 C K)  s0 _ _ _ h hP hD hS (lv_sub hl [] rfl)
  · have h := nd_neg h c3
    refine lv_iload hx hb dX5_readName_115 (lv_at hl 0 rfl) ?_
    refine lv_if_le (tgt := 124) hx hb dX5_readName_117 (by decide) (fun c4 => ?_) (fun c4 => ?_)
    · have h := nd_pos h c4
      exact (db_X5_readName_t1_124 C K)  s0 _ _ _ h hP hD hS (lv_sub hl [] rfl)
    · have h := nd_neg h c4
      refine lv_iconst (v := 0) hx hb dX5_readName_120 (by decide) ?_
      refine lv_goto (tgt := 126) hx hb dX5_readName_121 (by decide) ?_
      exact (db_X5_readName_t1_126 C K) (0) s0 _ _ _ h hP hD hS (lv_sub hl [] rfl)
set_option maxHeartbeats 40000000 in
set_option maxRecDepth 100000 in
theorem db_X5_readName_t1_104 {p : Program} {l : Launch} {e : Env} {s : State} {m : MethodId} {args : Array Value} {below : List Frame} {meth : Method} {c : Code} {Q : State → Prop} {A : Nat → Prop} {dC : Nat → ClassId} {dI : Nat → Nat → Nat} {a : Nat → Nat} {ac : Nat → ClassId} {n : Nat} {r : Int32 × (St × (St × (St × (St))))} (C : nd_C p l s m args c A (dC, dI) cX5_readName 8 RX5 ow_dm_X5_readName_t1 (dk_X5 ac)) (K : nd_Ki p l e (headSpec ow_dm_X5_readName_t1 ({ frames := 1, cells := 0, slots := 0, locals := 23 })).room s m args below meth c Q A (dC, dI) cX5_readName .int (St × (St × (St × (St)))) (dw_X5 a ac) r) {g14 : Int32 → Int32 → Int32 → Int32 → Int32 → (St × (St × (St × (St)))) → Option (Int32 × (St × (St × (St × (St)))))} (J14 : dj_X5_readName_t1_14 p l e s m args below meth c Q A dC dI a ac g14 r) : dj_X5_readName_t1_104 p l e s m args below meth c Q A dC dI a ac (df_X5_readName_t1_104 n g14) r := by
  obtain ⟨hlt, hx, hb, hml, hown, hts, hN, hA, hK⟩ := id C
  intro x1 x2 x4 x5 x6 s0 H locs ls h hP hD hS hl
  unfold df_X5_readName_t1_104 at h
  obtain ⟨z19, ez19, h⟩ := nd_let_e h
  refine lv_iinc (v := z19) (lv' := [(6, .int z19), (0, .ref (a 0)), (1, .int x1), (2, .int x2), (3, .ref (a 1)), (4, .int x4), (5, .int x5)]) hx hb dX5_readName_104 hl (k := 6) rfl (by rw [ez19]) (by decide) rfl (fun ls hl => ?_)
  refine lv_goto (tgt := 14) hx hb dX5_readName_107 (by decide) ?_
  exact (J14) (x1) (x2) (x4) (x5) (z19) s0 _ _ _ h hP hD hS (lv_sub hl [1, 2, 3, 4, 5, 6, 0] rfl)
set_option maxHeartbeats 40000000 in
set_option maxRecDepth 100000 in
theorem db_X5_readName_t1_95 {p : Program} {l : Launch} {e : Env} {s : State} {m : MethodId} {args : Array Value} {below : List Frame} {meth : Method} {c : Code} {Q : State → Prop} {A : Nat → Prop} {dC : Nat → ClassId} {dI : Nat → Nat → Nat} {a : Nat → Nat} {ac : Nat → ClassId} {n : Nat} {r : Int32 × (St × (St × (St × (St))))} (C : nd_C p l s m args c A (dC, dI) cX5_readName 8 RX5 ow_dm_X5_readName_t1 (dk_X5 ac)) (K : nd_Ki p l e (headSpec ow_dm_X5_readName_t1 ({ frames := 1, cells := 0, slots := 0, locals := 23 })).room s m args below meth c Q A (dC, dI) cX5_readName .int (St × (St × (St × (St)))) (dw_X5 a ac) r) {g14 : Int32 → Int32 → Int32 → Int32 → Int32 → (St × (St × (St × (St)))) → Option (Int32 × (St × (St × (St × (St)))))} (J14 : dj_X5_readName_t1_14 p l e s m args below meth c Q A dC dI a ac g14 r) : dj_X5_readName_t1_95 p l e s m args below meth c Q A dC dI a ac (df_X5_readName_t1_95 n g14) r := by
  obtain ⟨hlt, hx, hb, hml, hown, hts, hN, hA, hK⟩ := id C
  intro x1 x2 x4 x6 x7 y0 s0 H locs ls h hP hD hS hl
  unfold df_X5_readName_t1_95 at h
  refine lv_istore (lv' := [(5, .int y0), (0, .ref (a 0)), (1, .int x1), (2, .int x2), (3, .ref (a 1)), (4, .int x4), (6, .int x6), (7, .int x7)]) hx hb dX5_readName_95 hl (by decide) rfl (fun ls hl => ?_)
  refine lv_aload_n hx hb dX5_readName_97 rfl (lv_at hl 4 rfl) ?_
  refine lv_iload hx hb dX5_readName_98 (lv_at hl 6 rfl) ?_
  refine lv_iload hx hb dX5_readName_100 (lv_at hl 7 rfl) ?_
  refine lv_i2b hx hb dX5_readName_102 rfl ?_
  obtain ⟨i17, h⟩ := nd_ck_e h
  refine va_bast (i := x6) (x := (x7.toInt8.toInt32)) hx hb hK hP hD hS 1 0 rfl rfl i17 dX5_readName_103 (fun H locs hP hD hS => ?_)
  obtain ⟨s18, es18, h⟩ := nd_let_e h
  have hP : va_P (dC, dI) vwCl (dw_X5 a ac s18) H := by rw [es18]; exact hP
  have hD : va_D A (dw_X5 a ac s18) := by rw [es18]; exact hD
  exact (db_X5_readName_t1_104 C K J14) (x1) (x2) (x4) (y0) (x6) s18 _ _ _ h hP hD hS (lv_sub hl [1, 2, 3, 4, 5, 0, 6] rfl)
set_option maxHeartbeats 40000000 in
set_option maxRecDepth 100000 in
theorem db_X5_readName_t1_94 {p : Program} {l : Launch} {e : Env} {s : State} {m : MethodId} {args : Array Value} {below : List Frame} {meth : Method} {c : Code} {Q : State → Prop} {A : Nat → Prop} {dC : Nat → ClassId} {dI : Nat → Nat → Nat} {a : Nat → Nat} {ac : Nat → ClassId} {n : Nat} {r : Int32 × (St × (St × (St × (St))))} (C : nd_C p l s m args c A (dC, dI) cX5_readName 8 RX5 ow_dm_X5_readName_t1 (dk_X5 ac)) (K : nd_Ki p l e (headSpec ow_dm_X5_readName_t1 ({ frames := 1, cells := 0, slots := 0, locals := 23 })).room s m args below meth c Q A (dC, dI) cX5_readName .int (St × (St × (St × (St)))) (dw_X5 a ac) r) {g14 : Int32 → Int32 → Int32 → Int32 → Int32 → (St × (St × (St × (St)))) → Option (Int32 × (St × (St × (St × (St)))))} (J14 : dj_X5_readName_t1_14 p l e s m args below meth c Q A dC dI a ac g14 r) : dj_X5_readName_t1_94 p l e s m args below meth c Q A dC dI a ac (df_X5_readName_t1_94 n g14) r := by
  obtain ⟨hlt, hx, hb, hml, hown, hts, hN, hA, hK⟩ := id C
  intro x1 x2 x4 x6 x7 s0 H locs ls h hP hD hS hl
  unfold df_X5_readName_t1_94 at h
  refine lv_iconst (v := 0) hx hb dX5_readName_94 (by decide) ?_
  exact (db_X5_readName_t1_95 C K J14) (x1) (x2) (x4) (x6) (x7) (0) s0 _ _ _ h hP hD hS (lv_sub hl [0, 1, 2, 3, 4, 5, 6] rfl)
set_option maxHeartbeats 40000000 in
set_option maxRecDepth 100000 in
theorem dB_X5_readName_t1_14 {p : Program} {l : Launch} {e : Env} {s : State} {m : MethodId} {args : Array Value} {below : List Frame} {meth : Method} {c : Code} {Q : State → Prop} {A : Nat → Prop} {dC : Nat → ClassId} {dI : Nat → Nat → Nat} {a : Nat → Nat} {ac : Nat → ClassId} {n : Nat} {r : Int32 × (St × (St × (St × (St))))} (C : nd_C p l s m args c A (dC, dI) cX5_readName 8 RX5 ow_dm_X5_readName_t1 (dk_X5 ac)) (K : nd_Ki p l e (headSpec ow_dm_X5_readName_t1 ({ frames := 1, cells := 0, slots := 0, locals := 23 })).room s m args below meth c Q A (dC, dI) cX5_readName .int (St × (St × (St × (St)))) (dw_X5 a ac) r) {g14 : Int32 → Int32 → Int32 → Int32 → Int32 → (St × (St × (St × (St)))) → Option (Int32 × (St × (St × (St × (St)))))} (J14 : dj_X5_readName_t1_14 p l e s m args below meth c Q A dC dI a ac g14 r) : dj_X5_readName_t1_14 p l e s m args below meth c Q A dC dI a ac (dF_X5_readName_t1_14 n g14) r := by
  obtain ⟨hlt, hx, hb, hml, hown, hts, hN, hA, hK⟩ := id C
  intro x1 x2 x4 x5 x6 s0 H locs ls h hP hD hS hl
  unfold dF_X5_readName_t1_14 at h
  refine lv_iload hx hb dX5_readName_14 (lv_at hl 6 rfl) ?_
  refine lv_aload_n hx hb dX5_readName_16 rfl (lv_at hl 3 rfl) ?_
  refine va_alen (v := 16) hx hb hK hP 1 0 rfl rfl (show Int32.ofNat 16 = 16 by decide) dX5_readName_17 ?_
  refine lv_icmp_ge (tgt := 110) hx hb dX5_readName_18 (by decide) (fun c2 => ?_) (fun c2 => ?_)
  · have h := nd_pos h c2
    exact (db_X5_readName_t1_110 C K) (x4) (x5) s0 _ _ _ h hP hD hS (lv_sub hl [4, 5] rfl)
  · have h := nd_neg h c2
    refine lv_iload hx hb dX5_readName_21 (lv_at hl 4 rfl) ?_
    refine lv_if_ge (tgt := 110) hx hb dX5_readName_23 (by decide) (fun c5 => ?_) (fun c5 => ?_)
    · have h := nd_pos h c5
      exact (db_X5_readName_t1_110 C K) (x4) (x5) s0 _ _ _ h hP hD hS (lv_sub hl [4, 5] rfl)
    · have h := nd_neg h c5
      refine lv_aload_n hx hb dX5_readName_26 rfl (lv_at hl 0 rfl) ?_
      refine va_get (D := (dC, dI)) (ci := 6) (v := .ref (a 4)) (C := RX5) (T := TX5) (N := 8) hx hb hts hi_dm_X5_readName_t1_X5 hown hK hP 0 rfl rfl 0 (by decide) (hts (.fieldLink RX5 18 "TimeMachine$Kernel" "machine" "LTimeMachine$Machine;") (List.mem_of_getElem? (i := 4) rfl)) (fun _ h9 => h9) rfl dX5_readName_27 ?_
      refine lv_iload_n hx hb dX5_readName_30 rfl (lv_at hl 1 rfl) ?_
      refine lv_iload_n hx hb dX5_readName_31 rfl (lv_at hl 2 rfl) ?_
      refine lv_iload hx hb dX5_readName_32 (lv_at hl 6 rfl) ?_
      refine lv_iadd hx hb dX5_readName_34 ?_
      refine lv_iconst (v := 1) hx hb dX5_readName_35 (by decide) ?_
      obtain ⟨q6, s7, hq, h⟩ := nd_b2_e h
      have hPc := dp_X5_4 hP
      have hDc := dd_X5_4 hD
      have hKc := dy_X5_4 hK
      have hFc := nd_rs hDc hS hA
      have hzA : ∀ q : Nat, H.size ≤ q → A q := fun q h => hA q (Nat.le_trans hS.1 h)
      refine nd_cVi (As := [.int x1, .int (x2 + x6), .int 1]) (rest := []) (q := q6) (w' := dw_X6 (fun k => a (k + 4)) (fun k => ac (k + 4)) s7) ⟨hx, hb, hml, hown, hts⟩ (fun sz => dm_X6_may l hlt dC dI (fun k => a (k + 4)) (fun k => ac (k + 4)) n (x1) ((x2 + x6)) (1) s0.2.2 hq sz) (cwV 3 hts gi_dm_X5_readName_t1_1 rfl rfl rfl (by decide +kernel) ⟨Nat.le_of_ble_eq_true rfl, Nat.le_of_ble_eq_true rfl⟩) hPc hDc hKc hS hA hN (va_recv hKc hPc (ci := 7) (q0 := 0) rfl rfl) rfl hl.1 rfl (Nat.le_of_ble_eq_true rfl) dX5_readName_36 (fun H locs hP1 hD1 hk1 hS => ?_)
      obtain ⟨hP, hD⟩ := dn_X5_4 hP hD hzA hk1 hP1 hD1
      obtain ⟨s9, es9, h⟩ := nd_let_e h
      have hP : va_P (dC, dI) vwCl (dw_X5 a ac s9) H := by rw [es9]; exact hP
      have hD : va_D A (dw_X5 a ac s9) := by rw [es9]; exact hD
      refine lv_if_ne (tgt := 45) hx hb dX5_readName_39 (by decide) (fun c10 => ?_) (fun c10 => ?_)
      · have h := nd_neg h c10
        refine lv_aload_n hx hb dX5_readName_45 rfl (lv_at hl 0 rfl) ?_
        refine va_get (D := (dC, dI)) (ci := 6) (v := .ref (a 4)) (C := RX5) (T := TX5) (N := 8) hx hb hts hi_dm_X5_readName_t1_X5 hown hK hP 0 rfl rfl 0 (by decide) (hts (.fieldLink RX5 18 "TimeMachine$Kernel" "machine" "LTimeMachine$Machine;") (List.mem_of_getElem? (i := 4) rfl)) (fun _ h9 => h9) rfl dX5_readName_46 ?_
        refine lv_iload_n hx hb dX5_readName_49 rfl (lv_at hl 1 rfl) ?_
        refine lv_iload_n hx hb dX5_readName_50 rfl (lv_at hl 2 rfl) ?_
        refine lv_iload hx hb dX5_readName_51 (lv_at hl 6 rfl) ?_
        refine lv_iadd hx hb dX5_readName_53 ?_
        obtain ⟨q11, s12, hq, h⟩ := nd_b2_e h
        have hPc := dp_X5_4 hP
        have hDc := dd_X5_4 hD
        have hKc := dy_X5_4 hK
        have hFc := nd_rs hDc hS hA
        have hzA : ∀ q : Nat, H.size ≤ q → A q := fun q h => hA q (Nat.le_trans hS.1 h)
        refine nd_cVi (As := [.int x1, .int (x2 + x6)]) (rest := []) (q := q11) (w' := dw_X6 (fun k => a (k + 4)) (fun k => ac (k + 4)) s12) ⟨hx, hb, hml, hown, hts⟩ (fun sz => dm_X6_byteAt l hlt dC dI (fun k => a (k + 4)) (fun k => ac (k + 4)) n (x1) ((x2 + x6)) s9.2.2 hq sz) (cwV 2 hts gi_dm_X5_readName_t1_2 rfl rfl rfl (by decide +kernel) ⟨Nat.le_of_ble_eq_true rfl, Nat.le_of_ble_eq_true rfl⟩) hPc hDc hKc hS hA hN (va_recv hKc hPc (ci := 7) (q0 := 0) rfl rfl) rfl hl.1 rfl (Nat.le_of_ble_eq_true rfl) dX5_readName_54 (fun H locs hP1 hD1 hk1 hS => ?_)
        obtain ⟨hP, hD⟩ := dn_X5_4 hP hD hzA hk1 hP1 hD1
        obtain ⟨s14, es14, h⟩ := nd_let_e h
        have hP : va_P (dC, dI) vwCl (dw_X5 a ac s14) H := by rw [es14]; exact hP
        have hD : va_D A (dw_X5 a ac s14) := by rw [es14]; exact hD
        refine lv_istore (lv' := [(7, .int q11), (0, .ref (a 0)), (1, .int x1), (2, .int x2), (3, .ref (a 1)), (4, .int x4), (5, .int x5), (6, .int x6)]) hx hb dX5_readName_57 hl (by decide) rfl (fun ls hl => ?_)
        refine lv_iload hx hb dX5_readName_59 (lv_at hl 0 rfl) ?_
        refine lv_if_ne (tgt := 71) hx hb dX5_readName_61 (by decide) (fun c15 => ?_) (fun c15 => ?_)
        · have h := nd_neg h c15
          refine lv_iload hx hb dX5_readName_71 (lv_at hl 6 rfl) ?_
          refine lv_if_eq (tgt := 94) hx hb dX5_readName_73 (by decide) (fun c16 => ?_) (fun c16 => ?_)
          · have h := nd_pos h c16
            exact (db_X5_readName_t1_94 C K J14) (x1) (x2) (x4) (x6) (q11) s14 _ _ _ h hP hD hS (lv_sub hl [1, 2, 3, 4, 5, 7, 0] rfl)
          · have h := nd_neg h c16
            refine lv_iload hx hb dX5_readName_76 (lv_at hl 0 rfl) ?_
            refine lv_bipush (v := 33) hx hb dX5_readName_78 (by decide) ?_
            refine lv_icmp_lt (tgt := 94) hx hb dX5_readName_80 (by decide) (fun c20 => ?_) (fun c20 => ?_)
            · have h := nd_pos h c20
              exact (db_X5_readName_t1_94 C K J14) (x1) (x2) (x4) (x6) (q11) s14 _ _ _ h hP hD hS (lv_sub hl [1, 2, 3, 4, 5, 7, 0] rfl)
            · have h := nd_neg h c20
              refine lv_iload hx hb dX5_readName_83 (lv_at hl 0 rfl) ?_
              refine lv_bipush (v := 126) hx hb dX5_readName_85 (by decide) ?_
              refine lv_icmp_gt (tgt := 94) hx hb dX5_readName_87 (by decide) (fun c21 => ?_) (fun c21 => ?_)
              · have h := nd_pos h c21
                exact (db_X5_readName_t1_94 C K J14) (x1) (x2) (x4) (x6) (q11) s14 _ _ _ h hP hD hS (lv_sub hl [1, 2, 3, 4, 5, 7, 0] rfl)
              · have h := nd_neg h c21
                refine lv_iconst (v := 1) hx hb dX5_readName_90 (by decide) ?_
                refine lv_goto (tgt := 95) hx hb dX5_readName_91 (by decide) ?_
                exact (db_X5_readName_t1_95 C K J14) (x1) (x2) (x4) (x6) (q11) (1) s14 _ _ _ h hP hD hS (lv_sub hl [1, 2, 3, 4, 5, 7, 0] rfl)
        · have h := nd_pos h c15
          refine lv_iload hx hb dX5_readName_64 (lv_at hl 7 rfl) ?_
          refine lv_istore (lv' := [(4, .int x6), (7, .int q11), (0, .ref (a 0)), (1, .int x1), (2, .int x2), (3, .ref (a 1)), (5, .int x5), (6, .int x6)]) hx hb dX5_readName_66 hl (by decide) rfl (fun ls hl => ?_)
          refine lv_goto (tgt := 104) hx hb dX5_readName_68 (by decide) ?_
          exact (db_X5_readName_t1_104 C K J14) (x1) (x2) (x6) (x5) (x6) s14 _ _ _ h hP hD hS (lv_sub hl [2, 3, 4, 5, 0, 6, 7] rfl)
      · have h := nd_pos h c10
        refine lv_bipush (v := (-14)) hx hb dX5_readName_42 (by decide) ?_
        exact K _ _ _ _ _ _ dX5_readName_44 rfl (Option.some.inj h).symm hP hD hS
set_option maxHeartbeats 40000000 in
set_option maxRecDepth 100000 in
theorem db_X5_readName_t1_14 {p : Program} {l : Launch} {e : Env} {s : State} {m : MethodId} {args : Array Value} {below : List Frame} {meth : Method} {c : Code} {Q : State → Prop} {A : Nat → Prop} {dC : Nat → ClassId} {dI : Nat → Nat → Nat} {a : Nat → Nat} {ac : Nat → ClassId} {n : Nat} {r : Int32 × (St × (St × (St × (St))))} (C : nd_C p l s m args c A (dC, dI) cX5_readName 8 RX5 ow_dm_X5_readName_t1 (dk_X5 ac)) (K : nd_Ki p l e (headSpec ow_dm_X5_readName_t1 ({ frames := 1, cells := 0, slots := 0, locals := 23 })).room s m args below meth c Q A (dC, dI) cX5_readName .int (St × (St × (St × (St)))) (dw_X5 a ac) r) (k : Nat) : dj_X5_readName_t1_14 p l e s m args below meth c Q A dC dI a ac (df_X5_readName_t1_14 n k) r := by
  induction k with
  | zero => intro x1 x2 x4 x5 x6 s0 H locs ls h; exact nomatch (show (none : Option (Int32 × (St × (St × (St × (St)))))) = some r from h)
  | succ k ih => exact dB_X5_readName_t1_14 C K ih
set_option maxHeartbeats 40000000 in
set_option maxRecDepth 100000 in
theorem db_X5_readName_t1_0 {p : Program} {l : Launch} {e : Env} {s : State} {m : MethodId} {args : Array Value} {below : List Frame} {meth : Method} {c : Code} {Q : State → Prop} {A : Nat → Prop} {dC : Nat → ClassId} {dI : Nat → Nat → Nat} {a : Nat → Nat} {ac : Nat → ClassId} {n : Nat} {r : Int32 × (St × (St × (St × (St))))} (C : nd_C p l s m args c A (dC, dI) cX5_readName 8 RX5 ow_dm_X5_readName_t1 (dk_X5 ac)) (K : nd_Ki p l e (headSpec ow_dm_X5_readName_t1 ({ frames := 1, cells := 0, slots := 0, locals := 23 })).room s m args below meth c Q A (dC, dI) cX5_readName .int (St × (St × (St × (St)))) (dw_X5 a ac) r) : dj_X5_readName_t1_0 p l e s m args below meth c Q A dC dI a ac (df_X5_readName_t1_0 n) r := by
  obtain ⟨hlt, hx, hb, hml, hown, hts, hN, hA, hK⟩ := id C
  intro v0 v1 s0 H locs ls h hP hD hS hl
  unfold df_X5_readName_t1_0 at h
  refine lv_iconst (v := (-1)) hx hb dX5_readName_0 (by decide) ?_
  refine lv_istore (lv' := [(4, .int (-1)), (0, .ref (a 0)), (1, .int v0), (2, .int v1), (3, .ref (a 1))]) hx hb dX5_readName_1 hl (by decide) rfl (fun ls hl => ?_)
  refine lv_iconst (v := 1) hx hb dX5_readName_3 (by decide) ?_
  refine lv_istore (lv' := [(5, .int 1), (4, .int (-1)), (0, .ref (a 0)), (1, .int v0), (2, .int v1), (3, .ref (a 1))]) hx hb dX5_readName_4 hl (by decide) rfl (fun ls hl => ?_)
  refine lv_aload_n hx hb dX5_readName_6 rfl (lv_at hl 5 rfl) ?_
  refine lv_iconst (v := 0) hx hb dX5_readName_7 (by decide) ?_
  have hcl : (dw_X5 a ac s0)[1]? = some ((a 1), .inl (ac 1, 16, .inl (sR s0.1 0))) := rfl
  have hPc := nd_c1 hP hcl
  have hDc := nd_cd hD hcl
  have hKc : va_K (dC, dI) vwCl [(ac 1, .byte)] s := hK.sub [0] rfl
  have hFc := nd_rs hDc hS hA
  refine va_callv (va_runS (As := [.ref (a 1), .int 0]) (rest := []) ⟨hx, hb, hml, hown, hts⟩ (dm_J7_fill_031fb l hlt dC dI (a 1) (ac 1) 16 (by decide) (sR s0.1 0) 0 _) (va_cwS 2 hts gi_dm_X5_readName_t1_0 rfl rfl rfl (by decide +kernel) ⟨Nat.le_of_ble_eq_true rfl, Nat.le_of_ble_eq_true rfl⟩) ⟨fun a U g mk q => by obtain ⟨q0, q1, qP, qK, qD, qN⟩ := q; exact ⟨q0, q1, qP, va_K.moved (u := U) (U := U.calling g mk a) (Vm.Alike.refl U.vm) qK, qD, nv_same rfl rfl qN⟩, fun U hU hW => ⟨rfl, by rw [hU], by rw [hU]; exact hPc, va_K.moved hW.alike hKc, hDc.weaken (fun _ _ _ _ => trivial), nv_call hS hFc hU hW hN⟩⟩ rfl rfl hl.1 rfl (lv_room (Nat.le_of_ble_eq_true rfl)) dX5_readName_8 ⟨by decide +kernel, by decide +kernel⟩) hS (fun q _ h => hFc q h) hFc (fun u t H locs ht hvm hw hB hz1 hk1 hS => ?_)
  obtain ⟨hP1, -, hD1⟩ := hB
  rw [ht] at hP1
  have hP := nd_cs hP hD hcl hk1 hP1
  have hD := hD.set (e := .inl (ac 1, 16, .inl (nd_fl 16 (vp_nar .byte 0) (sR s0.1 0)))) hcl
  refine W.widen (k := 0) (n := 0) (Nat.le_refl _) (Nat.le_refl _) ?_
  obtain ⟨s1, es1, h⟩ := nd_let_e h
  have hP : va_P (dC, dI) vwCl (dw_X5 a ac s1) H := by rw [es1]; exact hP
  have hD : va_D A (dw_X5 a ac s1) := by rw [es1]; exact hD
  refine lv_iconst (v := 0) hx hb dX5_readName_11 (by decide) ?_
  refine lv_istore (lv' := [(6, .int 0), (5, .int 1), (4, .int (-1)), (0, .ref (a 0)), (1, .int v0), (2, .int v1), (3, .ref (a 1))]) hx hb dX5_readName_12 hl (by decide) rfl (fun ls hl => ?_)
  exact (db_X5_readName_t1_14 C K n) (v0) (v1) ((-1)) (1) (0) s1 _ _ _ h hP hD hS (lv_sub hl [3, 4, 5, 6, 2, 1, 0] rfl)
set_option maxHeartbeats 40000000 in
set_option maxRecDepth 100000 in
theorem dm_X5_readName_t1 (l : Launch) (hlt : l.stackTraces = false) (dC : Nat → ClassId) (dI : Nat → Nat → Nat) (a : Nat → Nat) (ac : Nat → ClassId) (n : Nat) (v0 : Int32) (v1 : Int32) (s0 : St × (St × (St × (St)))) {r : Int32 × (St × (St × (St × (St))))} (h : df_X5_readName_t1 n v0 v1 s0 = some r) (sz : Nat) : Met l yX5_readName ow_dm_X5_readName_t1 ({ frames := 1, cells := 0, slots := 0, locals := 23 }) (va_Pc [.ref (a 0), .int v0, .int v1, .ref (a 1)] (fun U => U.heap.size = sz ∧ va_P (dC, dI) vwCl (dw_X5 a ac s0) U.heap ∧ va_K (dC, dI) vwCl (dk_X5 ac) U ∧ va_D (fun _ => True) (dw_X5 a ac s0) ∧ nv_E (va_A (dw_X5 a ac s0) sz) U)) (va_Qi (fun x _ => x = r.1) (fun (_ : Unit) t => va_P (dC, dI) vwCl (dw_X5 a ac r.2) t.heap ∧ va_K (dC, dI) vwCl (dk_X5 ac) t ∧ va_D (va_A (dw_X5 a ac s0) sz) (dw_X5 a ac r.2)) (va_A (dw_X5 a ac s0) sz)) 0 0 (va_A (dw_X5 a ac s0) sz) := by
  refine Met.ofW (cc := cX5_readName) (maxL := 8) (ret := (some .int)) (by decide) rfl ?_
  intro p e s m args below meth c s₁ B hml hv
  obtain ⟨rfl, hsz, hP, hK, hD0, hN⟩ := hv
  have hx := B.exec
  have hb := B.bytes
  have hr := B.returns
  have hts := atoms_spec (ws := ow_dm_X5_readName_t1) B.pre
  have hown : s.vm.findClass RX5 = some m.cls := findClass_of_methodNamed B.named
  have hlocks := B.notSynchronized
  subst hsz
  have hD := hD0.self (sz := s.heap.size)
  generalize hAe : va_A (dw_X5 a ac s0) s.heap.size = A at hD hN ⊢
  have hA : ∀ q : Nat, s.heap.size ≤ q → A q := fun q h => by rw [← hAe]; exact Or.inr h
  have hl := lv_entry ([.ref (a 0), .int v0, .int v1, .ref (a 1)]) (n := 8) (Nat.le_of_ble_eq_true rfl)
  rw [lg_entry_eq]
  generalize (lg_sl ([.ref (a 0), .int v0, .int v1, .ref (a 1)]) ++ List.replicate (8 - (lg_sl ([.ref (a 0), .int v0, .int v1, .ref (a 1)])).length) Slot.unset).toArray = ls at hl ⊢
  have hl : lv_has ls 8 [(0, .ref (a 0)), (1, .int v0), (2, .int v1), (3, .ref (a 1))] := hl
  exact db_X5_readName_t1_0 (dC := dC) (dI := dI) (a := a) (ac := ac) (n := n) (r := r) ⟨hlt, hx, hb, hml, hown, hts, hN, hA, hK⟩ (fun pc v τ H locs ls d z er hP hD hS => by subst er; exact W.zret (v := v) hx hb hr z (fun t ht hW => ⟨⟨v, (), rfl, rfl, by rw [ht]; exact hP, va_K.moved hW.alike hK, hD⟩, hS.F ht⟩) hS.2.2 d) v0 v1 s0 _ _ _ h hP hD va_S.rf (lv_sub hl [0, 1, 2, 3] rfl)
set_option maxHeartbeats 40000000 in
set_option maxRecDepth 100000 in
theorem dp_vX5_X10n_0 {D : va_G} {H : Heap} {a : Nat → Nat} {ac : Nat → ClassId} {σ : St × (St × (St × (St)))} (h : va_P D vwCl (dw_X5 a ac σ) H) : va_P D vwCl (dw_X10n (fun k => a (nd_ix [1, 14, 15, 16, 17, 18, 19, 20, 21, 22, 23] k)) (fun k => ac (nd_ix [1, 14, 15, 16, 17, 18, 19, 20, 21, 22, 23] k)) ((pR nd_st0 0 (sR σ.1 0)), σ.2.2.2)) H := h.sub [1, 14, 15, 16, 17, 18, 19, 20, 21, 22, 23] rfl
set_option maxHeartbeats 40000000 in
set_option maxRecDepth 100000 in
theorem dd_vX5_X10n_0 {A : Nat → Prop} {a : Nat → Nat} {ac : Nat → ClassId} {σ : St × (St × (St × (St)))} (h : va_D A (dw_X5 a ac σ)) : va_D A (dw_X10n (fun k => a (nd_ix [1, 14, 15, 16, 17, 18, 19, 20, 21, 22, 23] k)) (fun k => ac (nd_ix [1, 14, 15, 16, 17, 18, 19, 20, 21, 22, 23] k)) ((pR nd_st0 0 (sR σ.1 0)), σ.2.2.2)) := h.sub [1, 14, 15, 16, 17, 18, 19, 20, 21, 22, 23] (by decide) rfl
set_option maxHeartbeats 40000000 in
set_option maxRecDepth 100000 in
theorem dy_vX5_X10n_0 {D : va_G} {U : State} {ac : Nat → ClassId} (h : va_K D vwCl (dk_X5 ac) U) : va_K D vwCl (dk_X10n (fun k => ac (nd_ix [1, 14, 15, 16, 17, 18, 19, 20, 21, 22, 23] k))) U := h.sub [0, 11, 12, 13, 14, 15, 16, 17, 18, 19] rfl
set_option maxHeartbeats 40000000 in
set_option maxRecDepth 100000 in
theorem dn_vX5_X10n_0 {A0 : Nat → Prop} {D : va_G} {H H1 : Heap} {a : Nat → Nat} {ac : Nat → ClassId} {σ : St × (St × (St × (St)))} {τ : St × (St)} (hP : va_P D vwCl (dw_X5 a ac σ) H) (hD : va_D A0 (dw_X5 a ac σ)) (hA : ∀ q : Nat, H.size ≤ q → A0 q) (hk : ∀ q : Nat, q < H.size → ¬ va_A (dw_X10n (fun k => a (nd_ix [1, 14, 15, 16, 17, 18, 19, 20, 21, 22, 23] k)) (fun k => ac (nd_ix [1, 14, 15, 16, 17, 18, 19, 20, 21, 22, 23] k)) ((pR nd_st0 0 (sR σ.1 0)), σ.2.2.2)) H.size q → H1[q]? = H[q]?) (h1 : va_P D vwCl (dw_X10n (fun k => a (nd_ix [1, 14, 15, 16, 17, 18, 19, 20, 21, 22, 23] k)) (fun k => ac (nd_ix [1, 14, 15, 16, 17, 18, 19, 20, 21, 22, 23] k)) τ) H1) (h2 : va_D (va_A (dw_X10n (fun k => a (nd_ix [1, 14, 15, 16, 17, 18, 19, 20, 21, 22, 23] k)) (fun k => ac (nd_ix [1, 14, 15, 16, 17, 18, 19, 20, 21, 22, 23] k)) ((pR nd_st0 0 (sR σ.1 0)), σ.2.2.2)) H.size) (dw_X10n (fun k => a (nd_ix [1, 14, 15, 16, 17, 18, 19, 20, 21, 22, 23] k)) (fun k => ac (nd_ix [1, 14, 15, 16, 17, 18, 19, 20, 21, 22, 23] k)) τ)) : va_P D vwCl (dw_X5 a ac (((pR σ.1 0 (sR τ.1 0)), σ.2).1, (((pR σ.1 0 (sR τ.1 0)), σ.2).2.1, (((pR σ.1 0 (sR τ.1 0)), σ.2).2.2.1, τ.2)))) H1 ∧ va_D A0 (dw_X5 a ac (((pR σ.1 0 (sR τ.1 0)), σ.2).1, (((pR σ.1 0 (sR τ.1 0)), σ.2).2.1, (((pR σ.1 0 (sR τ.1 0)), σ.2).2.2.1, τ.2)))) := by
  obtain ⟨h1, h2⟩ := va_join (wr := [0, 2, 3, 4, 5, 6, 7, 8, 9, 10, 11, 12, 13].filterMap (fun i => (dw_X5 a ac σ)[i]?)) hP hD [1, 14, 15, 16, 17, 18, 19, 20, 21, 22, 23] [0, 2, 3, 4, 5, 6, 7, 8, 9, 10, 11, 12, 13] rfl rfl (by decide) (by decide) hk (nd_rq (dd_vX5_X10n_0 hD) hA) h1 h2
  exact ⟨h1.sub [0, 13, 1, 2, 3, 4, 5, 6, 7, 8, 9, 10, 11, 12, 14, 15, 16, 17, 18, 19, 20, 21, 22, 23] rfl, h2.sub [0, 13, 1, 2, 3, 4, 5, 6, 7, 8, 9, 10, 11, 12, 14, 15, 16, 17, 18, 19, 20, 21, 22, 23] (by decide) rfl⟩
def ow_dm_X5_open : List Cond := .code yX5_open cX5_open 9 (some .long) :: ([.constantLong RX5 251 (-22), .fieldLink RX5 9 "TimeMachine$Kernel" "name" "[B", .methodLink RX5 342 yX5_readName, .instanceMethod yX5_readName, .selects RX5 yX5_readName yX5_readName, .initialized RX5, .fieldLink RX5 28 "TimeMachine$Kernel" "things" "LTimeMachine$Things;", .methodLink RX5 346 yX10_fileNamed, .instanceMethod yX10_fileNamed, .selects RX10 yX10_fileNamed yX10_fileNamed, .initialized RX10, .methodLink RX5 259 yX10_freeLink, .instanceMethod yX10_freeLink, .selects RX10 yX10_freeLink yX10_freeLink, .constantLong RX5 228 (-4), .methodLink RX5 265 yX10_openingsFree, .instanceMethod yX10_openingsFree, .selects RX10 yX10_openingsFree yX10_openingsFree, .methodLink RX5 359 yX10_emptyFile, .instanceMethod yX10_emptyFile, .selects RX10 yX10_emptyFile yX10_emptyFile, .methodLink RX5 278 yX10_open, .instanceMethod yX10_open, .selects RX10 yX10_open yX10_open, .methodLink RX5 280 yX10_linkTo, .instanceMethod yX10_linkTo, .selects RX10 yX10_linkTo yX10_linkTo, .methodLink RX5 355 yX10_giveName, .instanceMethod yX10_giveName, .selects RX10 yX10_giveName yX10_giveName, .methodLink RX5 352 yX10_freeFile, .instanceMethod yX10_freeFile, .selects RX10 yX10_freeFile yX10_freeFile, .constantLong RX5 350 (-3), .constantLong RX5 230 (-2)] ++ (u_ws RX5 TX5 8 ++ (ow_dm_X5_readName_t1 ++ (ow_dm_X10_fileNamed ++ (ow_dm_X10_freeLink ++ (ow_dm_X10_openingsFree ++ (ow_dm_X10_emptyFile ++ (ow_dm_X10_open ++ (ow_dm_X10_linkTo ++ (ow_dm_X10_giveName ++ (ow_dm_X10_freeFile ++ [])))))))))))
theorem gd_dm_X5_open : ∀ w ∈ ow_dm_X5_open, (w.onTables && w.keeps) = true ∨ ∃ ty, w = Cond.arrayClass ty := List.forall_mem_cons.mpr ⟨good_of_word rfl, List.forall_mem_append.mpr ⟨fun w h => good_of_word (List.all_eq_true.mp (by decide +kernel) w h), List.forall_mem_append.mpr ⟨gu_X5, List.forall_mem_append.mpr ⟨gd_dm_X5_readName_t1, List.forall_mem_append.mpr ⟨gd_dm_X10_fileNamed, List.forall_mem_append.mpr ⟨gd_dm_X10_freeLink, List.forall_mem_append.mpr ⟨gd_dm_X10_openingsFree, List.forall_mem_append.mpr ⟨gd_dm_X10_emptyFile, List.forall_mem_append.mpr ⟨gd_dm_X10_open, List.forall_mem_append.mpr ⟨gd_dm_X10_linkTo, List.forall_mem_append.mpr ⟨gd_dm_X10_giveName, List.forall_mem_append.mpr ⟨gd_dm_X10_freeFile, fun _ h => nomatch h⟩⟩⟩⟩⟩⟩⟩⟩⟩⟩⟩⟩
theorem hi_dm_X5_open_X5 : ∀ w ∈ u_ws RX5 TX5 8, w ∈ ow_dm_X5_open := fun w h => List.mem_cons_of_mem _ (List.mem_append_right _ (List.mem_append_left _ h))
theorem gi_dm_X5_open_0 : GoodIn ow_dm_X5_open (wsV RX5 342 RX5 yX5_readName ow_dm_X5_readName_t1) := goodIn_app (goodIn_of _ (by decide +kernel)) (fun w h => ⟨List.mem_cons_of_mem _ (List.mem_append_right _ (List.mem_append_right _ (List.mem_append_left _ h))), gd_dm_X5_readName_t1 w h⟩)
theorem gi_dm_X5_open_1 : GoodIn ow_dm_X5_open (wsV RX5 346 RX10 yX10_fileNamed ow_dm_X10_fileNamed) := goodIn_app (goodIn_of _ (by decide +kernel)) (fun w h => ⟨List.mem_cons_of_mem _ (List.mem_append_right _ (List.mem_append_right _ (List.mem_append_right _ (List.mem_append_left _ h)))), gd_dm_X10_fileNamed w h⟩)
theorem gi_dm_X5_open_2 : GoodIn ow_dm_X5_open (wsV RX5 259 RX10 yX10_freeLink ow_dm_X10_freeLink) := goodIn_app (goodIn_of _ (by decide +kernel)) (fun w h => ⟨List.mem_cons_of_mem _ (List.mem_append_right _ (List.mem_append_right _ (List.mem_append_right _ (List.mem_append_right _ (List.mem_append_left _ h))))), gd_dm_X10_freeLink w h⟩)
theorem gi_dm_X5_open_3 : GoodIn ow_dm_X5_open (wsV RX5 265 RX10 yX10_openingsFree ow_dm_X10_openingsFree) := goodIn_app (goodIn_of _ (by decide +kernel)) (fun w h => ⟨List.mem_cons_of_mem _ (List.mem_append_right _ (List.mem_append_right _ (List.mem_append_right _ (List.mem_append_right _ (List.mem_append_right _ (List.mem_append_left _ h)))))), gd_dm_X10_openingsFree w h⟩)
theorem gi_dm_X5_open_4 : GoodIn ow_dm_X5_open (wsV RX5 359 RX10 yX10_emptyFile ow_dm_X10_emptyFile) := goodIn_app (goodIn_of _ (by decide +kernel)) (fun w h => ⟨List.mem_cons_of_mem _ (List.mem_append_right _ (List.mem_append_right _ (List.mem_append_right _ (List.mem_append_right _ (List.mem_append_right _ (List.mem_append_right _ (List.mem_append_left _ h))))))), gd_dm_X10_emptyFile w h⟩)
theorem gi_dm_X5_open_5 : GoodIn ow_dm_X5_open (wsV RX5 278 RX10 yX10_open ow_dm_X10_open) := goodIn_app (goodIn_of _ (by decide +kernel)) (fun w h => ⟨List.mem_cons_of_mem _ (List.mem_append_right _ (List.mem_append_right _ (List.mem_append_right _ (List.mem_append_right _ (List.mem_append_right _ (List.mem_append_right _ (List.mem_append_right _ (List.mem_append_left _ h)))))))), gd_dm_X10_open w h⟩)
theorem gi_dm_X5_open_6 : GoodIn ow_dm_X5_open (wsV RX5 280 RX10 yX10_linkTo ow_dm_X10_linkTo) := goodIn_app (goodIn_of _ (by decide +kernel)) (fun w h => ⟨List.mem_cons_of_mem _ (List.mem_append_right _ (List.mem_append_right _ (List.mem_append_right _ (List.mem_append_right _ (List.mem_append_right _ (List.mem_append_right _ (List.mem_append_right _ (List.mem_append_right _ (List.mem_append_left _ h))))))))), gd_dm_X10_linkTo w h⟩)
theorem gi_dm_X5_open_7 : GoodIn ow_dm_X5_open (wsV RX5 355 RX10 yX10_giveName ow_dm_X10_giveName) := goodIn_app (goodIn_of _ (by decide +kernel)) (fun w h => ⟨List.mem_cons_of_mem _ (List.mem_append_right _ (List.mem_append_right _ (List.mem_append_right _ (List.mem_append_right _ (List.mem_append_right _ (List.mem_append_right _ (List.mem_append_right _ (List.mem_append_right _ (List.mem_append_right _ (List.mem_append_left _ h)))))))))), gd_dm_X10_giveName w h⟩)
theorem gi_dm_X5_open_8 : GoodIn ow_dm_X5_open (wsV RX5 352 RX10 yX10_freeFile ow_dm_X10_freeFile) := goodIn_app (goodIn_of _ (by decide +kernel)) (fun w h => ⟨List.mem_cons_of_mem _ (List.mem_append_right _ (List.mem_append_right _ (List.mem_append_right _ (List.mem_append_right _ (List.mem_append_right _ (List.mem_append_right _ (List.mem_append_right _ (List.mem_append_right _ (List.mem_append_right _ (List.mem_append_right _ (List.mem_append_left _ h))))))))))), gd_dm_X10_freeFile w h⟩)
def dj_X5_open_67 (p : Program) (l : Launch) (e : Env) (s : State) (m : MethodId) (args : Array Value) (below : List Frame) (meth : Method) (c : Code) (Q : State → Prop) (A : Nat → Prop) (dC : Nat → ClassId) (dI : Nat → Nat → Nat) (a : Nat → Nat) (ac : Nat → ClassId) (g : (St × (St × (St × (St)))) → Option (Int64 × (St × (St × (St × (St)))))) (r : Int64 × (St × (St × (St × (St))))) : Prop := ∀ (s0 : St × (St × (St × (St)))) (H : Heap) (locs : List Loc) (ls : Array Slot), g s0 = some r → va_P (dC, dI) vwCl (dw_X5 a ac s0) H → va_D A (dw_X5 a ac s0) → va_S A s.heap H locs → lv_has ls 9 [] → W p l e (headSpec ow_dm_X5_open ({ frames := 2, cells := 0, slots := 0, locals := 62 })).room s m args below meth c H locs 0 0 Q (F0 m 67 ls [])
def dj_X5_open_194 (p : Program) (l : Launch) (e : Env) (s : State) (m : MethodId) (args : Array Value) (below : List Frame) (meth : Method) (c : Code) (Q : State → Prop) (A : Nat → Prop) (dC : Nat → ClassId) (dI : Nat → Nat → Nat) (a : Nat → Nat) (ac : Nat → ClassId) (g : (St × (St × (St × (St)))) → Option (Int64 × (St × (St × (St × (St)))))) (r : Int64 × (St × (St × (St × (St))))) : Prop := ∀ (s0 : St × (St × (St × (St)))) (H : Heap) (locs : List Loc) (ls : Array Slot), g s0 = some r → va_P (dC, dI) vwCl (dw_X5 a ac s0) H → va_D A (dw_X5 a ac s0) → va_S A s.heap H locs → lv_has ls 9 [] → W p l e (headSpec ow_dm_X5_open ({ frames := 2, cells := 0, slots := 0, locals := 62 })).room s m args below meth c H locs 0 0 Q (F0 m 194 ls [])
def dj_X5_open_237 (p : Program) (l : Launch) (e : Env) (s : State) (m : MethodId) (args : Array Value) (below : List Frame) (meth : Method) (c : Code) (Q : State → Prop) (A : Nat → Prop) (dC : Nat → ClassId) (dI : Nat → Nat → Nat) (a : Nat → Nat) (ac : Nat → ClassId) (g : Int32 → Int32 → Int32 → Int32 → (St × (St × (St × (St)))) → Option (Int64 × (St × (St × (St × (St)))))) (r : Int64 × (St × (St × (St × (St))))) : Prop := ∀ (x1 : Int32) (x3 : Int32) (x6 : Int32) (x7 : Int32) (s0 : St × (St × (St × (St)))) (H : Heap) (locs : List Loc) (ls : Array Slot), g x1 x3 x6 x7 s0 = some r → va_P (dC, dI) vwCl (dw_X5 a ac s0) H → va_D A (dw_X5 a ac s0) → va_S A s.heap H locs → lv_has ls 9 [(0, .ref (a 0)), (1, .int x1), (3, .int x3), (6, .int x6), (7, .int x7)] → W p l e (headSpec ow_dm_X5_open ({ frames := 2, cells := 0, slots := 0, locals := 62 })).room s m args below meth c H locs 0 0 Q (F0 m 237 ls [])
def dj_X5_open_228 (p : Program) (l : Launch) (e : Env) (s : State) (m : MethodId) (args : Array Value) (below : List Frame) (meth : Method) (c : Code) (Q : State → Prop) (A : Nat → Prop) (dC : Nat → ClassId) (dI : Nat → Nat → Nat) (a : Nat → Nat) (ac : Nat → ClassId) (g : Int32 → Int32 → Int32 → Int32 → (St × (St × (St × (St)))) → Option (Int64 × (St × (St × (St × (St)))))) (r : Int64 × (St × (St × (St × (St))))) : Prop := ∀ (x1 : Int32) (x3 : Int32) (x6 : Int32) (x7 : Int32) (s0 : St × (St × (St × (St)))) (H : Heap) (locs : List Loc) (ls : Array Slot), g x1 x3 x6 x7 s0 = some r → va_P (dC, dI) vwCl (dw_X5 a ac s0) H → va_D A (dw_X5 a ac s0) → va_S A s.heap H locs → lv_has ls 9 [(0, .ref (a 0)), (1, .int x1), (3, .int x3), (6, .int x6), (7, .int x7)] → W p l e (headSpec ow_dm_X5_open ({ frames := 2, cells := 0, slots := 0, locals := 62 })).room s m args below meth c H locs 0 0 Q (F0 m 228 ls [])
def dj_X5_open_216 (p : Program) (l : Launch) (e : Env) (s : State) (m : MethodId) (args : Array Value) (below : List Frame) (meth : Method) (c : Code) (Q : State → Prop) (A : Nat → Prop) (dC : Nat → ClassId) (dI : Nat → Nat → Nat) (a : Nat → Nat) (ac : Nat → ClassId) (g : Int32 → Int32 → Int32 → Int32 → Int32 → (St × (St × (St × (St)))) → Option (Int64 × (St × (St × (St × (St)))))) (r : Int64 × (St × (St × (St × (St))))) : Prop := ∀ (x1 : Int32) (x3 : Int32) (x6 : Int32) (x7 : Int32) (x8 : Int32) (s0 : St × (St × (St × (St)))) (H : Heap) (locs : List Loc) (ls : Array Slot), g x1 x3 x6 x7 x8 s0 = some r → va_P (dC, dI) vwCl (dw_X5 a ac s0) H → va_D A (dw_X5 a ac s0) → va_S A s.heap H locs → lv_has ls 9 [(0, .ref (a 0)), (1, .int x1), (3, .int x3), (6, .int x6), (7, .int x7), (8, .int x8)] → W p l e (headSpec ow_dm_X5_open ({ frames := 2, cells := 0, slots := 0, locals := 62 })).room s m args below meth c H locs 0 0 Q (F0 m 216 ls [])
def dj_X5_open_174 (p : Program) (l : Launch) (e : Env) (s : State) (m : MethodId) (args : Array Value) (below : List Frame) (meth : Method) (c : Code) (Q : State → Prop) (A : Nat → Prop) (dC : Nat → ClassId) (dI : Nat → Nat → Nat) (a : Nat → Nat) (ac : Nat → ClassId) (g : Int32 → Int32 → Int32 → Int32 → Int32 → (St × (St × (St × (St)))) → Option (Int64 × (St × (St × (St × (St)))))) (r : Int64 × (St × (St × (St × (St))))) : Prop := ∀ (x1 : Int32) (x3 : Int32) (x6 : Int32) (x7 : Int32) (x8 : Int32) (s0 : St × (St × (St × (St)))) (H : Heap) (locs : List Loc) (ls : Array Slot), g x1 x3 x6 x7 x8 s0 = some r → va_P (dC, dI) vwCl (dw_X5 a ac s0) H → va_D A (dw_X5 a ac s0) → va_S A s.heap H locs → lv_has ls 9 [(0, .ref (a 0)), (1, .int x1), (3, .int x3), (6, .int x6), (7, .int x7), (8, .int x8)] → W p l e (headSpec ow_dm_X5_open ({ frames := 2, cells := 0, slots := 0, locals := 62 })).room s m args below meth c H locs 0 0 Q (F0 m 174 ls [])
def dj_X5_open_158 (p : Program) (l : Launch) (e : Env) (s : State) (m : MethodId) (args : Array Value) (below : List Frame) (meth : Method) (c : Code) (Q : State → Prop) (A : Nat → Prop) (dC : Nat → ClassId) (dI : Nat → Nat → Nat) (a : Nat → Nat) (ac : Nat → ClassId) (g : Int32 → Int32 → Int32 → Int32 → Int32 → (St × (St × (St × (St)))) → Option (Int64 × (St × (St × (St × (St)))))) (r : Int64 × (St × (St × (St × (St))))) : Prop := ∀ (x1 : Int32) (x3 : Int32) (x6 : Int32) (x7 : Int32) (y0 : Int32) (s0 : St × (St × (St × (St)))) (H : Heap) (locs : List Loc) (ls : Array Slot), g x1 x3 x6 x7 y0 s0 = some r → va_P (dC, dI) vwCl (dw_X5 a ac s0) H → va_D A (dw_X5 a ac s0) → va_S A s.heap H locs → lv_has ls 9 [(0, .ref (a 0)), (1, .int x1), (3, .int x3), (6, .int x6), (7, .int x7)] → W p l e (headSpec ow_dm_X5_open ({ frames := 2, cells := 0, slots := 0, locals := 62 })).room s m args below meth c H locs 0 0 Q (F0 m 158 ls [.int y0])
def dj_X5_open_137 (p : Program) (l : Launch) (e : Env) (s : State) (m : MethodId) (args : Array Value) (below : List Frame) (meth : Method) (c : Code) (Q : State → Prop) (A : Nat → Prop) (dC : Nat → ClassId) (dI : Nat → Nat → Nat) (a : Nat → Nat) (ac : Nat → ClassId) (g : Int32 → Int32 → Int32 → (St × (St × (St × (St)))) → Option (Int64 × (St × (St × (St × (St)))))) (r : Int64 × (St × (St × (St × (St))))) : Prop := ∀ (x1 : Int32) (x3 : Int32) (x6 : Int32) (s0 : St × (St × (St × (St)))) (H : Heap) (locs : List Loc) (ls : Array Slot), g x1 x3 x6 s0 = some r → va_P (dC, dI) vwCl (dw_X5 a ac s0) H → va_D A (dw_X5 a ac s0) → va_S A s.heap H locs → lv_has ls 9 [(0, .ref (a 0)), (1, .int x1), (3, .int x3), (6, .int x6)] → W p l e (headSpec ow_dm_X5_open ({ frames := 2, cells := 0, slots := 0, locals := 62 })).room s m args below meth c H locs 0 0 Q (F0 m 137 ls [])
def dj_X5_open_121 (p : Program) (l : Launch) (e : Env) (s : State) (m : MethodId) (args : Array Value) (below : List Frame) (meth : Method) (c : Code) (Q : State → Prop) (A : Nat → Prop) (dC : Nat → ClassId) (dI : Nat → Nat → Nat) (a : Nat → Nat) (ac : Nat → ClassId) (g : Int32 → Int32 → Int32 → (St × (St × (St × (St)))) → Option (Int64 × (St × (St × (St × (St)))))) (r : Int64 × (St × (St × (St × (St))))) : Prop := ∀ (x1 : Int32) (x3 : Int32) (x6 : Int32) (s0 : St × (St × (St × (St)))) (H : Heap) (locs : List Loc) (ls : Array Slot), g x1 x3 x6 s0 = some r → va_P (dC, dI) vwCl (dw_X5 a ac s0) H → va_D A (dw_X5 a ac s0) → va_S A s.heap H locs → lv_has ls 9 [(0, .ref (a 0)), (1, .int x1), (3, .int x3), (6, .int x6)] → W p l e (headSpec ow_dm_X5_open ({ frames := 2, cells := 0, slots := 0, locals := 62 })).room s m args below meth c H locs 0 0 Q (F0 m 121 ls [])
def dj_X5_open_71 (p : Program) (l : Launch) (e : Env) (s : State) (m : MethodId) (args : Array Value) (below : List Frame) (meth : Method) (c : Code) (Q : State → Prop) (A : Nat → Prop) (dC : Nat → ClassId) (dI : Nat → Nat → Nat) (a : Nat → Nat) (ac : Nat → ClassId) (g : Int32 → Int32 → Int32 → (St × (St × (St × (St)))) → Option (Int64 × (St × (St × (St × (St)))))) (r : Int64 × (St × (St × (St × (St))))) : Prop := ∀ (x1 : Int32) (x2 : Int32) (x3 : Int32) (s0 : St × (St × (St × (St)))) (H : Heap) (locs : List Loc) (ls : Array Slot), g x1 x2 x3 s0 = some r → va_P (dC, dI) vwCl (dw_X5 a ac s0) H → va_D A (dw_X5 a ac s0) → va_S A s.heap H locs → lv_has ls 9 [(0, .ref (a 0)), (1, .int x1), (2, .int x2), (3, .int x3)] → W p l e (headSpec ow_dm_X5_open ({ frames := 2, cells := 0, slots := 0, locals := 62 })).room s m args below meth c H locs 0 0 Q (F0 m 71 ls [])
def dj_X5_open_55 (p : Program) (l : Launch) (e : Env) (s : State) (m : MethodId) (args : Array Value) (below : List Frame) (meth : Method) (c : Code) (Q : State → Prop) (A : Nat → Prop) (dC : Nat → ClassId) (dI : Nat → Nat → Nat) (a : Nat → Nat) (ac : Nat → ClassId) (g : Int32 → Int32 → Int32 → Int32 → (St × (St × (St × (St)))) → Option (Int64 × (St × (St × (St × (St)))))) (r : Int64 × (St × (St × (St × (St))))) : Prop := ∀ (x1 : Int32) (x2 : Int32) (x3 : Int32) (x4 : Int32) (s0 : St × (St × (St × (St)))) (H : Heap) (locs : List Loc) (ls : Array Slot), g x1 x2 x3 x4 s0 = some r → va_P (dC, dI) vwCl (dw_X5 a ac s0) H → va_D A (dw_X5 a ac s0) → va_S A s.heap H locs → lv_has ls 9 [(0, .ref (a 0)), (1, .int x1), (2, .int x2), (3, .int x3), (4, .int x4)] → W p l e (headSpec ow_dm_X5_open ({ frames := 2, cells := 0, slots := 0, locals := 62 })).room s m args below meth c H locs 0 0 Q (F0 m 55 ls [])
def dj_X5_open_41 (p : Program) (l : Launch) (e : Env) (s : State) (m : MethodId) (args : Array Value) (below : List Frame) (meth : Method) (c : Code) (Q : State → Prop) (A : Nat → Prop) (dC : Nat → ClassId) (dI : Nat → Nat → Nat) (a : Nat → Nat) (ac : Nat → ClassId) (g : Int32 → Int32 → Int32 → Int32 → (St × (St × (St × (St)))) → Option (Int64 × (St × (St × (St × (St)))))) (r : Int64 × (St × (St × (St × (St))))) : Prop := ∀ (x1 : Int32) (x2 : Int32) (x3 : Int32) (x4 : Int32) (s0 : St × (St × (St × (St)))) (H : Heap) (locs : List Loc) (ls : Array Slot), g x1 x2 x3 x4 s0 = some r → va_P (dC, dI) vwCl (dw_X5 a ac s0) H → va_D A (dw_X5 a ac s0) → va_S A s.heap H locs → lv_has ls 9 [(0, .ref (a 0)), (1, .int x1), (2, .int x2), (3, .int x3), (4, .int x4)] → W p l e (headSpec ow_dm_X5_open ({ frames := 2, cells := 0, slots := 0, locals := 62 })).room s m args below meth c H locs 0 0 Q (F0 m 41 ls [])
def dj_X5_open_11 (p : Program) (l : Launch) (e : Env) (s : State) (m : MethodId) (args : Array Value) (below : List Frame) (meth : Method) (c : Code) (Q : State → Prop) (A : Nat → Prop) (dC : Nat → ClassId) (dI : Nat → Nat → Nat) (a : Nat → Nat) (ac : Nat → ClassId) (g : Int32 → Int32 → Int32 → Int32 → (St × (St × (St × (St)))) → Option (Int64 × (St × (St × (St × (St)))))) (r : Int64 × (St × (St × (St × (St))))) : Prop := ∀ (x1 : Int32) (x2 : Int32) (x3 : Int32) (y0 : Int32) (s0 : St × (St × (St × (St)))) (H : Heap) (locs : List Loc) (ls : Array Slot), g x1 x2 x3 y0 s0 = some r → va_P (dC, dI) vwCl (dw_X5 a ac s0) H → va_D A (dw_X5 a ac s0) → va_S A s.heap H locs → lv_has ls 9 [(0, .ref (a 0)), (1, .int x1), (2, .int x2), (3, .int x3)] → W p l e (headSpec ow_dm_X5_open ({ frames := 2, cells := 0, slots := 0, locals := 62 })).room s m args below meth c H locs 0 0 Q (F0 m 11 ls [.int y0])
def dj_X5_open_0 (p : Program) (l : Launch) (e : Env) (s : State) (m : MethodId) (args : Array Value) (below : List Frame) (meth : Method) (c : Code) (Q : State → Prop) (A : Nat → Prop) (dC : Nat → ClassId) (dI : Nat → Nat → Nat) (a : Nat → Nat) (ac : Nat → ClassId) (g : Int32 → Int32 → Int32 → (St × (St × (St × (St)))) → Option (Int64 × (St × (St × (St × (St)))))) (r : Int64 × (St × (St × (St × (St))))) : Prop := ∀ (v0 : Int32) (v1 : Int32) (v2 : Int32) (s0 : St × (St × (St × (St)))) (H : Heap) (locs : List Loc) (ls : Array Slot), g v0 v1 v2 s0 = some r → va_P (dC, dI) vwCl (dw_X5 a ac s0) H → va_D A (dw_X5 a ac s0) → va_S A s.heap H locs → lv_has ls 9 [(0, .ref (a 0)), (1, .int v0), (2, .int v1), (3, .int v2)] → W p l e (headSpec ow_dm_X5_open ({ frames := 2, cells := 0, slots := 0, locals := 62 })).room s m args below meth c H locs 0 0 Q (F0 m 0 ls [])
set_option maxHeartbeats 40000000 in
set_option maxRecDepth 100000 in
theorem db_X5_open_67 {p : Program} {l : Launch} {e : Env} {s : State} {m : MethodId} {args : Array Value} {below : List Frame} {meth : Method} {c : Code} {Q : State → Prop} {A : Nat → Prop} {dC : Nat → ClassId} {dI : Nat → Nat → Nat} {a : Nat → Nat} {ac : Nat → ClassId} {n : Nat} {r : Int64 × (St × (St × (St × (St))))} (C : nd_C p l s m args c A (dC, dI) cX5_open 9 RX5 ow_dm_X5_open (dk_X5 ac)) (K : nd_Kl p l e (headSpec ow_dm_X5_open ({ frames := 2, cells := 0, slots := 0, locals := 62 })).room s m args below meth c Q A (dC, dI) cX5_open (St × (St × (St × (St)))) (dw_X5 a ac) r) : dj_X5_open_67 p l e s m args below meth c Q A dC dI a ac (df_X5_open_67 n) r := by
  obtain ⟨hlt, hx, hb, hml, hown, hts, hN, hA, hK⟩ := id C
  intro s0 H locs ls h hP hD hS hl
  unfold df_X5_open_67 at h
  refine lv_ldc2 hx hb hown (hts (.constantLong RX5 251 (-22)) (List.mem_of_getElem? (i := 1) rfl)) dX5_open_67 ?_
  exact K _ _ _ _ _ _ dX5_open_70 (Option.some.inj h).symm hP hD hS
set_option maxHeartbeats 40000000 in
set_option maxRecDepth 100000 in
theorem db_X5_open_194 {p : Program} {l : Launch} {e : Env} {s : State} {m : MethodId} {args : Array Value} {below : List Frame} {meth : Method} {c : Code} {Q : State → Prop} {A : Nat → Prop} {dC : Nat → ClassId} {dI : Nat → Nat → Nat} {a : Nat → Nat} {ac : Nat → ClassId} {n : Nat} {r : Int64 × (St × (St × (St × (St))))} (C : nd_C p l s m args c A (dC, dI) cX5_open 9 RX5 ow_dm_X5_open (dk_X5 ac)) (K : nd_Kl p l e (headSpec ow_dm_X5_open ({ frames := 2, cells := 0, slots := 0, locals := 62 })).room s m args below meth c Q A (dC, dI) cX5_open (St × (St × (St × (St)))) (dw_X5 a ac) r) : dj_X5_open_194 p l e s m args below meth c Q A dC dI a ac (df_X5_open_194 n) r := by
  obtain ⟨hlt, hx, hb, hml, hown, hts, hN, hA, hK⟩ := id C
  intro s0 H locs ls h hP hD hS hl
  unfold df_X5_open_194 at h
  refine lv_ldc2 hx hb hown (hts (.constantLong RX5 228 (-4)) (List.mem_of_getElem? (i := 15) rfl)) dX5_open_194 ?_
  exact K _ _ _ _ _ _ dX5_open_197 (Option.some.inj h).symm hP hD hS
set_option maxHeartbeats 40000000 in
set_option maxRecDepth 100000 in
theorem db_X5_open_237 {p : Program} {l : Launch} {e : Env} {s : State} {m : MethodId} {args : Array Value} {below : List Frame} {meth : Method} {c : Code} {Q : State → Prop} {A : Nat → Prop} {dC : Nat → ClassId} {dI : Nat → Nat → Nat} {a : Nat → Nat} {ac : Nat → ClassId} {n : Nat} {r : Int64 × (St × (St × (St × (St))))} (C : nd_C p l s m args c A (dC, dI) cX5_open 9 RX5 ow_dm_X5_open (dk_X5 ac)) (K : nd_Kl p l e (headSpec ow_dm_X5_open ({ frames := 2, cells := 0, slots := 0, locals := 62 })).room s m args below meth c Q A (dC, dI) cX5_open (St × (St × (St × (St)))) (dw_X5 a ac) r) : dj_X5_open_237 p l e s m args below meth c Q A dC dI a ac (df_X5_open_237 n) r := by
  obtain ⟨hlt, hx, hb, hml, hown, hts, hN, hA, hK⟩ := id C
  intro x1 x3 x6 x7 s0 H locs ls h hP hD hS hl
  unfold df_X5_open_237 at h
  refine lv_aload_n hx hb dX5_open_237 rfl (lv_at hl 0 rfl) ?_
  refine va_get (D := (dC, dI)) (ci := 6) (v := .ref (a 14)) (C := RX5) (T := TX5) (N := 8) hx hb hts hi_dm_X5_open_X5 hown hK hP 0 rfl rfl 1 (by decide) (hts (.fieldLink RX5 28 "TimeMachine$Kernel" "things" "LTimeMachine$Things;") (List.mem_of_getElem? (i := 7) rfl)) (fun _ h9 => h9) rfl dX5_open_238 ?_
  refine lv_iload_n hx hb dX5_open_241 rfl (lv_at hl 1 rfl) ?_
  refine lv_iload hx hb dX5_open_242 (lv_at hl 4 rfl) ?_
  refine lv_aload_n hx hb dX5_open_244 rfl (lv_at hl 0 rfl) ?_
  refine va_get (D := (dC, dI)) (ci := 6) (v := .ref (a 14)) (C := RX5) (T := TX5) (N := 8) hx hb hts hi_dm_X5_open_X5 hown hK hP 0 rfl rfl 1 (by decide) (hts (.fieldLink RX5 28 "TimeMachine$Kernel" "things" "LTimeMachine$Things;") (List.mem_of_getElem? (i := 7) rfl)) (fun _ h9 => h9) rfl dX5_open_245 ?_
  refine lv_iconst (v := 3) hx hb dX5_open_248 (by decide) ?_
  refine lv_iload hx hb dX5_open_249 (lv_at hl 3 rfl) ?_
  refine lv_iload_n hx hb dX5_open_251 rfl (lv_at hl 2 rfl) ?_
  refine lv_bipush (v := 7) hx hb dX5_open_252 (by decide) ?_
  refine lv_iand hx hb dX5_open_254 ?_
  obtain ⟨q37, s38, hq, h⟩ := nd_b2_e h
  have hPc := dp_X5_14 hP
  have hDc := dd_X5_14 hD
  have hKc := dy_X5_14 hK
  have hFc := nd_rs hDc hS hA
  have hzA : ∀ q : Nat, H.size ≤ q → A q := fun q h => hA q (Nat.le_trans hS.1 h)
  refine nd_cVi (As := [.int 3, .int x6, .int (x3 &&& 7)]) (rest := [.int x7, .int x1, .ref (a 14)]) (q := q37) (w' := dw_X10 (fun k => a (k + 14)) (fun k => ac (k + 14)) s38) ⟨hx, hb, hml, hown, hts⟩ (fun sz => dm_X10_open l hlt dC dI (fun k => a (k + 14)) (fun k => ac (k + 14)) n (3) (x6) ((x3 &&& 7)) s0.2.2.2 hq sz) (cwV 3 hts gi_dm_X5_open_5 rfl rfl rfl (by decide +kernel) ⟨Nat.le_of_ble_eq_true rfl, Nat.le_of_ble_eq_true rfl⟩) hPc hDc hKc hS hA hN (va_recv hKc hPc (ci := 11) (q0 := 0) rfl rfl) rfl hl.1 rfl (Nat.le_of_ble_eq_true rfl) dX5_open_255 (fun H locs hP1 hD1 hk1 hS => ?_)
  obtain ⟨hP, hD⟩ := dn_X5_14 hP hD hzA hk1 hP1 hD1
  obtain ⟨s40, es40, h⟩ := nd_let_e h
  have hP : va_P (dC, dI) vwCl (dw_X5 a ac s40) H := by rw [es40]; exact hP
  have hD : va_D A (dw_X5 a ac s40) := by rw [es40]; exact hD
  obtain ⟨s42, hq, h⟩ := nd_b1_e h
  have hPc := dp_X5_14 hP
  have hDc := dd_X5_14 hD
  have hKc := dy_X5_14 hK
  have hFc := nd_rs hDc hS hA
  have hzA : ∀ q : Nat, H.size ≤ q → A q := fun q h => hA q (Nat.le_trans hS.1 h)
  refine nd_cVv (As := [.int x1, .int x7, .int q37]) (rest := []) (w' := dw_X10 (fun k => a (k + 14)) (fun k => ac (k + 14)) s42) ⟨hx, hb, hml, hown, hts⟩ (fun sz => dm_X10_linkTo l hlt dC dI (fun k => a (k + 14)) (fun k => ac (k + 14)) n (x1) (x7) (q37) s40.2.2.2 hq sz) (cwV 3 hts gi_dm_X5_open_6 rfl rfl rfl (by decide +kernel) ⟨Nat.le_of_ble_eq_true rfl, Nat.le_of_ble_eq_true rfl⟩) hPc hDc hKc hS hA hN (va_recv hKc hPc (ci := 11) (q0 := 0) rfl rfl) rfl hl.1 rfl (Nat.le_of_ble_eq_true rfl) dX5_open_258 (fun H locs hP1 hD1 hk1 hS => ?_)
  obtain ⟨hP, hD⟩ := dn_X5_14 hP hD hzA hk1 hP1 hD1
  obtain ⟨s44, es44, h⟩ := nd_let_e h
  have hP : va_P (dC, dI) vwCl (dw_X5 a ac s44) H := by rw [es44]; exact hP
  have hD : va_D A (dw_X5 a ac s44) := by rw [es44]; exact hD
  refine lv_iload hx hb dX5_open_261 (lv_at hl 4 rfl) ?_
  refine lv_i2l hx hb dX5_open_263 rfl ?_
  exact K _ _ _ _ _ _ dX5_open_264 (Option.some.inj h).symm hP hD hS
set_option maxHeartbeats 40000000 in
set_option maxRecDepth 100000 in
theorem db_X5_open_228 {p : Program} {l : Launch} {e : Env} {s : State} {m : MethodId} {args : Array Value} {below : List Frame} {meth : Method} {c : Code} {Q : State → Prop} {A : Nat → Prop} {dC : Nat → ClassId} {dI : Nat → Nat → Nat} {a : Nat → Nat} {ac : Nat → ClassId} {n : Nat} {r : Int64 × (St × (St × (St × (St))))} (C : nd_C p l s m args c A (dC, dI) cX5_open 9 RX5 ow_dm_X5_open (dk_X5 ac)) (K : nd_Kl p l e (headSpec ow_dm_X5_open ({ frames := 2, cells := 0, slots := 0, locals := 62 })).room s m args below meth c Q A (dC, dI) cX5_open (St × (St × (St × (St)))) (dw_X5 a ac) r) : dj_X5_open_228 p l e s m args below meth c Q A dC dI a ac (df_X5_open_228 n) r := by
  obtain ⟨hlt, hx, hb, hml, hown, hts, hN, hA, hK⟩ := id C
  intro x1 x3 x6 x7 s0 H locs ls h hP hD hS hl
  unfold df_X5_open_228 at h
  refine lv_aload_n hx hb dX5_open_228 rfl (lv_at hl 0 rfl) ?_
  refine va_get (D := (dC, dI)) (ci := 6) (v := .ref (a 14)) (C := RX5) (T := TX5) (N := 8) hx hb hts hi_dm_X5_open_X5 hown hK hP 0 rfl rfl 1 (by decide) (hts (.fieldLink RX5 28 "TimeMachine$Kernel" "things" "LTimeMachine$Things;") (List.mem_of_getElem? (i := 7) rfl)) (fun _ h9 => h9) rfl dX5_open_229 ?_
  refine lv_iload hx hb dX5_open_232 (lv_at hl 3 rfl) ?_
  obtain ⟨s34, hq, h⟩ := nd_b1_e h
  have hPc := dp_X5_14 hP
  have hDc := dd_X5_14 hD
  have hKc := dy_X5_14 hK
  have hFc := nd_rs hDc hS hA
  have hzA : ∀ q : Nat, H.size ≤ q → A q := fun q h => hA q (Nat.le_trans hS.1 h)
  refine nd_cVv (As := [.int x6]) (rest := []) (w' := dw_X10 (fun k => a (k + 14)) (fun k => ac (k + 14)) s34) ⟨hx, hb, hml, hown, hts⟩ (fun sz => dm_X10_emptyFile l hlt dC dI (fun k => a (k + 14)) (fun k => ac (k + 14)) n (x6) s0.2.2.2 hq sz) (cwV 1 hts gi_dm_X5_open_4 rfl rfl rfl (by decide +kernel) ⟨Nat.le_of_ble_eq_true rfl, Nat.le_of_ble_eq_true rfl⟩) hPc hDc hKc hS hA hN (va_recv hKc hPc (ci := 11) (q0 := 0) rfl rfl) rfl hl.1 rfl (Nat.le_of_ble_eq_true rfl) dX5_open_234 (fun H locs hP1 hD1 hk1 hS => ?_)
  obtain ⟨hP, hD⟩ := dn_X5_14 hP hD hzA hk1 hP1 hD1
  obtain ⟨s36, es36, h⟩ := nd_let_e h
  have hP : va_P (dC, dI) vwCl (dw_X5 a ac s36) H := by rw [es36]; exact hP
  have hD : va_D A (dw_X5 a ac s36) := by rw [es36]; exact hD
  exact (db_X5_open_237 C K) (x1) (x3) (x6) (x7) s36 _ _ _ h hP hD hS (lv_sub hl [0, 1, 2, 3, 4] rfl)
set_option maxHeartbeats 40000000 in
set_option maxRecDepth 100000 in
theorem db_X5_open_216 {p : Program} {l : Launch} {e : Env} {s : State} {m : MethodId} {args : Array Value} {below : List Frame} {meth : Method} {c : Code} {Q : State → Prop} {A : Nat → Prop} {dC : Nat → ClassId} {dI : Nat → Nat → Nat} {a : Nat → Nat} {ac : Nat → ClassId} {n : Nat} {r : Int64 × (St × (St × (St × (St))))} (C : nd_C p l s m args c A (dC, dI) cX5_open 9 RX5 ow_dm_X5_open (dk_X5 ac)) (K : nd_Kl p l e (headSpec ow_dm_X5_open ({ frames := 2, cells := 0, slots := 0, locals := 62 })).room s m args below meth c Q A (dC, dI) cX5_open (St × (St × (St × (St)))) (dw_X5 a ac) r) : dj_X5_open_216 p l e s m args below meth c Q A dC dI a ac (df_X5_open_216 n) r := by
  obtain ⟨hlt, hx, hb, hml, hown, hts, hN, hA, hK⟩ := id C
  intro x1 x3 x6 x7 x8 s0 H locs ls h hP hD hS hl
  unfold df_X5_open_216 at h
  refine lv_iload hx hb dX5_open_216 (lv_at hl 5 rfl) ?_
  refine lv_if_ne (tgt := 228) hx hb dX5_open_218 (by decide) (fun c32 => ?_) (fun c32 => ?_)
  · have h := nd_neg h c32
    exact (db_X5_open_228 C K) (x1) (x3) (x6) (x7) s0 _ _ _ h hP hD hS (lv_sub hl [0, 1, 2, 3, 4] rfl)
  · have h := nd_pos h c32
    refine lv_iload_n hx hb dX5_open_221 rfl (lv_at hl 2 rfl) ?_
    refine lv_bipush (v := 32) hx hb dX5_open_222 (by decide) ?_
    refine lv_iand hx hb dX5_open_224 ?_
    refine lv_if_eq (tgt := 237) hx hb dX5_open_225 (by decide) (fun c45 => ?_) (fun c45 => ?_)
    · have h := nd_pos h c45
      exact (db_X5_open_237 C K) (x1) (x3) (x6) (x7) s0 _ _ _ h hP hD hS (lv_sub hl [0, 1, 2, 3, 4] rfl)
    · have h := nd_neg h c45
      exact (db_X5_open_228 C K) (x1) (x3) (x6) (x7) s0 _ _ _ h hP hD hS (lv_sub hl [0, 1, 2, 3, 4] rfl)
set_option maxHeartbeats 40000000 in
set_option maxRecDepth 100000 in
theorem db_X5_open_174 {p : Program} {l : Launch} {e : Env} {s : State} {m : MethodId} {args : Array Value} {below : List Frame} {meth : Method} {c : Code} {Q : State → Prop} {A : Nat → Prop} {dC : Nat → ClassId} {dI : Nat → Nat → Nat} {a : Nat → Nat} {ac : Nat → ClassId} {n : Nat} {r : Int64 × (St × (St × (St × (St))))} (C : nd_C p l s m args c A (dC, dI) cX5_open 9 RX5 ow_dm_X5_open (dk_X5 ac)) (K : nd_Kl p l e (headSpec ow_dm_X5_open ({ frames := 2, cells := 0, slots := 0, locals := 62 })).room s m args below meth c Q A (dC, dI) cX5_open (St × (St × (St × (St)))) (dw_X5 a ac) r) : dj_X5_open_174 p l e s m args below meth c Q A dC dI a ac (df_X5_open_174 n) r := by
  obtain ⟨hlt, hx, hb, hml, hown, hts, hN, hA, hK⟩ := id C
  intro x1 x3 x6 x7 x8 s0 H locs ls h hP hD hS hl
  unfold df_X5_open_174 at h
  refine lv_iload hx hb dX5_open_174 (lv_at hl 4 rfl) ?_
  refine lv_if_lt (tgt := 194) hx hb dX5_open_176 (by decide) (fun c24 => ?_) (fun c24 => ?_)
  · have h := nd_pos h c24
    exact (db_X5_open_194 C K)  s0 _ _ _ h hP hD hS (lv_sub hl [] rfl)
  · have h := nd_neg h c24
    refine lv_iload hx hb dX5_open_179 (lv_at hl 3 rfl) ?_
    refine lv_if_lt (tgt := 194) hx hb dX5_open_181 (by decide) (fun c25 => ?_) (fun c25 => ?_)
    · have h := nd_pos h c25
      exact (db_X5_open_194 C K)  s0 _ _ _ h hP hD hS (lv_sub hl [] rfl)
    · have h := nd_neg h c25
      refine lv_aload_n hx hb dX5_open_184 rfl (lv_at hl 0 rfl) ?_
      refine va_get (D := (dC, dI)) (ci := 6) (v := .ref (a 14)) (C := RX5) (T := TX5) (N := 8) hx hb hts hi_dm_X5_open_X5 hown hK hP 0 rfl rfl 1 (by decide) (hts (.fieldLink RX5 28 "TimeMachine$Kernel" "things" "LTimeMachine$Things;") (List.mem_of_getElem? (i := 7) rfl)) (fun _ h9 => h9) rfl dX5_open_185 ?_
      obtain ⟨q26, s27, hq, h⟩ := nd_b2_e h
      have hPc := dp_X5_14 hP
      have hDc := dd_X5_14 hD
      have hKc := dy_X5_14 hK
      have hFc := nd_rs hDc hS hA
      have hzA : ∀ q : Nat, H.size ≤ q → A q := fun q h => hA q (Nat.le_trans hS.1 h)
      refine nd_cVi (As := []) (rest := []) (q := q26) (w' := dw_X10 (fun k => a (k + 14)) (fun k => ac (k + 14)) s27) ⟨hx, hb, hml, hown, hts⟩ (fun sz => dm_X10_openingsFree l hlt dC dI (fun k => a (k + 14)) (fun k => ac (k + 14)) n  s0.2.2.2 hq sz) (cwV 0 hts gi_dm_X5_open_3 rfl rfl rfl (by decide +kernel) ⟨Nat.le_of_ble_eq_true rfl, Nat.le_of_ble_eq_true rfl⟩) hPc hDc hKc hS hA hN (va_recv hKc hPc (ci := 11) (q0 := 0) rfl rfl) rfl hl.1 rfl (Nat.le_of_ble_eq_true rfl) dX5_open_188 (fun H locs hP1 hD1 hk1 hS => ?_)
      obtain ⟨hP, hD⟩ := dn_X5_14 hP hD hzA hk1 hP1 hD1
      obtain ⟨s29, es29, h⟩ := nd_let_e h
      have hP : va_P (dC, dI) vwCl (dw_X5 a ac s29) H := by rw [es29]; exact hP
      have hD : va_D A (dw_X5 a ac s29) := by rw [es29]; exact hD
      refine lv_if_ne (tgt := 198) hx hb dX5_open_191 (by decide) (fun c30 => ?_) (fun c30 => ?_)
      · have h := nd_neg h c30
        refine lv_iload hx hb dX5_open_198 (lv_at hl 5 rfl) ?_
        refine lv_if_eq (tgt := 216) hx hb dX5_open_200 (by decide) (fun c31 => ?_) (fun c31 => ?_)
        · have h := nd_pos h c31
          exact (db_X5_open_216 C K) (x1) (x3) (x6) (x7) (x8) s29 _ _ _ h hP hD hS (lv_sub hl [0, 1, 2, 3, 4, 5] rfl)
        · have h := nd_neg h c31
          refine lv_aload_n hx hb dX5_open_203 rfl (lv_at hl 0 rfl) ?_
          refine va_get (D := (dC, dI)) (ci := 6) (v := .ref (a 14)) (C := RX5) (T := TX5) (N := 8) hx hb hts hi_dm_X5_open_X5 hown hK hP 0 rfl rfl 1 (by decide) (hts (.fieldLink RX5 28 "TimeMachine$Kernel" "things" "LTimeMachine$Things;") (List.mem_of_getElem? (i := 7) rfl)) (fun _ h9 => h9) rfl dX5_open_204 ?_
          refine lv_iload hx hb dX5_open_207 (lv_at hl 3 rfl) ?_
          refine lv_aload_n hx hb dX5_open_209 rfl (lv_at hl 0 rfl) ?_
          refine va_get (D := (dC, dI)) (ci := 6) (v := .ref (a 1)) (C := RX5) (T := TX5) (N := 8) hx hb hts hi_dm_X5_open_X5 hown hK hP 0 rfl rfl 6 (by decide) (hts (.fieldLink RX5 9 "TimeMachine$Kernel" "name" "[B") (List.mem_of_getElem? (i := 2) rfl)) (fun _ h9 => h9) rfl dX5_open_210 ?_
          obtain ⟨s47, hq, h⟩ := nd_b1_e h
          have hPc := dp_vX5_X10n_0 hP
          have hDc := dd_vX5_X10n_0 hD
          have hKc := dy_vX5_X10n_0 hK
          have hFc := nd_rs hDc hS hA
          have hzA : ∀ q : Nat, H.size ≤ q → A q := fun q h => hA q (Nat.le_trans hS.1 h)
          refine nd_cVv (As := [.int x6, .ref (a 1)]) (rest := []) (w' := dw_X10n (fun k => a (nd_ix [1, 14, 15, 16, 17, 18, 19, 20, 21, 22, 23] k)) (fun k => ac (nd_ix [1, 14, 15, 16, 17, 18, 19, 20, 21, 22, 23] k)) s47) ⟨hx, hb, hml, hown, hts⟩ (fun sz => dm_X10_giveName l hlt dC dI (fun k => a (nd_ix [1, 14, 15, 16, 17, 18, 19, 20, 21, 22, 23] k)) (fun k => ac (nd_ix [1, 14, 15, 16, 17, 18, 19, 20, 21, 22, 23] k)) n (x6) ((pR nd_st0 0 (sR s29.1 0)), s29.2.2.2) hq sz) (cwV 2 hts gi_dm_X5_open_7 rfl rfl rfl (by decide +kernel) ⟨Nat.le_of_ble_eq_true rfl, Nat.le_of_ble_eq_true rfl⟩) hPc hDc hKc hS hA hN (va_recv hKc hPc (ci := 11) (q0 := 1) rfl rfl) rfl hl.1 rfl (Nat.le_of_ble_eq_true rfl) dX5_open_213 (fun H locs hP1 hD1 hk1 hS => ?_)
          obtain ⟨hP, hD⟩ := dn_vX5_X10n_0 hP hD hzA hk1 hP1 hD1
          obtain ⟨s49, es49, h⟩ := nd_let_e h
          have hP : va_P (dC, dI) vwCl (dw_X5 a ac s49) H := by rw [es49]; exact hP
          have hD : va_D A (dw_X5 a ac s49) := by rw [es49]; exact hD
          exact (db_X5_open_216 C K) (x1) (x3) (x6) (x7) (x8) s49 _ _ _ h hP hD hS (lv_sub hl [0, 1, 2, 3, 4, 5] rfl)
      · have h := nd_pos h c30
        exact (db_X5_open_194 C K)  s29 _ _ _ h hP hD hS (lv_sub hl [] rfl)
set_option maxHeartbeats 40000000 in
set_option maxRecDepth 100000 in
theorem db_X5_open_158 {p : Program} {l : Launch} {e : Env} {s : State} {m : MethodId} {args : Array Value} {below : List Frame} {meth : Method} {c : Code} {Q : State → Prop} {A : Nat → Prop} {dC : Nat → ClassId} {dI : Nat → Nat → Nat} {a : Nat → Nat} {ac : Nat → ClassId} {n : Nat} {r : Int64 × (St × (St × (St × (St))))} (C : nd_C p l s m args c A (dC, dI) cX5_open 9 RX5 ow_dm_X5_open (dk_X5 ac)) (K : nd_Kl p l e (headSpec ow_dm_X5_open ({ frames := 2, cells := 0, slots := 0, locals := 62 })).room s m args below meth c Q A (dC, dI) cX5_open (St × (St × (St × (St)))) (dw_X5 a ac) r) : dj_X5_open_158 p l e s m args below meth c Q A dC dI a ac (df_X5_open_158 n) r := by
  obtain ⟨hlt, hx, hb, hml, hown, hts, hN, hA, hK⟩ := id C
  intro x1 x3 x6 x7 y0 s0 H locs ls h hP hD hS hl
  unfold df_X5_open_158 at h
  refine lv_istore (lv' := [(8, .int y0), (0, .ref (a 0)), (1, .int x1), (3, .int x3), (6, .int x6), (7, .int x7)]) hx hb dX5_open_158 hl (by decide) rfl (fun ls hl => ?_)
  refine lv_iload hx hb dX5_open_160 (lv_at hl 0 rfl) ?_
  refine lv_if_eq (tgt := 174) hx hb dX5_open_162 (by decide) (fun c23 => ?_) (fun c23 => ?_)
  · have h := nd_pos h c23
    exact (db_X5_open_174 C K) (x1) (x3) (x6) (x7) (y0) s0 _ _ _ h hP hD hS (lv_sub hl [1, 2, 3, 4, 5, 0] rfl)
  · have h := nd_neg h c23
    refine lv_aload_n hx hb dX5_open_165 rfl (lv_at hl 1 rfl) ?_
    refine va_get (D := (dC, dI)) (ci := 6) (v := .ref (a 14)) (C := RX5) (T := TX5) (N := 8) hx hb hts hi_dm_X5_open_X5 hown hK hP 0 rfl rfl 1 (by decide) (hts (.fieldLink RX5 28 "TimeMachine$Kernel" "things" "LTimeMachine$Things;") (List.mem_of_getElem? (i := 7) rfl)) (fun _ h9 => h9) rfl dX5_open_166 ?_
    obtain ⟨q50, s51, hq, h⟩ := nd_b2_e h
    have hPc := dp_X5_14 hP
    have hDc := dd_X5_14 hD
    have hKc := dy_X5_14 hK
    have hFc := nd_rs hDc hS hA
    have hzA : ∀ q : Nat, H.size ≤ q → A q := fun q h => hA q (Nat.le_trans hS.1 h)
    refine nd_cVi (As := []) (rest := []) (q := q50) (w' := dw_X10 (fun k => a (k + 14)) (fun k => ac (k + 14)) s51) ⟨hx, hb, hml, hown, hts⟩ (fun sz => dm_X10_freeFile l hlt dC dI (fun k => a (k + 14)) (fun k => ac (k + 14)) n  s0.2.2.2 hq sz) (cwV 0 hts gi_dm_X5_open_8 rfl rfl rfl (by decide +kernel) ⟨Nat.le_of_ble_eq_true rfl, Nat.le_of_ble_eq_true rfl⟩) hPc hDc hKc hS hA hN (va_recv hKc hPc (ci := 11) (q0 := 0) rfl rfl) rfl hl.1 rfl (Nat.le_of_ble_eq_true rfl) dX5_open_169 (fun H locs hP1 hD1 hk1 hS => ?_)
    obtain ⟨hP, hD⟩ := dn_X5_14 hP hD hzA hk1 hP1 hD1
    obtain ⟨s53, es53, h⟩ := nd_let_e h
    have hP : va_P (dC, dI) vwCl (dw_X5 a ac s53) H := by rw [es53]; exact hP
    have hD : va_D A (dw_X5 a ac s53) := by rw [es53]; exact hD
    refine lv_istore (lv' := [(6, .int q50), (8, .int y0), (0, .ref (a 0)), (1, .int x1), (3, .int x3), (7, .int x7)]) hx hb dX5_open_172 hl (by decide) rfl (fun ls hl => ?_)
    exact (db_X5_open_174 C K) (x1) (x3) (q50) (x7) (y0) s53 _ _ _ h hP hD hS (lv_sub hl [2, 3, 4, 0, 5, 1] rfl)
set_option maxHeartbeats 40000000 in
set_option maxRecDepth 100000 in
theorem db_X5_open_137 {p : Program} {l : Launch} {e : Env} {s : State} {m : MethodId} {args : Array Value} {below : List Frame} {meth : Method} {c : Code} {Q : State → Prop} {A : Nat → Prop} {dC : Nat → ClassId} {dI : Nat → Nat → Nat} {a : Nat → Nat} {ac : Nat → ClassId} {n : Nat} {r : Int64 × (St × (St × (St × (St))))} (C : nd_C p l s m args c A (dC, dI) cX5_open 9 RX5 ow_dm_X5_open (dk_X5 ac)) (K : nd_Kl p l e (headSpec ow_dm_X5_open ({ frames := 2, cells := 0, slots := 0, locals := 62 })).room s m args below meth c Q A (dC, dI) cX5_open (St × (St × (St × (St)))) (dw_X5 a ac) r) : dj_X5_open_137 p l e s m args below meth c Q A dC dI a ac (df_X5_open_137 n) r := by
  obtain ⟨hlt, hx, hb, hml, hown, hts, hN, hA, hK⟩ := id C
  intro x1 x3 x6 s0 H locs ls h hP hD hS hl
  unfold df_X5_open_137 at h
  refine lv_aload_n hx hb dX5_open_137 rfl (lv_at hl 0 rfl) ?_
  refine va_get (D := (dC, dI)) (ci := 6) (v := .ref (a 14)) (C := RX5) (T := TX5) (N := 8) hx hb hts hi_dm_X5_open_X5 hown hK hP 0 rfl rfl 1 (by decide) (hts (.fieldLink RX5 28 "TimeMachine$Kernel" "things" "LTimeMachine$Things;") (List.mem_of_getElem? (i := 7) rfl)) (fun _ h9 => h9) rfl dX5_open_138 ?_
  refine lv_iload_n hx hb dX5_open_141 rfl (lv_at hl 1 rfl) ?_
  refine lv_iconst (v := 0) hx hb dX5_open_142 (by decide) ?_
  obtain ⟨q18, s19, hq, h⟩ := nd_b2_e h
  have hPc := dp_X5_14 hP
  have hDc := dd_X5_14 hD
  have hKc := dy_X5_14 hK
  have hFc := nd_rs hDc hS hA
  have hzA : ∀ q : Nat, H.size ≤ q → A q := fun q h => hA q (Nat.le_trans hS.1 h)
  refine nd_cVi (As := [.int x1, .int 0]) (rest := []) (q := q18) (w' := dw_X10 (fun k => a (k + 14)) (fun k => ac (k + 14)) s19) ⟨hx, hb, hml, hown, hts⟩ (fun sz => dm_X10_freeLink l hlt dC dI (fun k => a (k + 14)) (fun k => ac (k + 14)) n (x1) (0) s0.2.2.2 hq sz) (cwV 2 hts gi_dm_X5_open_2 rfl rfl rfl (by decide +kernel) ⟨Nat.le_of_ble_eq_true rfl, Nat.le_of_ble_eq_true rfl⟩) hPc hDc hKc hS hA hN (va_recv hKc hPc (ci := 11) (q0 := 0) rfl rfl) rfl hl.1 rfl (Nat.le_of_ble_eq_true rfl) dX5_open_143 (fun H locs hP1 hD1 hk1 hS => ?_)
  obtain ⟨hP, hD⟩ := dn_X5_14 hP hD hzA hk1 hP1 hD1
  obtain ⟨s21, es21, h⟩ := nd_let_e h
  have hP : va_P (dC, dI) vwCl (dw_X5 a ac s21) H := by rw [es21]; exact hP
  have hD : va_D A (dw_X5 a ac s21) := by rw [es21]; exact hD
  refine lv_istore (lv' := [(7, .int q18), (0, .ref (a 0)), (1, .int x1), (3, .int x3), (6, .int x6)]) hx hb dX5_open_146 hl (by decide) rfl (fun ls hl => ?_)
  refine lv_iload hx hb dX5_open_148 (lv_at hl 4 rfl) ?_
  refine lv_if_ge (tgt := 157) hx hb dX5_open_150 (by decide) (fun c22 => ?_) (fun c22 => ?_)
  · have h := nd_pos h c22
    refine lv_iconst (v := 0) hx hb dX5_open_157 (by decide) ?_
    exact (db_X5_open_158 C K) (x1) (x3) (x6) (q18) (0) s21 _ _ _ h hP hD hS (lv_sub hl [1, 2, 3, 4, 0] rfl)
  · have h := nd_neg h c22
    refine lv_iconst (v := 1) hx hb dX5_open_153 (by decide) ?_
    refine lv_goto (tgt := 158) hx hb dX5_open_154 (by decide) ?_
    exact (db_X5_open_158 C K) (x1) (x3) (x6) (q18) (1) s21 _ _ _ h hP hD hS (lv_sub hl [1, 2, 3, 4, 0] rfl)
set_option maxHeartbeats 40000000 in
set_option maxRecDepth 100000 in
theorem db_X5_open_121 {p : Program} {l : Launch} {e : Env} {s : State} {m : MethodId} {args : Array Value} {below : List Frame} {meth : Method} {c : Code} {Q : State → Prop} {A : Nat → Prop} {dC : Nat → ClassId} {dI : Nat → Nat → Nat} {a : Nat → Nat} {ac : Nat → ClassId} {n : Nat} {r : Int64 × (St × (St × (St × (St))))} (C : nd_C p l s m args c A (dC, dI) cX5_open 9 RX5 ow_dm_X5_open (dk_X5 ac)) (K : nd_Kl p l e (headSpec ow_dm_X5_open ({ frames := 2, cells := 0, slots := 0, locals := 62 })).room s m args below meth c Q A (dC, dI) cX5_open (St × (St × (St × (St)))) (dw_X5 a ac) r) : dj_X5_open_121 p l e s m args below meth c Q A dC dI a ac (df_X5_open_121 n) r := by
  obtain ⟨hlt, hx, hb, hml, hown, hts, hN, hA, hK⟩ := id C
  intro x1 x3 x6 s0 H locs ls h hP hD hS hl
  unfold df_X5_open_121 at h
  refine lv_iload hx hb dX5_open_121 (lv_at hl 3 rfl) ?_
  refine lv_if_lt (tgt := 137) hx hb dX5_open_123 (by decide) (fun c17 => ?_) (fun c17 => ?_)
  · have h := nd_pos h c17
    exact (db_X5_open_137 C K) (x1) (x3) (x6) s0 _ _ _ h hP hD hS (lv_sub hl [0, 1, 2, 3] rfl)
  · have h := nd_neg h c17
    refine lv_iload_n hx hb dX5_open_126 rfl (lv_at hl 2 rfl) ?_
    refine lv_bipush (v := 16) hx hb dX5_open_127 (by decide) ?_
    refine lv_iand hx hb dX5_open_129 ?_
    refine lv_if_eq (tgt := 137) hx hb dX5_open_130 (by decide) (fun c54 => ?_) (fun c54 => ?_)
    · have h := nd_pos h c54
      exact (db_X5_open_137 C K) (x1) (x3) (x6) s0 _ _ _ h hP hD hS (lv_sub hl [0, 1, 2, 3] rfl)
    · have h := nd_neg h c54
      refine lv_ldc2 hx hb hown (hts (.constantLong RX5 350 (-3)) (List.mem_of_getElem? (i := 34) rfl)) dX5_open_133 ?_
      exact K _ _ _ _ _ _ dX5_open_136 (Option.some.inj h).symm hP hD hS
set_option maxHeartbeats 40000000 in
set_option maxRecDepth 100000 in
theorem db_X5_open_71 {p : Program} {l : Launch} {e : Env} {s : State} {m : MethodId} {args : Array Value} {below : List Frame} {meth : Method} {c : Code} {Q : State → Prop} {A : Nat → Prop} {dC : Nat → ClassId} {dI : Nat → Nat → Nat} {a : Nat → Nat} {ac : Nat → ClassId} {n : Nat} {r : Int64 × (St × (St × (St × (St))))} (C : nd_C p l s m args c A (dC, dI) cX5_open 9 RX5 ow_dm_X5_open (dk_X5 ac)) (K : nd_Kl p l e (headSpec ow_dm_X5_open ({ frames := 2, cells := 0, slots := 0, locals := 62 })).room s m args below meth c Q A (dC, dI) cX5_open (St × (St × (St × (St)))) (dw_X5 a ac) r) : dj_X5_open_71 p l e s m args below meth c Q A dC dI a ac (df_X5_open_71 n) r := by
  obtain ⟨hlt, hx, hb, hml, hown, hts, hN, hA, hK⟩ := id C
  intro x1 x2 x3 s0 H locs ls h hP hD hS hl
  unfold df_X5_open_71 at h
  refine lv_aload_n hx hb dX5_open_71 rfl (lv_at hl 0 rfl) ?_
  refine lv_iload_n hx hb dX5_open_72 rfl (lv_at hl 1 rfl) ?_
  refine lv_iload_n hx hb dX5_open_73 rfl (lv_at hl 2 rfl) ?_
  refine lv_aload_n hx hb dX5_open_74 rfl (lv_at hl 0 rfl) ?_
  refine va_get (D := (dC, dI)) (ci := 6) (v := .ref (a 1)) (C := RX5) (T := TX5) (N := 8) hx hb hts hi_dm_X5_open_X5 hown hK hP 0 rfl rfl 6 (by decide) (hts (.fieldLink RX5 9 "TimeMachine$Kernel" "name" "[B") (List.mem_of_getElem? (i := 2) rfl)) (fun _ h9 => h9) rfl dX5_open_75 ?_
  obtain ⟨q8, s9, hq, h⟩ := nd_b2_e h
  have hPc := hP
  have hDc := hD
  have hKc := hK
  have hFc := nd_rs hD hS hA
  refine nd_cVi (As := [.int x1, .int x2, .ref (a 1)]) (rest := []) (q := q8) (w' := dw_X5 a ac s9) ⟨hx, hb, hml, hown, hts⟩ (fun sz => dm_X5_readName_t1 l hlt dC dI a ac n (x1) (x2) s0 hq sz) (cwV 3 hts gi_dm_X5_open_0 rfl rfl rfl (by decide +kernel) ⟨Nat.le_of_ble_eq_true rfl, Nat.le_of_ble_eq_true rfl⟩) hPc hDc hKc hS hA hN (va_recv hKc hPc (ci := 6) (q0 := 0) rfl rfl) rfl hl.1 rfl (Nat.le_of_ble_eq_true rfl) dX5_open_78 (fun H locs hP1 hD1 hk1 hS => ?_)
  have hP := hP1
  have hD := hD1.weaken (fun k q _ h => hFc q.1 h)
  refine lv_istore (lv' := [(5, .int q8), (0, .ref (a 0)), (1, .int x1), (2, .int x2), (3, .int x3)]) hx hb dX5_open_81 hl (by decide) rfl (fun ls hl => ?_)
  refine lv_iload hx hb dX5_open_83 (lv_at hl 0 rfl) ?_
  refine lv_if_eq (tgt := 92) hx hb dX5_open_85 (by decide) (fun c11 => ?_) (fun c11 => ?_)
  · have h := nd_pos h c11
    refine lv_aload_n hx hb dX5_open_92 rfl (lv_at hl 1 rfl) ?_
    refine va_get (D := (dC, dI)) (ci := 6) (v := .ref (a 14)) (C := RX5) (T := TX5) (N := 8) hx hb hts hi_dm_X5_open_X5 hown hK hP 0 rfl rfl 1 (by decide) (hts (.fieldLink RX5 28 "TimeMachine$Kernel" "things" "LTimeMachine$Things;") (List.mem_of_getElem? (i := 7) rfl)) (fun _ h9 => h9) rfl dX5_open_93 ?_
    refine lv_aload_n hx hb dX5_open_96 rfl (lv_at hl 1 rfl) ?_
    refine va_get (D := (dC, dI)) (ci := 6) (v := .ref (a 1)) (C := RX5) (T := TX5) (N := 8) hx hb hts hi_dm_X5_open_X5 hown hK hP 0 rfl rfl 6 (by decide) (hts (.fieldLink RX5 9 "TimeMachine$Kernel" "name" "[B") (List.mem_of_getElem? (i := 2) rfl)) (fun _ h9 => h9) rfl dX5_open_97 ?_
    obtain ⟨q12, s13, hq, h⟩ := nd_b2_e h
    have hPc := dp_vX5_X10n_0 hP
    have hDc := dd_vX5_X10n_0 hD
    have hKc := dy_vX5_X10n_0 hK
    have hFc := nd_rs hDc hS hA
    have hzA : ∀ q : Nat, H.size ≤ q → A q := fun q h => hA q (Nat.le_trans hS.1 h)
    refine nd_cVi (As := [.ref (a 1)]) (rest := []) (q := q12) (w' := dw_X10n (fun k => a (nd_ix [1, 14, 15, 16, 17, 18, 19, 20, 21, 22, 23] k)) (fun k => ac (nd_ix [1, 14, 15, 16, 17, 18, 19, 20, 21, 22, 23] k)) s13) ⟨hx, hb, hml, hown, hts⟩ (fun sz => dm_X10_fileNamed l hlt dC dI (fun k => a (nd_ix [1, 14, 15, 16, 17, 18, 19, 20, 21, 22, 23] k)) (fun k => ac (nd_ix [1, 14, 15, 16, 17, 18, 19, 20, 21, 22, 23] k)) n  ((pR nd_st0 0 (sR s9.1 0)), s9.2.2.2) hq sz) (cwV 1 hts gi_dm_X5_open_1 rfl rfl rfl (by decide +kernel) ⟨Nat.le_of_ble_eq_true rfl, Nat.le_of_ble_eq_true rfl⟩) hPc hDc hKc hS hA hN (va_recv hKc hPc (ci := 11) (q0 := 1) rfl rfl) rfl hl.1 rfl (Nat.le_of_ble_eq_true rfl) dX5_open_100 (fun H locs hP1 hD1 hk1 hS => ?_)
    obtain ⟨hP, hD⟩ := dn_vX5_X10n_0 hP hD hzA hk1 hP1 hD1
    obtain ⟨s15, es15, h⟩ := nd_let_e h
    have hP : va_P (dC, dI) vwCl (dw_X5 a ac s15) H := by rw [es15]; exact hP
    have hD : va_D A (dw_X5 a ac s15) := by rw [es15]; exact hD
    refine lv_istore (lv' := [(6, .int q12), (5, .int q8), (0, .ref (a 0)), (1, .int x1), (2, .int x2), (3, .int x3)]) hx hb dX5_open_103 hl (by decide) rfl (fun ls hl => ?_)
    refine lv_iload hx hb dX5_open_105 (lv_at hl 0 rfl) ?_
    refine lv_if_ge (tgt := 121) hx hb dX5_open_107 (by decide) (fun c16 => ?_) (fun c16 => ?_)
    · have h := nd_pos h c16
      exact (db_X5_open_121 C K) (x1) (x3) (q12) s15 _ _ _ h hP hD hS (lv_sub hl [2, 3, 5, 0] rfl)
    · have h := nd_neg h c16
      refine lv_iload_n hx hb dX5_open_110 rfl (lv_at hl 5 rfl) ?_
      refine lv_bipush (v := 8) hx hb dX5_open_111 (by decide) ?_
      refine lv_iand hx hb dX5_open_113 ?_
      refine lv_if_ne (tgt := 121) hx hb dX5_open_114 (by decide) (fun c55 => ?_) (fun c55 => ?_)
      · have h := nd_neg h c55
        exact (db_X5_open_121 C K) (x1) (x3) (q12) s15 _ _ _ h hP hD hS (lv_sub hl [2, 3, 5, 0] rfl)
      · have h := nd_pos h c55
        refine lv_ldc2 hx hb hown (hts (.constantLong RX5 230 (-2)) (List.mem_of_getElem? (i := 35) rfl)) dX5_open_117 ?_
        exact K _ _ _ _ _ _ dX5_open_120 (Option.some.inj h).symm hP hD hS
  · have h := nd_neg h c11
    refine lv_iload hx hb dX5_open_88 (lv_at hl 0 rfl) ?_
    refine lv_i2l hx hb dX5_open_90 rfl ?_
    exact K _ _ _ _ _ _ dX5_open_91 (Option.some.inj h).symm hP hD hS
set_option maxHeartbeats 40000000 in
set_option maxRecDepth 100000 in
theorem db_X5_open_55 {p : Program} {l : Launch} {e : Env} {s : State} {m : MethodId} {args : Array Value} {below : List Frame} {meth : Method} {c : Code} {Q : State → Prop} {A : Nat → Prop} {dC : Nat → ClassId} {dI : Nat → Nat → Nat} {a : Nat → Nat} {ac : Nat → ClassId} {n : Nat} {r : Int64 × (St × (St × (St × (St))))} (C : nd_C p l s m args c A (dC, dI) cX5_open 9 RX5 ow_dm_X5_open (dk_X5 ac)) (K : nd_Kl p l e (headSpec ow_dm_X5_open ({ frames := 2, cells := 0, slots := 0, locals := 62 })).room s m args below meth c Q A (dC, dI) cX5_open (St × (St × (St × (St)))) (dw_X5 a ac) r) : dj_X5_open_55 p l e s m args below meth c Q A dC dI a ac (df_X5_open_55 n) r := by
  obtain ⟨hlt, hx, hb, hml, hown, hts, hN, hA, hK⟩ := id C
  intro x1 x2 x3 x4 s0 H locs ls h hP hD hS hl
  unfold df_X5_open_55 at h
  refine lv_iload_n hx hb dX5_open_55 rfl (lv_at hl 3 rfl) ?_
  refine lv_bipush (v := 32) hx hb dX5_open_56 (by decide) ?_
  refine lv_iand hx hb dX5_open_58 ?_
  refine lv_if_eq (tgt := 71) hx hb dX5_open_59 (by decide) (fun c7 => ?_) (fun c7 => ?_)
  · have h := nd_pos h c7
    exact (db_X5_open_71 C K) (x1) (x2) (x3) s0 _ _ _ h hP hD hS (lv_sub hl [0, 1, 2, 3] rfl)
  · have h := nd_neg h c7
    refine lv_iload hx hb dX5_open_62 (lv_at hl 4 rfl) ?_
    refine lv_if_ne (tgt := 71) hx hb dX5_open_64 (by decide) (fun c56 => ?_) (fun c56 => ?_)
    · have h := nd_neg h c56
      exact (db_X5_open_71 C K) (x1) (x2) (x3) s0 _ _ _ h hP hD hS (lv_sub hl [0, 1, 2, 3] rfl)
    · have h := nd_pos h c56
      exact (db_X5_open_67 C K)  s0 _ _ _ h hP hD hS (lv_sub hl [] rfl)
set_option maxHeartbeats 40000000 in
set_option maxRecDepth 100000 in
theorem db_X5_open_41 {p : Program} {l : Launch} {e : Env} {s : State} {m : MethodId} {args : Array Value} {below : List Frame} {meth : Method} {c : Code} {Q : State → Prop} {A : Nat → Prop} {dC : Nat → ClassId} {dI : Nat → Nat → Nat} {a : Nat → Nat} {ac : Nat → ClassId} {n : Nat} {r : Int64 × (St × (St × (St × (St))))} (C : nd_C p l s m args c A (dC, dI) cX5_open 9 RX5 ow_dm_X5_open (dk_X5 ac)) (K : nd_Kl p l e (headSpec ow_dm_X5_open ({ frames := 2, cells := 0, slots := 0, locals := 62 })).room s m args below meth c Q A (dC, dI) cX5_open (St × (St × (St × (St)))) (dw_X5 a ac) r) : dj_X5_open_41 p l e s m args below meth c Q A dC dI a ac (df_X5_open_41 n) r := by
  obtain ⟨hlt, hx, hb, hml, hown, hts, hN, hA, hK⟩ := id C
  intro x1 x2 x3 x4 s0 H locs ls h hP hD hS hl
  unfold df_X5_open_41 at h
  refine lv_iload_n hx hb dX5_open_41 rfl (lv_at hl 3 rfl) ?_
  refine lv_bipush (v := 16) hx hb dX5_open_42 (by decide) ?_
  refine lv_iand hx hb dX5_open_44 ?_
  refine lv_if_eq (tgt := 55) hx hb dX5_open_45 (by decide) (fun c6 => ?_) (fun c6 => ?_)
  · have h := nd_pos h c6
    exact (db_X5_open_55 C K) (x1) (x2) (x3) (x4) s0 _ _ _ h hP hD hS (lv_sub hl [0, 1, 2, 3, 4] rfl)
  · have h := nd_neg h c6
    refine lv_iload_n hx hb dX5_open_48 rfl (lv_at hl 3 rfl) ?_
    refine lv_bipush (v := 8) hx hb dX5_open_49 (by decide) ?_
    refine lv_iand hx hb dX5_open_51 ?_
    refine lv_if_eq (tgt := 67) hx hb dX5_open_52 (by decide) (fun c57 => ?_) (fun c57 => ?_)
    · have h := nd_pos h c57
      exact (db_X5_open_67 C K)  s0 _ _ _ h hP hD hS (lv_sub hl [] rfl)
    · have h := nd_neg h c57
      exact (db_X5_open_55 C K) (x1) (x2) (x3) (x4) s0 _ _ _ h hP hD hS (lv_sub hl [0, 1, 2, 3, 4] rfl)
set_option maxHeartbeats 40000000 in
set_option maxRecDepth 100000 in
theorem db_X5_open_11 {p : Program} {l : Launch} {e : Env} {s : State} {m : MethodId} {args : Array Value} {below : List Frame} {meth : Method} {c : Code} {Q : State → Prop} {A : Nat → Prop} {dC : Nat → ClassId} {dI : Nat → Nat → Nat} {a : Nat → Nat} {ac : Nat → ClassId} {n : Nat} {r : Int64 × (St × (St × (St × (St))))} (C : nd_C p l s m args c A (dC, dI) cX5_open 9 RX5 ow_dm_X5_open (dk_X5 ac)) (K : nd_Kl p l e (headSpec ow_dm_X5_open ({ frames := 2, cells := 0, slots := 0, locals := 62 })).room s m args below meth c Q A (dC, dI) cX5_open (St × (St × (St × (St)))) (dw_X5 a ac) r) : dj_X5_open_11 p l e s m args below meth c Q A dC dI a ac (df_X5_open_11 n) r := by
  obtain ⟨hlt, hx, hb, hml, hown, hts, hN, hA, hK⟩ := id C
  intro x1 x2 x3 y0 s0 H locs ls h hP hD hS hl
  unfold df_X5_open_11 at h
  refine lv_istore (lv' := [(4, .int y0), (0, .ref (a 0)), (1, .int x1), (2, .int x2), (3, .int x3)]) hx hb dX5_open_11 hl (by decide) rfl (fun ls hl => ?_)
  refine lv_iload_n hx hb dX5_open_13 rfl (lv_at hl 4 rfl) ?_
  refine lv_iconst (v := 1) hx hb dX5_open_14 (by decide) ?_
  refine lv_icmp_lt (tgt := 67) hx hb dX5_open_15 (by decide) (fun c2 => ?_) (fun c2 => ?_)
  · have h := nd_pos h c2
    exact (db_X5_open_67 C K)  s0 _ _ _ h hP hD hS (lv_sub hl [] rfl)
  · have h := nd_neg h c2
    refine lv_iload_n hx hb dX5_open_18 rfl (lv_at hl 4 rfl) ?_
    refine lv_bipush (v := 63) hx hb dX5_open_19 (by decide) ?_
    refine lv_icmp_gt (tgt := 67) hx hb dX5_open_21 (by decide) (fun c3 => ?_) (fun c3 => ?_)
    · have h := nd_pos h c3
      exact (db_X5_open_67 C K)  s0 _ _ _ h hP hD hS (lv_sub hl [] rfl)
    · have h := nd_neg h c3
      refine lv_iload_n hx hb dX5_open_24 rfl (lv_at hl 4 rfl) ?_
      refine lv_iconst (v := 3) hx hb dX5_open_25 (by decide) ?_
      refine lv_iand hx hb dX5_open_26 ?_
      refine lv_if_eq (tgt := 67) hx hb dX5_open_27 (by decide) (fun c4 => ?_) (fun c4 => ?_)
      · have h := nd_pos h c4
        exact (db_X5_open_67 C K)  s0 _ _ _ h hP hD hS (lv_sub hl [] rfl)
      · have h := nd_neg h c4
        refine lv_iload_n hx hb dX5_open_30 rfl (lv_at hl 4 rfl) ?_
        refine lv_iconst (v := 4) hx hb dX5_open_31 (by decide) ?_
        refine lv_iand hx hb dX5_open_32 ?_
        refine lv_if_eq (tgt := 41) hx hb dX5_open_33 (by decide) (fun c5 => ?_) (fun c5 => ?_)
        · have h := nd_pos h c5
          exact (db_X5_open_41 C K) (x1) (x2) (x3) (y0) s0 _ _ _ h hP hD hS (lv_sub hl [1, 2, 3, 4, 0] rfl)
        · have h := nd_neg h c5
          refine lv_iload hx hb dX5_open_36 (lv_at hl 0 rfl) ?_
          refine lv_if_eq (tgt := 67) hx hb dX5_open_38 (by decide) (fun c58 => ?_) (fun c58 => ?_)
          · have h := nd_pos h c58
            exact (db_X5_open_67 C K)  s0 _ _ _ h hP hD hS (lv_sub hl [] rfl)
          · have h := nd_neg h c58
            exact (db_X5_open_41 C K) (x1) (x2) (x3) (y0) s0 _ _ _ h hP hD hS (lv_sub hl [1, 2, 3, 4, 0] rfl)
set_option maxHeartbeats 40000000 in
set_option maxRecDepth 100000 in
theorem db_X5_open_0 {p : Program} {l : Launch} {e : Env} {s : State} {m : MethodId} {args : Array Value} {below : List Frame} {meth : Method} {c : Code} {Q : State → Prop} {A : Nat → Prop} {dC : Nat → ClassId} {dI : Nat → Nat → Nat} {a : Nat → Nat} {ac : Nat → ClassId} {n : Nat} {r : Int64 × (St × (St × (St × (St))))} (C : nd_C p l s m args c A (dC, dI) cX5_open 9 RX5 ow_dm_X5_open (dk_X5 ac)) (K : nd_Kl p l e (headSpec ow_dm_X5_open ({ frames := 2, cells := 0, slots := 0, locals := 62 })).room s m args below meth c Q A (dC, dI) cX5_open (St × (St × (St × (St)))) (dw_X5 a ac) r) : dj_X5_open_0 p l e s m args below meth c Q A dC dI a ac (df_X5_open_0 n) r := by
  obtain ⟨hlt, hx, hb, hml, hown, hts, hN, hA, hK⟩ := id C
  intro v0 v1 v2 s0 H locs ls h hP hD hS hl
  unfold df_X5_open_0 at h
  refine lv_iload_n hx hb dX5_open_0 rfl (lv_at hl 3 rfl) ?_
  refine lv_iconst (v := 2) hx hb dX5_open_1 (by decide) ?_
  refine lv_iand hx hb dX5_open_2 ?_
  refine lv_if_eq (tgt := 10) hx hb dX5_open_3 (by decide) (fun c1 => ?_) (fun c1 => ?_)
  · have h := nd_pos h c1
    refine lv_iconst (v := 0) hx hb dX5_open_10 (by decide) ?_
    exact (db_X5_open_11 C K) (v0) (v1) (v2) (0) s0 _ _ _ h hP hD hS (lv_sub hl [0, 1, 2, 3] rfl)
  · have h := nd_neg h c1
    refine lv_iconst (v := 1) hx hb dX5_open_6 (by decide) ?_
    refine lv_goto (tgt := 11) hx hb dX5_open_7 (by decide) ?_
    exact (db_X5_open_11 C K) (v0) (v1) (v2) (1) s0 _ _ _ h hP hD hS (lv_sub hl [0, 1, 2, 3] rfl)
set_option maxHeartbeats 40000000 in
set_option maxRecDepth 100000 in
theorem dm_X5_open (l : Launch) (hlt : l.stackTraces = false) (dC : Nat → ClassId) (dI : Nat → Nat → Nat) (a : Nat → Nat) (ac : Nat → ClassId) (n : Nat) (v0 : Int32) (v1 : Int32) (v2 : Int32) (s0 : St × (St × (St × (St)))) {r : Int64 × (St × (St × (St × (St))))} (h : df_X5_open n v0 v1 v2 s0 = some r) (sz : Nat) : Met l yX5_open ow_dm_X5_open ({ frames := 2, cells := 0, slots := 0, locals := 62 }) (va_Pc [.ref (a 0), .int v0, .int v1, .int v2] (fun U => U.heap.size = sz ∧ va_P (dC, dI) vwCl (dw_X5 a ac s0) U.heap ∧ va_K (dC, dI) vwCl (dk_X5 ac) U ∧ va_D (fun _ => True) (dw_X5 a ac s0) ∧ nv_E (va_A (dw_X5 a ac s0) sz) U)) (va_Ql (fun x _ => x = r.1) (fun (_ : Unit) t => va_P (dC, dI) vwCl (dw_X5 a ac r.2) t.heap ∧ va_K (dC, dI) vwCl (dk_X5 ac) t ∧ va_D (va_A (dw_X5 a ac s0) sz) (dw_X5 a ac r.2)) (va_A (dw_X5 a ac s0) sz)) 0 0 (va_A (dw_X5 a ac s0) sz) := by
  refine Met.ofW (cc := cX5_open) (maxL := 9) (ret := (some .long)) (by decide) rfl ?_
  intro p e s m args below meth c s₁ B hml hv
  obtain ⟨rfl, hsz, hP, hK, hD0, hN⟩ := hv
  have hx := B.exec
  have hb := B.bytes
  have hr := B.returns
  have hts := atoms_spec (ws := ow_dm_X5_open) B.pre
  have hown : s.vm.findClass RX5 = some m.cls := findClass_of_methodNamed B.named
  have hlocks := B.notSynchronized
  subst hsz
  have hD := hD0.self (sz := s.heap.size)
  generalize hAe : va_A (dw_X5 a ac s0) s.heap.size = A at hD hN ⊢
  have hA : ∀ q : Nat, s.heap.size ≤ q → A q := fun q h => by rw [← hAe]; exact Or.inr h
  have hl := lv_entry ([.ref (a 0), .int v0, .int v1, .int v2]) (n := 9) (Nat.le_of_ble_eq_true rfl)
  rw [lg_entry_eq]
  generalize (lg_sl ([.ref (a 0), .int v0, .int v1, .int v2]) ++ List.replicate (9 - (lg_sl ([.ref (a 0), .int v0, .int v1, .int v2])).length) Slot.unset).toArray = ls at hl ⊢
  have hl : lv_has ls 9 [(0, .ref (a 0)), (1, .int v0), (2, .int v1), (3, .int v2)] := hl
  exact db_X5_open_0 (dC := dC) (dI := dI) (a := a) (ac := ac) (n := n) (r := r) ⟨hlt, hx, hb, hml, hown, hts, hN, hA, hK⟩ (fun pc v τ H locs ls d er hP hD hS => by subst er; exact W.lret (v := v) hx hb hr (fun t ht hW => ⟨⟨v, (), rfl, rfl, by rw [ht]; exact hP, va_K.moved hW.alike hK, hD⟩, hS.F ht⟩) hS.2.2 d) v0 v1 v2 s0 _ _ _ h hP hD va_S.rf (lv_sub hl [0, 1, 2, 3] rfl)
def ow_dm_X5_unlink : List Cond := .code yX5_unlink cX5_unlink 5 (some .long) :: ([.fieldLink RX5 9 "TimeMachine$Kernel" "name" "[B", .methodLink RX5 342 yX5_readName, .instanceMethod yX5_readName, .selects RX5 yX5_readName yX5_readName, .initialized RX5, .fieldLink RX5 28 "TimeMachine$Kernel" "things" "LTimeMachine$Things;", .methodLink RX5 346 yX10_fileNamed, .instanceMethod yX10_fileNamed, .selects RX10 yX10_fileNamed yX10_fileNamed, .initialized RX10, .methodLink RX5 362 yX10_loseName, .instanceMethod yX10_loseName, .selects RX10 yX10_loseName yX10_loseName, .constantLong RX5 230 (-2)] ++ (u_ws RX5 TX5 8 ++ (ow_dm_X5_readName_t1 ++ (ow_dm_X10_fileNamed ++ (ow_dm_X10_loseName ++ [])))))
theorem gd_dm_X5_unlink : ∀ w ∈ ow_dm_X5_unlink, (w.onTables && w.keeps) = true ∨ ∃ ty, w = Cond.arrayClass ty := List.forall_mem_cons.mpr ⟨good_of_word rfl, List.forall_mem_append.mpr ⟨fun w h => good_of_word (List.all_eq_true.mp (by decide +kernel) w h), List.forall_mem_append.mpr ⟨gu_X5, List.forall_mem_append.mpr ⟨gd_dm_X5_readName_t1, List.forall_mem_append.mpr ⟨gd_dm_X10_fileNamed, List.forall_mem_append.mpr ⟨gd_dm_X10_loseName, fun _ h => nomatch h⟩⟩⟩⟩⟩⟩
theorem hi_dm_X5_unlink_X5 : ∀ w ∈ u_ws RX5 TX5 8, w ∈ ow_dm_X5_unlink := fun w h => List.mem_cons_of_mem _ (List.mem_append_right _ (List.mem_append_left _ h))
theorem gi_dm_X5_unlink_0 : GoodIn ow_dm_X5_unlink (wsV RX5 342 RX5 yX5_readName ow_dm_X5_readName_t1) := goodIn_app (goodIn_of _ (by decide +kernel)) (fun w h => ⟨List.mem_cons_of_mem _ (List.mem_append_right _ (List.mem_append_right _ (List.mem_append_left _ h))), gd_dm_X5_readName_t1 w h⟩)
theorem gi_dm_X5_unlink_1 : GoodIn ow_dm_X5_unlink (wsV RX5 346 RX10 yX10_fileNamed ow_dm_X10_fileNamed) := goodIn_app (goodIn_of _ (by decide +kernel)) (fun w h => ⟨List.mem_cons_of_mem _ (List.mem_append_right _ (List.mem_append_right _ (List.mem_append_right _ (List.mem_append_left _ h)))), gd_dm_X10_fileNamed w h⟩)
theorem gi_dm_X5_unlink_2 : GoodIn ow_dm_X5_unlink (wsV RX5 362 RX10 yX10_loseName ow_dm_X10_loseName) := goodIn_app (goodIn_of _ (by decide +kernel)) (fun w h => ⟨List.mem_cons_of_mem _ (List.mem_append_right _ (List.mem_append_right _ (List.mem_append_right _ (List.mem_append_right _ (List.mem_append_left _ h))))), gd_dm_X10_loseName w h⟩)
def dj_X5_unlink_0 (p : Program) (l : Launch) (e : Env) (s : State) (m : MethodId) (args : Array Value) (below : List Frame) (meth : Method) (c : Code) (Q : State → Prop) (A : Nat → Prop) (dC : Nat → ClassId) (dI : Nat → Nat → Nat) (a : Nat → Nat) (ac : Nat → ClassId) (g : Int32 → Int32 → (St × (St × (St × (St)))) → Option (Int64 × (St × (St × (St × (St)))))) (r : Int64 × (St × (St × (St × (St))))) : Prop := ∀ (v0 : Int32) (v1 : Int32) (s0 : St × (St × (St × (St)))) (H : Heap) (locs : List Loc) (ls : Array Slot), g v0 v1 s0 = some r → va_P (dC, dI) vwCl (dw_X5 a ac s0) H → va_D A (dw_X5 a ac s0) → va_S A s.heap H locs → lv_has ls 5 [(0, .ref (a 0)), (1, .int v0), (2, .int v1)] → W p l e (headSpec ow_dm_X5_unlink ({ frames := 2, cells := 0, slots := 0, locals := 50 })).room s m args below meth c H locs 0 0 Q (F0 m 0 ls [])
set_option maxHeartbeats 40000000 in
set_option maxRecDepth 100000 in
theorem db_X5_unlink_0 {p : Program} {l : Launch} {e : Env} {s : State} {m : MethodId} {args : Array Value} {below : List Frame} {meth : Method} {c : Code} {Q : State → Prop} {A : Nat → Prop} {dC : Nat → ClassId} {dI : Nat → Nat → Nat} {a : Nat → Nat} {ac : Nat → ClassId} {n : Nat} {r : Int64 × (St × (St × (St × (St))))} (C : nd_C p l s m args c A (dC, dI) cX5_unlink 5 RX5 ow_dm_X5_unlink (dk_X5 ac)) (K : nd_Kl p l e (headSpec ow_dm_X5_unlink ({ frames := 2, cells := 0, slots := 0, locals := 50 })).room s m args below meth c Q A (dC, dI) cX5_unlink (St × (St × (St × (St)))) (dw_X5 a ac) r) : dj_X5_unlink_0 p l e s m args below meth c Q A dC dI a ac (df_X5_unlink_0 n) r := by
  obtain ⟨hlt, hx, hb, hml, hown, hts, hN, hA, hK⟩ := id C
  intro v0 v1 s0 H locs ls h hP hD hS hl
  unfold df_X5_unlink_0 at h
  refine lv_aload_n hx hb dX5_unlink_0 rfl (lv_at hl 0 rfl) ?_
  refine lv_iload_n hx hb dX5_unlink_1 rfl (lv_at hl 1 rfl) ?_
  refine lv_iload_n hx hb dX5_unlink_2 rfl (lv_at hl 2 rfl) ?_
  refine lv_aload_n hx hb dX5_unlink_3 rfl (lv_at hl 0 rfl) ?_
  refine va_get (D := (dC, dI)) (ci := 6) (v := .ref (a 1)) (C := RX5) (T := TX5) (N := 8) hx hb hts hi_dm_X5_unlink_X5 hown hK hP 0 rfl rfl 6 (by decide) (hts (.fieldLink RX5 9 "TimeMachine$Kernel" "name" "[B") (List.mem_of_getElem? (i := 1) rfl)) (fun _ h9 => h9) rfl dX5_unlink_4 ?_
  obtain ⟨q1, s2, hq, h⟩ := nd_b2_e h
  have hPc := hP
  have hDc := hD
  have hKc := hK
  have hFc := nd_rs hD hS hA
  refine nd_cVi (As := [.int v0, .int v1, .ref (a 1)]) (rest := []) (q := q1) (w' := dw_X5 a ac s2) ⟨hx, hb, hml, hown, hts⟩ (fun sz => dm_X5_readName_t1 l hlt dC dI a ac n (v0) (v1) s0 hq sz) (cwV 3 hts gi_dm_X5_unlink_0 rfl rfl rfl (by decide +kernel) ⟨Nat.le_of_ble_eq_true rfl, Nat.le_of_ble_eq_true rfl⟩) hPc hDc hKc hS hA hN (va_recv hKc hPc (ci := 6) (q0 := 0) rfl rfl) rfl hl.1 rfl (Nat.le_of_ble_eq_true rfl) dX5_unlink_7 (fun H locs hP1 hD1 hk1 hS => ?_)
  have hP := hP1
  have hD := hD1.weaken (fun k q _ h => hFc q.1 h)
  refine lv_istore_n (lv' := [(3, .int q1), (0, .ref (a 0)), (1, .int v0), (2, .int v1)]) hx hb dX5_unlink_10 rfl hl (by decide) rfl (fun ls hl => ?_)
  refine lv_iload_n hx hb dX5_unlink_11 rfl (lv_at hl 0 rfl) ?_
  refine lv_if_eq (tgt := 18) hx hb dX5_unlink_12 (by decide) (fun c4 => ?_) (fun c4 => ?_)
  · have h := nd_pos h c4
    refine lv_aload_n hx hb dX5_unlink_18 rfl (lv_at hl 1 rfl) ?_
    refine va_get (D := (dC, dI)) (ci := 6) (v := .ref (a 14)) (C := RX5) (T := TX5) (N := 8) hx hb hts hi_dm_X5_unlink_X5 hown hK hP 0 rfl rfl 1 (by decide) (hts (.fieldLink RX5 28 "TimeMachine$Kernel" "things" "LTimeMachine$Things;") (List.mem_of_getElem? (i := 6) rfl)) (fun _ h9 => h9) rfl dX5_unlink_19 ?_
    refine lv_aload_n hx hb dX5_unlink_22 rfl (lv_at hl 1 rfl) ?_
    refine va_get (D := (dC, dI)) (ci := 6) (v := .ref (a 1)) (C := RX5) (T := TX5) (N := 8) hx hb hts hi_dm_X5_unlink_X5 hown hK hP 0 rfl rfl 6 (by decide) (hts (.fieldLink RX5 9 "TimeMachine$Kernel" "name" "[B") (List.mem_of_getElem? (i := 1) rfl)) (fun _ h9 => h9) rfl dX5_unlink_23 ?_
    obtain ⟨q5, s6, hq, h⟩ := nd_b2_e h
    have hPc := dp_vX5_X10n_0 hP
    have hDc := dd_vX5_X10n_0 hD
    have hKc := dy_vX5_X10n_0 hK
    have hFc := nd_rs hDc hS hA
    have hzA : ∀ q : Nat, H.size ≤ q → A q := fun q h => hA q (Nat.le_trans hS.1 h)
    refine nd_cVi (As := [.ref (a 1)]) (rest := []) (q := q5) (w' := dw_X10n (fun k => a (nd_ix [1, 14, 15, 16, 17, 18, 19, 20, 21, 22, 23] k)) (fun k => ac (nd_ix [1, 14, 15, 16, 17, 18, 19, 20, 21, 22, 23] k)) s6) ⟨hx, hb, hml, hown, hts⟩ (fun sz => dm_X10_fileNamed l hlt dC dI (fun k => a (nd_ix [1, 14, 15, 16, 17, 18, 19, 20, 21, 22, 23] k)) (fun k => ac (nd_ix [1, 14, 15, 16, 17, 18, 19, 20, 21, 22, 23] k)) n  ((pR nd_st0 0 (sR s2.1 0)), s2.2.2.2) hq sz) (cwV 1 hts gi_dm_X5_unlink_1 rfl rfl rfl (by decide +kernel) ⟨Nat.le_of_ble_eq_true rfl, Nat.le_of_ble_eq_true rfl⟩) hPc hDc hKc hS hA hN (va_recv hKc hPc (ci := 11) (q0 := 1) rfl rfl) rfl hl.1 rfl (Nat.le_of_ble_eq_true rfl) dX5_unlink_26 (fun H locs hP1 hD1 hk1 hS => ?_)
    obtain ⟨hP, hD⟩ := dn_vX5_X10n_0 hP hD hzA hk1 hP1 hD1
    obtain ⟨s8, es8, h⟩ := nd_let_e h
    have hP : va_P (dC, dI) vwCl (dw_X5 a ac s8) H := by rw [es8]; exact hP
    have hD : va_D A (dw_X5 a ac s8) := by rw [es8]; exact hD
    refine lv_istore (lv' := [(4, .int q5), (3, .int q1), (0, .ref (a 0)), (1, .int v0), (2, .int v1)]) hx hb dX5_unlink_29 hl (by decide) rfl (fun ls hl => ?_)
    refine lv_iload hx hb dX5_unlink_31 (lv_at hl 0 rfl) ?_
    refine lv_if_ge (tgt := 40) hx hb dX5_unlink_33 (by decide) (fun c9 => ?_) (fun c9 => ?_)
    · have h := nd_pos h c9
      refine lv_aload_n hx hb dX5_unlink_40 rfl (lv_at hl 2 rfl) ?_
      refine va_get (D := (dC, dI)) (ci := 6) (v := .ref (a 14)) (C := RX5) (T := TX5) (N := 8) hx hb hts hi_dm_X5_unlink_X5 hown hK hP 0 rfl rfl 1 (by decide) (hts (.fieldLink RX5 28 "TimeMachine$Kernel" "things" "LTimeMachine$Things;") (List.mem_of_getElem? (i := 6) rfl)) (fun _ h9 => h9) rfl dX5_unlink_41 ?_
      refine lv_iload hx hb dX5_unlink_44 (lv_at hl 0 rfl) ?_
      obtain ⟨s11, hq, h⟩ := nd_b1_e h
      have hPc := dp_X5_14 hP
      have hDc := dd_X5_14 hD
      have hKc := dy_X5_14 hK
      have hFc := nd_rs hDc hS hA
      have hzA : ∀ q : Nat, H.size ≤ q → A q := fun q h => hA q (Nat.le_trans hS.1 h)
      refine nd_cVv (As := [.int q5]) (rest := []) (w' := dw_X10 (fun k => a (k + 14)) (fun k => ac (k + 14)) s11) ⟨hx, hb, hml, hown, hts⟩ (fun sz => dm_X10_loseName l hlt dC dI (fun k => a (k + 14)) (fun k => ac (k + 14)) n (q5) s8.2.2.2 hq sz) (cwV 1 hts gi_dm_X5_unlink_2 rfl rfl rfl (by decide +kernel) ⟨Nat.le_of_ble_eq_true rfl, Nat.le_of_ble_eq_true rfl⟩) hPc hDc hKc hS hA hN (va_recv hKc hPc (ci := 11) (q0 := 0) rfl rfl) rfl hl.1 rfl (Nat.le_of_ble_eq_true rfl) dX5_unlink_46 (fun H locs hP1 hD1 hk1 hS => ?_)
      obtain ⟨hP, hD⟩ := dn_X5_14 hP hD hzA hk1 hP1 hD1
      obtain ⟨s13, es13, h⟩ := nd_let_e h
      have hP : va_P (dC, dI) vwCl (dw_X5 a ac s13) H := by rw [es13]; exact hP
      have hD : va_D A (dw_X5 a ac s13) := by rw [es13]; exact hD
      refine lv_lconst (v := 0) hx hb dX5_unlink_49 (by decide) ?_
      exact K _ _ _ _ _ _ dX5_unlink_50 (Option.some.inj h).symm hP hD hS
    · have h := nd_neg h c9
      refine lv_ldc2 hx hb hown (hts (.constantLong RX5 230 (-2)) (List.mem_of_getElem? (i := 14) rfl)) dX5_unlink_36 ?_
      exact K _ _ _ _ _ _ dX5_unlink_39 (Option.some.inj h).symm hP hD hS
  · have h := nd_neg h c4
    refine lv_iload_n hx hb dX5_unlink_15 rfl (lv_at hl 0 rfl) ?_
    refine lv_i2l hx hb dX5_unlink_16 rfl ?_
    exact K _ _ _ _ _ _ dX5_unlink_17 (Option.some.inj h).symm hP hD hS
set_option maxHeartbeats 40000000 in
set_option maxRecDepth 100000 in
theorem dm_X5_unlink (l : Launch) (hlt : l.stackTraces = false) (dC : Nat → ClassId) (dI : Nat → Nat → Nat) (a : Nat → Nat) (ac : Nat → ClassId) (n : Nat) (v0 : Int32) (v1 : Int32) (s0 : St × (St × (St × (St)))) {r : Int64 × (St × (St × (St × (St))))} (h : df_X5_unlink n v0 v1 s0 = some r) (sz : Nat) : Met l yX5_unlink ow_dm_X5_unlink ({ frames := 2, cells := 0, slots := 0, locals := 50 }) (va_Pc [.ref (a 0), .int v0, .int v1] (fun U => U.heap.size = sz ∧ va_P (dC, dI) vwCl (dw_X5 a ac s0) U.heap ∧ va_K (dC, dI) vwCl (dk_X5 ac) U ∧ va_D (fun _ => True) (dw_X5 a ac s0) ∧ nv_E (va_A (dw_X5 a ac s0) sz) U)) (va_Ql (fun x _ => x = r.1) (fun (_ : Unit) t => va_P (dC, dI) vwCl (dw_X5 a ac r.2) t.heap ∧ va_K (dC, dI) vwCl (dk_X5 ac) t ∧ va_D (va_A (dw_X5 a ac s0) sz) (dw_X5 a ac r.2)) (va_A (dw_X5 a ac s0) sz)) 0 0 (va_A (dw_X5 a ac s0) sz) := by
  refine Met.ofW (cc := cX5_unlink) (maxL := 5) (ret := (some .long)) (by decide) rfl ?_
  intro p e s m args below meth c s₁ B hml hv
  obtain ⟨rfl, hsz, hP, hK, hD0, hN⟩ := hv
  have hx := B.exec
  have hb := B.bytes
  have hr := B.returns
  have hts := atoms_spec (ws := ow_dm_X5_unlink) B.pre
  have hown : s.vm.findClass RX5 = some m.cls := findClass_of_methodNamed B.named
  have hlocks := B.notSynchronized
  subst hsz
  have hD := hD0.self (sz := s.heap.size)
  generalize hAe : va_A (dw_X5 a ac s0) s.heap.size = A at hD hN ⊢
  have hA : ∀ q : Nat, s.heap.size ≤ q → A q := fun q h => by rw [← hAe]; exact Or.inr h
  have hl := lv_entry ([.ref (a 0), .int v0, .int v1]) (n := 5) (Nat.le_of_ble_eq_true rfl)
  rw [lg_entry_eq]
  generalize (lg_sl ([.ref (a 0), .int v0, .int v1]) ++ List.replicate (5 - (lg_sl ([.ref (a 0), .int v0, .int v1])).length) Slot.unset).toArray = ls at hl ⊢
  have hl : lv_has ls 5 [(0, .ref (a 0)), (1, .int v0), (2, .int v1)] := hl
  exact db_X5_unlink_0 (dC := dC) (dI := dI) (a := a) (ac := ac) (n := n) (r := r) ⟨hlt, hx, hb, hml, hown, hts, hN, hA, hK⟩ (fun pc v τ H locs ls d er hP hD hS => by subst er; exact W.lret (v := v) hx hb hr (fun t ht hW => ⟨⟨v, (), rfl, rfl, by rw [ht]; exact hP, va_K.moved hW.alike hK, hD⟩, hS.F ht⟩) hS.2.2 d) v0 v1 s0 _ _ _ h hP hD va_S.rf (lv_sub hl [0, 1, 2] rfl)
def ow_dm_X5_seek : List Cond := .code yX5_seek cX5_seek 8 (some .long) :: ([.constantLong RX5 251 (-22), .fieldLink RX5 28 "TimeMachine$Kernel" "things" "LTimeMachine$Things;", .methodLink RX5 123 yX10_openingOf, .instanceMethod yX10_openingOf, .selects RX10 yX10_openingOf yX10_openingOf, .initialized RX10, .constantLong RX5 294 (-1), .methodLink RX5 291 yX10_of, .instanceMethod yX10_of, .selects RX10 yX10_of yX10_of, .constantLong RX5 368 (512), .methodLink RX5 370 yX10_seek, .instanceMethod yX10_seek, .selects RX10 yX10_seek yX10_seek, .methodLink RX5 365 yX10_amount, .instanceMethod yX10_amount, .selects RX10 yX10_amount yX10_amount] ++ (u_ws RX5 TX5 8 ++ (ow_dm_X10_openingOf ++ (ow_dm_X10_of ++ (ow_dm_X10_seek ++ (ow_dm_X10_amount ++ []))))))
theorem gd_dm_X5_seek : ∀ w ∈ ow_dm_X5_seek, (w.onTables && w.keeps) = true ∨ ∃ ty, w = Cond.arrayClass ty := List.forall_mem_cons.mpr ⟨good_of_word rfl, List.forall_mem_append.mpr ⟨fun w h => good_of_word (List.all_eq_true.mp (by decide +kernel) w h), List.forall_mem_append.mpr ⟨gu_X5, List.forall_mem_append.mpr ⟨gd_dm_X10_openingOf, List.forall_mem_append.mpr ⟨gd_dm_X10_of, List.forall_mem_append.mpr ⟨gd_dm_X10_seek, List.forall_mem_append.mpr ⟨gd_dm_X10_amount, fun _ h => nomatch h⟩⟩⟩⟩⟩⟩⟩
theorem hi_dm_X5_seek_X5 : ∀ w ∈ u_ws RX5 TX5 8, w ∈ ow_dm_X5_seek := fun w h => List.mem_cons_of_mem _ (List.mem_append_right _ (List.mem_append_left _ h))
theorem gi_dm_X5_seek_0 : GoodIn ow_dm_X5_seek (wsV RX5 123 RX10 yX10_openingOf ow_dm_X10_openingOf) := goodIn_app (goodIn_of _ (by decide +kernel)) (fun w h => ⟨List.mem_cons_of_mem _ (List.mem_append_right _ (List.mem_append_right _ (List.mem_append_left _ h))), gd_dm_X10_openingOf w h⟩)
theorem gi_dm_X5_seek_1 : GoodIn ow_dm_X5_seek (wsV RX5 291 RX10 yX10_of ow_dm_X10_of) := goodIn_app (goodIn_of _ (by decide +kernel)) (fun w h => ⟨List.mem_cons_of_mem _ (List.mem_append_right _ (List.mem_append_right _ (List.mem_append_right _ (List.mem_append_left _ h)))), gd_dm_X10_of w h⟩)
theorem gi_dm_X5_seek_2 : GoodIn ow_dm_X5_seek (wsV RX5 370 RX10 yX10_seek ow_dm_X10_seek) := goodIn_app (goodIn_of _ (by decide +kernel)) (fun w h => ⟨List.mem_cons_of_mem _ (List.mem_append_right _ (List.mem_append_right _ (List.mem_append_right _ (List.mem_append_right _ (List.mem_append_left _ h))))), gd_dm_X10_seek w h⟩)
theorem gi_dm_X5_seek_3 : GoodIn ow_dm_X5_seek (wsV RX5 365 RX10 yX10_amount ow_dm_X10_amount) := goodIn_app (goodIn_of _ (by decide +kernel)) (fun w h => ⟨List.mem_cons_of_mem _ (List.mem_append_right _ (List.mem_append_right _ (List.mem_append_right _ (List.mem_append_right _ (List.mem_append_right _ (List.mem_append_left _ h)))))), gd_dm_X10_amount w h⟩)
def dj_X5_seek_11 (p : Program) (l : Launch) (e : Env) (s : State) (m : MethodId) (args : Array Value) (below : List Frame) (meth : Method) (c : Code) (Q : State → Prop) (A : Nat → Prop) (dC : Nat → ClassId) (dI : Nat → Nat → Nat) (a : Nat → Nat) (ac : Nat → ClassId) (g : (St × (St × (St × (St)))) → Option (Int64 × (St × (St × (St × (St)))))) (r : Int64 × (St × (St × (St × (St))))) : Prop := ∀ (s0 : St × (St × (St × (St)))) (H : Heap) (locs : List Loc) (ls : Array Slot), g s0 = some r → va_P (dC, dI) vwCl (dw_X5 a ac s0) H → va_D A (dw_X5 a ac s0) → va_S A s.heap H locs → lv_has ls 8 [] → W p l e (headSpec ow_dm_X5_seek ({ frames := 1, cells := 0, slots := 0, locals := 23 })).room s m args below meth c H locs 0 0 Q (F0 m 11 ls [])
def dj_X5_seek_45 (p : Program) (l : Launch) (e : Env) (s : State) (m : MethodId) (args : Array Value) (below : List Frame) (meth : Method) (c : Code) (Q : State → Prop) (A : Nat → Prop) (dC : Nat → ClassId) (dI : Nat → Nat → Nat) (a : Nat → Nat) (ac : Nat → ClassId) (g : (St × (St × (St × (St)))) → Option (Int64 × (St × (St × (St × (St)))))) (r : Int64 × (St × (St × (St × (St))))) : Prop := ∀ (s0 : St × (St × (St × (St)))) (H : Heap) (locs : List Loc) (ls : Array Slot), g s0 = some r → va_P (dC, dI) vwCl (dw_X5 a ac s0) H → va_D A (dw_X5 a ac s0) → va_S A s.heap H locs → lv_has ls 8 [] → W p l e (headSpec ow_dm_X5_seek ({ frames := 1, cells := 0, slots := 0, locals := 23 })).room s m args below meth c H locs 0 0 Q (F0 m 45 ls [])
def dj_X5_seek_109 (p : Program) (l : Launch) (e : Env) (s : State) (m : MethodId) (args : Array Value) (below : List Frame) (meth : Method) (c : Code) (Q : State → Prop) (A : Nat → Prop) (dC : Nat → ClassId) (dI : Nat → Nat → Nat) (a : Nat → Nat) (ac : Nat → ClassId) (g : (St × (St × (St × (St)))) → Option (Int64 × (St × (St × (St × (St)))))) (r : Int64 × (St × (St × (St × (St))))) : Prop := ∀ (s0 : St × (St × (St × (St)))) (H : Heap) (locs : List Loc) (ls : Array Slot), g s0 = some r → va_P (dC, dI) vwCl (dw_X5 a ac s0) H → va_D A (dw_X5 a ac s0) → va_S A s.heap H locs → lv_has ls 8 [] → W p l e (headSpec ow_dm_X5_seek ({ frames := 1, cells := 0, slots := 0, locals := 23 })).room s m args below meth c H locs 0 0 Q (F0 m 109 ls [])
def dj_X5_seek_93 (p : Program) (l : Launch) (e : Env) (s : State) (m : MethodId) (args : Array Value) (below : List Frame) (meth : Method) (c : Code) (Q : State → Prop) (A : Nat → Prop) (dC : Nat → ClassId) (dI : Nat → Nat → Nat) (a : Nat → Nat) (ac : Nat → ClassId) (g : Int32 → Int64 → (St × (St × (St × (St)))) → Option (Int64 × (St × (St × (St × (St)))))) (r : Int64 × (St × (St × (St × (St))))) : Prop := ∀ (x5 : Int32) (x6 : Int64) (s0 : St × (St × (St × (St)))) (H : Heap) (locs : List Loc) (ls : Array Slot), g x5 x6 s0 = some r → va_P (dC, dI) vwCl (dw_X5 a ac s0) H → va_D A (dw_X5 a ac s0) → va_S A s.heap H locs → lv_has ls 8 [(0, .ref (a 0)), (5, .int x5), (6, .long x6)] → W p l e (headSpec ow_dm_X5_seek ({ frames := 1, cells := 0, slots := 0, locals := 23 })).room s m args below meth c H locs 0 0 Q (F0 m 93 ls [])
def dj_X5_seek_90 (p : Program) (l : Launch) (e : Env) (s : State) (m : MethodId) (args : Array Value) (below : List Frame) (meth : Method) (c : Code) (Q : State → Prop) (A : Nat → Prop) (dC : Nat → ClassId) (dI : Nat → Nat → Nat) (a : Nat → Nat) (ac : Nat → ClassId) (g : Int32 → Int64 → Int64 → (St × (St × (St × (St)))) → Option (Int64 × (St × (St × (St × (St)))))) (r : Int64 × (St × (St × (St × (St))))) : Prop := ∀ (x5 : Int32) (y0 : Int64) (y1 : Int64) (s0 : St × (St × (St × (St)))) (H : Heap) (locs : List Loc) (ls : Array Slot), g x5 y0 y1 s0 = some r → va_P (dC, dI) vwCl (dw_X5 a ac s0) H → va_D A (dw_X5 a ac s0) → va_S A s.heap H locs → lv_has ls 8 [(0, .ref (a 0)), (5, .int x5)] → W p l e (headSpec ow_dm_X5_seek ({ frames := 1, cells := 0, slots := 0, locals := 23 })).room s m args below meth c H locs 0 0 Q (F0 m 90 ls [.long y1, .long y0])
def dj_X5_seek_0 (p : Program) (l : Launch) (e : Env) (s : State) (m : MethodId) (args : Array Value) (below : List Frame) (meth : Method) (c : Code) (Q : State → Prop) (A : Nat → Prop) (dC : Nat → ClassId) (dI : Nat → Nat → Nat) (a : Nat → Nat) (ac : Nat → ClassId) (g : Int32 → Int32 → Int32 → Int32 → (St × (St × (St × (St)))) → Option (Int64 × (St × (St × (St × (St)))))) (r : Int64 × (St × (St × (St × (St))))) : Prop := ∀ (v0 : Int32) (v1 : Int32) (v2 : Int32) (v3 : Int32) (s0 : St × (St × (St × (St)))) (H : Heap) (locs : List Loc) (ls : Array Slot), g v0 v1 v2 v3 s0 = some r → va_P (dC, dI) vwCl (dw_X5 a ac s0) H → va_D A (dw_X5 a ac s0) → va_S A s.heap H locs → lv_has ls 8 [(0, .ref (a 0)), (1, .int v0), (2, .int v1), (3, .int v2), (4, .int v3)] → W p l e (headSpec ow_dm_X5_seek ({ frames := 1, cells := 0, slots := 0, locals := 23 })).room s m args below meth c H locs 0 0 Q (F0 m 0 ls [])
set_option maxHeartbeats 40000000 in
set_option maxRecDepth 100000 in
theorem db_X5_seek_11 {p : Program} {l : Launch} {e : Env} {s : State} {m : MethodId} {args : Array Value} {below : List Frame} {meth : Method} {c : Code} {Q : State → Prop} {A : Nat → Prop} {dC : Nat → ClassId} {dI : Nat → Nat → Nat} {a : Nat → Nat} {ac : Nat → ClassId} {n : Nat} {r : Int64 × (St × (St × (St × (St))))} (C : nd_C p l s m args c A (dC, dI) cX5_seek 8 RX5 ow_dm_X5_seek (dk_X5 ac)) (K : nd_Kl p l e (headSpec ow_dm_X5_seek ({ frames := 1, cells := 0, slots := 0, locals := 23 })).room s m args below meth c Q A (dC, dI) cX5_seek (St × (St × (St × (St)))) (dw_X5 a ac) r) : dj_X5_seek_11 p l e s m args below meth c Q A dC dI a ac (df_X5_seek_11 n) r := by
  obtain ⟨hlt, hx, hb, hml, hown, hts, hN, hA, hK⟩ := id C
  intro s0 H locs ls h hP hD hS hl
  unfold df_X5_seek_11 at h
  refine lv_ldc2 hx hb hown (hts (.constantLong RX5 251 (-22)) (List.mem_of_getElem? (i := 1) rfl)) dX5_seek_11 ?_
  exact K _ _ _ _ _ _ dX5_seek_14 (Option.some.inj h).symm hP hD hS
set_option maxHeartbeats 40000000 in
set_option maxRecDepth 100000 in
theorem db_X5_seek_45 {p : Program} {l : Launch} {e : Env} {s : State} {m : MethodId} {args : Array Value} {below : List Frame} {meth : Method} {c : Code} {Q : State → Prop} {A : Nat → Prop} {dC : Nat → ClassId} {dI : Nat → Nat → Nat} {a : Nat → Nat} {ac : Nat → ClassId} {n : Nat} {r : Int64 × (St × (St × (St × (St))))} (C : nd_C p l s m args c A (dC, dI) cX5_seek 8 RX5 ow_dm_X5_seek (dk_X5 ac)) (K : nd_Kl p l e (headSpec ow_dm_X5_seek ({ frames := 1, cells := 0, slots := 0, locals := 23 })).room s m args below meth c Q A (dC, dI) cX5_seek (St × (St × (St × (St)))) (dw_X5 a ac) r) : dj_X5_seek_45 p l e s m args below meth c Q A dC dI a ac (df_X5_seek_45 n) r := by
  obtain ⟨hlt, hx, hb, hml, hown, hts, hN, hA, hK⟩ := id C
  intro s0 H locs ls h hP hD hS hl
  unfold df_X5_seek_45 at h
  refine lv_ldc2 hx hb hown (hts (.constantLong RX5 294 (-1)) (List.mem_of_getElem? (i := 7) rfl)) dX5_seek_45 ?_
  exact K _ _ _ _ _ _ dX5_seek_48 (Option.some.inj h).symm hP hD hS
set_option maxHeartbeats 40000000 in
set_option maxRecDepth 100000 in
theorem db_X5_seek_109 {p : Program} {l : Launch} {e : Env} {s : State} {m : MethodId} {args : Array Value} {below : List Frame} {meth : Method} {c : Code} {Q : State → Prop} {A : Nat → Prop} {dC : Nat → ClassId} {dI : Nat → Nat → Nat} {a : Nat → Nat} {ac : Nat → ClassId} {n : Nat} {r : Int64 × (St × (St × (St × (St))))} (C : nd_C p l s m args c A (dC, dI) cX5_seek 8 RX5 ow_dm_X5_seek (dk_X5 ac)) (K : nd_Kl p l e (headSpec ow_dm_X5_seek ({ frames := 1, cells := 0, slots := 0, locals := 23 })).room s m args below meth c Q A (dC, dI) cX5_seek (St × (St × (St × (St)))) (dw_X5 a ac) r) : dj_X5_seek_109 p l e s m args below meth c Q A dC dI a ac (df_X5_seek_109 n) r := by
  obtain ⟨hlt, hx, hb, hml, hown, hts, hN, hA, hK⟩ := id C
  intro s0 H locs ls h hP hD hS hl
  unfold df_X5_seek_109 at h
  refine lv_ldc2 hx hb hown (hts (.constantLong RX5 294 (-1)) (List.mem_of_getElem? (i := 7) rfl)) dX5_seek_109 ?_
  exact K _ _ _ _ _ _ dX5_seek_112 (Option.some.inj h).symm hP hD hS
set_option maxHeartbeats 40000000 in
set_option maxRecDepth 100000 in
theorem db_X5_seek_93 {p : Program} {l : Launch} {e : Env} {s : State} {m : MethodId} {args : Array Value} {below : List Frame} {meth : Method} {c : Code} {Q : State → Prop} {A : Nat → Prop} {dC : Nat → ClassId} {dI : Nat → Nat → Nat} {a : Nat → Nat} {ac : Nat → ClassId} {n : Nat} {r : Int64 × (St × (St × (St × (St))))} (C : nd_C p l s m args c A (dC, dI) cX5_seek 8 RX5 ow_dm_X5_seek (dk_X5 ac)) (K : nd_Kl p l e (headSpec ow_dm_X5_seek ({ frames := 1, cells := 0, slots := 0, locals := 23 })).room s m args below meth c Q A (dC, dI) cX5_seek (St × (St × (St × (St)))) (dw_X5 a ac) r) : dj_X5_seek_93 p l e s m args below meth c Q A dC dI a ac (df_X5_seek_93 n) r := by
  obtain ⟨hlt, hx, hb, hml, hown, hts, hN, hA, hK⟩ := id C
  intro x5 x6 s0 H locs ls h hP hD hS hl
  unfold df_X5_seek_93 at h
  refine lv_lload hx hb dX5_seek_93 (lv_at hl 2 rfl) ?_
  refine lv_lconst (v := 0) hx hb dX5_seek_95 (by decide) ?_
  refine W.lcmp hx hb dX5_seek_96 ?_
  refine lv_if_lt (tgt := 109) hx hb dX5_seek_97 (by decide) (fun c15 => ?_) (fun c15 => ?_)
  · have h := nd_pos h c15
    exact (db_X5_seek_109 C K)  s0 _ _ _ h hP hD hS (lv_sub hl [] rfl)
  · have h := nd_neg h c15
    refine lv_lload hx hb dX5_seek_100 (lv_at hl 2 rfl) ?_
    refine lv_ldc2 hx hb hown (hts (.constantLong RX5 368 (512)) (List.mem_of_getElem? (i := 11) rfl)) dX5_seek_102 ?_
    refine W.lcmp hx hb dX5_seek_105 ?_
    refine lv_if_le (tgt := 113) hx hb dX5_seek_106 (by decide) (fun c16 => ?_) (fun c16 => ?_)
    · have h := nd_pos h c16
      refine lv_aload_n hx hb dX5_seek_113 rfl (lv_at hl 0 rfl) ?_
      refine va_get (D := (dC, dI)) (ci := 6) (v := .ref (a 14)) (C := RX5) (T := TX5) (N := 8) hx hb hts hi_dm_X5_seek_X5 hown hK hP 0 rfl rfl 1 (by decide) (hts (.fieldLink RX5 28 "TimeMachine$Kernel" "things" "LTimeMachine$Things;") (List.mem_of_getElem? (i := 2) rfl)) (fun _ h9 => h9) rfl dX5_seek_114 ?_
      refine lv_iload hx hb dX5_seek_117 (lv_at hl 1 rfl) ?_
      refine lv_lload hx hb dX5_seek_119 (lv_at hl 2 rfl) ?_
      refine lv_l2i hx hb dX5_seek_121 rfl ?_
      obtain ⟨s18, hq, h⟩ := nd_b1_e h
      have hPc := dp_X5_14 hP
      have hDc := dd_X5_14 hD
      have hKc := dy_X5_14 hK
      have hFc := nd_rs hDc hS hA
      have hzA : ∀ q : Nat, H.size ≤ q → A q := fun q h => hA q (Nat.le_trans hS.1 h)
      refine nd_cVv (As := [.int x5, .int (x6.toInt32)]) (rest := []) (w' := dw_X10 (fun k => a (k + 14)) (fun k => ac (k + 14)) s18) ⟨hx, hb, hml, hown, hts⟩ (fun sz => dm_X10_seek l hlt dC dI (fun k => a (k + 14)) (fun k => ac (k + 14)) n (x5) ((x6.toInt32)) s0.2.2.2 hq sz) (cwV 2 hts gi_dm_X5_seek_2 rfl rfl rfl (by decide +kernel) ⟨Nat.le_of_ble_eq_true rfl, Nat.le_of_ble_eq_true rfl⟩) hPc hDc hKc hS hA hN (va_recv hKc hPc (ci := 11) (q0 := 0) rfl rfl) rfl hl.1 rfl (Nat.le_of_ble_eq_true rfl) dX5_seek_122 (fun H locs hP1 hD1 hk1 hS => ?_)
      obtain ⟨hP, hD⟩ := dn_X5_14 hP hD hzA hk1 hP1 hD1
      obtain ⟨s20, es20, h⟩ := nd_let_e h
      have hP : va_P (dC, dI) vwCl (dw_X5 a ac s20) H := by rw [es20]; exact hP
      have hD : va_D A (dw_X5 a ac s20) := by rw [es20]; exact hD
      refine lv_lload hx hb dX5_seek_125 (lv_at hl 2 rfl) ?_
      exact K _ _ _ _ _ _ dX5_seek_127 (Option.some.inj h).symm hP hD hS
    · have h := nd_neg h c16
      exact (db_X5_seek_109 C K)  s0 _ _ _ h hP hD hS (lv_sub hl [] rfl)
set_option maxHeartbeats 40000000 in
set_option maxRecDepth 100000 in
theorem db_X5_seek_90 {p : Program} {l : Launch} {e : Env} {s : State} {m : MethodId} {args : Array Value} {below : List Frame} {meth : Method} {c : Code} {Q : State → Prop} {A : Nat → Prop} {dC : Nat → ClassId} {dI : Nat → Nat → Nat} {a : Nat → Nat} {ac : Nat → ClassId} {n : Nat} {r : Int64 × (St × (St × (St × (St))))} (C : nd_C p l s m args c A (dC, dI) cX5_seek 8 RX5 ow_dm_X5_seek (dk_X5 ac)) (K : nd_Kl p l e (headSpec ow_dm_X5_seek ({ frames := 1, cells := 0, slots := 0, locals := 23 })).room s m args below meth c Q A (dC, dI) cX5_seek (St × (St × (St × (St)))) (dw_X5 a ac) r) : dj_X5_seek_90 p l e s m args below meth c Q A dC dI a ac (df_X5_seek_90 n) r := by
  obtain ⟨hlt, hx, hb, hml, hown, hts, hN, hA, hK⟩ := id C
  intro x5 y0 y1 s0 H locs ls h hP hD hS hl
  unfold df_X5_seek_90 at h
  refine lv_ladd hx hb dX5_seek_90 ?_
  refine lv_topl (fun z26 ez26 => ?_)
  have h := nd_at h ez26
  refine lv_lstore (lv' := [(6, .long z26), (0, .ref (a 0)), (5, .int x5)]) hx hb dX5_seek_91 hl (by decide) rfl (fun ls hl => ?_)
  exact (db_X5_seek_93 C K) (x5) (z26) s0 _ _ _ h hP hD hS (lv_sub hl [1, 2, 0] rfl)
set_option maxHeartbeats 40000000 in
set_option maxRecDepth 100000 in
theorem db_X5_seek_0 {p : Program} {l : Launch} {e : Env} {s : State} {m : MethodId} {args : Array Value} {below : List Frame} {meth : Method} {c : Code} {Q : State → Prop} {A : Nat → Prop} {dC : Nat → ClassId} {dI : Nat → Nat → Nat} {a : Nat → Nat} {ac : Nat → ClassId} {n : Nat} {r : Int64 × (St × (St × (St × (St))))} (C : nd_C p l s m args c A (dC, dI) cX5_seek 8 RX5 ow_dm_X5_seek (dk_X5 ac)) (K : nd_Kl p l e (headSpec ow_dm_X5_seek ({ frames := 1, cells := 0, slots := 0, locals := 23 })).room s m args below meth c Q A (dC, dI) cX5_seek (St × (St × (St × (St)))) (dw_X5 a ac) r) : dj_X5_seek_0 p l e s m args below meth c Q A dC dI a ac (df_X5_seek_0 n) r := by
  obtain ⟨hlt, hx, hb, hml, hown, hts, hN, hA, hK⟩ := id C
  intro v0 v1 v2 v3 s0 H locs ls h hP hD hS hl
  unfold df_X5_seek_0 at h
  refine lv_iload hx hb dX5_seek_0 (lv_at hl 4 rfl) ?_
  refine lv_if_lt (tgt := 11) hx hb dX5_seek_2 (by decide) (fun c1 => ?_) (fun c1 => ?_)
  · have h := nd_pos h c1
    exact (db_X5_seek_11 C K)  s0 _ _ _ h hP hD hS (lv_sub hl [] rfl)
  · have h := nd_neg h c1
    refine lv_iload hx hb dX5_seek_5 (lv_at hl 4 rfl) ?_
    refine lv_iconst (v := 2) hx hb dX5_seek_7 (by decide) ?_
    refine lv_icmp_le (tgt := 15) hx hb dX5_seek_8 (by decide) (fun c2 => ?_) (fun c2 => ?_)
    · have h := nd_pos h c2
      refine lv_aload_n hx hb dX5_seek_15 rfl (lv_at hl 0 rfl) ?_
      refine va_get (D := (dC, dI)) (ci := 6) (v := .ref (a 14)) (C := RX5) (T := TX5) (N := 8) hx hb hts hi_dm_X5_seek_X5 hown hK hP 0 rfl rfl 1 (by decide) (hts (.fieldLink RX5 28 "TimeMachine$Kernel" "things" "LTimeMachine$Things;") (List.mem_of_getElem? (i := 2) rfl)) (fun _ h9 => h9) rfl dX5_seek_16 ?_
      refine lv_iload_n hx hb dX5_seek_19 rfl (lv_at hl 1 rfl) ?_
      refine lv_iload_n hx hb dX5_seek_20 rfl (lv_at hl 2 rfl) ?_
      obtain ⟨q3, s4, hq, h⟩ := nd_b2_e h
      have hPc := dp_X5_14 hP
      have hDc := dd_X5_14 hD
      have hKc := dy_X5_14 hK
      have hFc := nd_rs hDc hS hA
      have hzA : ∀ q : Nat, H.size ≤ q → A q := fun q h => hA q (Nat.le_trans hS.1 h)
      refine nd_cVi (As := [.int v0, .int v1]) (rest := []) (q := q3) (w' := dw_X10 (fun k => a (k + 14)) (fun k => ac (k + 14)) s4) ⟨hx, hb, hml, hown, hts⟩ (fun sz => dm_X10_openingOf l hlt dC dI (fun k => a (k + 14)) (fun k => ac (k + 14)) n (v0) (v1) s0.2.2.2 hq sz) (cwV 2 hts gi_dm_X5_seek_0 rfl rfl rfl (by decide +kernel) ⟨Nat.le_of_ble_eq_true rfl, Nat.le_of_ble_eq_true rfl⟩) hPc hDc hKc hS hA hN (va_recv hKc hPc (ci := 11) (q0 := 0) rfl rfl) rfl hl.1 rfl (Nat.le_of_ble_eq_true rfl) dX5_seek_21 (fun H locs hP1 hD1 hk1 hS => ?_)
      obtain ⟨hP, hD⟩ := dn_X5_14 hP hD hzA hk1 hP1 hD1
      obtain ⟨s6, es6, h⟩ := nd_let_e h
      have hP : va_P (dC, dI) vwCl (dw_X5 a ac s6) H := by rw [es6]; exact hP
      have hD : va_D A (dw_X5 a ac s6) := by rw [es6]; exact hD
      refine lv_istore (lv' := [(5, .int q3), (0, .ref (a 0)), (1, .int v0), (2, .int v1), (3, .int v2), (4, .int v3)]) hx hb dX5_seek_24 hl (by decide) rfl (fun ls hl => ?_)
      refine lv_iload hx hb dX5_seek_26 (lv_at hl 0 rfl) ?_
      refine lv_if_lt (tgt := 45) hx hb dX5_seek_28 (by decide) (fun c7 => ?_) (fun c7 => ?_)
      · have h := nd_pos h c7
        exact (db_X5_seek_45 C K)  s6 _ _ _ h hP hD hS (lv_sub hl [] rfl)
      · have h := nd_neg h c7
        refine lv_aload_n hx hb dX5_seek_31 rfl (lv_at hl 1 rfl) ?_
        refine va_get (D := (dC, dI)) (ci := 6) (v := .ref (a 14)) (C := RX5) (T := TX5) (N := 8) hx hb hts hi_dm_X5_seek_X5 hown hK hP 0 rfl rfl 1 (by decide) (hts (.fieldLink RX5 28 "TimeMachine$Kernel" "things" "LTimeMachine$Things;") (List.mem_of_getElem? (i := 2) rfl)) (fun _ h9 => h9) rfl dX5_seek_32 ?_
        refine lv_iload hx hb dX5_seek_35 (lv_at hl 0 rfl) ?_
        refine lv_iconst (v := 0) hx hb dX5_seek_37 (by decide) ?_
        obtain ⟨q8, s9, hq, h⟩ := nd_b2_e h
        have hPc := dp_X5_14 hP
        have hDc := dd_X5_14 hD
        have hKc := dy_X5_14 hK
        have hFc := nd_rs hDc hS hA
        have hzA : ∀ q : Nat, H.size ≤ q → A q := fun q h => hA q (Nat.le_trans hS.1 h)
        refine nd_cVi (As := [.int q3, .int 0]) (rest := []) (q := q8) (w' := dw_X10 (fun k => a (k + 14)) (fun k => ac (k + 14)) s9) ⟨hx, hb, hml, hown, hts⟩ (fun sz => dm_X10_of l hlt dC dI (fun k => a (k + 14)) (fun k => ac (k + 14)) n (q3) (0) s6.2.2.2 hq sz) (cwV 2 hts gi_dm_X5_seek_1 rfl rfl rfl (by decide +kernel) ⟨Nat.le_of_ble_eq_true rfl, Nat.le_of_ble_eq_true rfl⟩) hPc hDc hKc hS hA hN (va_recv hKc hPc (ci := 11) (q0 := 0) rfl rfl) rfl hl.1 rfl (Nat.le_of_ble_eq_true rfl) dX5_seek_38 (fun H locs hP1 hD1 hk1 hS => ?_)
        obtain ⟨hP, hD⟩ := dn_X5_14 hP hD hzA hk1 hP1 hD1
        obtain ⟨s11, es11, h⟩ := nd_let_e h
        have hP : va_P (dC, dI) vwCl (dw_X5 a ac s11) H := by rw [es11]; exact hP
        have hD : va_D A (dw_X5 a ac s11) := by rw [es11]; exact hD
        refine lv_iconst (v := 3) hx hb dX5_seek_41 (by decide) ?_
        refine lv_icmp_eq (tgt := 49) hx hb dX5_seek_42 (by decide) (fun c12 => ?_) (fun c12 => ?_)
        · have h := nd_pos h c12
          refine lv_iload_n hx hb dX5_seek_49 rfl (lv_at hl 4 rfl) ?_
          refine lv_i2l hx hb dX5_seek_50 rfl ?_
          refine lv_topl (fun z13 ez13 => ?_)
          have h := nd_at h ez13
          refine lv_lstore (lv' := [(6, .long z13), (5, .int q3), (0, .ref (a 0)), (1, .int v0), (2, .int v1), (3, .int v2), (4, .int v3)]) hx hb dX5_seek_51 hl (by decide) rfl (fun ls hl => ?_)
          refine lv_iload hx hb dX5_seek_53 (lv_at hl 6 rfl) ?_
          refine lv_if_le (tgt := 93) hx hb dX5_seek_55 (by decide) (fun c14 => ?_) (fun c14 => ?_)
          · have h := nd_pos h c14
            exact (db_X5_seek_93 C K) (q3) (z13) s11 _ _ _ h hP hD hS (lv_sub hl [2, 1, 0] rfl)
          · have h := nd_neg h c14
            refine lv_lload hx hb dX5_seek_58 (lv_at hl 0 rfl) ?_
            refine lv_iload hx hb dX5_seek_60 (lv_at hl 6 rfl) ?_
            refine lv_iconst (v := 1) hx hb dX5_seek_62 (by decide) ?_
            refine lv_icmp_ne (tgt := 80) hx hb dX5_seek_63 (by decide) (fun c21 => ?_) (fun c21 => ?_)
            · have h := nd_neg h c21
              refine lv_aload_n hx hb dX5_seek_80 rfl (lv_at hl 2 rfl) ?_
              refine va_get (D := (dC, dI)) (ci := 6) (v := .ref (a 14)) (C := RX5) (T := TX5) (N := 8) hx hb hts hi_dm_X5_seek_X5 hown hK hP 0 rfl rfl 1 (by decide) (hts (.fieldLink RX5 28 "TimeMachine$Kernel" "things" "LTimeMachine$Things;") (List.mem_of_getElem? (i := 2) rfl)) (fun _ h9 => h9) rfl dX5_seek_81 ?_
              refine lv_iload hx hb dX5_seek_84 (lv_at hl 1 rfl) ?_
              obtain ⟨q22, s23, hq, h⟩ := nd_b2_e h
              have hPc := dp_X5_14 hP
              have hDc := dd_X5_14 hD
              have hKc := dy_X5_14 hK
              have hFc := nd_rs hDc hS hA
              have hzA : ∀ q : Nat, H.size ≤ q → A q := fun q h => hA q (Nat.le_trans hS.1 h)
              refine nd_cVi (As := [.int q3]) (rest := [.long z13]) (q := q22) (w' := dw_X10 (fun k => a (k + 14)) (fun k => ac (k + 14)) s23) ⟨hx, hb, hml, hown, hts⟩ (fun sz => dm_X10_amount l hlt dC dI (fun k => a (k + 14)) (fun k => ac (k + 14)) n (q3) s11.2.2.2 hq sz) (cwV 1 hts gi_dm_X5_seek_3 rfl rfl rfl (by decide +kernel) ⟨Nat.le_of_ble_eq_true rfl, Nat.le_of_ble_eq_true rfl⟩) hPc hDc hKc hS hA hN (va_recv hKc hPc (ci := 11) (q0 := 0) rfl rfl) rfl hl.1 rfl (Nat.le_of_ble_eq_true rfl) dX5_seek_86 (fun H locs hP1 hD1 hk1 hS => ?_)
              obtain ⟨hP, hD⟩ := dn_X5_14 hP hD hzA hk1 hP1 hD1
              obtain ⟨s25, es25, h⟩ := nd_let_e h
              have hP : va_P (dC, dI) vwCl (dw_X5 a ac s25) H := by rw [es25]; exact hP
              have hD : va_D A (dw_X5 a ac s25) := by rw [es25]; exact hD
              refine lv_i2l hx hb dX5_seek_89 rfl ?_
              exact (db_X5_seek_90 C K) (q3) (z13) ((q22.toInt64)) s25 _ _ _ h hP hD hS (lv_sub hl [2, 1] rfl)
            · have h := nd_pos h c21
              refine lv_aload_n hx hb dX5_seek_66 rfl (lv_at hl 2 rfl) ?_
              refine va_get (D := (dC, dI)) (ci := 6) (v := .ref (a 14)) (C := RX5) (T := TX5) (N := 8) hx hb hts hi_dm_X5_seek_X5 hown hK hP 0 rfl rfl 1 (by decide) (hts (.fieldLink RX5 28 "TimeMachine$Kernel" "things" "LTimeMachine$Things;") (List.mem_of_getElem? (i := 2) rfl)) (fun _ h9 => h9) rfl dX5_seek_67 ?_
              refine lv_iload hx hb dX5_seek_70 (lv_at hl 1 rfl) ?_
              refine lv_iconst (v := 3) hx hb dX5_seek_72 (by decide) ?_
              obtain ⟨q27, s28, hq, h⟩ := nd_b2_e h
              have hPc := dp_X5_14 hP
              have hDc := dd_X5_14 hD
              have hKc := dy_X5_14 hK
              have hFc := nd_rs hDc hS hA
              have hzA : ∀ q : Nat, H.size ≤ q → A q := fun q h => hA q (Nat.le_trans hS.1 h)
              refine nd_cVi (As := [.int q3, .int 3]) (rest := [.long z13]) (q := q27) (w' := dw_X10 (fun k => a (k + 14)) (fun k => ac (k + 14)) s28) ⟨hx, hb, hml, hown, hts⟩ (fun sz => dm_X10_of l hlt dC dI (fun k => a (k + 14)) (fun k => ac (k + 14)) n (q3) (3) s11.2.2.2 hq sz) (cwV 2 hts gi_dm_X5_seek_1 rfl rfl rfl (by decide +kernel) ⟨Nat.le_of_ble_eq_true rfl, Nat.le_of_ble_eq_true rfl⟩) hPc hDc hKc hS hA hN (va_recv hKc hPc (ci := 11) (q0 := 0) rfl rfl) rfl hl.1 rfl (Nat.le_of_ble_eq_true rfl) dX5_seek_73 (fun H locs hP1 hD1 hk1 hS => ?_)
              obtain ⟨hP, hD⟩ := dn_X5_14 hP hD hzA hk1 hP1 hD1
              obtain ⟨s30, es30, h⟩ := nd_let_e h
              have hP : va_P (dC, dI) vwCl (dw_X5 a ac s30) H := by rw [es30]; exact hP
              have hD : va_D A (dw_X5 a ac s30) := by rw [es30]; exact hD
              refine lv_i2l hx hb dX5_seek_76 rfl ?_
              refine lv_goto (tgt := 90) hx hb dX5_seek_77 (by decide) ?_
              exact (db_X5_seek_90 C K) (q3) (z13) ((q27.toInt64)) s30 _ _ _ h hP hD hS (lv_sub hl [2, 1] rfl)
        · have h := nd_neg h c12
          exact (db_X5_seek_45 C K)  s11 _ _ _ h hP hD hS (lv_sub hl [] rfl)
    · have h := nd_neg h c2
      exact (db_X5_seek_11 C K)  s0 _ _ _ h hP hD hS (lv_sub hl [] rfl)
set_option maxHeartbeats 40000000 in
set_option maxRecDepth 100000 in
theorem dm_X5_seek (l : Launch) (hlt : l.stackTraces = false) (dC : Nat → ClassId) (dI : Nat → Nat → Nat) (a : Nat → Nat) (ac : Nat → ClassId) (n : Nat) (v0 : Int32) (v1 : Int32) (v2 : Int32) (v3 : Int32) (s0 : St × (St × (St × (St)))) {r : Int64 × (St × (St × (St × (St))))} (h : df_X5_seek n v0 v1 v2 v3 s0 = some r) (sz : Nat) : Met l yX5_seek ow_dm_X5_seek ({ frames := 1, cells := 0, slots := 0, locals := 23 }) (va_Pc [.ref (a 0), .int v0, .int v1, .int v2, .int v3] (fun U => U.heap.size = sz ∧ va_P (dC, dI) vwCl (dw_X5 a ac s0) U.heap ∧ va_K (dC, dI) vwCl (dk_X5 ac) U ∧ va_D (fun _ => True) (dw_X5 a ac s0) ∧ nv_E (va_A (dw_X5 a ac s0) sz) U)) (va_Ql (fun x _ => x = r.1) (fun (_ : Unit) t => va_P (dC, dI) vwCl (dw_X5 a ac r.2) t.heap ∧ va_K (dC, dI) vwCl (dk_X5 ac) t ∧ va_D (va_A (dw_X5 a ac s0) sz) (dw_X5 a ac r.2)) (va_A (dw_X5 a ac s0) sz)) 0 0 (va_A (dw_X5 a ac s0) sz) := by
  refine Met.ofW (cc := cX5_seek) (maxL := 8) (ret := (some .long)) (by decide) rfl ?_
  intro p e s m args below meth c s₁ B hml hv
  obtain ⟨rfl, hsz, hP, hK, hD0, hN⟩ := hv
  have hx := B.exec
  have hb := B.bytes
  have hr := B.returns
  have hts := atoms_spec (ws := ow_dm_X5_seek) B.pre
  have hown : s.vm.findClass RX5 = some m.cls := findClass_of_methodNamed B.named
  have hlocks := B.notSynchronized
  subst hsz
  have hD := hD0.self (sz := s.heap.size)
  generalize hAe : va_A (dw_X5 a ac s0) s.heap.size = A at hD hN ⊢
  have hA : ∀ q : Nat, s.heap.size ≤ q → A q := fun q h => by rw [← hAe]; exact Or.inr h
  have hl := lv_entry ([.ref (a 0), .int v0, .int v1, .int v2, .int v3]) (n := 8) (Nat.le_of_ble_eq_true rfl)
  rw [lg_entry_eq]
  generalize (lg_sl ([.ref (a 0), .int v0, .int v1, .int v2, .int v3]) ++ List.replicate (8 - (lg_sl ([.ref (a 0), .int v0, .int v1, .int v2, .int v3])).length) Slot.unset).toArray = ls at hl ⊢
  have hl : lv_has ls 8 [(0, .ref (a 0)), (1, .int v0), (2, .int v1), (3, .int v2), (4, .int v3)] := hl
  exact db_X5_seek_0 (dC := dC) (dI := dI) (a := a) (ac := ac) (n := n) (r := r) ⟨hlt, hx, hb, hml, hown, hts, hN, hA, hK⟩ (fun pc v τ H locs ls d er hP hD hS => by subst er; exact W.lret (v := v) hx hb hr (fun t ht hW => ⟨⟨v, (), rfl, rfl, by rw [ht]; exact hP, va_K.moved hW.alike hK, hD⟩, hS.F ht⟩) hS.2.2 d) v0 v1 v2 v3 s0 _ _ _ h hP hD va_S.rf (lv_sub hl [0, 1, 2, 3, 4] rfl)
def ow_dm_X5_readName_t2 : List Cond := .code yX5_readName cX5_readName 8 (some .int) :: ([.methodLink RX5 332 yJ7_fill_031fb, .static yJ7_fill_031fb, .initialized RJ7, .fieldLink RX5 18 "TimeMachine$Kernel" "machine" "LTimeMachine$Machine;", .methodLink RX5 338 yX6_may, .instanceMethod yX6_may, .selects RX6 yX6_may yX6_may, .initialized RX6, .methodLink RX5 318 yX6_byteAt, .instanceMethod yX6_byteAt, .selects RX6 yX6_byteAt yX6_byteAt] ++ (u_ws RX5 TX5 8 ++ (ow_dm_J7_fill_031fb ++ (ow_dm_X6_may ++ (ow_dm_X6_byteAt ++ [])))))
theorem gd_dm_X5_readName_t2 : ∀ w ∈ ow_dm_X5_readName_t2, (w.onTables && w.keeps) = true ∨ ∃ ty, w = Cond.arrayClass ty := List.forall_mem_cons.mpr ⟨good_of_word rfl, List.forall_mem_append.mpr ⟨fun w h => good_of_word (List.all_eq_true.mp (by decide +kernel) w h), List.forall_mem_append.mpr ⟨gu_X5, List.forall_mem_append.mpr ⟨gd_dm_J7_fill_031fb, List.forall_mem_append.mpr ⟨gd_dm_X6_may, List.forall_mem_append.mpr ⟨gd_dm_X6_byteAt, fun _ h => nomatch h⟩⟩⟩⟩⟩⟩
theorem hi_dm_X5_readName_t2_X5 : ∀ w ∈ u_ws RX5 TX5 8, w ∈ ow_dm_X5_readName_t2 := fun w h => List.mem_cons_of_mem _ (List.mem_append_right _ (List.mem_append_left _ h))
theorem gi_dm_X5_readName_t2_0 : GoodIn ow_dm_X5_readName_t2 (va_wsS RX5 332 yJ7_fill_031fb ow_dm_J7_fill_031fb) := goodIn_app (goodIn_of _ (by decide +kernel)) (fun w h => ⟨List.mem_cons_of_mem _ (List.mem_append_right _ (List.mem_append_right _ (List.mem_append_left _ h))), gd_dm_J7_fill_031fb w h⟩)
theorem gi_dm_X5_readName_t2_1 : GoodIn ow_dm_X5_readName_t2 (wsV RX5 338 RX6 yX6_may ow_dm_X6_may) := goodIn_app (goodIn_of _ (by decide +kernel)) (fun w h => ⟨List.mem_cons_of_mem _ (List.mem_append_right _ (List.mem_append_right _ (List.mem_append_right _ (List.mem_append_left _ h)))), gd_dm_X6_may w h⟩)
theorem gi_dm_X5_readName_t2_2 : GoodIn ow_dm_X5_readName_t2 (wsV RX5 318 RX6 yX6_byteAt ow_dm_X6_byteAt) := goodIn_app (goodIn_of _ (by decide +kernel)) (fun w h => ⟨List.mem_cons_of_mem _ (List.mem_append_right _ (List.mem_append_right _ (List.mem_append_right _ (List.mem_append_right _ (List.mem_append_left _ h))))), gd_dm_X6_byteAt w h⟩)
def dj_X5_readName_t2_126 (p : Program) (l : Launch) (e : Env) (s : State) (m : MethodId) (args : Array Value) (below : List Frame) (meth : Method) (c : Code) (Q : State → Prop) (A : Nat → Prop) (dC : Nat → ClassId) (dI : Nat → Nat → Nat) (a : Nat → Nat) (ac : Nat → ClassId) (g : Int32 → (St × (St × (St × (St)))) → Option (Int32 × (St × (St × (St × (St)))))) (r : Int32 × (St × (St × (St × (St))))) : Prop := ∀ (y0 : Int32) (s0 : St × (St × (St × (St)))) (H : Heap) (locs : List Loc) (ls : Array Slot), g y0 s0 = some r → va_P (dC, dI) vwCl (dw_X5 a ac s0) H → va_D A (dw_X5 a ac s0) → va_S A s.heap H locs → lv_has ls 8 [] → W p l e (headSpec ow_dm_X5_readName_t2 ({ frames := 1, cells := 0, slots := 0, locals := 23 })).room s m args below meth c H locs 0 0 Q (F0 m 126 ls [.int y0])
def dj_X5_readName_t2_124 (p : Program) (l : Launch) (e : Env) (s : State) (m : MethodId) (args : Array Value) (below : List Frame) (meth : Method) (c : Code) (Q : State → Prop) (A : Nat → Prop) (dC : Nat → ClassId) (dI : Nat → Nat → Nat) (a : Nat → Nat) (ac : Nat → ClassId) (g : (St × (St × (St × (St)))) → Option (Int32 × (St × (St × (St × (St)))))) (r : Int32 × (St × (St × (St × (St))))) : Prop := ∀ (s0 : St × (St × (St × (St)))) (H : Heap) (locs : List Loc) (ls : Array Slot), g s0 = some r → va_P (dC, dI) vwCl (dw_X5 a ac s0) H → va_D A (dw_X5 a ac s0) → va_S A s.heap H locs → lv_has ls 8 [] → W p l e (headSpec ow_dm_X5_readName_t2 ({ frames := 1, cells := 0, slots := 0, locals := 23 })).room s m args below meth c H locs 0 0 Q (F0 m 124 ls [])
def dj_X5_readName_t2_110 (p : Program) (l : Launch) (e : Env) (s : State) (m : MethodId) (args : Array Value) (below : List Frame) (meth : Method) (c : Code) (Q : State → Prop) (A : Nat → Prop) (dC : Nat → ClassId) (dI : Nat → Nat → Nat) (a : Nat → Nat) (ac : Nat → ClassId) (g : Int32 → Int32 → (St × (St × (St × (St)))) → Option (Int32 × (St × (St × (St × (St)))))) (r : Int32 × (St × (St × (St × (St))))) : Prop := ∀ (x4 : Int32) (x5 : Int32) (s0 : St × (St × (St × (St)))) (H : Heap) (locs : List Loc) (ls : Array Slot), g x4 x5 s0 = some r → va_P (dC, dI) vwCl (dw_X5 a ac s0) H → va_D A (dw_X5 a ac s0) → va_S A s.heap H locs → lv_has ls 8 [(4, .int x4), (5, .int x5)] → W p l e (headSpec ow_dm_X5_readName_t2 ({ frames := 1, cells := 0, slots := 0, locals := 23 })).room s m args below meth c H locs 0 0 Q (F0 m 110 ls [])
def dj_X5_readName_t2_104 (p : Program) (l : Launch) (e : Env) (s : State) (m : MethodId) (args : Array Value) (below : List Frame) (meth : Method) (c : Code) (Q : State → Prop) (A : Nat → Prop) (dC : Nat → ClassId) (dI : Nat → Nat → Nat) (a : Nat → Nat) (ac : Nat → ClassId) (g : Int32 → Int32 → Int32 → Int32 → Int32 → (St × (St × (St × (St)))) → Option (Int32 × (St × (St × (St × (St)))))) (r : Int32 × (St × (St × (St × (St))))) : Prop := ∀ (x1 : Int32) (x2 : Int32) (x4 : Int32) (x5 : Int32) (x6 : Int32) (s0 : St × (St × (St × (St)))) (H : Heap) (locs : List Loc) (ls : Array Slot), g x1 x2 x4 x5 x6 s0 = some r → va_P (dC, dI) vwCl (dw_X5 a ac s0) H → va_D A (dw_X5 a ac s0) → va_S A s.heap H locs → lv_has ls 8 [(0, .ref (a 0)), (1, .int x1), (2, .int x2), (3, .ref (a 2)), (4, .int x4), (5, .int x5), (6, .int x6)] → W p l e (headSpec ow_dm_X5_readName_t2 ({ frames := 1, cells := 0, slots := 0, locals := 23 })).room s m args below meth c H locs 0 0 Q (F0 m 104 ls [])
def dj_X5_readName_t2_95 (p : Program) (l : Launch) (e : Env) (s : State) (m : MethodId) (args : Array Value) (below : List Frame) (meth : Method) (c : Code) (Q : State → Prop) (A : Nat → Prop) (dC : Nat → ClassId) (dI : Nat → Nat → Nat) (a : Nat → Nat) (ac : Nat → ClassId) (g : Int32 → Int32 → Int32 → Int32 → Int32 → Int32 → (St × (St × (St × (St)))) → Option (Int32 × (St × (St × (St × (St)))))) (r : Int32 × (St × (St × (St × (St))))) : Prop := ∀ (x1 : Int32) (x2 : Int32) (x4 : Int32) (x6 : Int32) (x7 : Int32) (y0 : Int32) (s0 : St × (St × (St × (St)))) (H : Heap) (locs : List Loc) (ls : Array Slot), g x1 x2 x4 x6 x7 y0 s0 = some r → va_P (dC, dI) vwCl (dw_X5 a ac s0) H → va_D A (dw_X5 a ac s0) → va_S A s.heap H locs → lv_has ls 8 [(0, .ref (a 0)), (1, .int x1), (2, .int x2), (3, .ref (a 2)), (4, .int x4), (6, .int x6), (7, .int x7)] → W p l e (headSpec ow_dm_X5_readName_t2 ({ frames := 1, cells := 0, slots := 0, locals := 23 })).room s m args below meth c H locs 0 0 Q (F0 m 95 ls [.int y0])
def dj_X5_readName_t2_94 (p : Program) (l : Launch) (e : Env) (s : State) (m : MethodId) (args : Array Value) (below : List Frame) (meth : Method) (c : Code) (Q : State → Prop) (A : Nat → Prop) (dC : Nat → ClassId) (dI : Nat → Nat → Nat) (a : Nat → Nat) (ac : Nat → ClassId) (g : Int32 → Int32 → Int32 → Int32 → Int32 → (St × (St × (St × (St)))) → Option (Int32 × (St × (St × (St × (St)))))) (r : Int32 × (St × (St × (St × (St))))) : Prop := ∀ (x1 : Int32) (x2 : Int32) (x4 : Int32) (x6 : Int32) (x7 : Int32) (s0 : St × (St × (St × (St)))) (H : Heap) (locs : List Loc) (ls : Array Slot), g x1 x2 x4 x6 x7 s0 = some r → va_P (dC, dI) vwCl (dw_X5 a ac s0) H → va_D A (dw_X5 a ac s0) → va_S A s.heap H locs → lv_has ls 8 [(0, .ref (a 0)), (1, .int x1), (2, .int x2), (3, .ref (a 2)), (4, .int x4), (6, .int x6), (7, .int x7)] → W p l e (headSpec ow_dm_X5_readName_t2 ({ frames := 1, cells := 0, slots := 0, locals := 23 })).room s m args below meth c H locs 0 0 Q (F0 m 94 ls [])
def dj_X5_readName_t2_14 (p : Program) (l : Launch) (e : Env) (s : State) (m : MethodId) (args : Array Value) (below : List Frame) (meth : Method) (c : Code) (Q : State → Prop) (A : Nat → Prop) (dC : Nat → ClassId) (dI : Nat → Nat → Nat) (a : Nat → Nat) (ac : Nat → ClassId) (g : Int32 → Int32 → Int32 → Int32 → Int32 → (St × (St × (St × (St)))) → Option (Int32 × (St × (St × (St × (St)))))) (r : Int32 × (St × (St × (St × (St))))) : Prop := ∀ (x1 : Int32) (x2 : Int32) (x4 : Int32) (x5 : Int32) (x6 : Int32) (s0 : St × (St × (St × (St)))) (H : Heap) (locs : List Loc) (ls : Array Slot), g x1 x2 x4 x5 x6 s0 = some r → va_P (dC, dI) vwCl (dw_X5 a ac s0) H → va_D A (dw_X5 a ac s0) → va_S A s.heap H locs → lv_has ls 8 [(0, .ref (a 0)), (1, .int x1), (2, .int x2), (3, .ref (a 2)), (4, .int x4), (5, .int x5), (6, .int x6)] → W p l e (headSpec ow_dm_X5_readName_t2 ({ frames := 1, cells := 0, slots := 0, locals := 23 })).room s m args below meth c H locs 0 0 Q (F0 m 14 ls [])
def dj_X5_readName_t2_0 (p : Program) (l : Launch) (e : Env) (s : State) (m : MethodId) (args : Array Value) (below : List Frame) (meth : Method) (c : Code) (Q : State → Prop) (A : Nat → Prop) (dC : Nat → ClassId) (dI : Nat → Nat → Nat) (a : Nat → Nat) (ac : Nat → ClassId) (g : Int32 → Int32 → (St × (St × (St × (St)))) → Option (Int32 × (St × (St × (St × (St)))))) (r : Int32 × (St × (St × (St × (St))))) : Prop := ∀ (v0 : Int32) (v1 : Int32) (s0 : St × (St × (St × (St)))) (H : Heap) (locs : List Loc) (ls : Array Slot), g v0 v1 s0 = some r → va_P (dC, dI) vwCl (dw_X5 a ac s0) H → va_D A (dw_X5 a ac s0) → va_S A s.heap H locs → lv_has ls 8 [(0, .ref (a 0)), (1, .int v0), (2, .int v1), (3, .ref (a 2))] → W p l e (headSpec ow_dm_X5_readName_t2 ({ frames := 1, cells := 0, slots := 0, locals := 23 })).room s m args below meth c H locs 0 0 Q (F0 m 0 ls [])
set_option maxHeartbeats 40000000 in
set_option maxRecDepth 100000 in
theorem db_X5_readName_t2_126 {p : Program} {l : Launch} {e : Env} {s : State} {m : MethodId} {args : Array Value} {below : List Frame} {meth : Method} {c : Code} {Q : State → Prop} {A : Nat → Prop} {dC : Nat → ClassId} {dI : Nat → Nat → Nat} {a : Nat → Nat} {ac : Nat → ClassId} {n : Nat} {r : Int32 × (St × (St × (St × (St))))} (C : nd_C p l s m args c A (dC, dI) cX5_readName 8 RX5 ow_dm_X5_readName_t2 (dk_X5 ac)) (K : nd_Ki p l e (headSpec ow_dm_X5_readName_t2 ({ frames := 1, cells := 0, slots := 0, locals := 23 })).room s m args below meth c Q A (dC, dI) cX5_readName .int (St × (St × (St × (St)))) (dw_X5 a ac) r) : dj_X5_readName_t2_126 p l e s m args below meth c Q A dC dI a ac (df_X5_readName_t2_126 n) r := by
  obtain ⟨hlt, hx, hb, hml, hown, hts, hN, hA, hK⟩ := id C
  intro y0 s0 H locs ls h hP hD hS hl
  unfold df_X5_readName_t2_126 at h
  exact K _ _ _ _ _ _ dX5_readName_126 rfl (Option.some.inj h).symm hP hD hS
set_option maxHeartbeats 40000000 in
set_option maxRecDepth 100000 in
theorem db_X5_readName_t2_124 {p : Program} {l : Launch} {e : Env} {s : State} {m : MethodId} {args : Array Value} {below : List Frame} {meth : Method} {c : Code} {Q : State → Prop} {A : Nat → Prop} {dC : Nat → ClassId} {dI : Nat → Nat → Nat} {a : Nat → Nat} {ac : Nat → ClassId} {n : Nat} {r : Int32 × (St × (St × (St × (St))))} (C : nd_C p l s m args c A (dC, dI) cX5_readName 8 RX5 ow_dm_X5_readName_t2 (dk_X5 ac)) (K : nd_Ki p l e (headSpec ow_dm_X5_readName_t2 ({ frames := 1, cells := 0, slots := 0, locals := 23 })).room s m args below meth c Q A (dC, dI) cX5_readName .int (St × (St × (St × (St)))) (dw_X5 a ac) r) : dj_X5_readName_t2_124 p l e s m args below meth c Q A dC dI a ac (df_X5_readName_t2_124 n) r := by
  obtain ⟨hlt, hx, hb, hml, hown, hts, hN, hA, hK⟩ := id C
  intro s0 H locs ls h hP hD hS hl
  unfold df_X5_readName_t2_124 at h
  refine lv_bipush (v := (-22)) hx hb dX5_readName_124 (by decide) ?_
  exact (db_X5_readName_t2_126 C K) ((-22)) s0 _ _ _ h hP hD hS (lv_sub hl [] rfl)
set_option maxHeartbeats 40000000 in
set_option maxRecDepth 100000 in
theorem db_X5_readName_t2_110 {p : Program} {l : Launch} {e : Env} {s : State} {m : MethodId} {args : Array Value} {below : List Frame} {meth : Method} {c : Code} {Q : State → Prop} {A : Nat → Prop} {dC : Nat → ClassId} {dI : Nat → Nat → Nat} {a : Nat → Nat} {ac : Nat → ClassId} {n : Nat} {r : Int32 × (St × (St × (St × (St))))} (C : nd_C p l s m args c A (dC, dI) cX5_readName 8 RX5 ow_dm_X5_readName_t2 (dk_X5 ac)) (K : nd_Ki p l e (headSpec ow_dm_X5_readName_t2 ({ frames := 1, cells := 0, slots := 0, locals := 23 })).room s m args below meth c Q A (dC, dI) cX5_readName .int (St × (St × (St × (St)))) (dw_X5 a ac) r) : dj_X5_readName_t2_110 p l e s m args below meth c Q A dC dI a ac (df_X5_readName_t2_110 n) r := by
  obtain ⟨hlt, hx, hb, hml, hown, hts, hN, hA, hK⟩ := id C
  intro x4 x5 s0 H locs ls h hP hD hS hl
  unfold df_X5_readName_t2_110 at h
  refine lv_iload hx hb dX5_readName_110 (lv_at hl 1 rfl) ?_
  refine lv_if_eq (tgt := 124) hx hb dX5_readName_112 (by decide) (fun c3 => ?_) (fun c3 => ?_)
  · have h := nd_pos h c3
    exact (db_X5_readName_t2_124 C K)  s0 _ _ _ h hP hD hS (lv_sub hl [] rfl)
  · have h := nd_neg h c3
    refine lv_iload hx hb dX5_readName_115 (lv_at hl 0 rfl) ?_
    refine lv_if_le (tgt := 124) hx hb dX5_readName_117 (by decide) (fun c4 => ?_) (fun c4 => ?_)
    · have h := nd_pos h c4
      exact (db_X5_readName_t2_124 C K)  s0 _ _ _ h hP hD hS (lv_sub hl [] rfl)
    · have h := nd_neg h c4
      refine lv_iconst (v := 0) hx hb dX5_readName_120 (by decide) ?_
      refine lv_goto (tgt := 126) hx hb dX5_readName_121 (by decide) ?_
      exact (db_X5_readName_t2_126 C K) (0) s0 _ _ _ h hP hD hS (lv_sub hl [] rfl)
set_option maxHeartbeats 40000000 in
set_option maxRecDepth 100000 in
theorem db_X5_readName_t2_104 {p : Program} {l : Launch} {e : Env} {s : State} {m : MethodId} {args : Array Value} {below : List Frame} {meth : Method} {c : Code} {Q : State → Prop} {A : Nat → Prop} {dC : Nat → ClassId} {dI : Nat → Nat → Nat} {a : Nat → Nat} {ac : Nat → ClassId} {n : Nat} {r : Int32 × (St × (St × (St × (St))))} (C : nd_C p l s m args c A (dC, dI) cX5_readName 8 RX5 ow_dm_X5_readName_t2 (dk_X5 ac)) (K : nd_Ki p l e (headSpec ow_dm_X5_readName_t2 ({ frames := 1, cells := 0, slots := 0, locals := 23 })).room s m args below meth c Q A (dC, dI) cX5_readName .int (St × (St × (St × (St)))) (dw_X5 a ac) r) {g14 : Int32 → Int32 → Int32 → Int32 → Int32 → (St × (St × (St × (St)))) → Option (Int32 × (St × (St × (St × (St)))))} (J14 : dj_X5_readName_t2_14 p l e s m args below meth c Q A dC dI a ac g14 r) : dj_X5_readName_t2_104 p l e s m args below meth c Q A dC dI a ac (df_X5_readName_t2_104 n g14) r := by
  obtain ⟨hlt, hx, hb, hml, hown, hts, hN, hA, hK⟩ := id C
  intro x1 x2 x4 x5 x6 s0 H locs ls h hP hD hS hl
  unfold df_X5_readName_t2_104 at h
  obtain ⟨z19, ez19, h⟩ := nd_let_e h
  refine lv_iinc (v := z19) (lv' := [(6, .int z19), (0, .ref (a 0)), (1, .int x1), (2, .int x2), (3, .ref (a 2)), (4, .int x4), (5, .int x5)]) hx hb dX5_readName_104 hl (k := 6) rfl (by rw [ez19]) (by decide) rfl (fun ls hl => ?_)
  refine lv_goto (tgt := 14) hx hb dX5_readName_107 (by decide) ?_
  exact (J14) (x1) (x2) (x4) (x5) (z19) s0 _ _ _ h hP hD hS (lv_sub hl [1, 2, 3, 4, 5, 6, 0] rfl)
set_option maxHeartbeats 40000000 in
set_option maxRecDepth 100000 in
theorem db_X5_readName_t2_95 {p : Program} {l : Launch} {e : Env} {s : State} {m : MethodId} {args : Array Value} {below : List Frame} {meth : Method} {c : Code} {Q : State → Prop} {A : Nat → Prop} {dC : Nat → ClassId} {dI : Nat → Nat → Nat} {a : Nat → Nat} {ac : Nat → ClassId} {n : Nat} {r : Int32 × (St × (St × (St × (St))))} (C : nd_C p l s m args c A (dC, dI) cX5_readName 8 RX5 ow_dm_X5_readName_t2 (dk_X5 ac)) (K : nd_Ki p l e (headSpec ow_dm_X5_readName_t2 ({ frames := 1, cells := 0, slots := 0, locals := 23 })).room s m args below meth c Q A (dC, dI) cX5_readName .int (St × (St × (St × (St)))) (dw_X5 a ac) r) {g14 : Int32 → Int32 → Int32 → Int32 → Int32 → (St × (St × (St × (St)))) → Option (Int32 × (St × (St × (St × (St)))))} (J14 : dj_X5_readName_t2_14 p l e s m args below meth c Q A dC dI a ac g14 r) : dj_X5_readName_t2_95 p l e s m args below meth c Q A dC dI a ac (df_X5_readName_t2_95 n g14) r := by
  obtain ⟨hlt, hx, hb, hml, hown, hts, hN, hA, hK⟩ := id C
  intro x1 x2 x4 x6 x7 y0 s0 H locs ls h hP hD hS hl
  unfold df_X5_readName_t2_95 at h
  refine lv_istore (lv' := [(5, .int y0), (0, .ref (a 0)), (1, .int x1), (2, .int x2), (3, .ref (a 2)), (4, .int x4), (6, .int x6), (7, .int x7)]) hx hb dX5_readName_95 hl (by decide) rfl (fun ls hl => ?_)
  refine lv_aload_n hx hb dX5_readName_97 rfl (lv_at hl 4 rfl) ?_
  refine lv_iload hx hb dX5_readName_98 (lv_at hl 6 rfl) ?_
  refine lv_iload hx hb dX5_readName_100 (lv_at hl 7 rfl) ?_
  refine lv_i2b hx hb dX5_readName_102 rfl ?_
  obtain ⟨i17, h⟩ := nd_ck_e h
  refine va_bast (i := x6) (x := (x7.toInt8.toInt32)) hx hb hK hP hD hS 2 1 rfl rfl i17 dX5_readName_103 (fun H locs hP hD hS => ?_)
  obtain ⟨s18, es18, h⟩ := nd_let_e h
  have hP : va_P (dC, dI) vwCl (dw_X5 a ac s18) H := by rw [es18]; exact hP
  have hD : va_D A (dw_X5 a ac s18) := by rw [es18]; exact hD
  exact (db_X5_readName_t2_104 C K J14) (x1) (x2) (x4) (y0) (x6) s18 _ _ _ h hP hD hS (lv_sub hl [1, 2, 3, 4, 5, 0, 6] rfl)
set_option maxHeartbeats 40000000 in
set_option maxRecDepth 100000 in
theorem db_X5_readName_t2_94 {p : Program} {l : Launch} {e : Env} {s : State} {m : MethodId} {args : Array Value} {below : List Frame} {meth : Method} {c : Code} {Q : State → Prop} {A : Nat → Prop} {dC : Nat → ClassId} {dI : Nat → Nat → Nat} {a : Nat → Nat} {ac : Nat → ClassId} {n : Nat} {r : Int32 × (St × (St × (St × (St))))} (C : nd_C p l s m args c A (dC, dI) cX5_readName 8 RX5 ow_dm_X5_readName_t2 (dk_X5 ac)) (K : nd_Ki p l e (headSpec ow_dm_X5_readName_t2 ({ frames := 1, cells := 0, slots := 0, locals := 23 })).room s m args below meth c Q A (dC, dI) cX5_readName .int (St × (St × (St × (St)))) (dw_X5 a ac) r) {g14 : Int32 → Int32 → Int32 → Int32 → Int32 → (St × (St × (St × (St)))) → Option (Int32 × (St × (St × (St × (St)))))} (J14 : dj_X5_readName_t2_14 p l e s m args below meth c Q A dC dI a ac g14 r) : dj_X5_readName_t2_94 p l e s m args below meth c Q A dC dI a ac (df_X5_readName_t2_94 n g14) r := by
  obtain ⟨hlt, hx, hb, hml, hown, hts, hN, hA, hK⟩ := id C
  intro x1 x2 x4 x6 x7 s0 H locs ls h hP hD hS hl
  unfold df_X5_readName_t2_94 at h
  refine lv_iconst (v := 0) hx hb dX5_readName_94 (by decide) ?_
  exact (db_X5_readName_t2_95 C K J14) (x1) (x2) (x4) (x6) (x7) (0) s0 _ _ _ h hP hD hS (lv_sub hl [0, 1, 2, 3, 4, 5, 6] rfl)
set_option maxHeartbeats 40000000 in
set_option maxRecDepth 100000 in
theorem dB_X5_readName_t2_14 {p : Program} {l : Launch} {e : Env} {s : State} {m : MethodId} {args : Array Value} {below : List Frame} {meth : Method} {c : Code} {Q : State → Prop} {A : Nat → Prop} {dC : Nat → ClassId} {dI : Nat → Nat → Nat} {a : Nat → Nat} {ac : Nat → ClassId} {n : Nat} {r : Int32 × (St × (St × (St × (St))))} (C : nd_C p l s m args c A (dC, dI) cX5_readName 8 RX5 ow_dm_X5_readName_t2 (dk_X5 ac)) (K : nd_Ki p l e (headSpec ow_dm_X5_readName_t2 ({ frames := 1, cells := 0, slots := 0, locals := 23 })).room s m args below meth c Q A (dC, dI) cX5_readName .int (St × (St × (St × (St)))) (dw_X5 a ac) r) {g14 : Int32 → Int32 → Int32 → Int32 → Int32 → (St × (St × (St × (St)))) → Option (Int32 × (St × (St × (St × (St)))))} (J14 : dj_X5_readName_t2_14 p l e s m args below meth c Q A dC dI a ac g14 r) : dj_X5_readName_t2_14 p l e s m args below meth c Q A dC dI a ac (dF_X5_readName_t2_14 n g14) r := by
  obtain ⟨hlt, hx, hb, hml, hown, hts, hN, hA, hK⟩ := id C
  intro x1 x2 x4 x5 x6 s0 H locs ls h hP hD hS hl
  unfold dF_X5_readName_t2_14 at h
  refine lv_iload hx hb dX5_readName_14 (lv_at hl 6 rfl) ?_
  refine lv_aload_n hx hb dX5_readName_16 rfl (lv_at hl 3 rfl) ?_
  refine va_alen (v := 16) hx hb hK hP 2 1 rfl rfl (show Int32.ofNat 16 = 16 by decide) dX5_readName_17 ?_
  refine lv_icmp_ge (tgt := 110) hx hb dX5_readName_18 (by decide) (fun c2 => ?_) (fun c2 => ?_)
  · have h := nd_pos h c2
    exact (db_X5_readName_t2_110 C K) (x4) (x5) s0 _ _ _ h hP hD hS (lv_sub hl [4, 5] rfl)
  · have h := nd_neg h c2
    refine lv_iload hx hb dX5_readName_21 (lv_at hl 4 rfl) ?_
    refine lv_if_ge (tgt := 110) hx hb dX5_readName_23 (by decide) (fun c5 => ?_) (fun c5 => ?_)
    · have h := nd_pos h c5
      exact (db_X5_readName_t2_110 C K) (x4) (x5) s0 _ _ _ h hP hD hS (lv_sub hl [4, 5] rfl)
    · have h := nd_neg h c5
      refine lv_aload_n hx hb dX5_readName_26 rfl (lv_at hl 0 rfl) ?_
      refine va_get (D := (dC, dI)) (ci := 6) (v := .ref (a 4)) (C := RX5) (T := TX5) (N := 8) hx hb hts hi_dm_X5_readName_t2_X5 hown hK hP 0 rfl rfl 0 (by decide) (hts (.fieldLink RX5 18 "TimeMachine$Kernel" "machine" "LTimeMachine$Machine;") (List.mem_of_getElem? (i := 4) rfl)) (fun _ h9 => h9) rfl dX5_readName_27 ?_
      refine lv_iload_n hx hb dX5_readName_30 rfl (lv_at hl 1 rfl) ?_
      refine lv_iload_n hx hb dX5_readName_31 rfl (lv_at hl 2 rfl) ?_
      refine lv_iload hx hb dX5_readName_32 (lv_at hl 6 rfl) ?_
      refine lv_iadd hx hb dX5_readName_34 ?_
      refine lv_iconst (v := 1) hx hb dX5_readName_35 (by decide) ?_
      obtain ⟨q6, s7, hq, h⟩ := nd_b2_e h
      have hPc := dp_X5_4 hP
      have hDc := dd_X5_4 hD
      have hKc := dy_X5_4 hK
      have hFc := nd_rs hDc hS hA
      have hzA : ∀ q : Nat, H.size ≤ q → A q := fun q h => hA q (Nat.le_trans hS.1 h)
      refine nd_cVi (As := [.int x1, .int (x2 + x6), .int 1]) (rest := []) (q := q6) (w' := dw_X6 (fun k => a (k + 4)) (fun k => ac (k + 4)) s7) ⟨hx, hb, hml, hown, hts⟩ (fun sz => dm_X6_may l hlt dC dI (fun k => a (k + 4)) (fun k => ac (k + 4)) n (x1) ((x2 + x6)) (1) s0.2.2 hq sz) (cwV 3 hts gi_dm_X5_readName_t2_1 rfl rfl rfl (by decide +kernel) ⟨Nat.le_of_ble_eq_true rfl, Nat.le_of_ble_eq_true rfl⟩) hPc hDc hKc hS hA hN (va_recv hKc hPc (ci := 7) (q0 := 0) rfl rfl) rfl hl.1 rfl (Nat.le_of_ble_eq_true rfl) dX5_readName_36 (fun H locs hP1 hD1 hk1 hS => ?_)
      obtain ⟨hP, hD⟩ := dn_X5_4 hP hD hzA hk1 hP1 hD1
      obtain ⟨s9, es9, h⟩ := nd_let_e h
      have hP : va_P (dC, dI) vwCl (dw_X5 a ac s9) H := by rw [es9]; exact hP
      have hD : va_D A (dw_X5 a ac s9) := by rw [es9]; exact hD
      refine lv_if_ne (tgt := 45) hx hb dX5_readName_39 (by decide) (fun c10 => ?_) (fun c10 => ?_)
      · have h := nd_neg h c10
        refine lv_aload_n hx hb dX5_readName_45 rfl (lv_at hl 0 rfl) ?_
        refine va_get (D := (dC, dI)) (ci := 6) (v := .ref (a 4)) (C := RX5) (T := TX5) (N := 8) hx hb hts hi_dm_X5_readName_t2_X5 hown hK hP 0 rfl rfl 0 (by decide) (hts (.fieldLink RX5 18 "TimeMachine$Kernel" "machine" "LTimeMachine$Machine;") (List.mem_of_getElem? (i := 4) rfl)) (fun _ h9 => h9) rfl dX5_readName_46 ?_
        refine lv_iload_n hx hb dX5_readName_49 rfl (lv_at hl 1 rfl) ?_
        refine lv_iload_n hx hb dX5_readName_50 rfl (lv_at hl 2 rfl) ?_
        refine lv_iload hx hb dX5_readName_51 (lv_at hl 6 rfl) ?_
        refine lv_iadd hx hb dX5_readName_53 ?_
        obtain ⟨q11, s12, hq, h⟩ := nd_b2_e h
        have hPc := dp_X5_4 hP
        have hDc := dd_X5_4 hD
        have hKc := dy_X5_4 hK
        have hFc := nd_rs hDc hS hA
        have hzA : ∀ q : Nat, H.size ≤ q → A q := fun q h => hA q (Nat.le_trans hS.1 h)
        refine nd_cVi (As := [.int x1, .int (x2 + x6)]) (rest := []) (q := q11) (w' := dw_X6 (fun k => a (k + 4)) (fun k => ac (k + 4)) s12) ⟨hx, hb, hml, hown, hts⟩ (fun sz => dm_X6_byteAt l hlt dC dI (fun k => a (k + 4)) (fun k => ac (k + 4)) n (x1) ((x2 + x6)) s9.2.2 hq sz) (cwV 2 hts gi_dm_X5_readName_t2_2 rfl rfl rfl (by decide +kernel) ⟨Nat.le_of_ble_eq_true rfl, Nat.le_of_ble_eq_true rfl⟩) hPc hDc hKc hS hA hN (va_recv hKc hPc (ci := 7) (q0 := 0) rfl rfl) rfl hl.1 rfl (Nat.le_of_ble_eq_true rfl) dX5_readName_54 (fun H locs hP1 hD1 hk1 hS => ?_)
        obtain ⟨hP, hD⟩ := dn_X5_4 hP hD hzA hk1 hP1 hD1
        obtain ⟨s14, es14, h⟩ := nd_let_e h
        have hP : va_P (dC, dI) vwCl (dw_X5 a ac s14) H := by rw [es14]; exact hP
        have hD : va_D A (dw_X5 a ac s14) := by rw [es14]; exact hD
        refine lv_istore (lv' := [(7, .int q11), (0, .ref (a 0)), (1, .int x1), (2, .int x2), (3, .ref (a 2)), (4, .int x4), (5, .int x5), (6, .int x6)]) hx hb dX5_readName_57 hl (by decide) rfl (fun ls hl => ?_)
        refine lv_iload hx hb dX5_readName_59 (lv_at hl 0 rfl) ?_
        refine lv_if_ne (tgt := 71) hx hb dX5_readName_61 (by decide) (fun c15 => ?_) (fun c15 => ?_)
        · have h := nd_neg h c15
          refine lv_iload hx hb dX5_readName_71 (lv_at hl 6 rfl) ?_
          refine lv_if_eq (tgt := 94) hx hb dX5_readName_73 (by decide) (fun c16 => ?_) (fun c16 => ?_)
          · have h := nd_pos h c16
            exact (db_X5_readName_t2_94 C K J14) (x1) (x2) (x4) (x6) (q11) s14 _ _ _ h hP hD hS (lv_sub hl [1, 2, 3, 4, 5, 7, 0] rfl)
          · have h := nd_neg h c16
            refine lv_iload hx hb dX5_readName_76 (lv_at hl 0 rfl) ?_
            refine lv_bipush (v := 33) hx hb dX5_readName_78 (by decide) ?_
            refine lv_icmp_lt (tgt := 94) hx hb dX5_readName_80 (by decide) (fun c20 => ?_) (fun c20 => ?_)
            · have h := nd_pos h c20
              exact (db_X5_readName_t2_94 C K J14) (x1) (x2) (x4) (x6) (q11) s14 _ _ _ h hP hD hS (lv_sub hl [1, 2, 3, 4, 5, 7, 0] rfl)
            · have h := nd_neg h c20
              refine lv_iload hx hb dX5_readName_83 (lv_at hl 0 rfl) ?_
              refine lv_bipush (v := 126) hx hb dX5_readName_85 (by decide) ?_
              refine lv_icmp_gt (tgt := 94) hx hb dX5_readName_87 (by decide) (fun c21 => ?_) (fun c21 => ?_)
              · have h := nd_pos h c21
                exact (db_X5_readName_t2_94 C K J14) (x1) (x2) (x4) (x6) (q11) s14 _ _ _ h hP hD hS (lv_sub hl [1, 2, 3, 4, 5, 7, 0] rfl)
              · have h := nd_neg h c21
                refine lv_iconst (v := 1) hx hb dX5_readName_90 (by decide) ?_
                refine lv_goto (tgt := 95) hx hb dX5_readName_91 (by decide) ?_
                exact (db_X5_readName_t2_95 C K J14) (x1) (x2) (x4) (x6) (q11) (1) s14 _ _ _ h hP hD hS (lv_sub hl [1, 2, 3, 4, 5, 7, 0] rfl)
        · have h := nd_pos h c15
          refine lv_iload hx hb dX5_readName_64 (lv_at hl 7 rfl) ?_
          refine lv_istore (lv' := [(4, .int x6), (7, .int q11), (0, .ref (a 0)), (1, .int x1), (2, .int x2), (3, .ref (a 2)), (5, .int x5), (6, .int x6)]) hx hb dX5_readName_66 hl (by decide) rfl (fun ls hl => ?_)
          refine lv_goto (tgt := 104) hx hb dX5_readName_68 (by decide) ?_
          exact (db_X5_readName_t2_104 C K J14) (x1) (x2) (x6) (x5) (x6) s14 _ _ _ h hP hD hS (lv_sub hl [2, 3, 4, 5, 0, 6, 7] rfl)
      · have h := nd_pos h c10
        refine lv_bipush (v := (-14)) hx hb dX5_readName_42 (by decide) ?_
        exact K _ _ _ _ _ _ dX5_readName_44 rfl (Option.some.inj h).symm hP hD hS
set_option maxHeartbeats 40000000 in
set_option maxRecDepth 100000 in
theorem db_X5_readName_t2_14 {p : Program} {l : Launch} {e : Env} {s : State} {m : MethodId} {args : Array Value} {below : List Frame} {meth : Method} {c : Code} {Q : State → Prop} {A : Nat → Prop} {dC : Nat → ClassId} {dI : Nat → Nat → Nat} {a : Nat → Nat} {ac : Nat → ClassId} {n : Nat} {r : Int32 × (St × (St × (St × (St))))} (C : nd_C p l s m args c A (dC, dI) cX5_readName 8 RX5 ow_dm_X5_readName_t2 (dk_X5 ac)) (K : nd_Ki p l e (headSpec ow_dm_X5_readName_t2 ({ frames := 1, cells := 0, slots := 0, locals := 23 })).room s m args below meth c Q A (dC, dI) cX5_readName .int (St × (St × (St × (St)))) (dw_X5 a ac) r) (k : Nat) : dj_X5_readName_t2_14 p l e s m args below meth c Q A dC dI a ac (df_X5_readName_t2_14 n k) r := by
  induction k with
  | zero => intro x1 x2 x4 x5 x6 s0 H locs ls h; exact nomatch (show (none : Option (Int32 × (St × (St × (St × (St)))))) = some r from h)
  | succ k ih => exact dB_X5_readName_t2_14 C K ih
set_option maxHeartbeats 40000000 in
set_option maxRecDepth 100000 in
theorem db_X5_readName_t2_0 {p : Program} {l : Launch} {e : Env} {s : State} {m : MethodId} {args : Array Value} {below : List Frame} {meth : Method} {c : Code} {Q : State → Prop} {A : Nat → Prop} {dC : Nat → ClassId} {dI : Nat → Nat → Nat} {a : Nat → Nat} {ac : Nat → ClassId} {n : Nat} {r : Int32 × (St × (St × (St × (St))))} (C : nd_C p l s m args c A (dC, dI) cX5_readName 8 RX5 ow_dm_X5_readName_t2 (dk_X5 ac)) (K : nd_Ki p l e (headSpec ow_dm_X5_readName_t2 ({ frames := 1, cells := 0, slots := 0, locals := 23 })).room s m args below meth c Q A (dC, dI) cX5_readName .int (St × (St × (St × (St)))) (dw_X5 a ac) r) : dj_X5_readName_t2_0 p l e s m args below meth c Q A dC dI a ac (df_X5_readName_t2_0 n) r := by
  obtain ⟨hlt, hx, hb, hml, hown, hts, hN, hA, hK⟩ := id C
  intro v0 v1 s0 H locs ls h hP hD hS hl
  unfold df_X5_readName_t2_0 at h
  refine lv_iconst (v := (-1)) hx hb dX5_readName_0 (by decide) ?_
  refine lv_istore (lv' := [(4, .int (-1)), (0, .ref (a 0)), (1, .int v0), (2, .int v1), (3, .ref (a 2))]) hx hb dX5_readName_1 hl (by decide) rfl (fun ls hl => ?_)
  refine lv_iconst (v := 1) hx hb dX5_readName_3 (by decide) ?_
  refine lv_istore (lv' := [(5, .int 1), (4, .int (-1)), (0, .ref (a 0)), (1, .int v0), (2, .int v1), (3, .ref (a 2))]) hx hb dX5_readName_4 hl (by decide) rfl (fun ls hl => ?_)
  refine lv_aload_n hx hb dX5_readName_6 rfl (lv_at hl 5 rfl) ?_
  refine lv_iconst (v := 0) hx hb dX5_readName_7 (by decide) ?_
  have hcl : (dw_X5 a ac s0)[2]? = some ((a 2), .inl (ac 2, 16, .inl (sR s0.1 1))) := rfl
  have hPc := nd_c1 hP hcl
  have hDc := nd_cd hD hcl
  have hKc : va_K (dC, dI) vwCl [(ac 2, .byte)] s := hK.sub [1] rfl
  have hFc := nd_rs hDc hS hA
  refine va_callv (va_runS (As := [.ref (a 2), .int 0]) (rest := []) ⟨hx, hb, hml, hown, hts⟩ (dm_J7_fill_031fb l hlt dC dI (a 2) (ac 2) 16 (by decide) (sR s0.1 1) 0 _) (va_cwS 2 hts gi_dm_X5_readName_t2_0 rfl rfl rfl (by decide +kernel) ⟨Nat.le_of_ble_eq_true rfl, Nat.le_of_ble_eq_true rfl⟩) ⟨fun a U g mk q => by obtain ⟨q0, q1, qP, qK, qD, qN⟩ := q; exact ⟨q0, q1, qP, va_K.moved (u := U) (U := U.calling g mk a) (Vm.Alike.refl U.vm) qK, qD, nv_same rfl rfl qN⟩, fun U hU hW => ⟨rfl, by rw [hU], by rw [hU]; exact hPc, va_K.moved hW.alike hKc, hDc.weaken (fun _ _ _ _ => trivial), nv_call hS hFc hU hW hN⟩⟩ rfl rfl hl.1 rfl (lv_room (Nat.le_of_ble_eq_true rfl)) dX5_readName_8 ⟨by decide +kernel, by decide +kernel⟩) hS (fun q _ h => hFc q h) hFc (fun u t H locs ht hvm hw hB hz1 hk1 hS => ?_)
  obtain ⟨hP1, -, hD1⟩ := hB
  rw [ht] at hP1
  have hP := nd_cs hP hD hcl hk1 hP1
  have hD := hD.set (e := .inl (ac 2, 16, .inl (nd_fl 16 (vp_nar .byte 0) (sR s0.1 1)))) hcl
  refine W.widen (k := 0) (n := 0) (Nat.le_refl _) (Nat.le_refl _) ?_
  obtain ⟨s1, es1, h⟩ := nd_let_e h
  have hP : va_P (dC, dI) vwCl (dw_X5 a ac s1) H := by rw [es1]; exact hP
  have hD : va_D A (dw_X5 a ac s1) := by rw [es1]; exact hD
  refine lv_iconst (v := 0) hx hb dX5_readName_11 (by decide) ?_
  refine lv_istore (lv' := [(6, .int 0), (5, .int 1), (4, .int (-1)), (0, .ref (a 0)), (1, .int v0), (2, .int v1), (3, .ref (a 2))]) hx hb dX5_readName_12 hl (by decide) rfl (fun ls hl => ?_)
  exact (db_X5_readName_t2_14 C K n) (v0) (v1) ((-1)) (1) (0) s1 _ _ _ h hP hD hS (lv_sub hl [3, 4, 5, 6, 2, 1, 0] rfl)
set_option maxHeartbeats 40000000 in
set_option maxRecDepth 100000 in
theorem dm_X5_readName_t2 (l : Launch) (hlt : l.stackTraces = false) (dC : Nat → ClassId) (dI : Nat → Nat → Nat) (a : Nat → Nat) (ac : Nat → ClassId) (n : Nat) (v0 : Int32) (v1 : Int32) (s0 : St × (St × (St × (St)))) {r : Int32 × (St × (St × (St × (St))))} (h : df_X5_readName_t2 n v0 v1 s0 = some r) (sz : Nat) : Met l yX5_readName ow_dm_X5_readName_t2 ({ frames := 1, cells := 0, slots := 0, locals := 23 }) (va_Pc [.ref (a 0), .int v0, .int v1, .ref (a 2)] (fun U => U.heap.size = sz ∧ va_P (dC, dI) vwCl (dw_X5 a ac s0) U.heap ∧ va_K (dC, dI) vwCl (dk_X5 ac) U ∧ va_D (fun _ => True) (dw_X5 a ac s0) ∧ nv_E (va_A (dw_X5 a ac s0) sz) U)) (va_Qi (fun x _ => x = r.1) (fun (_ : Unit) t => va_P (dC, dI) vwCl (dw_X5 a ac r.2) t.heap ∧ va_K (dC, dI) vwCl (dk_X5 ac) t ∧ va_D (va_A (dw_X5 a ac s0) sz) (dw_X5 a ac r.2)) (va_A (dw_X5 a ac s0) sz)) 0 0 (va_A (dw_X5 a ac s0) sz) := by
  refine Met.ofW (cc := cX5_readName) (maxL := 8) (ret := (some .int)) (by decide) rfl ?_
  intro p e s m args below meth c s₁ B hml hv
  obtain ⟨rfl, hsz, hP, hK, hD0, hN⟩ := hv
  have hx := B.exec
  have hb := B.bytes
  have hr := B.returns
  have hts := atoms_spec (ws := ow_dm_X5_readName_t2) B.pre
  have hown : s.vm.findClass RX5 = some m.cls := findClass_of_methodNamed B.named
  have hlocks := B.notSynchronized
  subst hsz
  have hD := hD0.self (sz := s.heap.size)
  generalize hAe : va_A (dw_X5 a ac s0) s.heap.size = A at hD hN ⊢
  have hA : ∀ q : Nat, s.heap.size ≤ q → A q := fun q h => by rw [← hAe]; exact Or.inr h
  have hl := lv_entry ([.ref (a 0), .int v0, .int v1, .ref (a 2)]) (n := 8) (Nat.le_of_ble_eq_true rfl)
  rw [lg_entry_eq]
  generalize (lg_sl ([.ref (a 0), .int v0, .int v1, .ref (a 2)]) ++ List.replicate (8 - (lg_sl ([.ref (a 0), .int v0, .int v1, .ref (a 2)])).length) Slot.unset).toArray = ls at hl ⊢
  have hl : lv_has ls 8 [(0, .ref (a 0)), (1, .int v0), (2, .int v1), (3, .ref (a 2))] := hl
  exact db_X5_readName_t2_0 (dC := dC) (dI := dI) (a := a) (ac := ac) (n := n) (r := r) ⟨hlt, hx, hb, hml, hown, hts, hN, hA, hK⟩ (fun pc v τ H locs ls d z er hP hD hS => by subst er; exact W.zret (v := v) hx hb hr z (fun t ht hW => ⟨⟨v, (), rfl, rfl, by rw [ht]; exact hP, va_K.moved hW.alike hK, hD⟩, hS.F ht⟩) hS.2.2 d) v0 v1 s0 _ _ _ h hP hD va_S.rf (lv_sub hl [0, 1, 2, 3] rfl)
set_option maxHeartbeats 40000000 in
set_option maxRecDepth 100000 in
theorem dp_vX5_X10n_1 {D : va_G} {H : Heap} {a : Nat → Nat} {ac : Nat → ClassId} {σ : St × (St × (St × (St)))} (h : va_P D vwCl (dw_X5 a ac σ) H) : va_P D vwCl (dw_X10n (fun k => a (nd_ix [2, 14, 15, 16, 17, 18, 19, 20, 21, 22, 23] k)) (fun k => ac (nd_ix [2, 14, 15, 16, 17, 18, 19, 20, 21, 22, 23] k)) ((pR nd_st0 0 (sR σ.1 1)), σ.2.2.2)) H := h.sub [2, 14, 15, 16, 17, 18, 19, 20, 21, 22, 23] rfl
set_option maxHeartbeats 40000000 in
set_option maxRecDepth 100000 in
theorem dd_vX5_X10n_1 {A : Nat → Prop} {a : Nat → Nat} {ac : Nat → ClassId} {σ : St × (St × (St × (St)))} (h : va_D A (dw_X5 a ac σ)) : va_D A (dw_X10n (fun k => a (nd_ix [2, 14, 15, 16, 17, 18, 19, 20, 21, 22, 23] k)) (fun k => ac (nd_ix [2, 14, 15, 16, 17, 18, 19, 20, 21, 22, 23] k)) ((pR nd_st0 0 (sR σ.1 1)), σ.2.2.2)) := h.sub [2, 14, 15, 16, 17, 18, 19, 20, 21, 22, 23] (by decide) rfl
set_option maxHeartbeats 40000000 in
set_option maxRecDepth 100000 in
theorem dy_vX5_X10n_1 {D : va_G} {U : State} {ac : Nat → ClassId} (h : va_K D vwCl (dk_X5 ac) U) : va_K D vwCl (dk_X10n (fun k => ac (nd_ix [2, 14, 15, 16, 17, 18, 19, 20, 21, 22, 23] k))) U := h.sub [1, 11, 12, 13, 14, 15, 16, 17, 18, 19] rfl
