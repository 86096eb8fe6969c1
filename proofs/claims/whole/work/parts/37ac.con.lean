set_option maxHeartbeats 40000000 in
set_option maxRecDepth 100000 in
theorem dm_X5_seek (l : Launch) (hlt : l.stackTraces = false) (dC : Nat → ClassId) (dI : Nat → Nat → Nat) (a : Nat → Nat) (ac : Nat → ClassId) (n : Nat) (v0 : Int32) (v1 : Int32) (v2 : Int32) (v3 : Int32) (s0 : St × (St × (St × (St)))) {r : Int64 × (St × (St × (St × (St))))} (h : df_X5_seek n v0 v1 v2 v3 s0 = some r) (sz : Nat) : Met l yX5_seek ow_dm_X5_seek ({ frames := 1, cells := 0, slots := 0, locals := 23 }) (va_Pc [.ref (a 0), .int v0, .int v1, .int v2, .int v3] (fun U => U.heap.size = sz ∧ va_P (dC, dI) vwCl (dw_X5 a ac s0) U.heap ∧ va_K (dC, dI) vwCl (dk_X5 ac) U ∧ va_D (fun _ => True) (dw_X5 a ac s0) ∧ nv_E (va_A (dw_X5 a ac s0) sz) U)) (va_Ql (fun x _ => x = r.1) (fun (_ : Unit) t => va_P (dC, dI) vwCl (dw_X5 a ac r.2) t.heap ∧ va_K (dC, dI) vwCl (dk_X5 ac) t ∧ va_D (va_A (dw_X5 a ac s0) sz) (dw_X5 a ac r.2)) (va_A (dw_X5 a ac s0) sz)) 0 0 (va_A (dw_X5 a ac s0) sz) := by
  refine Met.ofW (cc := cX5_seek) (maxL := 8) (ret := (some .long)) (by decide) rfl ?_
  intro p e s m args below meth c s₁ B hml hv
  obtain ⟨rfl, hsz, hP, hK, hD0, hN⟩ := hv
  have hx := B.exec
  have hb := B.bytes
  have hr := B.returns
  have hts := atoms_spec (ws := ow_dm_X5_seek) B.pre
  have hown : s.vm.findClass RX5 = some m.cls := findClass_of_methodNamed B.named
  have hlocks := B.notSynchronized
  subst hsz
  have hD := hD0.self (sz := s.heap.size)
  generalize hAe : va_A (dw_X5 a ac s0) s.heap.size = A at hD hN ⊢
  have hA : ∀ q : Nat, s.heap.size ≤ q → A q := fun q h => by rw [← hAe]; exact Or.inr h
  have hl := lv_entry ([.ref (a 0), .int v0, .int v1, .int v2, .int v3]) (n := 8) (Nat.le_of_ble_eq_true rfl)
  rw [lg_entry_eq]
  generalize (lg_sl ([.ref (a 0), .int v0, .int v1, .int v2, .int v3]) ++ List.replicate (8 - (lg_sl ([.ref (a 0), .int v0, .int v1, .int v2, .int v3])).length) Slot.unset).toArray = ls at hl ⊢
  have hl : lv_has ls 8 [(0, .ref (a 0)), (1, .int v0), (2, .int v1), (3, .int v2), (4, .int v3)] := hl
  exact db_X5_seek_0 (dC := dC) (dI := dI) (a := a) (ac := ac) (n := n) (r := r) ⟨hlt, hx, hb, hml, hown, hts, hN, hA, hK⟩ (fun pc v τ H locs ls d er hP hD hS => by subst er; exact W.lret (v := v) hx hb hr (fun t ht hW => ⟨⟨v, (), rfl, rfl, by rw [ht]; exact hP, va_K.moved hW.alike hK, hD⟩, hS.F ht⟩) hS.2.2 d) v0 v1 v2 v3 s0 _ _ _ h hP hD va_S.rf (lv_sub hl [0, 1, 2, 3, 4] rfl)
def ow_dm_X5_readName_t2 : List Cond := .code yX5_readName cX5_readName 8 (some .int) :: ([.methodLink RX5 332 yJ7_fill_031fb, .static yJ7_fill_031fb, .initialized RJ7, .fieldLink RX5 18 "TimeMachine$Kernel" "machine" "LTimeMachine$Machine;", .methodLink RX5 338 yX6_may, .instanceMethod yX6_may, .selects RX6 yX6_may yX6_may, .initialized RX6, .methodLink RX5 318 yX6_byteAt, .instanceMethod yX6_byteAt, .selects RX6 yX6_byteAt yX6_byteAt] ++ (u_ws RX5 TX5 8 ++ (ow_dm_J7_fill_031fb ++ (ow_dm_X6_may ++ (ow_dm_X6_byteAt ++ [])))))
theorem gd_dm_X5_readName_t2 : ∀ w ∈ ow_dm_X5_readName_t2, (w.onTables && w.keeps) = true ∨ ∃ ty, w = Cond.arrayClass ty := List.forall_mem_cons.mpr ⟨good_of_word rfl, List.forall_mem_append.mpr ⟨fun w h => good_of_word (List.all_eq_true.mp (by decide +kernel) w h), List.forall_mem_append.mpr ⟨gu_X5, List.forall_mem_append.mpr ⟨gd_dm_J7_fill_031fb, List.forall_mem_append.mpr ⟨gd_dm_X6_may, List.forall_mem_append.mpr ⟨gd_dm_X6_byteAt, fun _ h => nomatch h⟩⟩⟩⟩⟩⟩
theorem hi_dm_X5_readName_t2_X5 : ∀ w ∈ u_ws RX5 TX5 8, w ∈ ow_dm_X5_readName_t2 := fun w h => List.mem_cons_of_mem _ (List.mem_append_right _ (List.mem_append_left _ h))
theorem gi_dm_X5_readName_t2_0 : GoodIn ow_dm_X5_readName_t2 (va_wsS RX5 332 yJ7_fill_031fb ow_dm_J7_fill_031fb) := goodIn_app (goodIn_of _ (by decide +kernel)) (fun w h => ⟨List.mem_cons_of_mem _ (List.mem_append_right _ (List.mem_append_right _ (List.mem_append_left _ h))), gd_dm_J7_fill_031fb w h⟩)
theorem gi_dm_X5_readName_t2_1 : GoodIn ow_dm_X5_readName_t2 (wsV RX5 338 RX6 yX6_may ow_dm_X6_may) := goodIn_app (goodIn_of _ (by decide +kernel)) (fun w h => ⟨List.mem_cons_of_mem _ (List.mem_append_right _ (List.mem_append_right _ (List.mem_append_right _ (List.mem_append_left _ h)))), gd_dm_X6_may w h⟩)
theorem gi_dm_X5_readName_t2_2 : GoodIn ow_dm_X5_readName_t2 (wsV RX5 318 RX6 yX6_byteAt ow_dm_X6_byteAt) := goodIn_app (goodIn_of _ (by decide +kernel)) (fun w h => ⟨List.mem_cons_of_mem _ (List.mem_append_right _ (List.mem_append_right _ (List.mem_append_right _ (List.mem_append_right _ (List.mem_append_left _ h))))), gd_dm_X6_byteAt w h⟩)
def dj_X5_readName_t2_126 (p : Program) (l : Launch) (e : Env) (s : State) (m : MethodId) (args : Array Value) (below : List Frame) (meth : Method) (c : Code) (Q : State → Prop) (A : Nat → Prop) (dC : Nat → ClassId) (dI : Nat → Nat → Nat) (a : Nat → Nat) (ac : Nat → ClassId) (g : Int32 → (St × (St × (St × (St)))) → Option (Int32 × (St × (St × (St × (St)))))) (r : Int32 × (St × (St × (St × (St))))) : Prop := ∀ (y0 : Int32) (s0 : St × (St × (St × (St)))) (H : Heap) (locs : List Loc) (ls : Array Slot), g y0 s0 = some r → va_P (dC, dI) vwCl (dw_X5 a ac s0) H → va_D A (dw_X5 a ac s0) → va_S A s.heap H locs → lv_has ls 8 [] → W p l e (headSpec ow_dm_X5_readName_t2 ({ frames := 1, cells := 0, slots := 0, locals := 23 })).room s m args below meth c H locs 0 0 Q (F0 m 126 ls [.int y0])
def dj_X5_readName_t2_124 (p : Program) (l : Launch) (e : Env) (s : State) (m : MethodId) (args : Array Value) (below : List Frame) (meth : Method) (c : Code) (Q : State → Prop) (A : Nat → Prop) (dC : Nat → ClassId) (dI : Nat → Nat → Nat) (a : Nat → Nat) (ac : Nat → ClassId) (g : (St × (St × (St × (St)))) → Option (Int32 × (St × (St × (St × (St)))))) (r : Int32 × (St × (St × (St × (St))))) : Prop := ∀ (s0 : St × (St × (St × (St)))) (H : Heap) (locs : List Loc) (ls : Array Slot), g s0 = some r → va_P (dC, dI) vwCl (dw_X5 a ac s0) H → va_D A (dw_X5 a ac s0) → va_S A s.heap H locs → lv_has ls 8 [] → W p l e (headSpec ow_dm_X5_readName_t2 ({ frames := 1, cells := 0, slots := 0, locals := 23 })).room s m args below meth c H locs 0 0 Q (F0 m 124 ls [])
def dj_X5_readName_t2_110 (p : Program) (l : Launch) (e : Env) (s : State) (m : MethodId) (args : Array Value) (below : List Frame) (meth : Method) (c : Code) (Q : State → Prop) (A : Nat → Prop) (dC : Nat → ClassId) (dI : Nat → Nat → Nat) (a : Nat → Nat) (ac : Nat → ClassId) (g : Int32 → Int32 → (St × (St × (St × (St)))) → Option (Int32 × (St × (St × (St × (St)))))) (r : Int32 × (St × (St × (St × (St))))) : Prop := ∀ (x4 : Int32) (x5 : Int32) (s0 : St × (St × (St × (St)))) (H : Heap) (locs : List Loc) (ls : Array Slot), g x4 x5 s0 = some r → va_P (dC, dI) vwCl (dw_X5 a ac s0) H → va_D A (dw_X5 a ac s0) → va_S A s.heap H locs → lv_has ls 8 [(4, .int x4), (5, .int x5)] → W p l e (headSpec ow_dm_X5_readName_t2 ({ frames := 1, cells := 0, slots := 0, locals := 23 })).room s m args below meth c H locs 0 0 Q (F0 m 110 ls [])
def dj_X5_readName_t2_104 (p : Program) (l : Launch) (e : Env) (s : State) (m : MethodId) (args : Array Value) (below : List Frame) (meth : Method) (c : Code) (Q : State → Prop) (A : Nat → Prop) (dC : Nat → ClassId) (dI : Nat → Nat → Nat) (a : Nat → Nat) (ac : Nat → ClassId) (g : Int32 → Int32 → Int32 → Int32 → Int32 → (St × (St × (St × (St)))) → Option (Int32 × (St × (St × (St × (St)))))) (r : Int32 × (St × (St × (St × (St))))) : Prop := ∀ (x1 : Int32) (x2 : Int32) (x4 : Int32) (x5 : Int32) (x6 : Int32) (s0 : St × (St × (St × (St)))) (H : Heap) (locs : List Loc) (ls : Array Slot), g x1 x2 x4 x5 x6 s0 = some r → va_P (dC, dI) vwCl (dw_X5 a ac s0) H → va_D A (dw_X5 a ac s0) → va_S A s.heap H locs → lv_has ls 8 [(0, .ref (a 0)), (1, .int x1), (2, .int x2), (3, .ref (a 2)), (4, .int x4), (5, .int x5), (6, .int x6)] → W p l e (headSpec ow_dm_X5_readName_t2 ({ frames := 1, cells := 0, slots := 0, locals := 23 })).room s m args below meth c H locs 0 0 Q (F0 m 104 ls [])
def dj_X5_readName_t2_95 (p : Program) (l : Launch) (e : Env) (s : State) (m : MethodId) (args : Array Value) (below : List Frame) (meth : Method) (c : Code) (Q : State → Prop) (A : Nat → Prop) (dC : Nat → ClassId) (dI : Nat → Nat → Nat) (a : Nat → Nat) (ac : Nat → ClassId) (g : Int32 → Int32 → Int32 → Int32 → Int32 → Int32 → (St × (St × (St × (St)))) → Option (Int32 × (St × (St × (St × (St)))))) (r : Int32 × (St × (St × (St × (St))))) : Prop := ∀ (x1 : Int32) (x2 : Int32) (x4 : Int32) (x6 : Int32) (x7 : Int32) (y0 : Int32) (s0 : St × (St × (St × (St)))) (H : Heap) (locs : List Loc) (ls : Array Slot), g x1 x2 x4 x6 x7 y0 s0 = some r → va_P (dC, dI) vwCl (dw_X5 a ac s0) H → va_D A (dw_X5 a ac s0) → va_S A s.heap H locs → lv_has ls 8 [(0, .ref (a 0)), (1, .int x1), (2, .int x2), (3, .ref (a 2)), (4, .int x4), (6, .int x6), (7, .int x7)] → W p l e (headSpec ow_dm_X5_readName_t2 ({ frames := 1, cells := 0, slots := 0, locals := 23 })).room s m args below meth c H locs 0 0 Q (F0 m 95 ls [.int y0])
def dj_X5_readName_t2_94 (p : Program) (l : Launch) (e : Env) (s : State) (m : MethodId) (args : Array Value) (below : List Frame) (meth : Method) (c : Code) (Q : State → Prop) (A : Nat → Prop) (dC : Nat → ClassId) (dI : Nat → Nat → Nat) (a : Nat → Nat) (ac : Nat → ClassId) (g : Int32 → Int32 → Int32 → Int32 → Int32 → (St × (St × (St × (St)))) → Option (Int32 × (St × (St × (St × (St)))))) (r : Int32 × (St × (St × (St × (St))))) : Prop := ∀ (x1 : Int32) (x2 : Int32) (x4 : Int32) (x6 : Int32) (x7 : Int32) (s0 : St × (St × (St × (St)))) (H : Heap) (locs : List Loc) (ls : Array Slot), g x1 x2 x4 x6 x7 s0 = some r → va_P (dC, dI) vwCl (dw_X5 a ac s0) H → va_D A (dw_X5 a ac s0) → va_S A s.heap H locs → lv_has ls 8 [(0, .ref (a 0)), (1, .int x1), (2, .int x2), (3, .ref (a 2)), (4, .int x4), (6, .int x6), (7, .int x7)] → W p l e (headSpec ow_dm_X5_readName_t2 ({ frames := 1, cells := 0, slots := 0, locals := 23 })).room s m args below meth c H locs 0 0 Q (F0 m 94 ls [])
def dj_X5_readName_t2_14 (p : Program) (l : Launch) (e : Env) (s : State) (m : MethodId) (args : Array Value) (below : List Frame) (meth : Method) (c : Code) (Q : State → Prop) (A : Nat → Prop) (dC : Nat → ClassId) (dI : Nat → Nat → Nat) (a : Nat → Nat) (ac : Nat → ClassId) (g : Int32 → Int32 → Int32 → Int32 → Int32 → (St × (St × (St × (St)))) → Option (Int32 × (St × (St × (St × (St)))))) (r : Int32 × (St × (St × (St × (St))))) : Prop := ∀ (x1 : Int32) (x2 : Int32) (x4 : Int32) (x5 : Int32) (x6 : Int32) (s0 : St × (St × (St × (St)))) (H : Heap) (locs : List Loc) (ls : Array Slot), g x1 x2 x4 x5 x6 s0 = some r → va_P (dC, dI) vwCl (dw_X5 a ac s0) H → va_D A (dw_X5 a ac s0) → va_S A s.heap H locs → lv_has ls 8 [(0, .ref (a 0)), (1, .int x1), (2, .int x2), (3, .ref (a 2)), (4, .int x4), (5, .int x5), (6, .int x6)] → W p l e (headSpec ow_dm_X5_readName_t2 ({ frames := 1, cells := 0, slots := 0, locals := 23 })).room s m args below meth c H locs 0 0 Q (F0 m 14 ls [])
def dj_X5_readName_t2_0 (p : Program) (l : Launch) (e : Env) (s : State) (m : MethodId) (args : Array Value) (below : List Frame) (meth : Method) (c : Code) (Q : State → Prop) (A : Nat → Prop) (dC : Nat → ClassId) (dI : Nat → Nat → Nat) (a : Nat → Nat) (ac : Nat → ClassId) (g : Int32 → Int32 → (St × (St × (St × (St)))) → Option (Int32 × (St × (St × (St × (St)))))) (r : Int32 × (St × (St × (St × (St))))) : Prop := ∀ (v0 : Int32) (v1 : Int32) (s0 : St × (St × (St × (St)))) (H : Heap) (locs : List Loc) (ls : Array Slot), g v0 v1 s0 = some r → va_P (dC, dI) vwCl (dw_X5 a ac s0) H → va_D A (dw_X5 a ac s0) → va_S A s.heap H locs → lv_has ls 8 [(0, .ref (a 0)), (1, .int v0), (2, .int v1), (3, .ref (a 2))] → W p l e (headSpec ow_dm_X5_readName_t2 ({ frames := 1, cells := 0, slots := 0, locals := 23 })).room s m args below meth c H locs 0 0 Q (F0 m 0 ls [])
set_option maxHeartbeats 40000000 in
set_option maxRecDepth 100000 in
theorem db_X5_readName_t2_126 {p : Program} {l : Launch} {e : Env} {s : State} {m : MethodId} {args : Array Value} {below : List Frame} {meth : Method} {c : Code} {Q : State → Prop} {A : Nat → Prop} {dC : Nat → ClassId} {dI : Nat → Nat → Nat} {a : Nat → Nat} {ac : Nat → ClassId} {n : Nat} {r : Int32 × (St × (St × (St × (St))))} (C : nd_C p l s m args c A (dC, dI) cX5_readName 8 RX5 ow_dm_X5_readName_t2 (dk_X5 ac)) (K : nd_Ki p l e (headSpec ow_dm_X5_readName_t2 ({ frames := 1, cells := 0, slots := 0, locals := 23 })).room s m args below meth c Q A (dC, dI) cX5_readName .int (St × (St × (St × (St)))) (dw_X5 a ac) r) : dj_X5_readName_t2_126 p l e s m args below meth c Q A dC dI a ac (df_X5_readName_t2_126 n) r := by
  obtain ⟨hlt, hx, hb, hml, hown, hts, hN, hA, hK⟩ := id C
  intro y0 s0 H locs ls h hP hD hS hl
  unfold df_X5_readName_t2_126 at h
  exact K _ _ _ _ _ _ dX5_readName_126 rfl (Option.some.inj h).symm hP hD hS
set_option maxHeartbeats 40000000 in
set_option maxRecDepth 100000 in
theorem db_X5_readName_t2_124 {p : Program} {l : Launch} {e : Env} {s : State} {m : MethodId} {args : Array Value} {below : List Frame} {meth : Method} {c : Code} {Q : State → Prop} {A : Nat → Prop} {dC : Nat → ClassId} {dI : Nat → Nat → Nat} {a : Nat → Nat} {ac : Nat → ClassId} {n : Nat} {r : Int32 × (St × (St × (St × (St))))} (C : nd_C p l s m args c A (dC, dI) cX5_readName 8 RX5 ow_dm_X5_readName_t2 (dk_X5 ac)) (K : nd_Ki p l e (headSpec ow_dm_X5_readName_t2 ({ frames := 1, cells := 0, slots := 0, locals := 23 })).room s m args below meth c Q A (dC, dI) cX5_readName .int (St × (St × (St × (St)))) (dw_X5 a ac) r) : dj_X5_readName_t2_124 p l e s m args below meth c Q A dC dI a ac (df_X5_readName_t2_124 n) r := by
  obtain ⟨hlt, hx, hb, hml, hown, hts, hN, hA, hK⟩ := id C
  intro s0 H locs ls h hP hD hS hl
  unfold df_X5_readName_t2_124 at h
  refine lv_bipush (v := (-22)) hx hb dX5_readName_124 (by decide) ?_
  exact (db_X5_readName_t2_126 C K) ((-22)) s0 _ _ _ h hP hD hS (lv_sub hl [] rfl)
set_option maxHeartbeats 40000000 in
set_option maxRecDepth 100000 in
theorem db_X5_readName_t2_110 {p : Program} {l : Launch} {e : Env} {s : State} {m : MethodId} {args : Array Value} {below : List Frame} {meth : Method} {c : Code} {Q : State → Prop} {A : Nat → Prop} {dC : Nat → ClassId} {dI : Nat → Nat → Nat} {a : Nat → Nat} {ac : Nat → ClassId} {n : Nat} {r : Int32 × (St × (St × (St × (St))))} (C : nd_C p l s m args c A (dC, dI) cX5_readName 8 RX5 ow_dm_X5_readName_t2 (dk_X5 ac)) (K : nd_Ki p l e (headSpec ow_dm_X5_readName_t2 ({ frames := 1, cells := 0, slots := 0, locals := 23 })).room s m args below meth c Q A (dC, dI) cX5_readName .int (St × (St × (St × (St)))) (dw_X5 a ac) r) : dj_X5_readName_t2_110 p l e s m args below meth c Q A dC dI a ac (df_X5_readName_t2_110 n) r := by
  obtain ⟨hlt, hx, hb, hml, hown, hts, hN, hA, hK⟩ := id C
  intro x4 x5 s0 H locs ls h hP hD hS hl
  unfold df_X5_readName_t2_110 at h
  refine lv_iload hx hb dX5_readName_110 (lv_at hl 1 rfl) ?_
  refine lv_if_eq (tgt := 124) hx hb dX5_readName_112 (by decide) (fun c3 => ?_) (fun c3 => ?_)
  · have h := nd_pos h c3
    exact (db_X5_readName_t2_124 C K)  s0 _ _ _ h hP hD hS (lv_sub hl [] rfl)
  · have h := nd_neg h c3
    refine lv_iload hx hb dX5_readName_115 (lv_at hl 0 rfl) ?_
    refine lv_if_le (tgt := 124) hx hb dX5_readName_117 (by decide) (fun c4 => ?_) (fun c4 => ?_)
    · have h := nd_pos h c4
      exact (db_X5_readName_t2_124 C K)  s0 _ _ _ h hP hD hS (lv_sub hl [] rfl)
    · have h := nd_neg h c4
      refine lv_iconst (v := 0) hx hb dX5_readName_120 (by decide) ?_
      refine lv_goto (tgt := 126) hx hb dX5_readName_121 (by decide) ?_
      exact (db_X5_readName_t2_126 C K) (0) s0 _ _ _ h hP hD hS (lv_sub hl [] rfl)
set_option maxHeartbeats 40000000 in
set_option maxRecDepth 100000 in
theorem db_X5_readName_t2_104 {p : Program} {l : Launch} {e : Env} {s : State} {m : MethodId} {args : Array Value} {below : List Frame} {meth : Method} {c : Code} {Q : State → Prop} {A : Nat → Prop} {dC : Nat → ClassId} {dI : Nat → Nat → Nat} {a : Nat → Nat} {ac : Nat → ClassId} {n : Nat} {r : Int32 × (St × (St × (St × (St))))} (C : nd_C p l s m args c A (dC, dI) cX5_readName 8 RX5 ow_dm_X5_readName_t2 (dk_X5 ac)) (K : nd_Ki p l e (headSpec ow_dm_X5_readName_t2 ({ frames := 1, cells := 0, slots := 0, locals := 23 })).room s m args below meth c Q A (dC, dI) cX5_readName .int (St × (St × (St × (St)))) (dw_X5 a ac) r) {g14 : Int32 → Int32 → Int32 → Int32 → Int32 → (St × (St × (St × (St)))) → Option (Int32 × (St × (St × (St × (St)))))} (J14 : dj_X5_readName_t2_14 p l e s m args below meth c Q A dC dI a ac g14 r) : dj_X5_readName_t2_104 p l e s m args below meth c Q A dC dI a ac (df_X5_readName_t2_104 n g14) r := by
  obtain ⟨hlt, hx, hb, hml, hown, hts, hN, hA, hK⟩ := id C
  intro x1 x2 x4 x5 x6 s0 H locs ls h hP hD hS hl
  unfold df_X5_readName_t2_104 at h
  obtain ⟨z19, ez19, h⟩ := nd_let_e h
  refine lv_iinc (v := z19) (lv' := [(6, .int z19), (0, .ref (a 0)), (1, .int x1), (2, .int x2), (3, .ref (a 2)), (4, .int x4), (5, .int x5)]) hx hb dX5_readName_104 hl (k := 6) rfl (by rw [ez19]) (by decide) rfl (fun ls hl => ?_)
  refine lv_goto (tgt := 14) hx hb dX5_readName_107 (by decide) ?_
  exact (J14) (x1) (x2) (x4) (x5) (z19) s0 _ _ _ h hP hD hS (lv_sub hl [1, 2, 3, 4, 5, 6, 0] rfl)
set_option maxHeartbeats 40000000 in
set_option maxRecDepth 100000 in
theorem db_X5_readName_t2_95 {p : Program} {l : Launch} {e : Env} {s : State} {m : MethodId} {args : Array Value} {below : List Frame} {meth : Method} {c : Code} {Q : State → Prop} {A : Nat → Prop} {dC : Nat → ClassId} {dI : Nat → Nat → Nat} {a : Nat → Nat} {ac : Nat → ClassId} {n : Nat} {r : Int32 × (St × (St × (St × (St))))} (C : nd_C p l s m args c A (dC, dI) cX5_readName 8 RX5 ow_dm_X5_readName_t2 (dk_X5 ac)) (K : nd_Ki p l e (headSpec ow_dm_X5_readName_t2 ({ frames := 1, cells := 0, slots := 0, locals := 23 })).room s m args below meth c Q A (dC, dI) cX5_readName .int (St × (St × (St × (St)))) (dw_X5 a ac) r) {g14 : Int32 → Int32 → Int32 → Int32 → Int32 → (St × (St × (St × (St)))) → Option (Int32 × (St × (St × (St × (St)))))} (J14 : dj_X5_readName_t2_14 p l e s m args below meth c Q A dC dI a ac g14 r) : dj_X5_readName_t2_95 p l e s m args below meth c Q A dC dI a ac (df_X5_readName_t2_95 n g14) r := by
  obtain ⟨hlt, hx, hb, hml, hown, hts, hN, hA, hK⟩ := id C
  intro x1 x2 x4 x6 x7 y0 s0 H locs ls h hP hD hS hl
  unfold df_X5_readName_t2_95 at h
  refine lv_istore (lv' := [(5, .int y0), (0, .ref (a 0)), (1, .int x1), (2, .int x2), (3, .ref (a 2)), (4, .int x4), (6, .int x6), (7, .int x7)]) hx hb dX5_readName_95 hl (by decide) rfl (fun ls hl => ?_)
  refine lv_aload_n hx hb dX5_readName_97 rfl (lv_at hl 4 rfl) ?_
  refine lv_iload hx hb dX5_readName_98 (lv_at hl 6 rfl) ?_
  refine lv_iload hx hb dX5_readName_100 (lv_at hl 7 rfl) ?_
  refine lv_i2b hx hb dX5_readName_102 rfl ?_
  obtain ⟨i17, h⟩ := nd_ck_e h
  refine va_bast (i := x6) (x := (x7.toInt8.toInt32)) hx hb hK hP hD hS 2 1 rfl rfl i17 dX5_readName_103 (fun H locs hP hD hS => ?_)
  obtain ⟨s18, es18, h⟩ := nd_let_e h
  have hP : va_P (dC, dI) vwCl (dw_X5 a ac s18) H := by rw [es18]; exact hP
  have hD : va_D A (dw_X5 a ac s18) := by rw [es18]; exact hD
  exact (db_X5_readName_t2_104 C K J14) (x1) (x2) (x4) (y0) (x6) s18 _ _ _ h hP hD hS (lv_sub hl [1, 2, 3, 4, 5, 0, 6] rfl)
set_option maxHeartbeats 40000000 in
set_option maxRecDepth 100000 in
theorem db_X5_readName_t2_94 {p : Program} {l : Launch} {e : Env} {s : State} {m : MethodId} {args : Array Value} {below : List Frame} {meth : Method} {c : Code} {Q : State → Prop} {A : Nat → Prop} {dC : Nat → ClassId} {dI : Nat → Nat → Nat} {a : Nat → Nat} {ac : Nat → ClassId} {n : Nat} {r : Int32 × (St × (St × (St × (St))))} (C : nd_C p l s m args c A (dC, dI) cX5_readName 8 RX5 ow_dm_X5_readName_t2 (dk_X5 ac)) (K : nd_Ki p l e (headSpec ow_dm_X5_readName_t2 ({ frames := 1, cells := 0, slots := 0, locals := 23 })).room s m args below meth c Q A (dC, dI) cX5_readName .int (St × (St × (St × (St)))) (dw_X5 a ac) r) {g14 : Int32 → Int32 → Int32 → Int32 → Int32 → (St × (St × (St × (St)))) → Option (Int32 × (St × (St × (St × (St)))))} (J14 : dj_X5_readName_t2_14 p l e s m args below meth c Q A dC dI a ac g14 r) : dj_X5_readName_t2_94 p l e s m args below meth c Q A dC dI a ac (df_X5_readName_t2_94 n g14) r := by
  obtain ⟨hlt, hx, hb, hml, hown, hts, hN, hA, hK⟩ := id C
  intro x1 x2 x4 x6 x7 s0 H locs ls h hP hD hS hl
  unfold df_X5_readName_t2_94 at h
  refine lv_iconst (v := 0) hx hb dX5_readName_94 (by decide) ?_
  exact (db_X5_readName_t2_95 C K J14) (x1) (x2) (x4) (x6) (x7) (0) s0 _ _ _ h hP hD hS (lv_sub hl [0, 1, 2, 3, 4, 5, 6] rfl)
set_option maxHeartbeats 40000000 in
set_option maxRecDepth 100000 in
theorem dB_X5_readName_t2_14 {p : Program} {l : Launch} {e : Env} {s : State} {m : MethodId} {args : Array Value} {below : List Frame} {meth : Method} {c : Code} {Q : State → Prop} {A : Nat → Prop} {dC : Nat → ClassId} {dI : Nat → Nat → Nat} {a : Nat → Nat} {ac : Nat → ClassId} {n : Nat} {r : Int32 × (St × (St × (St × (St))))} (C : nd_C p l s m args c A (dC, dI) cX5_readName 8 RX5 ow_dm_X5_readName_t2 (dk_X5 ac)) (K : nd_Ki p l e (headSpec ow_dm_X5_readName_t2 ({ frames := 1, cells := 0, slots := 0, locals := 23 })).room s m args below meth c Q A (dC, dI) cX5_readName .int (St × (St × (St × (St)))) (dw_X5 a ac) r) {g14 : Int32 → Int32 → Int32 → Int32 → Int32 → (St × (St × (St × (St)))) → Option (Int32 × (St × (St × (St × (St)))))} (J14 : dj_X5_readName_t2_14 p l e s m args below meth c Q A dC dI a ac g14 r) : dj_X5_readName_t2_14 p l e s m args below meth c Q A dC dI a ac (dF_X5_readName_t2_14 n g14) r := by
  obtain ⟨hlt, hx, hb, hml, hown, hts, hN, hA, hK⟩ := id C
  intro x1 x2 x4 x5 x6 s0 H locs ls h hP hD hS hl
  unfold dF_X5_readName_t2_14 at h
  refine lv_iload hx hb dX5_readName_14 (lv_at hl 6 rfl) ?_
  refine lv_aload_n hx hb dX5_readName_16 rfl (lv_at hl 3 rfl) ?_
  refine va_alen (v := 16) hx hb hK hP 2 1 rfl rfl (show Int32.ofNat 16 = 16 by decide) dX5_readName_17 ?_
  refine lv_icmp_ge (tgt := 110) hx hb dX5_readName_18 (by decide) (fun c2 => ?_) (fun c2 => ?_)
  · have h := nd_pos h c2
    exact (db_X5_readName_t2_110 C K) (x4) (x5) s0 _ _ _ h hP hD hS (lv_sub hl [4, 5] rfl)
  · have h := nd_neg h c2
    refine lv_iload hx hb dX5_readName_21 (lv_at hl 4 rfl) ?_
    refine lv_if_ge (tgt := 110) hx hb dX5_readName_23 (by decide) (fun c5 => ?_) (fun c5 => ?_)
    · have h := nd_pos h c5
      exact (db_X5_readName_t2_110 C K) (x4) (x5) s0 _ _ _ h hP hD hS (lv_sub hl [4, 5] rfl)
    · have h := nd_neg h c5
      refine lv_aload_n hx hb dX5_readName_26 rfl (lv_at hl 0 rfl) ?_
      refine va_get (D := (dC, dI)) (ci := 6) (v := .ref (a 4)) (C := RX5) (T := TX5) (N := 8) hx hb hts hi_dm_X5_readName_t2_X5 hown hK hP 0 rfl rfl 0 (by decide) (hts (.fieldLink RX5 18 "TimeMachine$Kernel" "machine" "LTimeMachine$Machine;") (List.mem_of_getElem? (i := 4) rfl)) (fun _ h9 => h9) rfl dX5_readName_27 ?_
      refine lv_iload_n hx hb dX5_readName_30 rfl (lv_at hl 1 rfl) ?_
      refine lv_iload_n hx hb dX5_readName_31 rfl (lv_at hl 2 rfl) ?_
      refine lv_iload hx hb dX5_readName_32 (lv_at hl 6 rfl) ?_
      refine lv_iadd hx hb dX5_readName_34 ?_
      refine lv_iconst (v := 1) hx hb dX5_readName_35 (by decide) ?_
      obtain ⟨q6, s7, hq, h⟩ := nd_b2_e h
      have hPc := dp_X5_4 hP
      have hDc := dd_X5_4 hD
      have hKc := dy_X5_4 hK
      have hFc := nd_rs hDc hS hA
      have hzA : ∀ q : Nat, H.size ≤ q → A q := fun q h => hA q (Nat.le_trans hS.1 h)
      refine nd_cVi (As := [.int x1, .int (x2 + x6), .int 1]) (rest := []) (q := q6) (w' := dw_X6 (fun k => a (k + 4)) (fun k => ac (k + 4)) s7) ⟨hx, hb, hml, hown, hts⟩ (fun sz => dm_X6_may l hlt dC dI (fun k => a (k + 4)) (fun k => ac (k + 4)) n (x1) ((x2 + x6)) (1) s0.2.2 hq sz) (cwV 3 hts gi_dm_X5_readName_t2_1 rfl rfl rfl (by decide +kernel) ⟨Nat.le_of_ble_eq_true rfl, Nat.le_of_ble_eq_true rfl⟩) hPc hDc hKc hS hA hN (va_recv hKc hPc (ci := 7) (q0 := 0) rfl rfl) rfl hl.1 rfl (Nat.le_of_ble_eq_true rfl) dX5_readName_36 (fun H locs hP1 hD1 hk1 hS => ?_)
      obtain ⟨hP, hD⟩ := dn_X5_4 hP hD hzA hk1 hP1 hD1
      obtain ⟨s9, es9, h⟩ := nd_let_e h
      have hP : va_P (dC, dI) vwCl (dw_X5 a ac s9) H := by rw [es9]; exact hP
      have hD : va_D A (dw_X5 a ac s9) := by rw [es9]; exact hD
      refine lv_if_ne (tgt := 45) hx hb dX5_readName_39 (by decide) (fun c10 => ?_) (fun c10 => ?_)
      · have h := nd_neg h c10
        refine lv_aload_n hx hb dX5_readName_45 rfl (lv_at hl 0 rfl) ?_
        refine va_get (D := (dC, dI)) (ci := 6) (v := .ref (a 4)) (C := RX5) (T := TX5) (N := 8) hx hb hts hi_dm_X5_readName_t2_X5 hown hK hP 0 rfl rfl 0 (by decide) (hts (.fieldLink RX5 18 "TimeMachine$Kernel" "machine" "LTimeMachine$Machine;") (List.mem_of_getElem? (i := 4) rfl)) (fun _ h9 => h9) rfl dX5_readName_46 ?_
        refine lv_iload_n hx hb dX5_readName_49 rfl (lv_at hl 1 rfl) ?_
        refine lv_iload_n hx hb dX5_readName_50 rfl (lv_at hl 2 rfl) ?_
        refine lv_iload hx hb dX5_readName_51 (lv_at hl 6 rfl) ?_
        refine lv_iadd hx hb dX5_readName_53 ?_
        obtain ⟨q11, s12, hq, h⟩ := nd_b2_e h
        have hPc := dp_X5_4 hP
        have hDc := dd_X5_4 hD
        have hKc := dy_X5_4 hK
        have hFc := nd_rs hDc hS hA
        have hzA : ∀ q : Nat, H.size ≤ q → A q := fun q h => hA q (Nat.le_trans hS.1 h)
        refine nd_cVi (As := [.int x1, .int (x2 + x6)]) (rest := []) (q := q11) (w' := dw_X6 (fun k => a (k + 4)) (fun k => ac (k + 4)) s12) ⟨hx, hb, hml, hown, hts⟩ (fun sz => dm_X6_byteAt l hlt dC dI (fun k => a (k + 4)) (fun k => ac (k + 4)) n (x1) ((x2 + x6)) s9.2.2 hq sz) (cwV 2 hts gi_dm_X5_readName_t2_2 rfl rfl rfl (by decide +kernel) ⟨Nat.le_of_ble_eq_true rfl, Nat.le_of_ble_eq_true rfl⟩) hPc hDc hKc hS hA hN (va_recv hKc hPc (ci := 7) (q0 := 0) rfl rfl) rfl hl.1 rfl (Nat.le_of_ble_eq_true rfl) dX5_readName_54 (fun H locs hP1 hD1 hk1 hS => ?_)
        obtain ⟨hP, hD⟩ := dn_X5_4 hP hD hzA hk1 hP1 hD1
        obtain ⟨s14, es14, h⟩ := nd_let_e h
        have hP : va_P (dC, dI) vwCl (dw_X5 a ac s14) H := by rw [es14]; exact hP
        have hD : va_D A (dw_X5 a ac s14) := by rw [es14]; exact hD
        refine lv_istore (lv' := [(7, .int q11), (0, .ref (a 0)), (1, .int x1), (2, .int x2), (3, .ref (a 2)), (4, .int x4), (5, .int x5), (6, .int x6)]) hx hb dX5_readName_57 hl (by decide) rfl (fun ls hl => ?_)
        refine lv_iload hx hb dX5_readName_59 (lv_at hl 0 rfl) ?_
        refine lv_if_ne (tgt := 71) hx hb dX5_readName_61 (by decide) (fun c15 => ?_) (fun c15 => ?_)
        · have h := nd_neg h c15
          refine lv_iload hx hb dX5_readName_71 (lv_at hl 6 rfl) ?_
          refine lv_if_eq (tgt := 94) hx hb dX5_readName_73 (by decide) (fun c16 => ?_) (fun c16 => ?_)
          · have h := nd_pos h c16
            exact (db_X5_readName_t2_94 C K J14) (x1) (x2) (x4) (x6) (q11) s14 _ _ _ h hP hD hS (lv_sub hl [1, 2, 3, 4, 5, 7, 0] rfl)
          · have h := nd_neg h c16
            refine lv_iload hx hb dX5_readName_76 (lv_at hl 0 rfl) ?_
            refine lv_bipush (v := 33) hx hb dX5_readName_78 (by decide) ?_
            refine lv_icmp_lt (tgt := 94) hx hb dX5_readName_80 (by decide) (fun c20 => ?_) (fun c20 => ?_)
            · have h := nd_pos h c20
              exact (db_X5_readName_t2_94 C K J14) (x1) (x2) (x4) (x6) (q11) s14 _ _ _ h hP hD hS (lv_sub hl [1, 2, 3, 4, 5, 7, 0] rfl)
            · have h := nd_neg h c20
              refine lv_iload hx hb dX5_readName_83 (lv_at hl 0 rfl) ?_
              refine lv_bipush (v := 126) hx hb dX5_readName_85 (by decide) ?_
              refine lv_icmp_gt (tgt := 94) hx hb dX5_readName_87 (by decide) (fun c21 => ?_) (fun c21 => ?_)
              · have h := nd_pos h c21
                exact (db_X5_readName_t2_94 C K J14) (x1) (x2) (x4) (x6) (q11) s14 _ _ _ h hP hD hS (lv_sub hl [1, 2, 3, 4, 5, 7, 0] rfl)
              · have h := nd_neg h c21
                refine lv_iconst (v := 1) hx hb dX5_readName_90 (by decide) ?_
                refine lv_goto (tgt := 95) hx hb dX5_readName_91 (by decide) ?_
                exact (db_X5_readName_t2_95 C K J14) (x1) (x2) (x4) (x6) (q11) (1) s14 _ _ _ h hP hD hS (lv_sub hl [1, 2, 3, 4, 5, 7, 0] rfl)
        · have h := nd_pos h c15
          refine lv_iload hx hb dX5_readName_64 (lv_at hl 7 rfl) ?_
          refine lv_istore (lv' := [(4, .int x6), (7, .int q11), (0, .ref (a 0)), (1, .int x1), (2, .int x2), (3, .ref (a 2)), (5, .int x5), (6, .int x6)]) hx hb dX5_readName_66 hl (by decide) rfl (fun ls hl => ?_)
          refine lv_goto (tgt := 104) hx hb dX5_readName_68 (by decide) ?_
          exact (db_X5_readName_t2_104 C K J14) (x1) (x2) (x6) (x5) (x6) s14 _ _ _ h hP hD hS (lv_sub hl [2, 3, 4, 5, 0, 6, 7] rfl)
      · have h := nd_pos h c10
        refine lv_bipush (v := (-14)) hx hb dX5_readName_42 (by decide) ?_
        exact K _ _ _ _ _ _ dX5_readName_44 rfl (Option.some.inj h).symm hP hD hS
set_option maxHeartbeats 40000000 in
set_option maxRecDepth 100000 in
theorem db_X5_readName_t2_14 {p : Program} {l : Launch} {e : Env} {s : State} {m : MethodId} {args : Array Value} {below : List Frame} {meth : Method} {c : Code} {Q : State → Prop} {A : Nat → Prop} {dC : Nat → ClassId} {dI : Nat → Nat → Nat} {a : Nat → Nat} {ac : Nat → ClassId} {n : Nat} {r : Int32 × (St × (St × (St × (St))))} (C : nd_C p l s m args c A (dC, dI) cX5_readName 8 RX5 ow_dm_X5_readName_t2 (dk_X5 ac)) (K : nd_Ki p l e (headSpec ow_dm_X5_readName_t2 ({ frames := 1, cells := 0, slots := 0, locals := 23 })).room s m args below meth c Q A (dC, dI) cX5_readName .int (St × (St × (St × (St)))) (dw_X5 a ac) r) (k : Nat) : dj_X5_readName_t2_14 p l e s m args below meth c Q A dC dI a ac (df_X5_readName_t2_14 n k) r := by
  induction k with
  | zero => intro x1 x2 x4 x5 x6 s0 H locs ls h; exact nomatch (show (none : Option (Int32 × (St × (St × (St × (St)))))) = some r from h)
  | succ k ih => exact dB_X5_readName_t2_14 C K ih
set_option maxHeartbeats 40000000 in
set_option maxRecDepth 100000 in
theorem db_X5_readName_t2_0 {p : Program} {l : Launch} {e : Env} {s : State} {m : MethodId} {args : Array Value} {below : List Frame} {meth : Method} {c : Code} {Q : State → Prop} {A : Nat → Prop} {dC : Nat → ClassId} {dI : Nat → Nat → Nat} {a : Nat → Nat} {ac : Nat → ClassId} {n : Nat} {r : Int32 × (St × (St × (St × (St))))} (C : nd_C p l s m args c A (dC, dI) cX5_readName 8 RX5 ow_dm_X5_readName_t2 (dk_X5 ac)) (K : nd_Ki p l e (headSpec ow_dm_X5_readName_t2 ({ frames := 1, cells := 0, slots := 0, locals := 23 })).room s m args below meth c Q A (dC, dI) cX5_readName .int (St × (St × (St × (St)))) (dw_X5 a ac) r) : dj_X5_readName_t2_0 p l e s m args below meth c Q A dC dI a ac (df_X5_readName_t2_0 n) r := by
  obtain ⟨hlt, hx, hb, hml, hown, hts, hN, hA, hK⟩ := id C
  intro v0 v1 s0 H locs ls h hP hD hS hl
  unfold df_X5_readName_t2_0 at h
  refine lv_iconst (v := (-1)) hx hb dX5_readName_0 (by decide) ?_
  refine lv_istore (lv' := [(4, .int (-1)), (0, .ref (a 0)), (1, .int v0), (2, .int v1), (3, .ref (a 2))]) hx hb dX5_readName_1 hl (by decide) rfl (fun ls hl => ?_)
  refine lv_iconst (v := 1) hx hb dX5_readName_3 (by decide) ?_
  refine lv_istore (lv' := [(5, .int 1), (4, .int (-1)), (0, .ref (a 0)), (1, .int v0), (2, .int v1), (3, .ref (a 2))]) hx hb dX5_readName_4 hl (by decide) rfl (fun ls hl => ?_)
  refine lv_aload_n hx hb dX5_readName_6 rfl (lv_at hl 5 rfl) ?_
  refine lv_iconst (v := 0) hx hb dX5_readName_7 (by decide) ?_
  have hcl : (dw_X5 a ac s0)[2]? = some ((a 2), .inl (ac 2, 16, .inl (sR s0.1 1))) := rfl
  have hPc := nd_c1 hP hcl
  have hDc := nd_cd hD hcl
  have hKc : va_K (dC, dI) vwCl [(ac 2, .byte)] s := hK.sub [1] rfl
  have hFc := nd_rs hDc hS hA
  refine va_callv (va_runS (As := [.ref (a 2), .int 0]) (rest := []) ⟨hx, hb, hml, hown, hts⟩ (dm_J7_fill_031fb l hlt dC dI (a 2) (ac 2) 16 (by decide) (sR s0.1 1) 0 _) (va_cwS 2 hts gi_dm_X5_readName_t2_0 rfl rfl rfl (by decide +kernel) ⟨Nat.le_of_ble_eq_true rfl, Nat.le_of_ble_eq_true rfl⟩) ⟨fun a U g mk q => by obtain ⟨q0, q1, qP, qK, qD, qN⟩ := q; exact ⟨q0, q1, qP, va_K.moved (u := U) (U := U.calling g mk a) (Vm.Alike.refl U.vm) qK, qD, nv_same rfl rfl qN⟩, fun U hU hW => ⟨rfl, by rw [hU], by rw [hU]; exact hPc, va_K.moved hW.alike hKc, hDc.weaken (fun _ _ _ _ => trivial), nv_call hS hFc hU hW hN⟩⟩ rfl rfl hl.1 rfl (lv_room (Nat.le_of_ble_eq_true rfl)) dX5_readName_8 ⟨by decide +kernel, by decide +kernel⟩) hS (fun q _ h => hFc q h) hFc (fun u t H locs ht hvm hw hB hz1 hk1 hS => ?_)
  obtain ⟨hP1, -, hD1⟩ := hB
  rw [ht] at hP1
  have hP := nd_cs hP hD hcl hk1 hP1
  have hD := hD.set (e := .inl (ac 2, 16, .inl (nd_fl 16 (vp_nar .byte 0) (sR s0.1 1)))) hcl
  refine W.widen (k := 0) (n := 0) (Nat.le_refl _) (Nat.le_refl _) ?_
  obtain ⟨s1, es1, h⟩ := nd_let_e h
  have hP : va_P (dC, dI) vwCl (dw_X5 a ac s1) H := by rw [es1]; exact hP
  have hD : va_D A (dw_X5 a ac s1) := by rw [es1]; exact hD
  refine lv_iconst (v := 0) hx hb dX5_readName_11 (by decide) ?_
  refine lv_istore (lv' := [(6, .int 0), (5, .int 1), (4, .int (-1)), (0, .ref (a 0)), (1, .int v0), (2, .int v1), (3, .ref (a 2))]) hx hb dX5_readName_12 hl (by decide) rfl (fun ls hl => ?_)
  exact (db_X5_readName_t2_14 C K n) (v0) (v1) ((-1)) (1) (0) s1 _ _ _ h hP hD hS (lv_sub hl [3, 4, 5, 6, 2, 1, 0] rfl)
set_option maxHeartbeats 40000000 in
set_option maxRecDepth 100000 in
theorem dm_X5_readName_t2 (l : Launch) (hlt : l.stackTraces = false) (dC : Nat → ClassId) (dI : Nat → Nat → Nat) (a : Nat → Nat) (ac : Nat → ClassId) (n : Nat) (v0 : Int32) (v1 : Int32) (s0 : St × (St × (St × (St)))) {r : Int32 × (St × (St × (St × (St))))} (h : df_X5_readName_t2 n v0 v1 s0 = some r) (sz : Nat) : Met l yX5_readName ow_dm_X5_readName_t2 ({ frames := 1, cells := 0, slots := 0, locals := 23 }) (va_Pc [.ref (a 0), .int v0, .int v1, .ref (a 2)] (fun U => U.heap.size = sz ∧ va_P (dC, dI) vwCl (dw_X5 a ac s0) U.heap ∧ va_K (dC, dI) vwCl (dk_X5 ac) U ∧ va_D (fun _ => True) (dw_X5 a ac s0) ∧ nv_E (va_A (dw_X5 a ac s0) sz) U)) (va_Qi (fun x _ => x = r.1) (fun (_ : Unit) t => va_P (dC, dI) vwCl (dw_X5 a ac r.2) t.heap ∧ va_K (dC, dI) vwCl (dk_X5 ac) t ∧ va_D (va_A (dw_X5 a ac s0) sz) (dw_X5 a ac r.2)) (va_A (dw_X5 a ac s0) sz)) 0 0 (va_A (dw_X5 a ac s0) sz) := by
  refine Met.ofW (cc := cX5_readName) (maxL := 8) (ret := (some .int)) (by decide) rfl ?_
  intro p e s m args below meth c s₁ B hml hv
  obtain ⟨rfl, hsz, hP, hK, hD0, hN⟩ := hv
  have hx := B.exec
  have hb := B.bytes
  have hr := B.returns
  have hts := atoms_spec (ws := ow_dm_X5_readName_t2) B.pre
  have hown : s.vm.findClass RX5 = some m.cls := findClass_of_methodNamed B.named
  have hlocks := B.notSynchronized
  subst hsz
  have hD := hD0.self (sz := s.heap.size)
  generalize hAe : va_A (dw_X5 a ac s0) s.heap.size = A at hD hN ⊢
  have hA : ∀ q : Nat, s.heap.size ≤ q → A q := fun q h => by rw [← hAe]; exact Or.inr h
  have hl := lv_entry ([.ref (a 0), .int v0, .int v1, .ref (a 2)]) (n := 8) (Nat.le_of_ble_eq_true rfl)
  rw [lg_entry_eq]
  generalize (lg_sl ([.ref (a 0), .int v0, .int v1, .ref (a 2)]) ++ List.replicate (8 - (lg_sl ([.ref (a 0), .int v0, .int v1, .ref (a 2)])).length) Slot.unset).toArray = ls at hl ⊢
  have hl : lv_has ls 8 [(0, .ref (a 0)), (1, .int v0), (2, .int v1), (3, .ref (a 2))] := hl
  exact db_X5_readName_t2_0 (dC := dC) (dI := dI) (a := a) (ac := ac) (n := n) (r := r) ⟨hlt, hx, hb, hml, hown, hts, hN, hA, hK⟩ (fun pc v τ H locs ls d z er hP hD hS => by subst er; exact W.zret (v := v) hx hb hr z (fun t ht hW => ⟨⟨v, (), rfl, rfl, by rw [ht]; exact hP, va_K.moved hW.alike hK, hD⟩, hS.F ht⟩) hS.2.2 d) v0 v1 s0 _ _ _ h hP hD va_S.rf (lv_sub hl [0, 1, 2, 3] rfl)
set_option maxHeartbeats 40000000 in
set_option maxRecDepth 100000 in
theorem dp_vX5_X10n_1 {D : va_G} {H : Heap} {a : Nat → Nat} {ac : Nat → ClassId} {σ : St × (St × (St × (St)))} (h : va_P D vwCl (dw_X5 a ac σ) H) : va_P D vwCl (dw_X10n (fun k => a (nd_ix [2, 14, 15, 16, 17, 18, 19, 20, 21, 22, 23] k)) (fun k => ac (nd_ix [2, 14, 15, 16, 17, 18, 19, 20, 21, 22, 23] k)) ((pR nd_st0 0 (sR σ.1 1)), σ.2.2.2)) H := h.sub [2, 14, 15, 16, 17, 18, 19, 20, 21, 22, 23] rfl
set_option maxHeartbeats 40000000 in
set_option maxRecDepth 100000 in
theorem dd_vX5_X10n_1 {A : Nat → Prop} {a : Nat → Nat} {ac : Nat → ClassId} {σ : St × (St × (St × (St)))} (h : va_D A (dw_X5 a ac σ)) : va_D A (dw_X10n (fun k => a (nd_ix [2, 14, 15, 16, 17, 18, 19, 20, 21, 22, 23] k)) (fun k => ac (nd_ix [2, 14, 15, 16, 17, 18, 19, 20, 21, 22, 23] k)) ((pR nd_st0 0 (sR σ.1 1)), σ.2.2.2)) := h.sub [2, 14, 15, 16, 17, 18, 19, 20, 21, 22, 23] (by decide) rfl
set_option maxHeartbeats 40000000 in
set_option maxRecDepth 100000 in
theorem dy_vX5_X10n_1 {D : va_G} {U : State} {ac : Nat → ClassId} (h : va_K D vwCl (dk_X5 ac) U) : va_K D vwCl (dk_X10n (fun k => ac (nd_ix [2, 14, 15, 16, 17, 18, 19, 20, 21, 22, 23] k))) U := h.sub [1, 11, 12, 13, 14, 15, 16, 17, 18, 19] rfl
set_option maxHeartbeats 40000000 in
set_option maxRecDepth 100000 in
theorem dn_vX5_X10n_1 {A0 : Nat → Prop} {D : va_G} {H H1 : Heap} {a : Nat → Nat} {ac : Nat → ClassId} {σ : St × (St × (St × (St)))} {τ : St × (St)} (hP : va_P D vwCl (dw_X5 a ac σ) H) (hD : va_D A0 (dw_X5 a ac σ)) (hA : ∀ q : Nat, H.size ≤ q → A0 q) (hk : ∀ q : Nat, q < H.size → ¬ va_A (dw_X10n (fun k => a (nd_ix [2, 14, 15, 16, 17, 18, 19, 20, 21, 22, 23] k)) (fun k => ac (nd_ix [2, 14, 15, 16, 17, 18, 19, 20, 21, 22, 23] k)) ((pR nd_st0 0 (sR σ.1 1)), σ.2.2.2)) H.size q → H1[q]? = H[q]?) (h1 : va_P D vwCl (dw_X10n (fun k => a (nd_ix [2, 14, 15, 16, 17, 18, 19, 20, 21, 22, 23] k)) (fun k => ac (nd_ix [2, 14, 15, 16, 17, 18, 19, 20, 21, 22, 23] k)) τ) H1) (h2 : va_D (va_A (dw_X10n (fun k => a (nd_ix [2, 14, 15, 16, 17, 18, 19, 20, 21, 22, 23] k)) (fun k => ac (nd_ix [2, 14, 15, 16, 17, 18, 19, 20, 21, 22, 23] k)) ((pR nd_st0 0 (sR σ.1 1)), σ.2.2.2)) H.size) (dw_X10n (fun k => a (nd_ix [2, 14, 15, 16, 17, 18, 19, 20, 21, 22, 23] k)) (fun k => ac (nd_ix [2, 14, 15, 16, 17, 18, 19, 20, 21, 22, 23] k)) τ)) : va_P D vwCl (dw_X5 a ac (((pR σ.1 1 (sR τ.1 0)), σ.2).1, (((pR σ.1 1 (sR τ.1 0)), σ.2).2.1, (((pR σ.1 1 (sR τ.1 0)), σ.2).2.2.1, τ.2)))) H1 ∧ va_D A0 (dw_X5 a ac (((pR σ.1 1 (sR τ.1 0)), σ.2).1, (((pR σ.1 1 (sR τ.1 0)), σ.2).2.1, (((pR σ.1 1 (sR τ.1 0)), σ.2).2.2.1, τ.2)))) := by
  obtain ⟨h1, h2⟩ := va_join (wr := [0, 1, 3, 4, 5, 6, 7, 8, 9, 10, 11, 12, 13].filterMap (fun i => (dw_X5 a ac σ)[i]?)) hP hD [2, 14, 15, 16, 17, 18, 19, 20, 21, 22, 23] [0, 1, 3, 4, 5, 6, 7, 8, 9, 10, 11, 12, 13] rfl rfl (by decide) (by decide) hk (nd_rq (dd_vX5_X10n_1 hD) hA) h1 h2
  exact ⟨h1.sub [0, 1, 13, 2, 3, 4, 5, 6, 7, 8, 9, 10, 11, 12, 14, 15, 16, 17, 18, 19, 20, 21, 22, 23] rfl, h2.sub [0, 1, 13, 2, 3, 4, 5, 6, 7, 8, 9, 10, 11, 12, 14, 15, 16, 17, 18, 19, 20, 21, 22, 23] (by decide) rfl⟩
def ow_dm_X5_rename : List Cond := .code yX5_rename cX5_rename 7 (some .long) :: ([.fieldLink RX5 9 "TimeMachine$Kernel" "name" "[B", .methodLink RX5 342 yX5_readName, .instanceMethod yX5_readName, .selects RX5 yX5_readName yX5_readName, .initialized RX5, .fieldLink RX5 28 "TimeMachine$Kernel" "things" "LTimeMachine$Things;", .methodLink RX5 346 yX10_fileNamed, .instanceMethod yX10_fileNamed, .selects RX10 yX10_fileNamed yX10_fileNamed, .initialized RX10, .fieldLink RX5 15 "TimeMachine$Kernel" "otherName" "[B", .methodLink RX5 355 yX10_giveName, .instanceMethod yX10_giveName, .selects RX10 yX10_giveName yX10_giveName, .methodLink RX5 362 yX10_loseName, .instanceMethod yX10_loseName, .selects RX10 yX10_loseName yX10_loseName, .constantLong RX5 230 (-2)] ++ (u_ws RX5 TX5 8 ++ (ow_dm_X5_readName_t1 ++ (ow_dm_X10_fileNamed ++ (ow_dm_X10_giveName ++ (ow_dm_X10_loseName ++ (ow_dm_X5_readName_t2 ++ [])))))))
theorem gd_dm_X5_rename : ∀ w ∈ ow_dm_X5_rename, (w.onTables && w.keeps) = true ∨ ∃ ty, w = Cond.arrayClass ty := List.forall_mem_cons.mpr ⟨good_of_word rfl, List.forall_mem_append.mpr ⟨fun w h => good_of_word (List.all_eq_true.mp (by decide +kernel) w h), List.forall_mem_append.mpr ⟨gu_X5, List.forall_mem_append.mpr ⟨gd_dm_X5_readName_t1, List.forall_mem_append.mpr ⟨gd_dm_X10_fileNamed, List.forall_mem_append.mpr ⟨gd_dm_X10_giveName, List.forall_mem_append.mpr ⟨gd_dm_X10_loseName, List.forall_mem_append.mpr ⟨gd_dm_X5_readName_t2, fun _ h => nomatch h⟩⟩⟩⟩⟩⟩⟩⟩
theorem hi_dm_X5_rename_X5 : ∀ w ∈ u_ws RX5 TX5 8, w ∈ ow_dm_X5_rename := fun w h => List.mem_cons_of_mem _ (List.mem_append_right _ (List.mem_append_left _ h))
theorem gi_dm_X5_rename_0 : GoodIn ow_dm_X5_rename (wsV RX5 342 RX5 yX5_readName ow_dm_X5_readName_t1) := goodIn_app (goodIn_of _ (by decide +kernel)) (fun w h => ⟨List.mem_cons_of_mem _ (List.mem_append_right _ (List.mem_append_right _ (List.mem_append_left _ h))), gd_dm_X5_readName_t1 w h⟩)
theorem gi_dm_X5_rename_1 : GoodIn ow_dm_X5_rename (wsV RX5 346 RX10 yX10_fileNamed ow_dm_X10_fileNamed) := goodIn_app (goodIn_of _ (by decide +kernel)) (fun w h => ⟨List.mem_cons_of_mem _ (List.mem_append_right _ (List.mem_append_right _ (List.mem_append_right _ (List.mem_append_left _ h)))), gd_dm_X10_fileNamed w h⟩)
theorem gi_dm_X5_rename_2 : GoodIn ow_dm_X5_rename (wsV RX5 355 RX10 yX10_giveName ow_dm_X10_giveName) := goodIn_app (goodIn_of _ (by decide +kernel)) (fun w h => ⟨List.mem_cons_of_mem _ (List.mem_append_right _ (List.mem_append_right _ (List.mem_append_right _ (List.mem_append_right _ (List.mem_append_left _ h))))), gd_dm_X10_giveName w h⟩)
theorem gi_dm_X5_rename_3 : GoodIn ow_dm_X5_rename (wsV RX5 362 RX10 yX10_loseName ow_dm_X10_loseName) := goodIn_app (goodIn_of _ (by decide +kernel)) (fun w h => ⟨List.mem_cons_of_mem _ (List.mem_append_right _ (List.mem_append_right _ (List.mem_append_right _ (List.mem_append_right _ (List.mem_append_right _ (List.mem_append_left _ h)))))), gd_dm_X10_loseName w h⟩)
theorem gi_dm_X5_rename_4 : GoodIn ow_dm_X5_rename (wsV RX5 342 RX5 yX5_readName ow_dm_X5_readName_t2) := goodIn_app (goodIn_of _ (by decide +kernel)) (fun w h => ⟨List.mem_cons_of_mem _ (List.mem_append_right _ (List.mem_append_right _ (List.mem_append_right _ (List.mem_append_right _ (List.mem_append_right _ (List.mem_append_right _ (List.mem_append_left _ h))))))), gd_dm_X5_readName_t2 w h⟩)
def dj_X5_rename_87 (p : Program) (l : Launch) (e : Env) (s : State) (m : MethodId) (args : Array Value) (below : List Frame) (meth : Method) (c : Code) (Q : State → Prop) (A : Nat → Prop) (dC : Nat → ClassId) (dI : Nat → Nat → Nat) (a : Nat → Nat) (ac : Nat → ClassId) (g : Int32 → (St × (St × (St × (St)))) → Option (Int64 × (St × (St × (St × (St)))))) (r : Int64 × (St × (St × (St × (St))))) : Prop := ∀ (x5 : Int32) (s0 : St × (St × (St × (St)))) (H : Heap) (locs : List Loc) (ls : Array Slot), g x5 s0 = some r → va_P (dC, dI) vwCl (dw_X5 a ac s0) H → va_D A (dw_X5 a ac s0) → va_S A s.heap H locs → lv_has ls 7 [(0, .ref (a 0)), (5, .int x5)] → W p l e (headSpec ow_dm_X5_rename ({ frames := 2, cells := 0, slots := 0, locals := 62 })).room s m args below meth c H locs 0 0 Q (F0 m 87 ls [])
def dj_X5_rename_29 (p : Program) (l : Launch) (e : Env) (s : State) (m : MethodId) (args : Array Value) (below : List Frame) (meth : Method) (c : Code) (Q : State → Prop) (A : Nat → Prop) (dC : Nat → ClassId) (dI : Nat → Nat → Nat) (a : Nat → Nat) (ac : Nat → ClassId) (g : Int32 → (St × (St × (St × (St)))) → Option (Int64 × (St × (St × (St × (St)))))) (r : Int64 × (St × (St × (St × (St))))) : Prop := ∀ (x4 : Int32) (s0 : St × (St × (St × (St)))) (H : Heap) (locs : List Loc) (ls : Array Slot), g x4 s0 = some r → va_P (dC, dI) vwCl (dw_X5 a ac s0) H → va_D A (dw_X5 a ac s0) → va_S A s.heap H locs → lv_has ls 7 [(0, .ref (a 0)), (4, .int x4)] → W p l e (headSpec ow_dm_X5_rename ({ frames := 2, cells := 0, slots := 0, locals := 62 })).room s m args below meth c H locs 0 0 Q (F0 m 29 ls [])
def dj_X5_rename_0 (p : Program) (l : Launch) (e : Env) (s : State) (m : MethodId) (args : Array Value) (below : List Frame) (meth : Method) (c : Code) (Q : State → Prop) (A : Nat → Prop) (dC : Nat → ClassId) (dI : Nat → Nat → Nat) (a : Nat → Nat) (ac : Nat → ClassId) (g : Int32 → Int32 → Int32 → (St × (St × (St × (St)))) → Option (Int64 × (St × (St × (St × (St)))))) (r : Int64 × (St × (St × (St × (St))))) : Prop := ∀ (v0 : Int32) (v1 : Int32) (v2 : Int32) (s0 : St × (St × (St × (St)))) (H : Heap) (locs : List Loc) (ls : Array Slot), g v0 v1 v2 s0 = some r → va_P (dC, dI) vwCl (dw_X5 a ac s0) H → va_D A (dw_X5 a ac s0) → va_S A s.heap H locs → lv_has ls 7 [(0, .ref (a 0)), (1, .int v0), (2, .int v1), (3, .int v2)] → W p l e (headSpec ow_dm_X5_rename ({ frames := 2, cells := 0, slots := 0, locals := 62 })).room s m args below meth c H locs 0 0 Q (F0 m 0 ls [])
set_option maxHeartbeats 40000000 in
set_option maxRecDepth 100000 in
theorem db_X5_rename_87 {p : Program} {l : Launch} {e : Env} {s : State} {m : MethodId} {args : Array Value} {below : List Frame} {meth : Method} {c : Code} {Q : State → Prop} {A : Nat → Prop} {dC : Nat → ClassId} {dI : Nat → Nat → Nat} {a : Nat → Nat} {ac : Nat → ClassId} {n : Nat} {r : Int64 × (St × (St × (St × (St))))} (C : nd_C p l s m args c A (dC, dI) cX5_rename 7 RX5 ow_dm_X5_rename (dk_X5 ac)) (K : nd_Kl p l e (headSpec ow_dm_X5_rename ({ frames := 2, cells := 0, slots := 0, locals := 62 })).room s m args below meth c Q A (dC, dI) cX5_rename (St × (St × (St × (St)))) (dw_X5 a ac) r) : dj_X5_rename_87 p l e s m args below meth c Q A dC dI a ac (df_X5_rename_87 n) r := by
  obtain ⟨hlt, hx, hb, hml, hown, hts, hN, hA, hK⟩ := id C
  intro x5 s0 H locs ls h hP hD hS hl
  unfold df_X5_rename_87 at h
  refine lv_aload_n hx hb dX5_rename_87 rfl (lv_at hl 0 rfl) ?_
  refine va_get (D := (dC, dI)) (ci := 6) (v := .ref (a 14)) (C := RX5) (T := TX5) (N := 8) hx hb hts hi_dm_X5_rename_X5 hown hK hP 0 rfl rfl 1 (by decide) (hts (.fieldLink RX5 28 "TimeMachine$Kernel" "things" "LTimeMachine$Things;") (List.mem_of_getElem? (i := 6) rfl)) (fun _ h9 => h9) rfl dX5_rename_88 ?_
  refine lv_iload hx hb dX5_rename_91 (lv_at hl 1 rfl) ?_
  refine lv_aload_n hx hb dX5_rename_93 rfl (lv_at hl 0 rfl) ?_
  refine va_get (D := (dC, dI)) (ci := 6) (v := .ref (a 2)) (C := RX5) (T := TX5) (N := 8) hx hb hts hi_dm_X5_rename_X5 hown hK hP 0 rfl rfl 7 (by decide) (hts (.fieldLink RX5 15 "TimeMachine$Kernel" "otherName" "[B") (List.mem_of_getElem? (i := 11) rfl)) (fun _ h9 => h9) rfl dX5_rename_94 ?_
  obtain ⟨s17, hq, h⟩ := nd_b1_e h
  have hPc := dp_vX5_X10n_1 hP
  have hDc := dd_vX5_X10n_1 hD
  have hKc := dy_vX5_X10n_1 hK
  have hFc := nd_rs hDc hS hA
  have hzA : ∀ q : Nat, H.size ≤ q → A q := fun q h => hA q (Nat.le_trans hS.1 h)
  refine nd_cVv (As := [.int x5, .ref (a 2)]) (rest := []) (w' := dw_X10n (fun k => a (nd_ix [2, 14, 15, 16, 17, 18, 19, 20, 21, 22, 23] k)) (fun k => ac (nd_ix [2, 14, 15, 16, 17, 18, 19, 20, 21, 22, 23] k)) s17) ⟨hx, hb, hml, hown, hts⟩ (fun sz => dm_X10_giveName l hlt dC dI (fun k => a (nd_ix [2, 14, 15, 16, 17, 18, 19, 20, 21, 22, 23] k)) (fun k => ac (nd_ix [2, 14, 15, 16, 17, 18, 19, 20, 21, 22, 23] k)) n (x5) ((pR nd_st0 0 (sR s0.1 1)), s0.2.2.2) hq sz) (cwV 2 hts gi_dm_X5_rename_2 rfl rfl rfl (by decide +kernel) ⟨Nat.le_of_ble_eq_true rfl, Nat.le_of_ble_eq_true rfl⟩) hPc hDc hKc hS hA hN (va_recv hKc hPc (ci := 11) (q0 := 1) rfl rfl) rfl hl.1 rfl (Nat.le_of_ble_eq_true rfl) dX5_rename_97 (fun H locs hP1 hD1 hk1 hS => ?_)
  obtain ⟨hP, hD⟩ := dn_vX5_X10n_1 hP hD hzA hk1 hP1 hD1
  obtain ⟨s19, es19, h⟩ := nd_let_e h
  have hP : va_P (dC, dI) vwCl (dw_X5 a ac s19) H := by rw [es19]; exact hP
  have hD : va_D A (dw_X5 a ac s19) := by rw [es19]; exact hD
  refine lv_lconst (v := 0) hx hb dX5_rename_100 (by decide) ?_
  exact K _ _ _ _ _ _ dX5_rename_101 (Option.some.inj h).symm hP hD hS
set_option maxHeartbeats 40000000 in
set_option maxRecDepth 100000 in
theorem db_X5_rename_29 {p : Program} {l : Launch} {e : Env} {s : State} {m : MethodId} {args : Array Value} {below : List Frame} {meth : Method} {c : Code} {Q : State → Prop} {A : Nat → Prop} {dC : Nat → ClassId} {dI : Nat → Nat → Nat} {a : Nat → Nat} {ac : Nat → ClassId} {n : Nat} {r : Int64 × (St × (St × (St × (St))))} (C : nd_C p l s m args c A (dC, dI) cX5_rename 7 RX5 ow_dm_X5_rename (dk_X5 ac)) (K : nd_Kl p l e (headSpec ow_dm_X5_rename ({ frames := 2, cells := 0, slots := 0, locals := 62 })).room s m args below meth c Q A (dC, dI) cX5_rename (St × (St × (St × (St)))) (dw_X5 a ac) r) : dj_X5_rename_29 p l e s m args below meth c Q A dC dI a ac (df_X5_rename_29 n) r := by
  obtain ⟨hlt, hx, hb, hml, hown, hts, hN, hA, hK⟩ := id C
  intro x4 s0 H locs ls h hP hD hS hl
  unfold df_X5_rename_29 at h
  refine lv_iload hx hb dX5_rename_29 (lv_at hl 1 rfl) ?_
  refine lv_if_eq (tgt := 38) hx hb dX5_rename_31 (by decide) (fun c5 => ?_) (fun c5 => ?_)
  · have h := nd_pos h c5
    refine lv_aload_n hx hb dX5_rename_38 rfl (lv_at hl 0 rfl) ?_
    refine va_get (D := (dC, dI)) (ci := 6) (v := .ref (a 14)) (C := RX5) (T := TX5) (N := 8) hx hb hts hi_dm_X5_rename_X5 hown hK hP 0 rfl rfl 1 (by decide) (hts (.fieldLink RX5 28 "TimeMachine$Kernel" "things" "LTimeMachine$Things;") (List.mem_of_getElem? (i := 6) rfl)) (fun _ h9 => h9) rfl dX5_rename_39 ?_
    refine lv_aload_n hx hb dX5_rename_42 rfl (lv_at hl 0 rfl) ?_
    refine va_get (D := (dC, dI)) (ci := 6) (v := .ref (a 1)) (C := RX5) (T := TX5) (N := 8) hx hb hts hi_dm_X5_rename_X5 hown hK hP 0 rfl rfl 6 (by decide) (hts (.fieldLink RX5 9 "TimeMachine$Kernel" "name" "[B") (List.mem_of_getElem? (i := 1) rfl)) (fun _ h9 => h9) rfl dX5_rename_43 ?_
    obtain ⟨q6, s7, hq, h⟩ := nd_b2_e h
    have hPc := dp_vX5_X10n_0 hP
    have hDc := dd_vX5_X10n_0 hD
    have hKc := dy_vX5_X10n_0 hK
    have hFc := nd_rs hDc hS hA
    have hzA : ∀ q : Nat, H.size ≤ q → A q := fun q h => hA q (Nat.le_trans hS.1 h)
    refine nd_cVi (As := [.ref (a 1)]) (rest := []) (q := q6) (w' := dw_X10n (fun k => a (nd_ix [1, 14, 15, 16, 17, 18, 19, 20, 21, 22, 23] k)) (fun k => ac (nd_ix [1, 14, 15, 16, 17, 18, 19, 20, 21, 22, 23] k)) s7) ⟨hx, hb, hml, hown, hts⟩ (fun sz => dm_X10_fileNamed l hlt dC dI (fun k => a (nd_ix [1, 14, 15, 16, 17, 18, 19, 20, 21, 22, 23] k)) (fun k => ac (nd_ix [1, 14, 15, 16, 17, 18, 19, 20, 21, 22, 23] k)) n  ((pR nd_st0 0 (sR s0.1 0)), s0.2.2.2) hq sz) (cwV 1 hts gi_dm_X5_rename_1 rfl rfl rfl (by decide +kernel) ⟨Nat.le_of_ble_eq_true rfl, Nat.le_of_ble_eq_true rfl⟩) hPc hDc hKc hS hA hN (va_recv hKc hPc (ci := 11) (q0 := 1) rfl rfl) rfl hl.1 rfl (Nat.le_of_ble_eq_true rfl) dX5_rename_46 (fun H locs hP1 hD1 hk1 hS => ?_)
    obtain ⟨hP, hD⟩ := dn_vX5_X10n_0 hP hD hzA hk1 hP1 hD1
    obtain ⟨s9, es9, h⟩ := nd_let_e h
    have hP : va_P (dC, dI) vwCl (dw_X5 a ac s9) H := by rw [es9]; exact hP
    have hD : va_D A (dw_X5 a ac s9) := by rw [es9]; exact hD
    refine lv_istore (lv' := [(5, .int q6), (0, .ref (a 0)), (4, .int x4)]) hx hb dX5_rename_49 hl (by decide) rfl (fun ls hl => ?_)
    refine lv_iload hx hb dX5_rename_51 (lv_at hl 0 rfl) ?_
    refine lv_if_ge (tgt := 60) hx hb dX5_rename_53 (by decide) (fun c10 => ?_) (fun c10 => ?_)
    · have h := nd_pos h c10
      refine lv_aload_n hx hb dX5_rename_60 rfl (lv_at hl 1 rfl) ?_
      refine va_get (D := (dC, dI)) (ci := 6) (v := .ref (a 14)) (C := RX5) (T := TX5) (N := 8) hx hb hts hi_dm_X5_rename_X5 hown hK hP 0 rfl rfl 1 (by decide) (hts (.fieldLink RX5 28 "TimeMachine$Kernel" "things" "LTimeMachine$Things;") (List.mem_of_getElem? (i := 6) rfl)) (fun _ h9 => h9) rfl dX5_rename_61 ?_
      refine lv_aload_n hx hb dX5_rename_64 rfl (lv_at hl 1 rfl) ?_
      refine va_get (D := (dC, dI)) (ci := 6) (v := .ref (a 2)) (C := RX5) (T := TX5) (N := 8) hx hb hts hi_dm_X5_rename_X5 hown hK hP 0 rfl rfl 7 (by decide) (hts (.fieldLink RX5 15 "TimeMachine$Kernel" "otherName" "[B") (List.mem_of_getElem? (i := 11) rfl)) (fun _ h9 => h9) rfl dX5_rename_65 ?_
      obtain ⟨q11, s12, hq, h⟩ := nd_b2_e h
      have hPc := dp_vX5_X10n_1 hP
      have hDc := dd_vX5_X10n_1 hD
      have hKc := dy_vX5_X10n_1 hK
      have hFc := nd_rs hDc hS hA
      have hzA : ∀ q : Nat, H.size ≤ q → A q := fun q h => hA q (Nat.le_trans hS.1 h)
      refine nd_cVi (As := [.ref (a 2)]) (rest := []) (q := q11) (w' := dw_X10n (fun k => a (nd_ix [2, 14, 15, 16, 17, 18, 19, 20, 21, 22, 23] k)) (fun k => ac (nd_ix [2, 14, 15, 16, 17, 18, 19, 20, 21, 22, 23] k)) s12) ⟨hx, hb, hml, hown, hts⟩ (fun sz => dm_X10_fileNamed l hlt dC dI (fun k => a (nd_ix [2, 14, 15, 16, 17, 18, 19, 20, 21, 22, 23] k)) (fun k => ac (nd_ix [2, 14, 15, 16, 17, 18, 19, 20, 21, 22, 23] k)) n  ((pR nd_st0 0 (sR s9.1 1)), s9.2.2.2) hq sz) (cwV 1 hts gi_dm_X5_rename_1 rfl rfl rfl (by decide +kernel) ⟨Nat.le_of_ble_eq_true rfl, Nat.le_of_ble_eq_true rfl⟩) hPc hDc hKc hS hA hN (va_recv hKc hPc (ci := 11) (q0 := 1) rfl rfl) rfl hl.1 rfl (Nat.le_of_ble_eq_true rfl) dX5_rename_68 (fun H locs hP1 hD1 hk1 hS => ?_)
      obtain ⟨hP, hD⟩ := dn_vX5_X10n_1 hP hD hzA hk1 hP1 hD1
      obtain ⟨s14, es14, h⟩ := nd_let_e h
      have hP : va_P (dC, dI) vwCl (dw_X5 a ac s14) H := by rw [es14]; exact hP
      have hD : va_D A (dw_X5 a ac s14) := by rw [es14]; exact hD
      refine lv_istore (lv' := [(6, .int q11), (5, .int q6), (0, .ref (a 0)), (4, .int x4)]) hx hb dX5_rename_71 hl (by decide) rfl (fun ls hl => ?_)
      refine lv_iload hx hb dX5_rename_73 (lv_at hl 0 rfl) ?_
      refine lv_if_lt (tgt := 87) hx hb dX5_rename_75 (by decide) (fun c15 => ?_) (fun c15 => ?_)
      · have h := nd_pos h c15
        exact (db_X5_rename_87 C K) (q6) s14 _ _ _ h hP hD hS (lv_sub hl [2, 1] rfl)
      · have h := nd_neg h c15
        refine lv_aload_n hx hb dX5_rename_78 rfl (lv_at hl 2 rfl) ?_
        refine va_get (D := (dC, dI)) (ci := 6) (v := .ref (a 14)) (C := RX5) (T := TX5) (N := 8) hx hb hts hi_dm_X5_rename_X5 hown hK hP 0 rfl rfl 1 (by decide) (hts (.fieldLink RX5 28 "TimeMachine$Kernel" "things" "LTimeMachine$Things;") (List.mem_of_getElem? (i := 6) rfl)) (fun _ h9 => h9) rfl dX5_rename_79 ?_
        refine lv_iload hx hb dX5_rename_82 (lv_at hl 0 rfl) ?_
        obtain ⟨s21, hq, h⟩ := nd_b1_e h
        have hPc := dp_X5_14 hP
        have hDc := dd_X5_14 hD
        have hKc := dy_X5_14 hK
        have hFc := nd_rs hDc hS hA
        have hzA : ∀ q : Nat, H.size ≤ q → A q := fun q h => hA q (Nat.le_trans hS.1 h)
        refine nd_cVv (As := [.int q11]) (rest := []) (w' := dw_X10 (fun k => a (k + 14)) (fun k => ac (k + 14)) s21) ⟨hx, hb, hml, hown, hts⟩ (fun sz => dm_X10_loseName l hlt dC dI (fun k => a (k + 14)) (fun k => ac (k + 14)) n (q11) s14.2.2.2 hq sz) (cwV 1 hts gi_dm_X5_rename_3 rfl rfl rfl (by decide +kernel) ⟨Nat.le_of_ble_eq_true rfl, Nat.le_of_ble_eq_true rfl⟩) hPc hDc hKc hS hA hN (va_recv hKc hPc (ci := 11) (q0 := 0) rfl rfl) rfl hl.1 rfl (Nat.le_of_ble_eq_true rfl) dX5_rename_84 (fun H locs hP1 hD1 hk1 hS => ?_)
        obtain ⟨hP, hD⟩ := dn_X5_14 hP hD hzA hk1 hP1 hD1
        obtain ⟨s23, es23, h⟩ := nd_let_e h
        have hP : va_P (dC, dI) vwCl (dw_X5 a ac s23) H := by rw [es23]; exact hP
        have hD : va_D A (dw_X5 a ac s23) := by rw [es23]; exact hD
        exact (db_X5_rename_87 C K) (q6) s23 _ _ _ h hP hD hS (lv_sub hl [2, 1] rfl)
    · have h := nd_neg h c10
      refine lv_ldc2 hx hb hown (hts (.constantLong RX5 230 (-2)) (List.mem_of_getElem? (i := 18) rfl)) dX5_rename_56 ?_
      exact K _ _ _ _ _ _ dX5_rename_59 (Option.some.inj h).symm hP hD hS
  · have h := nd_neg h c5
    refine lv_iload hx hb dX5_rename_34 (lv_at hl 1 rfl) ?_
    refine lv_i2l hx hb dX5_rename_36 rfl ?_
    exact K _ _ _ _ _ _ dX5_rename_37 (Option.some.inj h).symm hP hD hS
set_option maxHeartbeats 40000000 in
set_option maxRecDepth 100000 in
theorem db_X5_rename_0 {p : Program} {l : Launch} {e : Env} {s : State} {m : MethodId} {args : Array Value} {below : List Frame} {meth : Method} {c : Code} {Q : State → Prop} {A : Nat → Prop} {dC : Nat → ClassId} {dI : Nat → Nat → Nat} {a : Nat → Nat} {ac : Nat → ClassId} {n : Nat} {r : Int64 × (St × (St × (St × (St))))} (C : nd_C p l s m args c A (dC, dI) cX5_rename 7 RX5 ow_dm_X5_rename (dk_X5 ac)) (K : nd_Kl p l e (headSpec ow_dm_X5_rename ({ frames := 2, cells := 0, slots := 0, locals := 62 })).room s m args below meth c Q A (dC, dI) cX5_rename (St × (St × (St × (St)))) (dw_X5 a ac) r) : dj_X5_rename_0 p l e s m args below meth c Q A dC dI a ac (df_X5_rename_0 n) r := by
  obtain ⟨hlt, hx, hb, hml, hown, hts, hN, hA, hK⟩ := id C
  intro v0 v1 v2 s0 H locs ls h hP hD hS hl
  unfold df_X5_rename_0 at h
  refine lv_aload_n hx hb dX5_rename_0 rfl (lv_at hl 0 rfl) ?_
  refine lv_iload_n hx hb dX5_rename_1 rfl (lv_at hl 1 rfl) ?_
  refine lv_iload_n hx hb dX5_rename_2 rfl (lv_at hl 2 rfl) ?_
  refine lv_aload_n hx hb dX5_rename_3 rfl (lv_at hl 0 rfl) ?_
  refine va_get (D := (dC, dI)) (ci := 6) (v := .ref (a 1)) (C := RX5) (T := TX5) (N := 8) hx hb hts hi_dm_X5_rename_X5 hown hK hP 0 rfl rfl 6 (by decide) (hts (.fieldLink RX5 9 "TimeMachine$Kernel" "name" "[B") (List.mem_of_getElem? (i := 1) rfl)) (fun _ h9 => h9) rfl dX5_rename_4 ?_
  obtain ⟨q1, s2, hq, h⟩ := nd_b2_e h
  have hPc := hP
  have hDc := hD
  have hKc := hK
  have hFc := nd_rs hD hS hA
  refine nd_cVi (As := [.int v0, .int v1, .ref (a 1)]) (rest := []) (q := q1) (w' := dw_X5 a ac s2) ⟨hx, hb, hml, hown, hts⟩ (fun sz => dm_X5_readName_t1 l hlt dC dI a ac n (v0) (v1) s0 hq sz) (cwV 3 hts gi_dm_X5_rename_0 rfl rfl rfl (by decide +kernel) ⟨Nat.le_of_ble_eq_true rfl, Nat.le_of_ble_eq_true rfl⟩) hPc hDc hKc hS hA hN (va_recv hKc hPc (ci := 6) (q0 := 0) rfl rfl) rfl hl.1 rfl (Nat.le_of_ble_eq_true rfl) dX5_rename_7 (fun H locs hP1 hD1 hk1 hS => ?_)
  have hP := hP1
  have hD := hD1.weaken (fun k q _ h => hFc q.1 h)
  refine lv_istore (lv' := [(4, .int q1), (0, .ref (a 0)), (1, .int v0), (2, .int v1), (3, .int v2)]) hx hb dX5_rename_10 hl (by decide) rfl (fun ls hl => ?_)
  refine lv_iload hx hb dX5_rename_12 (lv_at hl 0 rfl) ?_
  refine lv_if_ne (tgt := 29) hx hb dX5_rename_14 (by decide) (fun c4 => ?_) (fun c4 => ?_)
  · have h := nd_neg h c4
    exact (db_X5_rename_29 C K) (q1) s2 _ _ _ h hP hD hS (lv_sub hl [1, 0] rfl)
  · have h := nd_pos h c4
    refine lv_aload_n hx hb dX5_rename_17 rfl (lv_at hl 1 rfl) ?_
    refine lv_iload_n hx hb dX5_rename_18 rfl (lv_at hl 2 rfl) ?_
    refine lv_iload_n hx hb dX5_rename_19 rfl (lv_at hl 4 rfl) ?_
    refine lv_aload_n hx hb dX5_rename_20 rfl (lv_at hl 1 rfl) ?_
    refine va_get (D := (dC, dI)) (ci := 6) (v := .ref (a 2)) (C := RX5) (T := TX5) (N := 8) hx hb hts hi_dm_X5_rename_X5 hown hK hP 0 rfl rfl 7 (by decide) (hts (.fieldLink RX5 15 "TimeMachine$Kernel" "otherName" "[B") (List.mem_of_getElem? (i := 11) rfl)) (fun _ h9 => h9) rfl dX5_rename_21 ?_
    obtain ⟨q24, s25, hq, h⟩ := nd_b2_e h
    have hPc := hP
    have hDc := hD
    have hKc := hK
    have hFc := nd_rs hD hS hA
    refine nd_cVi (As := [.int v0, .int v2, .ref (a 2)]) (rest := []) (q := q24) (w' := dw_X5 a ac s25) ⟨hx, hb, hml, hown, hts⟩ (fun sz => dm_X5_readName_t2 l hlt dC dI a ac n (v0) (v2) s2 hq sz) (cwV 3 hts gi_dm_X5_rename_4 rfl rfl rfl (by decide +kernel) ⟨Nat.le_of_ble_eq_true rfl, Nat.le_of_ble_eq_true rfl⟩) hPc hDc hKc hS hA hN (va_recv hKc hPc (ci := 6) (q0 := 0) rfl rfl) rfl hl.1 rfl (Nat.le_of_ble_eq_true rfl) dX5_rename_24 (fun H locs hP1 hD1 hk1 hS => ?_)
    have hP := hP1
    have hD := hD1.weaken (fun k q _ h => hFc q.1 h)
    refine lv_istore (lv' := [(4, .int q24), (0, .ref (a 0)), (1, .int v0), (2, .int v1), (3, .int v2)]) hx hb dX5_rename_27 hl (by decide) rfl (fun ls hl => ?_)
    exact (db_X5_rename_29 C K) (q24) s25 _ _ _ h hP hD hS (lv_sub hl [1, 0] rfl)
set_option maxHeartbeats 40000000 in
set_option maxRecDepth 100000 in
theorem dm_X5_rename (l : Launch) (hlt : l.stackTraces = false) (dC : Nat → ClassId) (dI : Nat → Nat → Nat) (a : Nat → Nat) (ac : Nat → ClassId) (n : Nat) (v0 : Int32) (v1 : Int32) (v2 : Int32) (s0 : St × (St × (St × (St)))) {r : Int64 × (St × (St × (St × (St))))} (h : df_X5_rename n v0 v1 v2 s0 = some r) (sz : Nat) : Met l yX5_rename ow_dm_X5_rename ({ frames := 2, cells := 0, slots := 0, locals := 62 }) (va_Pc [.ref (a 0), .int v0, .int v1, .int v2] (fun U => U.heap.size = sz ∧ va_P (dC, dI) vwCl (dw_X5 a ac s0) U.heap ∧ va_K (dC, dI) vwCl (dk_X5 ac) U ∧ va_D (fun _ => True) (dw_X5 a ac s0) ∧ nv_E (va_A (dw_X5 a ac s0) sz) U)) (va_Ql (fun x _ => x = r.1) (fun (_ : Unit) t => va_P (dC, dI) vwCl (dw_X5 a ac r.2) t.heap ∧ va_K (dC, dI) vwCl (dk_X5 ac) t ∧ va_D (va_A (dw_X5 a ac s0) sz) (dw_X5 a ac r.2)) (va_A (dw_X5 a ac s0) sz)) 0 0 (va_A (dw_X5 a ac s0) sz) := by
  refine Met.ofW (cc := cX5_rename) (maxL := 7) (ret := (some .long)) (by decide) rfl ?_
  intro p e s m args below meth c s₁ B hml hv
  obtain ⟨rfl, hsz, hP, hK, hD0, hN⟩ := hv
  have hx := B.exec
  have hb := B.bytes
  have hr := B.returns
  have hts := atoms_spec (ws := ow_dm_X5_rename) B.pre
  have hown : s.vm.findClass RX5 = some m.cls := findClass_of_methodNamed B.named
  have hlocks := B.notSynchronized
  subst hsz
  have hD := hD0.self (sz := s.heap.size)
  generalize hAe : va_A (dw_X5 a ac s0) s.heap.size = A at hD hN ⊢
  have hA : ∀ q : Nat, s.heap.size ≤ q → A q := fun q h => by rw [← hAe]; exact Or.inr h
  have hl := lv_entry ([.ref (a 0), .int v0, .int v1, .int v2]) (n := 7) (Nat.le_of_ble_eq_true rfl)
  rw [lg_entry_eq]
  generalize (lg_sl ([.ref (a 0), .int v0, .int v1, .int v2]) ++ List.replicate (7 - (lg_sl ([.ref (a 0), .int v0, .int v1, .int v2])).length) Slot.unset).toArray = ls at hl ⊢
  have hl : lv_has ls 7 [(0, .ref (a 0)), (1, .int v0), (2, .int v1), (3, .int v2)] := hl
  exact db_X5_rename_0 (dC := dC) (dI := dI) (a := a) (ac := ac) (n := n) (r := r) ⟨hlt, hx, hb, hml, hown, hts, hN, hA, hK⟩ (fun pc v τ H locs ls d er hP hD hS => by subst er; exact W.lret (v := v) hx hb hr (fun t ht hW => ⟨⟨v, (), rfl, rfl, by rw [ht]; exact hP, va_K.moved hW.alike hK, hD⟩, hS.F ht⟩) hS.2.2 d) v0 v1 v2 s0 _ _ _ h hP hD va_S.rf (lv_sub hl [0, 1, 2, 3] rfl)
def ow_dm_X5_grow : List Cond := .code yX5_grow cX5_grow 8 (some .long) :: ([.fieldLink RX5 37 "TimeMachine$Kernel" "self" "[I", .constantLong RX5 251 (-22), .constant RX5 372 (60416), .fieldLink RX5 18 "TimeMachine$Kernel" "machine" "LTimeMachine$Machine;", .methodLink RX5 232 yX6_framesFree, .instanceMethod yX6_framesFree, .selects RX6 yX6_framesFree yX6_framesFree, .initialized RX6, .methodLink RX5 375 yX6_addPages, .instanceMethod yX6_addPages, .selects RX6 yX6_addPages yX6_addPages, .methodLink RX5 378 yX6_dropPage, .instanceMethod yX6_dropPage, .selects RX6 yX6_dropPage yX6_dropPage, .constantLong RX5 228 (-4)] ++ (u_ws RX5 TX5 8 ++ (ow_dm_X6_framesFree ++ (ow_dm_X6_addPages ++ (ow_dm_X6_dropPage ++ [])))))
theorem gd_dm_X5_grow : ∀ w ∈ ow_dm_X5_grow, (w.onTables && w.keeps) = true ∨ ∃ ty, w = Cond.arrayClass ty := List.forall_mem_cons.mpr ⟨good_of_word rfl, List.forall_mem_append.mpr ⟨fun w h => good_of_word (List.all_eq_true.mp (by decide +kernel) w h), List.forall_mem_append.mpr ⟨gu_X5, List.forall_mem_append.mpr ⟨gd_dm_X6_framesFree, List.forall_mem_append.mpr ⟨gd_dm_X6_addPages, List.forall_mem_append.mpr ⟨gd_dm_X6_dropPage, fun _ h => nomatch h⟩⟩⟩⟩⟩⟩
theorem hi_dm_X5_grow_X5 : ∀ w ∈ u_ws RX5 TX5 8, w ∈ ow_dm_X5_grow := fun w h => List.mem_cons_of_mem _ (List.mem_append_right _ (List.mem_append_left _ h))
theorem gi_dm_X5_grow_0 : GoodIn ow_dm_X5_grow (wsV RX5 232 RX6 yX6_framesFree ow_dm_X6_framesFree) := goodIn_app (goodIn_of _ (by decide +kernel)) (fun w h => ⟨List.mem_cons_of_mem _ (List.mem_append_right _ (List.mem_append_right _ (List.mem_append_left _ h))), gd_dm_X6_framesFree w h⟩)
theorem gi_dm_X5_grow_1 : GoodIn ow_dm_X5_grow (wsV RX5 375 RX6 yX6_addPages ow_dm_X6_addPages) := goodIn_app (goodIn_of _ (by decide +kernel)) (fun w h => ⟨List.mem_cons_of_mem _ (List.mem_append_right _ (List.mem_append_right _ (List.mem_append_right _ (List.mem_append_left _ h)))), gd_dm_X6_addPages w h⟩)
theorem gi_dm_X5_grow_2 : GoodIn ow_dm_X5_grow (wsV RX5 378 RX6 yX6_dropPage ow_dm_X6_dropPage) := goodIn_app (goodIn_of _ (by decide +kernel)) (fun w h => ⟨List.mem_cons_of_mem _ (List.mem_append_right _ (List.mem_append_right _ (List.mem_append_right _ (List.mem_append_right _ (List.mem_append_left _ h))))), gd_dm_X6_dropPage w h⟩)
def dj_X5_grow_38 (p : Program) (l : Launch) (e : Env) (s : State) (m : MethodId) (args : Array Value) (below : List Frame) (meth : Method) (c : Code) (Q : State → Prop) (A : Nat → Prop) (dC : Nat → ClassId) (dI : Nat → Nat → Nat) (a : Nat → Nat) (ac : Nat → ClassId) (g : (St × (St × (St × (St)))) → Option (Int64 × (St × (St × (St × (St)))))) (r : Int64 × (St × (St × (St × (St))))) : Prop := ∀ (s0 : St × (St × (St × (St)))) (H : Heap) (locs : List Loc) (ls : Array Slot), g s0 = some r → va_P (dC, dI) vwCl (dw_X5 a ac s0) H → va_D A (dw_X5 a ac s0) → va_S A s.heap H locs → lv_has ls 8 [] → W p l e (headSpec ow_dm_X5_grow ({ frames := 1, cells := 0, slots := 0, locals := 27 })).room s m args below meth c H locs 0 0 Q (F0 m 38 ls [])
def dj_X5_grow_108 (p : Program) (l : Launch) (e : Env) (s : State) (m : MethodId) (args : Array Value) (below : List Frame) (meth : Method) (c : Code) (Q : State → Prop) (A : Nat → Prop) (dC : Nat → ClassId) (dI : Nat → Nat → Nat) (a : Nat → Nat) (ac : Nat → ClassId) (g : Int32 → Int32 → Int32 → Int32 → Int32 → (St × (St × (St × (St)))) → Option (Int64 × (St × (St × (St × (St)))))) (r : Int64 × (St × (St × (St × (St))))) : Prop := ∀ (x1 : Int32) (x2 : Int32) (x4 : Int32) (x5 : Int32) (x7 : Int32) (s0 : St × (St × (St × (St)))) (H : Heap) (locs : List Loc) (ls : Array Slot), g x1 x2 x4 x5 x7 s0 = some r → va_P (dC, dI) vwCl (dw_X5 a ac s0) H → va_D A (dw_X5 a ac s0) → va_S A s.heap H locs → lv_has ls 8 [(0, .ref (a 0)), (1, .int x1), (2, .int x2), (4, .int x4), (5, .int x5), (7, .int x7)] → W p l e (headSpec ow_dm_X5_grow ({ frames := 1, cells := 0, slots := 0, locals := 27 })).room s m args below meth c H locs 0 0 Q (F0 m 108 ls [])
def dj_X5_grow_0 (p : Program) (l : Launch) (e : Env) (s : State) (m : MethodId) (args : Array Value) (below : List Frame) (meth : Method) (c : Code) (Q : State → Prop) (A : Nat → Prop) (dC : Nat → ClassId) (dI : Nat → Nat → Nat) (a : Nat → Nat) (ac : Nat → ClassId) (g : Int32 → Int32 → (St × (St × (St × (St)))) → Option (Int64 × (St × (St × (St × (St)))))) (r : Int64 × (St × (St × (St × (St))))) : Prop := ∀ (v0 : Int32) (v1 : Int32) (s0 : St × (St × (St × (St)))) (H : Heap) (locs : List Loc) (ls : Array Slot), g v0 v1 s0 = some r → va_P (dC, dI) vwCl (dw_X5 a ac s0) H → va_D A (dw_X5 a ac s0) → va_S A s.heap H locs → lv_has ls 8 [(0, .ref (a 0)), (1, .int v0), (2, .int v1)] → W p l e (headSpec ow_dm_X5_grow ({ frames := 1, cells := 0, slots := 0, locals := 27 })).room s m args below meth c H locs 0 0 Q (F0 m 0 ls [])
set_option maxHeartbeats 40000000 in
set_option maxRecDepth 100000 in
theorem db_X5_grow_38 {p : Program} {l : Launch} {e : Env} {s : State} {m : MethodId} {args : Array Value} {below : List Frame} {meth : Method} {c : Code} {Q : State → Prop} {A : Nat → Prop} {dC : Nat → ClassId} {dI : Nat → Nat → Nat} {a : Nat → Nat} {ac : Nat → ClassId} {n : Nat} {r : Int64 × (St × (St × (St × (St))))} (C : nd_C p l s m args c A (dC, dI) cX5_grow 8 RX5 ow_dm_X5_grow (dk_X5 ac)) (K : nd_Kl p l e (headSpec ow_dm_X5_grow ({ frames := 1, cells := 0, slots := 0, locals := 27 })).room s m args below meth c Q A (dC, dI) cX5_grow (St × (St × (St × (St)))) (dw_X5 a ac) r) : dj_X5_grow_38 p l e s m args below meth c Q A dC dI a ac (df_X5_grow_38 n) r := by
  obtain ⟨hlt, hx, hb, hml, hown, hts, hN, hA, hK⟩ := id C
  intro s0 H locs ls h hP hD hS hl
  unfold df_X5_grow_38 at h
  refine lv_ldc2 hx hb hown (hts (.constantLong RX5 251 (-22)) (List.mem_of_getElem? (i := 2) rfl)) dX5_grow_38 ?_
  exact K _ _ _ _ _ _ dX5_grow_41 (Option.some.inj h).symm hP hD hS
set_option maxHeartbeats 40000000 in
set_option maxRecDepth 100000 in
theorem dB_X5_grow_108 {p : Program} {l : Launch} {e : Env} {s : State} {m : MethodId} {args : Array Value} {below : List Frame} {meth : Method} {c : Code} {Q : State → Prop} {A : Nat → Prop} {dC : Nat → ClassId} {dI : Nat → Nat → Nat} {a : Nat → Nat} {ac : Nat → ClassId} {n : Nat} {r : Int64 × (St × (St × (St × (St))))} (C : nd_C p l s m args c A (dC, dI) cX5_grow 8 RX5 ow_dm_X5_grow (dk_X5 ac)) (K : nd_Kl p l e (headSpec ow_dm_X5_grow ({ frames := 1, cells := 0, slots := 0, locals := 27 })).room s m args below meth c Q A (dC, dI) cX5_grow (St × (St × (St × (St)))) (dw_X5 a ac) r) {g108 : Int32 → Int32 → Int32 → Int32 → Int32 → (St × (St × (St × (St)))) → Option (Int64 × (St × (St × (St × (St)))))} (J108 : dj_X5_grow_108 p l e s m args below meth c Q A dC dI a ac g108 r) : dj_X5_grow_108 p l e s m args below meth c Q A dC dI a ac (dF_X5_grow_108 n g108) r := by
  obtain ⟨hlt, hx, hb, hml, hown, hts, hN, hA, hK⟩ := id C
  intro x1 x2 x4 x5 x7 s0 H locs ls h hP hD hS hl
  unfold dF_X5_grow_108 at h
  refine lv_iload hx hb dX5_grow_108 (lv_at hl 5 rfl) ?_
  refine lv_iload hx hb dX5_grow_110 (lv_at hl 4 rfl) ?_
  refine lv_icmp_ge (tgt := 131) hx hb dX5_grow_112 (by decide) (fun c18 => ?_) (fun c18 => ?_)
  · have h := nd_pos h c18
    refine lv_aload_n hx hb dX5_grow_131 rfl (lv_at hl 0 rfl) ?_
    refine va_get (D := (dC, dI)) (ci := 6) (v := .ref (a 11)) (C := RX5) (T := TX5) (N := 8) hx hb hts hi_dm_X5_grow_X5 hown hK hP 0 rfl rfl 3 (by decide) (hts (.fieldLink RX5 37 "TimeMachine$Kernel" "self" "[I") (List.mem_of_getElem? (i := 1) rfl)) (fun _ h9 => h9) rfl dX5_grow_132 ?_
    refine lv_iload_n hx hb dX5_grow_135 rfl (lv_at hl 1 rfl) ?_
    refine lv_bipush (v := 7) hx hb dX5_grow_136 (by decide) ?_
    refine lv_imul hx hb dX5_grow_138 ?_
    refine lv_bipush (v := 6) hx hb dX5_grow_139 (by decide) ?_
    refine lv_iadd hx hb dX5_grow_141 ?_
    refine lv_iload_n hx hb dX5_grow_142 rfl (lv_at hl 2 rfl) ?_
    obtain ⟨i19, h⟩ := nd_ck_e h
    refine va_iast (i := ((x1 * 7) + 6)) (x := x2) hx hb hK hP hD hS 11 8 rfl rfl i19 dX5_grow_143 (fun H locs hP hD hS => ?_)
    obtain ⟨s20, es20, h⟩ := nd_let_e h
    have hP : va_P (dC, dI) vwCl (dw_X5 a ac s20) H := by rw [es20]; exact hP
    have hD : va_D A (dw_X5 a ac s20) := by rw [es20]; exact hD
    refine lv_iload hx hb dX5_grow_144 (lv_at hl 3 rfl) ?_
    refine lv_i2l hx hb dX5_grow_146 rfl ?_
    exact K _ _ _ _ _ _ dX5_grow_147 (Option.some.inj h).symm hP hD hS
  · have h := nd_neg h c18
    refine lv_aload_n hx hb dX5_grow_115 rfl (lv_at hl 0 rfl) ?_
    refine va_get (D := (dC, dI)) (ci := 6) (v := .ref (a 4)) (C := RX5) (T := TX5) (N := 8) hx hb hts hi_dm_X5_grow_X5 hown hK hP 0 rfl rfl 0 (by decide) (hts (.fieldLink RX5 18 "TimeMachine$Kernel" "machine" "LTimeMachine$Machine;") (List.mem_of_getElem? (i := 4) rfl)) (fun _ h9 => h9) rfl dX5_grow_116 ?_
    refine lv_iload_n hx hb dX5_grow_119 rfl (lv_at hl 1 rfl) ?_
    refine lv_iload hx hb dX5_grow_120 (lv_at hl 5 rfl) ?_
    obtain ⟨s22, hq, h⟩ := nd_b1_e h
    have hPc := dp_X5_4 hP
    have hDc := dd_X5_4 hD
    have hKc := dy_X5_4 hK
    have hFc := nd_rs hDc hS hA
    have hzA : ∀ q : Nat, H.size ≤ q → A q := fun q h => hA q (Nat.le_trans hS.1 h)
    refine nd_cVv (As := [.int x1, .int x7]) (rest := []) (w' := dw_X6 (fun k => a (k + 4)) (fun k => ac (k + 4)) s22) ⟨hx, hb, hml, hown, hts⟩ (fun sz => dm_X6_dropPage l hlt dC dI (fun k => a (k + 4)) (fun k => ac (k + 4)) n (x1) (x7) s0.2.2 hq sz) (cwV 2 hts gi_dm_X5_grow_2 rfl rfl rfl (by decide +kernel) ⟨Nat.le_of_ble_eq_true rfl, Nat.le_of_ble_eq_true rfl⟩) hPc hDc hKc hS hA hN (va_recv hKc hPc (ci := 7) (q0 := 0) rfl rfl) rfl hl.1 rfl (Nat.le_of_ble_eq_true rfl) dX5_grow_122 (fun H locs hP1 hD1 hk1 hS => ?_)
    obtain ⟨hP, hD⟩ := dn_X5_4 hP hD hzA hk1 hP1 hD1
    obtain ⟨s24, es24, h⟩ := nd_let_e h
    have hP : va_P (dC, dI) vwCl (dw_X5 a ac s24) H := by rw [es24]; exact hP
    have hD : va_D A (dw_X5 a ac s24) := by rw [es24]; exact hD
    obtain ⟨z25, ez25, h⟩ := nd_let_e h
    refine lv_iinc (v := z25) (lv' := [(7, .int z25), (0, .ref (a 0)), (1, .int x1), (2, .int x2), (4, .int x4), (5, .int x5)]) hx hb dX5_grow_125 hl (k := 5) rfl (by rw [ez25]) (by decide) rfl (fun ls hl => ?_)
    refine lv_goto (tgt := 108) hx hb dX5_grow_128 (by decide) ?_
    exact (J108) (x1) (x2) (x4) (x5) (z25) s24 _ _ _ h hP hD hS (lv_sub hl [1, 2, 3, 4, 5, 0] rfl)
set_option maxHeartbeats 40000000 in
set_option maxRecDepth 100000 in
theorem db_X5_grow_108 {p : Program} {l : Launch} {e : Env} {s : State} {m : MethodId} {args : Array Value} {below : List Frame} {meth : Method} {c : Code} {Q : State → Prop} {A : Nat → Prop} {dC : Nat → ClassId} {dI : Nat → Nat → Nat} {a : Nat → Nat} {ac : Nat → ClassId} {n : Nat} {r : Int64 × (St × (St × (St × (St))))} (C : nd_C p l s m args c A (dC, dI) cX5_grow 8 RX5 ow_dm_X5_grow (dk_X5 ac)) (K : nd_Kl p l e (headSpec ow_dm_X5_grow ({ frames := 1, cells := 0, slots := 0, locals := 27 })).room s m args below meth c Q A (dC, dI) cX5_grow (St × (St × (St × (St)))) (dw_X5 a ac) r) (k : Nat) : dj_X5_grow_108 p l e s m args below meth c Q A dC dI a ac (df_X5_grow_108 n k) r := by
  induction k with
  | zero => intro x1 x2 x4 x5 x7 s0 H locs ls h; exact nomatch (show (none : Option (Int64 × (St × (St × (St × (St)))))) = some r from h)
  | succ k ih => exact dB_X5_grow_108 C K ih
set_option maxHeartbeats 40000000 in
set_option maxRecDepth 100000 in
theorem db_X5_grow_0 {p : Program} {l : Launch} {e : Env} {s : State} {m : MethodId} {args : Array Value} {below : List Frame} {meth : Method} {c : Code} {Q : State → Prop} {A : Nat → Prop} {dC : Nat → ClassId} {dI : Nat → Nat → Nat} {a : Nat → Nat} {ac : Nat → ClassId} {n : Nat} {r : Int64 × (St × (St × (St × (St))))} (C : nd_C p l s m args c A (dC, dI) cX5_grow 8 RX5 ow_dm_X5_grow (dk_X5 ac)) (K : nd_Kl p l e (headSpec ow_dm_X5_grow ({ frames := 1, cells := 0, slots := 0, locals := 27 })).room s m args below meth c Q A (dC, dI) cX5_grow (St × (St × (St × (St)))) (dw_X5 a ac) r) : dj_X5_grow_0 p l e s m args below meth c Q A dC dI a ac (df_X5_grow_0 n) r := by
  obtain ⟨hlt, hx, hb, hml, hown, hts, hN, hA, hK⟩ := id C
  intro v0 v1 s0 H locs ls h hP hD hS hl
  unfold df_X5_grow_0 at h
  refine lv_aload_n hx hb dX5_grow_0 rfl (lv_at hl 0 rfl) ?_
  refine va_get (D := (dC, dI)) (ci := 6) (v := .ref (a 11)) (C := RX5) (T := TX5) (N := 8) hx hb hts hi_dm_X5_grow_X5 hown hK hP 0 rfl rfl 3 (by decide) (hts (.fieldLink RX5 37 "TimeMachine$Kernel" "self" "[I") (List.mem_of_getElem? (i := 1) rfl)) (fun _ h9 => h9) rfl dX5_grow_1 ?_
  refine lv_iload_n hx hb dX5_grow_4 rfl (lv_at hl 1 rfl) ?_
  refine lv_bipush (v := 7) hx hb dX5_grow_5 (by decide) ?_
  refine lv_imul hx hb dX5_grow_7 ?_
  refine lv_iconst (v := 5) hx hb dX5_grow_8 (by decide) ?_
  refine lv_iadd hx hb dX5_grow_9 ?_
  obtain ⟨i1, h⟩ := nd_ck_e h
  refine va_iald (i := ((v0 * 7) + 5)) hx hb hK hP 11 8 rfl rfl i1 dX5_grow_10 ?_
  refine lv_topi (fun z2 ez2 => ?_)
  have h := nd_at h ez2
  refine lv_istore_n (lv' := [(3, .int z2), (0, .ref (a 0)), (1, .int v0), (2, .int v1)]) hx hb dX5_grow_11 rfl hl (by decide) rfl (fun ls hl => ?_)
  refine lv_aload_n hx hb dX5_grow_12 rfl (lv_at hl 1 rfl) ?_
  refine va_get (D := (dC, dI)) (ci := 6) (v := .ref (a 11)) (C := RX5) (T := TX5) (N := 8) hx hb hts hi_dm_X5_grow_X5 hown hK hP 0 rfl rfl 3 (by decide) (hts (.fieldLink RX5 37 "TimeMachine$Kernel" "self" "[I") (List.mem_of_getElem? (i := 1) rfl)) (fun _ h9 => h9) rfl dX5_grow_13 ?_
  refine lv_iload_n hx hb dX5_grow_16 rfl (lv_at hl 2 rfl) ?_
  refine lv_bipush (v := 7) hx hb dX5_grow_17 (by decide) ?_
  refine lv_imul hx hb dX5_grow_19 ?_
  refine lv_bipush (v := 6) hx hb dX5_grow_20 (by decide) ?_
  refine lv_iadd hx hb dX5_grow_22 ?_
  obtain ⟨i3, h⟩ := nd_ck_e h
  refine va_iald (i := ((v0 * 7) + 6)) hx hb hK hP 11 8 rfl rfl i3 dX5_grow_23 ?_
  refine lv_topi (fun z4 ez4 => ?_)
  have h := nd_at h ez4
  refine lv_istore (lv' := [(4, .int z4), (3, .int z2), (0, .ref (a 0)), (1, .int v0), (2, .int v1)]) hx hb dX5_grow_24 hl (by decide) rfl (fun ls hl => ?_)
  refine lv_iload_n hx hb dX5_grow_26 rfl (lv_at hl 4 rfl) ?_
  refine lv_iload_n hx hb dX5_grow_27 rfl (lv_at hl 1 rfl) ?_
  refine lv_icmp_lt (tgt := 38) hx hb dX5_grow_28 (by decide) (fun c5 => ?_) (fun c5 => ?_)
  · have h := nd_pos h c5
    exact (db_X5_grow_38 C K)  s0 _ _ _ h hP hD hS (lv_sub hl [] rfl)
  · have h := nd_neg h c5
    refine lv_iload_n hx hb dX5_grow_31 rfl (lv_at hl 4 rfl) ?_
    refine lv_ldcw hx hb hown (hts (.constant RX5 372 (60416)) (List.mem_of_getElem? (i := 3) rfl)) dX5_grow_32 ?_
    refine lv_icmp_le (tgt := 42) hx hb dX5_grow_35 (by decide) (fun c6 => ?_) (fun c6 => ?_)
    · have h := nd_pos h c6
      refine lv_iload hx hb dX5_grow_42 (lv_at hl 0 rfl) ?_
      refine lv_sipush (v := 1024) hx hb dX5_grow_44 (by decide) ?_
      refine lv_iadd hx hb dX5_grow_47 ?_
      refine lv_iconst (v := 1) hx hb dX5_grow_48 (by decide) ?_
      refine lv_isub hx hb dX5_grow_49 ?_
      refine lv_sipush (v := 1024) hx hb dX5_grow_50 (by decide) ?_
      refine lv_idiv hx hb dX5_grow_53 (by decide) ?_
      refine lv_topi (fun z7 ez7 => ?_)
      have h := nd_at h ez7
      refine lv_istore (lv' := [(5, .int z7), (4, .int z4), (3, .int z2), (0, .ref (a 0)), (1, .int v0), (2, .int v1)]) hx hb dX5_grow_54 hl (by decide) rfl (fun ls hl => ?_)
      refine lv_iload_n hx hb dX5_grow_56 rfl (lv_at hl 5 rfl) ?_
      refine lv_sipush (v := 1024) hx hb dX5_grow_57 (by decide) ?_
      refine lv_iadd hx hb dX5_grow_60 ?_
      refine lv_iconst (v := 1) hx hb dX5_grow_61 (by decide) ?_
      refine lv_isub hx hb dX5_grow_62 ?_
      refine lv_sipush (v := 1024) hx hb dX5_grow_63 (by decide) ?_
      refine lv_idiv hx hb dX5_grow_66 (by decide) ?_
      refine lv_topi (fun z8 ez8 => ?_)
      have h := nd_at h ez8
      refine lv_istore (lv' := [(6, .int z8), (5, .int z7), (4, .int z4), (3, .int z2), (0, .ref (a 0)), (1, .int v0), (2, .int v1)]) hx hb dX5_grow_67 hl (by decide) rfl (fun ls hl => ?_)
      refine lv_iload hx hb dX5_grow_69 (lv_at hl 0 rfl) ?_
      refine lv_iload hx hb dX5_grow_71 (lv_at hl 1 rfl) ?_
      refine lv_isub hx hb dX5_grow_73 ?_
      refine lv_aload_n hx hb dX5_grow_74 rfl (lv_at hl 4 rfl) ?_
      refine va_get (D := (dC, dI)) (ci := 6) (v := .ref (a 4)) (C := RX5) (T := TX5) (N := 8) hx hb hts hi_dm_X5_grow_X5 hown hK hP 0 rfl rfl 0 (by decide) (hts (.fieldLink RX5 18 "TimeMachine$Kernel" "machine" "LTimeMachine$Machine;") (List.mem_of_getElem? (i := 4) rfl)) (fun _ h9 => h9) rfl dX5_grow_75 ?_
      obtain ⟨q9, s10, hq, h⟩ := nd_b2_e h
      have hPc := dp_X5_4 hP
      have hDc := dd_X5_4 hD
      have hKc := dy_X5_4 hK
      have hFc := nd_rs hDc hS hA
      have hzA : ∀ q : Nat, H.size ≤ q → A q := fun q h => hA q (Nat.le_trans hS.1 h)
      refine nd_cVi (As := []) (rest := [.int (z8 - z7)]) (q := q9) (w' := dw_X6 (fun k => a (k + 4)) (fun k => ac (k + 4)) s10) ⟨hx, hb, hml, hown, hts⟩ (fun sz => dm_X6_framesFree l hlt dC dI (fun k => a (k + 4)) (fun k => ac (k + 4)) n  s0.2.2 hq sz) (cwV 0 hts gi_dm_X5_grow_0 rfl rfl rfl (by decide +kernel) ⟨Nat.le_of_ble_eq_true rfl, Nat.le_of_ble_eq_true rfl⟩) hPc hDc hKc hS hA hN (va_recv hKc hPc (ci := 7) (q0 := 0) rfl rfl) rfl hl.1 rfl (Nat.le_of_ble_eq_true rfl) dX5_grow_78 (fun H locs hP1 hD1 hk1 hS => ?_)
      obtain ⟨hP, hD⟩ := dn_X5_4 hP hD hzA hk1 hP1 hD1
      obtain ⟨s12, es12, h⟩ := nd_let_e h
      have hP : va_P (dC, dI) vwCl (dw_X5 a ac s12) H := by rw [es12]; exact hP
      have hD : va_D A (dw_X5 a ac s12) := by rw [es12]; exact hD
      refine lv_icmp_le (tgt := 88) hx hb dX5_grow_81 (by decide) (fun c13 => ?_) (fun c13 => ?_)
      · have h := nd_pos h c13
        refine lv_aload_n hx hb dX5_grow_88 rfl (lv_at hl 4 rfl) ?_
        refine va_get (D := (dC, dI)) (ci := 6) (v := .ref (a 4)) (C := RX5) (T := TX5) (N := 8) hx hb hts hi_dm_X5_grow_X5 hown hK hP 0 rfl rfl 0 (by decide) (hts (.fieldLink RX5 18 "TimeMachine$Kernel" "machine" "LTimeMachine$Machine;") (List.mem_of_getElem? (i := 4) rfl)) (fun _ h9 => h9) rfl dX5_grow_89 ?_
        refine lv_iload_n hx hb dX5_grow_92 rfl (lv_at hl 5 rfl) ?_
        refine lv_iload hx hb dX5_grow_93 (lv_at hl 1 rfl) ?_
        refine lv_iload hx hb dX5_grow_95 (lv_at hl 0 rfl) ?_
        refine lv_iload hx hb dX5_grow_97 (lv_at hl 1 rfl) ?_
        refine lv_isub hx hb dX5_grow_99 ?_
        refine lv_iconst (v := 3) hx hb dX5_grow_100 (by decide) ?_
        obtain ⟨s15, hq, h⟩ := nd_b1_e h
        have hPc := dp_X5_4 hP
        have hDc := dd_X5_4 hD
        have hKc := dy_X5_4 hK
        have hFc := nd_rs hDc hS hA
        have hzA : ∀ q : Nat, H.size ≤ q → A q := fun q h => hA q (Nat.le_trans hS.1 h)
        refine nd_cVv (As := [.int v0, .int z7, .int (z8 - z7), .int 3]) (rest := []) (w' := dw_X6 (fun k => a (k + 4)) (fun k => ac (k + 4)) s15) ⟨hx, hb, hml, hown, hts⟩ (fun sz => dm_X6_addPages l hlt dC dI (fun k => a (k + 4)) (fun k => ac (k + 4)) n (v0) (z7) ((z8 - z7)) (3) s12.2.2 hq sz) (cwV 4 hts gi_dm_X5_grow_1 rfl rfl rfl (by decide +kernel) ⟨Nat.le_of_ble_eq_true rfl, Nat.le_of_ble_eq_true rfl⟩) hPc hDc hKc hS hA hN (va_recv hKc hPc (ci := 7) (q0 := 0) rfl rfl) rfl hl.1 rfl (Nat.le_of_ble_eq_true rfl) dX5_grow_101 (fun H locs hP1 hD1 hk1 hS => ?_)
        obtain ⟨hP, hD⟩ := dn_X5_4 hP hD hzA hk1 hP1 hD1
        obtain ⟨s17, es17, h⟩ := nd_let_e h
        have hP : va_P (dC, dI) vwCl (dw_X5 a ac s17) H := by rw [es17]; exact hP
        have hD : va_D A (dw_X5 a ac s17) := by rw [es17]; exact hD
        refine lv_iload hx hb dX5_grow_104 (lv_at hl 0 rfl) ?_
        refine lv_istore (lv' := [(7, .int z8), (6, .int z8), (5, .int z7), (4, .int z4), (3, .int z2), (0, .ref (a 0)), (1, .int v0), (2, .int v1)]) hx hb dX5_grow_106 hl (by decide) rfl (fun ls hl => ?_)
        exact (db_X5_grow_108 C K n) (v0) (v1) (z4) (z7) (z8) s17 _ _ _ h hP hD hS (lv_sub hl [5, 6, 7, 3, 2, 0] rfl)
      · have h := nd_neg h c13
        refine lv_ldc2 hx hb hown (hts (.constantLong RX5 228 (-4)) (List.mem_of_getElem? (i := 15) rfl)) dX5_grow_84 ?_
        exact K _ _ _ _ _ _ dX5_grow_87 (Option.some.inj h).symm hP hD hS
    · have h := nd_neg h c6
      exact (db_X5_grow_38 C K)  s0 _ _ _ h hP hD hS (lv_sub hl [] rfl)
set_option maxHeartbeats 40000000 in
set_option maxRecDepth 100000 in
theorem dm_X5_grow (l : Launch) (hlt : l.stackTraces = false) (dC : Nat → ClassId) (dI : Nat → Nat → Nat) (a : Nat → Nat) (ac : Nat → ClassId) (n : Nat) (v0 : Int32) (v1 : Int32) (s0 : St × (St × (St × (St)))) {r : Int64 × (St × (St × (St × (St))))} (h : df_X5_grow n v0 v1 s0 = some r) (sz : Nat) : Met l yX5_grow ow_dm_X5_grow ({ frames := 1, cells := 0, slots := 0, locals := 27 }) (va_Pc [.ref (a 0), .int v0, .int v1] (fun U => U.heap.size = sz ∧ va_P (dC, dI) vwCl (dw_X5 a ac s0) U.heap ∧ va_K (dC, dI) vwCl (dk_X5 ac) U ∧ va_D (fun _ => True) (dw_X5 a ac s0) ∧ nv_E (va_A (dw_X5 a ac s0) sz) U)) (va_Ql (fun x _ => x = r.1) (fun (_ : Unit) t => va_P (dC, dI) vwCl (dw_X5 a ac r.2) t.heap ∧ va_K (dC, dI) vwCl (dk_X5 ac) t ∧ va_D (va_A (dw_X5 a ac s0) sz) (dw_X5 a ac r.2)) (va_A (dw_X5 a ac s0) sz)) 0 0 (va_A (dw_X5 a ac s0) sz) := by
  refine Met.ofW (cc := cX5_grow) (maxL := 8) (ret := (some .long)) (by decide) rfl ?_
  intro p e s m args below meth c s₁ B hml hv
  obtain ⟨rfl, hsz, hP, hK, hD0, hN⟩ := hv
  have hx := B.exec
  have hb := B.bytes
  have hr := B.returns
  have hts := atoms_spec (ws := ow_dm_X5_grow) B.pre
  have hown : s.vm.findClass RX5 = some m.cls := findClass_of_methodNamed B.named
  have hlocks := B.notSynchronized
  subst hsz
  have hD := hD0.self (sz := s.heap.size)
  generalize hAe : va_A (dw_X5 a ac s0) s.heap.size = A at hD hN ⊢
  have hA : ∀ q : Nat, s.heap.size ≤ q → A q := fun q h => by rw [← hAe]; exact Or.inr h
  have hl := lv_entry ([.ref (a 0), .int v0, .int v1]) (n := 8) (Nat.le_of_ble_eq_true rfl)
  rw [lg_entry_eq]
  generalize (lg_sl ([.ref (a 0), .int v0, .int v1]) ++ List.replicate (8 - (lg_sl ([.ref (a 0), .int v0, .int v1])).length) Slot.unset).toArray = ls at hl ⊢
  have hl : lv_has ls 8 [(0, .ref (a 0)), (1, .int v0), (2, .int v1)] := hl
  exact db_X5_grow_0 (dC := dC) (dI := dI) (a := a) (ac := ac) (n := n) (r := r) ⟨hlt, hx, hb, hml, hown, hts, hN, hA, hK⟩ (fun pc v τ H locs ls d er hP hD hS => by subst er; exact W.lret (v := v) hx hb hr (fun t ht hW => ⟨⟨v, (), rfl, rfl, by rw [ht]; exact hP, va_K.moved hW.alike hK, hD⟩, hS.F ht⟩) hS.2.2 d) v0 v1 s0 _ _ _ h hP hD va_S.rf (lv_sub hl [0, 1, 2] rfl)
def ow_dm_X5_signal : List Cond := .code yX5_signal cX5_signal 3 (some .long) :: ([.constantLong RX5 251 (-22), .fieldLink RX5 18 "TimeMachine$Kernel" "machine" "LTimeMachine$Machine;", .methodLink RX5 105 yX6_status, .instanceMethod yX6_status, .selects RX6 yX6_status yX6_status, .initialized RX6, .constantLong RX5 246 (-10), .fieldLink RX5 37 "TimeMachine$Kernel" "self" "[I"] ++ (u_ws RX5 TX5 8 ++ (ow_dm_X6_status ++ [])))
theorem gd_dm_X5_signal : ∀ w ∈ ow_dm_X5_signal, (w.onTables && w.keeps) = true ∨ ∃ ty, w = Cond.arrayClass ty := List.forall_mem_cons.mpr ⟨good_of_word rfl, List.forall_mem_append.mpr ⟨fun w h => good_of_word (List.all_eq_true.mp (by decide +kernel) w h), List.forall_mem_append.mpr ⟨gu_X5, List.forall_mem_append.mpr ⟨gd_dm_X6_status, fun _ h => nomatch h⟩⟩⟩⟩
theorem hi_dm_X5_signal_X5 : ∀ w ∈ u_ws RX5 TX5 8, w ∈ ow_dm_X5_signal := fun w h => List.mem_cons_of_mem _ (List.mem_append_right _ (List.mem_append_left _ h))
theorem gi_dm_X5_signal_0 : GoodIn ow_dm_X5_signal (wsV RX5 105 RX6 yX6_status ow_dm_X6_status) := goodIn_app (goodIn_of _ (by decide +kernel)) (fun w h => ⟨List.mem_cons_of_mem _ (List.mem_append_right _ (List.mem_append_right _ (List.mem_append_left _ h))), gd_dm_X6_status w h⟩)
def dj_X5_signal_21 (p : Program) (l : Launch) (e : Env) (s : State) (m : MethodId) (args : Array Value) (below : List Frame) (meth : Method) (c : Code) (Q : State → Prop) (A : Nat → Prop) (dC : Nat → ClassId) (dI : Nat → Nat → Nat) (a : Nat → Nat) (ac : Nat → ClassId) (g : (St × (St × (St × (St)))) → Option (Int64 × (St × (St × (St × (St)))))) (r : Int64 × (St × (St × (St × (St))))) : Prop := ∀ (s0 : St × (St × (St × (St)))) (H : Heap) (locs : List Loc) (ls : Array Slot), g s0 = some r → va_P (dC, dI) vwCl (dw_X5 a ac s0) H → va_D A (dw_X5 a ac s0) → va_S A s.heap H locs → lv_has ls 3 [] → W p l e (headSpec ow_dm_X5_signal ({ frames := 1, cells := 0, slots := 0, locals := 21 })).room s m args below meth c H locs 0 0 Q (F0 m 21 ls [])
def dj_X5_signal_48 (p : Program) (l : Launch) (e : Env) (s : State) (m : MethodId) (args : Array Value) (below : List Frame) (meth : Method) (c : Code) (Q : State → Prop) (A : Nat → Prop) (dC : Nat → ClassId) (dI : Nat → Nat → Nat) (a : Nat → Nat) (ac : Nat → ClassId) (g : (St × (St × (St × (St)))) → Option (Int64 × (St × (St × (St × (St)))))) (r : Int64 × (St × (St × (St × (St))))) : Prop := ∀ (s0 : St × (St × (St × (St)))) (H : Heap) (locs : List Loc) (ls : Array Slot), g s0 = some r → va_P (dC, dI) vwCl (dw_X5 a ac s0) H → va_D A (dw_X5 a ac s0) → va_S A s.heap H locs → lv_has ls 3 [] → W p l e (headSpec ow_dm_X5_signal ({ frames := 1, cells := 0, slots := 0, locals := 21 })).room s m args below meth c H locs 0 0 Q (F0 m 48 ls [])
def dj_X5_signal_0 (p : Program) (l : Launch) (e : Env) (s : State) (m : MethodId) (args : Array Value) (below : List Frame) (meth : Method) (c : Code) (Q : State → Prop) (A : Nat → Prop) (dC : Nat → ClassId) (dI : Nat → Nat → Nat) (a : Nat → Nat) (ac : Nat → ClassId) (g : Int32 → Int32 → (St × (St × (St × (St)))) → Option (Int64 × (St × (St × (St × (St)))))) (r : Int64 × (St × (St × (St × (St))))) : Prop := ∀ (v0 : Int32) (v1 : Int32) (s0 : St × (St × (St × (St)))) (H : Heap) (locs : List Loc) (ls : Array Slot), g v0 v1 s0 = some r → va_P (dC, dI) vwCl (dw_X5 a ac s0) H → va_D A (dw_X5 a ac s0) → va_S A s.heap H locs → lv_has ls 3 [(0, .ref (a 0)), (1, .int v0), (2, .int v1)] → W p l e (headSpec ow_dm_X5_signal ({ frames := 1, cells := 0, slots := 0, locals := 21 })).room s m args below meth c H locs 0 0 Q (F0 m 0 ls [])
set_option maxHeartbeats 40000000 in
set_option maxRecDepth 100000 in
theorem db_X5_signal_21 {p : Program} {l : Launch} {e : Env} {s : State} {m : MethodId} {args : Array Value} {below : List Frame} {meth : Method} {c : Code} {Q : State → Prop} {A : Nat → Prop} {dC : Nat → ClassId} {dI : Nat → Nat → Nat} {a : Nat → Nat} {ac : Nat → ClassId} {n : Nat} {r : Int64 × (St × (St × (St × (St))))} (C : nd_C p l s m args c A (dC, dI) cX5_signal 3 RX5 ow_dm_X5_signal (dk_X5 ac)) (K : nd_Kl p l e (headSpec ow_dm_X5_signal ({ frames := 1, cells := 0, slots := 0, locals := 21 })).room s m args below meth c Q A (dC, dI) cX5_signal (St × (St × (St × (St)))) (dw_X5 a ac) r) : dj_X5_signal_21 p l e s m args below meth c Q A dC dI a ac (df_X5_signal_21 n) r := by
  obtain ⟨hlt, hx, hb, hml, hown, hts, hN, hA, hK⟩ := id C
  intro s0 H locs ls h hP hD hS hl
  unfold df_X5_signal_21 at h
  refine lv_ldc2 hx hb hown (hts (.constantLong RX5 251 (-22)) (List.mem_of_getElem? (i := 1) rfl)) dX5_signal_21 ?_
  exact K _ _ _ _ _ _ dX5_signal_24 (Option.some.inj h).symm hP hD hS
set_option maxHeartbeats 40000000 in
set_option maxRecDepth 100000 in
theorem db_X5_signal_48 {p : Program} {l : Launch} {e : Env} {s : State} {m : MethodId} {args : Array Value} {below : List Frame} {meth : Method} {c : Code} {Q : State → Prop} {A : Nat → Prop} {dC : Nat → ClassId} {dI : Nat → Nat → Nat} {a : Nat → Nat} {ac : Nat → ClassId} {n : Nat} {r : Int64 × (St × (St × (St × (St))))} (C : nd_C p l s m args c A (dC, dI) cX5_signal 3 RX5 ow_dm_X5_signal (dk_X5 ac)) (K : nd_Kl p l e (headSpec ow_dm_X5_signal ({ frames := 1, cells := 0, slots := 0, locals := 21 })).room s m args below meth c Q A (dC, dI) cX5_signal (St × (St × (St × (St)))) (dw_X5 a ac) r) : dj_X5_signal_48 p l e s m args below meth c Q A dC dI a ac (df_X5_signal_48 n) r := by
  obtain ⟨hlt, hx, hb, hml, hown, hts, hN, hA, hK⟩ := id C
  intro s0 H locs ls h hP hD hS hl
  unfold df_X5_signal_48 at h
  refine lv_ldc2 hx hb hown (hts (.constantLong RX5 246 (-10)) (List.mem_of_getElem? (i := 7) rfl)) dX5_signal_48 ?_
  exact K _ _ _ _ _ _ dX5_signal_51 (Option.some.inj h).symm hP hD hS
set_option maxHeartbeats 40000000 in
set_option maxRecDepth 100000 in
theorem db_X5_signal_0 {p : Program} {l : Launch} {e : Env} {s : State} {m : MethodId} {args : Array Value} {below : List Frame} {meth : Method} {c : Code} {Q : State → Prop} {A : Nat → Prop} {dC : Nat → ClassId} {dI : Nat → Nat → Nat} {a : Nat → Nat} {ac : Nat → ClassId} {n : Nat} {r : Int64 × (St × (St × (St × (St))))} (C : nd_C p l s m args c A (dC, dI) cX5_signal 3 RX5 ow_dm_X5_signal (dk_X5 ac)) (K : nd_Kl p l e (headSpec ow_dm_X5_signal ({ frames := 1, cells := 0, slots := 0, locals := 21 })).room s m args below meth c Q A (dC, dI) cX5_signal (St × (St × (St × (St)))) (dw_X5 a ac) r) : dj_X5_signal_0 p l e s m args below meth c Q A dC dI a ac (df_X5_signal_0 n) r := by
  obtain ⟨hlt, hx, hb, hml, hown, hts, hN, hA, hK⟩ := id C
  intro v0 v1 s0 H locs ls h hP hD hS hl
  unfold df_X5_signal_0 at h
  refine lv_iload_n hx hb dX5_signal_0 rfl (lv_at hl 1 rfl) ?_
  refine lv_if_lt (tgt := 21) hx hb dX5_signal_1 (by decide) (fun c1 => ?_) (fun c1 => ?_)
  · have h := nd_pos h c1
    exact (db_X5_signal_21 C K)  s0 _ _ _ h hP hD hS (lv_sub hl [] rfl)
  · have h := nd_neg h c1
    refine lv_iload_n hx hb dX5_signal_4 rfl (lv_at hl 1 rfl) ?_
    refine lv_bipush (v := 16) hx hb dX5_signal_5 (by decide) ?_
    refine lv_icmp_ge (tgt := 21) hx hb dX5_signal_7 (by decide) (fun c2 => ?_) (fun c2 => ?_)
    · have h := nd_pos h c2
      exact (db_X5_signal_21 C K)  s0 _ _ _ h hP hD hS (lv_sub hl [] rfl)
    · have h := nd_neg h c2
      refine lv_iload_n hx hb dX5_signal_10 rfl (lv_at hl 2 rfl) ?_
      refine lv_iconst (v := 1) hx hb dX5_signal_11 (by decide) ?_
      refine lv_icmp_lt (tgt := 21) hx hb dX5_signal_12 (by decide) (fun c3 => ?_) (fun c3 => ?_)
      · have h := nd_pos h c3
        exact (db_X5_signal_21 C K)  s0 _ _ _ h hP hD hS (lv_sub hl [] rfl)
      · have h := nd_neg h c3
        refine lv_iload_n hx hb dX5_signal_15 rfl (lv_at hl 2 rfl) ?_
        refine lv_bipush (v := 16) hx hb dX5_signal_16 (by decide) ?_
        refine lv_icmp_lt (tgt := 25) hx hb dX5_signal_18 (by decide) (fun c4 => ?_) (fun c4 => ?_)
        · have h := nd_pos h c4
          refine lv_aload_n hx hb dX5_signal_25 rfl (lv_at hl 0 rfl) ?_
          refine va_get (D := (dC, dI)) (ci := 6) (v := .ref (a 4)) (C := RX5) (T := TX5) (N := 8) hx hb hts hi_dm_X5_signal_X5 hown hK hP 0 rfl rfl 0 (by decide) (hts (.fieldLink RX5 18 "TimeMachine$Kernel" "machine" "LTimeMachine$Machine;") (List.mem_of_getElem? (i := 2) rfl)) (fun _ h9 => h9) rfl dX5_signal_26 ?_
          refine lv_iload_n hx hb dX5_signal_29 rfl (lv_at hl 1 rfl) ?_
          obtain ⟨q5, s6, hq, h⟩ := nd_b2_e h
          have hPc := dp_X5_4 hP
          have hDc := dd_X5_4 hD
          have hKc := dy_X5_4 hK
          have hFc := nd_rs hDc hS hA
          have hzA : ∀ q : Nat, H.size ≤ q → A q := fun q h => hA q (Nat.le_trans hS.1 h)
          refine nd_cVi (As := [.int v0]) (rest := []) (q := q5) (w' := dw_X6 (fun k => a (k + 4)) (fun k => ac (k + 4)) s6) ⟨hx, hb, hml, hown, hts⟩ (fun sz => dm_X6_status l hlt dC dI (fun k => a (k + 4)) (fun k => ac (k + 4)) n (v0) s0.2.2 hq sz) (cwV 1 hts gi_dm_X5_signal_0 rfl rfl rfl (by decide +kernel) ⟨Nat.le_of_ble_eq_true rfl, Nat.le_of_ble_eq_true rfl⟩) hPc hDc hKc hS hA hN (va_recv hKc hPc (ci := 7) (q0 := 0) rfl rfl) rfl hl.1 rfl (Nat.le_of_ble_eq_true rfl) dX5_signal_30 (fun H locs hP1 hD1 hk1 hS => ?_)
          obtain ⟨hP, hD⟩ := dn_X5_4 hP hD hzA hk1 hP1 hD1
          obtain ⟨s8, es8, h⟩ := nd_let_e h
          have hP : va_P (dC, dI) vwCl (dw_X5 a ac s8) H := by rw [es8]; exact hP
          have hD : va_D A (dw_X5 a ac s8) := by rw [es8]; exact hD
          refine lv_if_eq (tgt := 48) hx hb dX5_signal_33 (by decide) (fun c9 => ?_) (fun c9 => ?_)
          · have h := nd_pos h c9
            exact (db_X5_signal_48 C K)  s8 _ _ _ h hP hD hS (lv_sub hl [] rfl)
          · have h := nd_neg h c9
            refine lv_aload_n hx hb dX5_signal_36 rfl (lv_at hl 0 rfl) ?_
            refine va_get (D := (dC, dI)) (ci := 6) (v := .ref (a 4)) (C := RX5) (T := TX5) (N := 8) hx hb hts hi_dm_X5_signal_X5 hown hK hP 0 rfl rfl 0 (by decide) (hts (.fieldLink RX5 18 "TimeMachine$Kernel" "machine" "LTimeMachine$Machine;") (List.mem_of_getElem? (i := 2) rfl)) (fun _ h9 => h9) rfl dX5_signal_37 ?_
            refine lv_iload_n hx hb dX5_signal_40 rfl (lv_at hl 1 rfl) ?_
            obtain ⟨q10, s11, hq, h⟩ := nd_b2_e h
            have hPc := dp_X5_4 hP
            have hDc := dd_X5_4 hD
            have hKc := dy_X5_4 hK
            have hFc := nd_rs hDc hS hA
            have hzA : ∀ q : Nat, H.size ≤ q → A q := fun q h => hA q (Nat.le_trans hS.1 h)
            refine nd_cVi (As := [.int v0]) (rest := []) (q := q10) (w' := dw_X6 (fun k => a (k + 4)) (fun k => ac (k + 4)) s11) ⟨hx, hb, hml, hown, hts⟩ (fun sz => dm_X6_status l hlt dC dI (fun k => a (k + 4)) (fun k => ac (k + 4)) n (v0) s8.2.2 hq sz) (cwV 1 hts gi_dm_X5_signal_0 rfl rfl rfl (by decide +kernel) ⟨Nat.le_of_ble_eq_true rfl, Nat.le_of_ble_eq_true rfl⟩) hPc hDc hKc hS hA hN (va_recv hKc hPc (ci := 7) (q0 := 0) rfl rfl) rfl hl.1 rfl (Nat.le_of_ble_eq_true rfl) dX5_signal_41 (fun H locs hP1 hD1 hk1 hS => ?_)
            obtain ⟨hP, hD⟩ := dn_X5_4 hP hD hzA hk1 hP1 hD1
            obtain ⟨s13, es13, h⟩ := nd_let_e h
            have hP : va_P (dC, dI) vwCl (dw_X5 a ac s13) H := by rw [es13]; exact hP
            have hD : va_D A (dw_X5 a ac s13) := by rw [es13]; exact hD
            refine lv_iconst (v := 3) hx hb dX5_signal_44 (by decide) ?_
            refine lv_icmp_ne (tgt := 52) hx hb dX5_signal_45 (by decide) (fun c14 => ?_) (fun c14 => ?_)
            · have h := nd_neg h c14
              refine lv_aload_n hx hb dX5_signal_52 rfl (lv_at hl 0 rfl) ?_
              refine va_get (D := (dC, dI)) (ci := 6) (v := .ref (a 11)) (C := RX5) (T := TX5) (N := 8) hx hb hts hi_dm_X5_signal_X5 hown hK hP 0 rfl rfl 3 (by decide) (hts (.fieldLink RX5 37 "TimeMachine$Kernel" "self" "[I") (List.mem_of_getElem? (i := 8) rfl)) (fun _ h9 => h9) rfl dX5_signal_53 ?_
              refine lv_iload_n hx hb dX5_signal_56 rfl (lv_at hl 1 rfl) ?_
              refine lv_bipush (v := 7) hx hb dX5_signal_57 (by decide) ?_
              refine lv_imul hx hb dX5_signal_59 ?_
              refine lv_iconst (v := 3) hx hb dX5_signal_60 (by decide) ?_
              refine lv_iadd hx hb dX5_signal_61 ?_
              refine lv_dup2_11 hx hb dX5_signal_62 rfl rfl ?_
              obtain ⟨i15, h⟩ := nd_ck_e h
              refine va_iald (i := ((v0 * 7) + 3)) hx hb hK hP 11 8 rfl rfl i15 dX5_signal_63 ?_
              refine lv_iconst (v := 1) hx hb dX5_signal_64 (by decide) ?_
              refine lv_iload_n hx hb dX5_signal_65 rfl (lv_at hl 2 rfl) ?_
              refine lv_ishl hx hb dX5_signal_66 ?_
              refine lv_ior hx hb dX5_signal_67 ?_
              obtain ⟨i16, h⟩ := nd_ck_e h
              refine va_iast (i := ((v0 * 7) + 3)) (x := ((sR s13.2.2.1 6 (Int32.toNatClampNeg ((v0 * 7) + 3))) ||| ((1 : Int32) <<< ((v1 : Int32) &&& 31)))) hx hb hK hP hD hS 11 8 rfl rfl i16 dX5_signal_68 (fun H locs hP hD hS => ?_)
              obtain ⟨s17, es17, h⟩ := nd_let_e h
              have hP : va_P (dC, dI) vwCl (dw_X5 a ac s17) H := by rw [es17]; exact hP
              have hD : va_D A (dw_X5 a ac s17) := by rw [es17]; exact hD
              refine lv_lconst (v := 0) hx hb dX5_signal_69 (by decide) ?_
              exact K _ _ _ _ _ _ dX5_signal_70 (Option.some.inj h).symm hP hD hS
            · have h := nd_pos h c14
              exact (db_X5_signal_48 C K)  s13 _ _ _ h hP hD hS (lv_sub hl [] rfl)
        · have h := nd_neg h c4
          exact (db_X5_signal_21 C K)  s0 _ _ _ h hP hD hS (lv_sub hl [] rfl)
set_option maxHeartbeats 40000000 in
set_option maxRecDepth 100000 in
theorem dm_X5_signal (l : Launch) (hlt : l.stackTraces = false) (dC : Nat → ClassId) (dI : Nat → Nat → Nat) (a : Nat → Nat) (ac : Nat → ClassId) (n : Nat) (v0 : Int32) (v1 : Int32) (s0 : St × (St × (St × (St)))) {r : Int64 × (St × (St × (St × (St))))} (h : df_X5_signal n v0 v1 s0 = some r) (sz : Nat) : Met l yX5_signal ow_dm_X5_signal ({ frames := 1, cells := 0, slots := 0, locals := 21 }) (va_Pc [.ref (a 0), .int v0, .int v1] (fun U => U.heap.size = sz ∧ va_P (dC, dI) vwCl (dw_X5 a ac s0) U.heap ∧ va_K (dC, dI) vwCl (dk_X5 ac) U ∧ va_D (fun _ => True) (dw_X5 a ac s0) ∧ nv_E (va_A (dw_X5 a ac s0) sz) U)) (va_Ql (fun x _ => x = r.1) (fun (_ : Unit) t => va_P (dC, dI) vwCl (dw_X5 a ac r.2) t.heap ∧ va_K (dC, dI) vwCl (dk_X5 ac) t ∧ va_D (va_A (dw_X5 a ac s0) sz) (dw_X5 a ac r.2)) (va_A (dw_X5 a ac s0) sz)) 0 0 (va_A (dw_X5 a ac s0) sz) := by
  refine Met.ofW (cc := cX5_signal) (maxL := 3) (ret := (some .long)) (by decide) rfl ?_
  intro p e s m args below meth c s₁ B hml hv
  obtain ⟨rfl, hsz, hP, hK, hD0, hN⟩ := hv
  have hx := B.exec
  have hb := B.bytes
  have hr := B.returns
  have hts := atoms_spec (ws := ow_dm_X5_signal) B.pre
  have hown : s.vm.findClass RX5 = some m.cls := findClass_of_methodNamed B.named
  have hlocks := B.notSynchronized
  subst hsz
  have hD := hD0.self (sz := s.heap.size)
  generalize hAe : va_A (dw_X5 a ac s0) s.heap.size = A at hD hN ⊢
  have hA : ∀ q : Nat, s.heap.size ≤ q → A q := fun q h => by rw [← hAe]; exact Or.inr h
  have hl := lv_entry ([.ref (a 0), .int v0, .int v1]) (n := 3) (Nat.le_of_ble_eq_true rfl)
  rw [lg_entry_eq]
  generalize (lg_sl ([.ref (a 0), .int v0, .int v1]) ++ List.replicate (3 - (lg_sl ([.ref (a 0), .int v0, .int v1])).length) Slot.unset).toArray = ls at hl ⊢
  have hl : lv_has ls 3 [(0, .ref (a 0)), (1, .int v0), (2, .int v1)] := hl
  exact db_X5_signal_0 (dC := dC) (dI := dI) (a := a) (ac := ac) (n := n) (r := r) ⟨hlt, hx, hb, hml, hown, hts, hN, hA, hK⟩ (fun pc v τ H locs ls d er hP hD hS => by subst er; exact W.lret (v := v) hx hb hr (fun t ht hW => ⟨⟨v, (), rfl, rfl, by rw [ht]; exact hP, va_K.moved hW.alike hK, hD⟩, hS.F ht⟩) hS.2.2 d) v0 v1 s0 _ _ _ h hP hD va_S.rf (lv_sub hl [0, 1, 2] rfl)
def ow_dm_X5_handle : List Cond := .code yX5_handle cX5_handle 5 (some .long) :: ([.constantLong RX5 251 (-22), .fieldLink RX5 18 "TimeMachine$Kernel" "machine" "LTimeMachine$Machine;", .fieldLink RX5 86 "TimeMachine$Machine" "handler" "[I"] ++ (u_ws RX5 TX5 8 ++ (u_ws RX6 TX6 20 ++ [])))
theorem gd_dm_X5_handle : ∀ w ∈ ow_dm_X5_handle, (w.onTables && w.keeps) = true ∨ ∃ ty, w = Cond.arrayClass ty := List.forall_mem_cons.mpr ⟨good_of_word rfl, List.forall_mem_append.mpr ⟨fun w h => good_of_word (List.all_eq_true.mp (by decide +kernel) w h), List.forall_mem_append.mpr ⟨gu_X5, List.forall_mem_append.mpr ⟨gu_X6, fun _ h => nomatch h⟩⟩⟩⟩
theorem hi_dm_X5_handle_X5 : ∀ w ∈ u_ws RX5 TX5 8, w ∈ ow_dm_X5_handle := fun w h => List.mem_cons_of_mem _ (List.mem_append_right _ (List.mem_append_left _ h))
theorem hi_dm_X5_handle_X6 : ∀ w ∈ u_ws RX6 TX6 20, w ∈ ow_dm_X5_handle := fun w h => List.mem_cons_of_mem _ (List.mem_append_right _ (List.mem_append_right _ (List.mem_append_left _ h)))
def dj_X5_handle_17 (p : Program) (l : Launch) (e : Env) (s : State) (m : MethodId) (args : Array Value) (below : List Frame) (meth : Method) (c : Code) (Q : State → Prop) (A : Nat → Prop) (dC : Nat → ClassId) (dI : Nat → Nat → Nat) (a : Nat → Nat) (ac : Nat → ClassId) (g : (St × (St × (St × (St)))) → Option (Int64 × (St × (St × (St × (St)))))) (r : Int64 × (St × (St × (St × (St))))) : Prop := ∀ (s0 : St × (St × (St × (St)))) (H : Heap) (locs : List Loc) (ls : Array Slot), g s0 = some r → va_P (dC, dI) vwCl (dw_X5 a ac s0) H → va_D A (dw_X5 a ac s0) → va_S A s.heap H locs → lv_has ls 5 [] → W p l e (headSpec ow_dm_X5_handle ({ frames := 0, cells := 0, slots := 0, locals := 0 })).room s m args below meth c H locs 0 0 Q (F0 m 17 ls [])
def dj_X5_handle_0 (p : Program) (l : Launch) (e : Env) (s : State) (m : MethodId) (args : Array Value) (below : List Frame) (meth : Method) (c : Code) (Q : State → Prop) (A : Nat → Prop) (dC : Nat → ClassId) (dI : Nat → Nat → Nat) (a : Nat → Nat) (ac : Nat → ClassId) (g : Int32 → Int32 → Int32 → (St × (St × (St × (St)))) → Option (Int64 × (St × (St × (St × (St)))))) (r : Int64 × (St × (St × (St × (St))))) : Prop := ∀ (v0 : Int32) (v1 : Int32) (v2 : Int32) (s0 : St × (St × (St × (St)))) (H : Heap) (locs : List Loc) (ls : Array Slot), g v0 v1 v2 s0 = some r → va_P (dC, dI) vwCl (dw_X5 a ac s0) H → va_D A (dw_X5 a ac s0) → va_S A s.heap H locs → lv_has ls 5 [(0, .ref (a 0)), (1, .int v0), (2, .int v1), (3, .int v2)] → W p l e (headSpec ow_dm_X5_handle ({ frames := 0, cells := 0, slots := 0, locals := 0 })).room s m args below meth c H locs 0 0 Q (F0 m 0 ls [])
set_option maxHeartbeats 40000000 in
set_option maxRecDepth 100000 in
theorem db_X5_handle_17 {p : Program} {l : Launch} {e : Env} {s : State} {m : MethodId} {args : Array Value} {below : List Frame} {meth : Method} {c : Code} {Q : State → Prop} {A : Nat → Prop} {dC : Nat → ClassId} {dI : Nat → Nat → Nat} {a : Nat → Nat} {ac : Nat → ClassId} {n : Nat} {r : Int64 × (St × (St × (St × (St))))} (C : nd_C p l s m args c A (dC, dI) cX5_handle 5 RX5 ow_dm_X5_handle (dk_X5 ac)) (K : nd_Kl p l e (headSpec ow_dm_X5_handle ({ frames := 0, cells := 0, slots := 0, locals := 0 })).room s m args below meth c Q A (dC, dI) cX5_handle (St × (St × (St × (St)))) (dw_X5 a ac) r) : dj_X5_handle_17 p l e s m args below meth c Q A dC dI a ac (df_X5_handle_17 n) r := by
  obtain ⟨hlt, hx, hb, hml, hown, hts, hN, hA, hK⟩ := id C
  intro s0 H locs ls h hP hD hS hl
  unfold df_X5_handle_17 at h
  refine lv_ldc2 hx hb hown (hts (.constantLong RX5 251 (-22)) (List.mem_of_getElem? (i := 1) rfl)) dX5_handle_17 ?_
  exact K _ _ _ _ _ _ dX5_handle_20 (Option.some.inj h).symm hP hD hS
set_option maxHeartbeats 40000000 in
set_option maxRecDepth 100000 in
theorem db_X5_handle_0 {p : Program} {l : Launch} {e : Env} {s : State} {m : MethodId} {args : Array Value} {below : List Frame} {meth : Method} {c : Code} {Q : State → Prop} {A : Nat → Prop} {dC : Nat → ClassId} {dI : Nat → Nat → Nat} {a : Nat → Nat} {ac : Nat → ClassId} {n : Nat} {r : Int64 × (St × (St × (St × (St))))} (C : nd_C p l s m args c A (dC, dI) cX5_handle 5 RX5 ow_dm_X5_handle (dk_X5 ac)) (K : nd_Kl p l e (headSpec ow_dm_X5_handle ({ frames := 0, cells := 0, slots := 0, locals := 0 })).room s m args below meth c Q A (dC, dI) cX5_handle (St × (St × (St × (St)))) (dw_X5 a ac) r) : dj_X5_handle_0 p l e s m args below meth c Q A dC dI a ac (df_X5_handle_0 n) r := by
  obtain ⟨hlt, hx, hb, hml, hown, hts, hN, hA, hK⟩ := id C
  intro v0 v1 v2 s0 H locs ls h hP hD hS hl
  unfold df_X5_handle_0 at h
  refine lv_iload_n hx hb dX5_handle_0 rfl (lv_at hl 2 rfl) ?_
  refine lv_iconst (v := 1) hx hb dX5_handle_1 (by decide) ?_
  refine lv_icmp_lt (tgt := 17) hx hb dX5_handle_2 (by decide) (fun c1 => ?_) (fun c1 => ?_)
  · have h := nd_pos h c1
    exact (db_X5_handle_17 C K)  s0 _ _ _ h hP hD hS (lv_sub hl [] rfl)
  · have h := nd_neg h c1
    refine lv_iload_n hx hb dX5_handle_5 rfl (lv_at hl 2 rfl) ?_
    refine lv_bipush (v := 16) hx hb dX5_handle_6 (by decide) ?_
    refine lv_icmp_ge (tgt := 17) hx hb dX5_handle_8 (by decide) (fun c2 => ?_) (fun c2 => ?_)
    · have h := nd_pos h c2
      exact (db_X5_handle_17 C K)  s0 _ _ _ h hP hD hS (lv_sub hl [] rfl)
    · have h := nd_neg h c2
      refine lv_iload_n hx hb dX5_handle_11 rfl (lv_at hl 2 rfl) ?_
      refine lv_bipush (v := 9) hx hb dX5_handle_12 (by decide) ?_
      refine lv_icmp_ne (tgt := 21) hx hb dX5_handle_14 (by decide) (fun c3 => ?_) (fun c3 => ?_)
      · have h := nd_neg h c3
        refine lv_aload_n hx hb dX5_handle_21 rfl (lv_at hl 0 rfl) ?_
        refine va_get (D := (dC, dI)) (ci := 6) (v := .ref (a 4)) (C := RX5) (T := TX5) (N := 8) hx hb hts hi_dm_X5_handle_X5 hown hK hP 0 rfl rfl 0 (by decide) (hts (.fieldLink RX5 18 "TimeMachine$Kernel" "machine" "LTimeMachine$Machine;") (List.mem_of_getElem? (i := 2) rfl)) (fun _ h9 => h9) rfl dX5_handle_22 ?_
        refine va_get (D := (dC, dI)) (ci := 7) (v := .ref (a 10)) (C := RX6) (T := TX6) (N := 20) hx hb hts hi_dm_X5_handle_X6 hown hK hP 4 rfl rfl 6 (by decide) (hts (.fieldLink RX5 86 "TimeMachine$Machine" "handler" "[I") (List.mem_of_getElem? (i := 3) rfl)) (fun _ h9 => h9) rfl dX5_handle_25 ?_
        refine lv_iload_n hx hb dX5_handle_28 rfl (lv_at hl 1 rfl) ?_
        refine lv_bipush (v := 16) hx hb dX5_handle_29 (by decide) ?_
        refine lv_imul hx hb dX5_handle_31 ?_
        refine lv_iload_n hx hb dX5_handle_32 rfl (lv_at hl 2 rfl) ?_
        refine lv_iadd hx hb dX5_handle_33 ?_
        obtain ⟨i4, h⟩ := nd_ck_e h
        refine va_iald (i := ((v0 * 16) + v1)) hx hb hK hP 10 7 rfl rfl i4 dX5_handle_34 ?_
        refine lv_topi (fun z5 ez5 => ?_)
        have h := nd_at h ez5
        refine lv_istore (lv' := [(4, .int z5), (0, .ref (a 0)), (1, .int v0), (2, .int v1), (3, .int v2)]) hx hb dX5_handle_35 hl (by decide) rfl (fun ls hl => ?_)
        refine lv_aload_n hx hb dX5_handle_37 rfl (lv_at hl 1 rfl) ?_
        refine va_get (D := (dC, dI)) (ci := 6) (v := .ref (a 4)) (C := RX5) (T := TX5) (N := 8) hx hb hts hi_dm_X5_handle_X5 hown hK hP 0 rfl rfl 0 (by decide) (hts (.fieldLink RX5 18 "TimeMachine$Kernel" "machine" "LTimeMachine$Machine;") (List.mem_of_getElem? (i := 2) rfl)) (fun _ h9 => h9) rfl dX5_handle_38 ?_
        refine va_get (D := (dC, dI)) (ci := 7) (v := .ref (a 10)) (C := RX6) (T := TX6) (N := 20) hx hb hts hi_dm_X5_handle_X6 hown hK hP 4 rfl rfl 6 (by decide) (hts (.fieldLink RX5 86 "TimeMachine$Machine" "handler" "[I") (List.mem_of_getElem? (i := 3) rfl)) (fun _ h9 => h9) rfl dX5_handle_41 ?_
        refine lv_iload_n hx hb dX5_handle_44 rfl (lv_at hl 2 rfl) ?_
        refine lv_bipush (v := 16) hx hb dX5_handle_45 (by decide) ?_
        refine lv_imul hx hb dX5_handle_47 ?_
        refine lv_iload_n hx hb dX5_handle_48 rfl (lv_at hl 3 rfl) ?_
        refine lv_iadd hx hb dX5_handle_49 ?_
        refine lv_iload_n hx hb dX5_handle_50 rfl (lv_at hl 4 rfl) ?_
        obtain ⟨i6, h⟩ := nd_ck_e h
        refine va_iast (i := ((v0 * 16) + v1)) (x := v2) hx hb hK hP hD hS 10 7 rfl rfl i6 dX5_handle_51 (fun H locs hP hD hS => ?_)
        obtain ⟨s7, es7, h⟩ := nd_let_e h
        have hP : va_P (dC, dI) vwCl (dw_X5 a ac s7) H := by rw [es7]; exact hP
        have hD : va_D A (dw_X5 a ac s7) := by rw [es7]; exact hD
        refine lv_iload hx hb dX5_handle_52 (lv_at hl 0 rfl) ?_
        refine lv_i2l hx hb dX5_handle_54 rfl ?_
        exact K _ _ _ _ _ _ dX5_handle_55 (Option.some.inj h).symm hP hD hS
      · have h := nd_pos h c3
        exact (db_X5_handle_17 C K)  s0 _ _ _ h hP hD hS (lv_sub hl [] rfl)
set_option maxHeartbeats 40000000 in
set_option maxRecDepth 100000 in
theorem dm_X5_handle (l : Launch) (hlt : l.stackTraces = false) (dC : Nat → ClassId) (dI : Nat → Nat → Nat) (a : Nat → Nat) (ac : Nat → ClassId) (n : Nat) (v0 : Int32) (v1 : Int32) (v2 : Int32) (s0 : St × (St × (St × (St)))) {r : Int64 × (St × (St × (St × (St))))} (h : df_X5_handle n v0 v1 v2 s0 = some r) (sz : Nat) : Met l yX5_handle ow_dm_X5_handle ({ frames := 0, cells := 0, slots := 0, locals := 0 }) (va_Pc [.ref (a 0), .int v0, .int v1, .int v2] (fun U => U.heap.size = sz ∧ va_P (dC, dI) vwCl (dw_X5 a ac s0) U.heap ∧ va_K (dC, dI) vwCl (dk_X5 ac) U ∧ va_D (fun _ => True) (dw_X5 a ac s0) ∧ nv_E (va_A (dw_X5 a ac s0) sz) U)) (va_Ql (fun x _ => x = r.1) (fun (_ : Unit) t => va_P (dC, dI) vwCl (dw_X5 a ac r.2) t.heap ∧ va_K (dC, dI) vwCl (dk_X5 ac) t ∧ va_D (va_A (dw_X5 a ac s0) sz) (dw_X5 a ac r.2)) (va_A (dw_X5 a ac s0) sz)) 0 0 (va_A (dw_X5 a ac s0) sz) := by
  refine Met.ofW (cc := cX5_handle) (maxL := 5) (ret := (some .long)) (by decide) rfl ?_
  intro p e s m args below meth c s₁ B hml hv
  obtain ⟨rfl, hsz, hP, hK, hD0, hN⟩ := hv
  have hx := B.exec
  have hb := B.bytes
  have hr := B.returns
  have hts := atoms_spec (ws := ow_dm_X5_handle) B.pre
  have hown : s.vm.findClass RX5 = some m.cls := findClass_of_methodNamed B.named
  have hlocks := B.notSynchronized
  subst hsz
  have hD := hD0.self (sz := s.heap.size)
  generalize hAe : va_A (dw_X5 a ac s0) s.heap.size = A at hD hN ⊢
  have hA : ∀ q : Nat, s.heap.size ≤ q → A q := fun q h => by rw [← hAe]; exact Or.inr h
  have hl := lv_entry ([.ref (a 0), .int v0, .int v1, .int v2]) (n := 5) (Nat.le_of_ble_eq_true rfl)
  rw [lg_entry_eq]
  generalize (lg_sl ([.ref (a 0), .int v0, .int v1, .int v2]) ++ List.replicate (5 - (lg_sl ([.ref (a 0), .int v0, .int v1, .int v2])).length) Slot.unset).toArray = ls at hl ⊢
  have hl : lv_has ls 5 [(0, .ref (a 0)), (1, .int v0), (2, .int v1), (3, .int v2)] := hl
  exact db_X5_handle_0 (dC := dC) (dI := dI) (a := a) (ac := ac) (n := n) (r := r) ⟨hlt, hx, hb, hml, hown, hts, hN, hA, hK⟩ (fun pc v τ H locs ls d er hP hD hS => by subst er; exact W.lret (v := v) hx hb hr (fun t ht hW => ⟨⟨v, (), rfl, rfl, by rw [ht]; exact hP, va_K.moved hW.alike hK, hD⟩, hS.F ht⟩) hS.2.2 d) v0 v1 v2 s0 _ _ _ h hP hD va_S.rf (lv_sub hl [0, 1, 2, 3] rfl)
def ow_dm_X5_back : List Cond := .code yX5_back cX5_back 2 (some .long) :: ([.fieldLink RX5 37 "TimeMachine$Kernel" "self" "[I", .fieldLink RX5 18 "TimeMachine$Kernel" "machine" "LTimeMachine$Machine;", .fieldLink RX5 93 "TimeMachine$Machine" "saved" "[I", .fieldLink RX5 33 "TimeMachine$Kernel" "reg" "[I", .methodLink RX5 96 arraycopyName, .native arraycopyName, .static arraycopyName, .initialized "java/lang/System", .constantLong RX5 159 (2199023255552), .constantLong RX5 251 (-22)] ++ (u_ws RX5 TX5 8 ++ (u_ws RX6 TX6 20 ++ [])))
theorem gd_dm_X5_back : ∀ w ∈ ow_dm_X5_back, (w.onTables && w.keeps) = true ∨ ∃ ty, w = Cond.arrayClass ty := List.forall_mem_cons.mpr ⟨good_of_word rfl, List.forall_mem_append.mpr ⟨fun w h => good_of_word (List.all_eq_true.mp (by decide +kernel) w h), List.forall_mem_append.mpr ⟨gu_X5, List.forall_mem_append.mpr ⟨gu_X6, fun _ h => nomatch h⟩⟩⟩⟩
theorem hi_dm_X5_back_X5 : ∀ w ∈ u_ws RX5 TX5 8, w ∈ ow_dm_X5_back := fun w h => List.mem_cons_of_mem _ (List.mem_append_right _ (List.mem_append_left _ h))
theorem hi_dm_X5_back_X6 : ∀ w ∈ u_ws RX6 TX6 20, w ∈ ow_dm_X5_back := fun w h => List.mem_cons_of_mem _ (List.mem_append_right _ (List.mem_append_right _ (List.mem_append_left _ h)))
def dj_X5_back_0 (p : Program) (l : Launch) (e : Env) (s : State) (m : MethodId) (args : Array Value) (below : List Frame) (meth : Method) (c : Code) (Q : State → Prop) (A : Nat → Prop) (dC : Nat → ClassId) (dI : Nat → Nat → Nat) (a : Nat → Nat) (ac : Nat → ClassId) (g : Int32 → (St × (St × (St × (St)))) → Option (Int64 × (St × (St × (St × (St)))))) (r : Int64 × (St × (St × (St × (St))))) : Prop := ∀ (v0 : Int32) (s0 : St × (St × (St × (St)))) (H : Heap) (locs : List Loc) (ls : Array Slot), g v0 s0 = some r → va_P (dC, dI) vwCl (dw_X5 a ac s0) H → va_D A (dw_X5 a ac s0) → va_S A s.heap H locs → lv_has ls 2 [(0, .ref (a 0)), (1, .int v0)] → W p l e (headSpec ow_dm_X5_back ({ frames := 1, cells := 0, slots := 0, locals := 40 })).room s m args below meth c H locs 0 0 Q (F0 m 0 ls [])
set_option maxHeartbeats 40000000 in
set_option maxRecDepth 100000 in
theorem db_X5_back_0 {p : Program} {l : Launch} {e : Env} {s : State} {m : MethodId} {args : Array Value} {below : List Frame} {meth : Method} {c : Code} {Q : State → Prop} {A : Nat → Prop} {dC : Nat → ClassId} {dI : Nat → Nat → Nat} {a : Nat → Nat} {ac : Nat → ClassId} {n : Nat} {r : Int64 × (St × (St × (St × (St))))} (C : nd_C p l s m args c A (dC, dI) cX5_back 2 RX5 ow_dm_X5_back (dk_X5 ac)) (K : nd_Kl p l e (headSpec ow_dm_X5_back ({ frames := 1, cells := 0, slots := 0, locals := 40 })).room s m args below meth c Q A (dC, dI) cX5_back (St × (St × (St × (St)))) (dw_X5 a ac) r) : dj_X5_back_0 p l e s m args below meth c Q A dC dI a ac (df_X5_back_0 n) r := by
  obtain ⟨hlt, hx, hb, hml, hown, hts, hN, hA, hK⟩ := id C
  intro v0 s0 H locs ls h hP hD hS hl
  unfold df_X5_back_0 at h
  refine lv_aload_n hx hb dX5_back_0 rfl (lv_at hl 0 rfl) ?_
  refine va_get (D := (dC, dI)) (ci := 6) (v := .ref (a 11)) (C := RX5) (T := TX5) (N := 8) hx hb hts hi_dm_X5_back_X5 hown hK hP 0 rfl rfl 3 (by decide) (hts (.fieldLink RX5 37 "TimeMachine$Kernel" "self" "[I") (List.mem_of_getElem? (i := 1) rfl)) (fun _ h9 => h9) rfl dX5_back_1 ?_
  refine lv_iload_n hx hb dX5_back_4 rfl (lv_at hl 1 rfl) ?_
  refine lv_bipush (v := 7) hx hb dX5_back_5 (by decide) ?_
  refine lv_imul hx hb dX5_back_7 ?_
  refine lv_iconst (v := 4) hx hb dX5_back_8 (by decide) ?_
  refine lv_iadd hx hb dX5_back_9 ?_
  obtain ⟨i1, h⟩ := nd_ck_e h
  refine va_iald (i := ((v0 * 7) + 4)) hx hb hK hP 11 8 rfl rfl i1 dX5_back_10 ?_
  refine lv_if_ne (tgt := 18) hx hb dX5_back_11 (by decide) (fun c2 => ?_) (fun c2 => ?_)
  · have h := nd_neg h c2
    refine lv_aload_n hx hb dX5_back_18 rfl (lv_at hl 0 rfl) ?_
    refine va_get (D := (dC, dI)) (ci := 6) (v := .ref (a 4)) (C := RX5) (T := TX5) (N := 8) hx hb hts hi_dm_X5_back_X5 hown hK hP 0 rfl rfl 0 (by decide) (hts (.fieldLink RX5 18 "TimeMachine$Kernel" "machine" "LTimeMachine$Machine;") (List.mem_of_getElem? (i := 2) rfl)) (fun _ h9 => h9) rfl dX5_back_19 ?_
    refine va_get (D := (dC, dI)) (ci := 7) (v := .ref (a 9)) (C := RX6) (T := TX6) (N := 20) hx hb hts hi_dm_X5_back_X6 hown hK hP 4 rfl rfl 5 (by decide) (hts (.fieldLink RX5 93 "TimeMachine$Machine" "saved" "[I") (List.mem_of_getElem? (i := 3) rfl)) (fun _ h9 => h9) rfl dX5_back_22 ?_
    refine lv_iload_n hx hb dX5_back_25 rfl (lv_at hl 1 rfl) ?_
    refine lv_bipush (v := 33) hx hb dX5_back_26 (by decide) ?_
    refine lv_imul hx hb dX5_back_28 ?_
    refine lv_aload_n hx hb dX5_back_29 rfl (lv_at hl 0 rfl) ?_
    refine va_get (D := (dC, dI)) (ci := 6) (v := .ref (a 8)) (C := RX5) (T := TX5) (N := 8) hx hb hts hi_dm_X5_back_X5 hown hK hP 0 rfl rfl 2 (by decide) (hts (.fieldLink RX5 33 "TimeMachine$Kernel" "reg" "[I") (List.mem_of_getElem? (i := 4) rfl)) (fun _ h9 => h9) rfl dX5_back_30 ?_
    refine lv_iload_n hx hb dX5_back_33 rfl (lv_at hl 1 rfl) ?_
    refine lv_bipush (v := 33) hx hb dX5_back_34 (by decide) ?_
    refine lv_imul hx hb dX5_back_36 ?_
    refine lv_bipush (v := 33) hx hb dX5_back_37 (by decide) ?_
    obtain ⟨k3, h⟩ := nd_cp_e h
    refine va_copyi (sp := (v0 * 33)) (dp := (v0 * 33)) (n := 33) hx hb (by rw [hml]; exact hl.1.symm) hown (hts (.methodLink RX5 96 arraycopyName) (List.mem_of_getElem? (i := 5) rfl)) (hts (.native arraycopyName) (List.mem_of_getElem? (i := 6) rfl)) (hts (.static arraycopyName) (List.mem_of_getElem? (i := 7) rfl)) (hts (.initialized "java/lang/System") (List.mem_of_getElem? (i := 8) rfl)) hK hP hD hS 9 8 6 5 rfl rfl rfl rfl rfl k3.1 k3.2.1 k3.2.2.1 k3.2.2.2.1 k3.2.2.2.2 (fun _ _ => rfl) (Nat.le_of_ble_eq_true rfl) (by decide +kernel) dX5_back_39 (fun H locs hP hD hS => ?_)
    obtain ⟨s4, es4, h⟩ := nd_let_e h
    have hP : va_P (dC, dI) vwCl (dw_X5 a ac s4) H := by rw [es4]; exact hP
    have hD : va_D A (dw_X5 a ac s4) := by rw [es4]; exact hD
    refine lv_aload_n hx hb dX5_back_42 rfl (lv_at hl 0 rfl) ?_
    refine va_get (D := (dC, dI)) (ci := 6) (v := .ref (a 11)) (C := RX5) (T := TX5) (N := 8) hx hb hts hi_dm_X5_back_X5 hown hK hP 0 rfl rfl 3 (by decide) (hts (.fieldLink RX5 37 "TimeMachine$Kernel" "self" "[I") (List.mem_of_getElem? (i := 1) rfl)) (fun _ h9 => h9) rfl dX5_back_43 ?_
    refine lv_iload_n hx hb dX5_back_46 rfl (lv_at hl 1 rfl) ?_
    refine lv_bipush (v := 7) hx hb dX5_back_47 (by decide) ?_
    refine lv_imul hx hb dX5_back_49 ?_
    refine lv_iconst (v := 4) hx hb dX5_back_50 (by decide) ?_
    refine lv_iadd hx hb dX5_back_51 ?_
    refine lv_iconst (v := 0) hx hb dX5_back_52 (by decide) ?_
    obtain ⟨i5, h⟩ := nd_ck_e h
    refine va_iast (i := ((v0 * 7) + 4)) (x := 0) hx hb hK hP hD hS 11 8 rfl rfl i5 dX5_back_53 (fun H locs hP hD hS => ?_)
    obtain ⟨s6, es6, h⟩ := nd_let_e h
    have hP : va_P (dC, dI) vwCl (dw_X5 a ac s6) H := by rw [es6]; exact hP
    have hD : va_D A (dw_X5 a ac s6) := by rw [es6]; exact hD
    refine lv_ldc2 hx hb hown (hts (.constantLong RX5 159 (2199023255552)) (List.mem_of_getElem? (i := 9) rfl)) dX5_back_54 ?_
    exact K _ _ _ _ _ _ dX5_back_57 (Option.some.inj h).symm hP hD hS
  · have h := nd_pos h c2
    refine lv_ldc2 hx hb hown (hts (.constantLong RX5 251 (-22)) (List.mem_of_getElem? (i := 10) rfl)) dX5_back_14 ?_
    exact K _ _ _ _ _ _ dX5_back_17 (Option.some.inj h).symm hP hD hS
set_option maxHeartbeats 40000000 in
set_option maxRecDepth 100000 in
theorem dm_X5_back (l : Launch) (hlt : l.stackTraces = false) (dC : Nat → ClassId) (dI : Nat → Nat → Nat) (a : Nat → Nat) (ac : Nat → ClassId) (n : Nat) (v0 : Int32) (s0 : St × (St × (St × (St)))) {r : Int64 × (St × (St × (St × (St))))} (h : df_X5_back n v0 s0 = some r) (sz : Nat) : Met l yX5_back ow_dm_X5_back ({ frames := 1, cells := 0, slots := 0, locals := 40 }) (va_Pc [.ref (a 0), .int v0] (fun U => U.heap.size = sz ∧ va_P (dC, dI) vwCl (dw_X5 a ac s0) U.heap ∧ va_K (dC, dI) vwCl (dk_X5 ac) U ∧ va_D (fun _ => True) (dw_X5 a ac s0) ∧ nv_E (va_A (dw_X5 a ac s0) sz) U)) (va_Ql (fun x _ => x = r.1) (fun (_ : Unit) t => va_P (dC, dI) vwCl (dw_X5 a ac r.2) t.heap ∧ va_K (dC, dI) vwCl (dk_X5 ac) t ∧ va_D (va_A (dw_X5 a ac s0) sz) (dw_X5 a ac r.2)) (va_A (dw_X5 a ac s0) sz)) 0 0 (va_A (dw_X5 a ac s0) sz) := by
  refine Met.ofW (cc := cX5_back) (maxL := 2) (ret := (some .long)) (by decide) rfl ?_
  intro p e s m args below meth c s₁ B hml hv
  obtain ⟨rfl, hsz, hP, hK, hD0, hN⟩ := hv
  have hx := B.exec
  have hb := B.bytes
  have hr := B.returns
  have hts := atoms_spec (ws := ow_dm_X5_back) B.pre
  have hown : s.vm.findClass RX5 = some m.cls := findClass_of_methodNamed B.named
  have hlocks := B.notSynchronized
  subst hsz
  have hD := hD0.self (sz := s.heap.size)
  generalize hAe : va_A (dw_X5 a ac s0) s.heap.size = A at hD hN ⊢
  have hA : ∀ q : Nat, s.heap.size ≤ q → A q := fun q h => by rw [← hAe]; exact Or.inr h
  have hl := lv_entry ([.ref (a 0), .int v0]) (n := 2) (Nat.le_of_ble_eq_true rfl)
  rw [lg_entry_eq]
  generalize (lg_sl ([.ref (a 0), .int v0]) ++ List.replicate (2 - (lg_sl ([.ref (a 0), .int v0])).length) Slot.unset).toArray = ls at hl ⊢
  have hl : lv_has ls 2 [(0, .ref (a 0)), (1, .int v0)] := hl
  exact db_X5_back_0 (dC := dC) (dI := dI) (a := a) (ac := ac) (n := n) (r := r) ⟨hlt, hx, hb, hml, hown, hts, hN, hA, hK⟩ (fun pc v τ H locs ls d er hP hD hS => by subst er; exact W.lret (v := v) hx hb hr (fun t ht hW => ⟨⟨v, (), rfl, rfl, by rw [ht]; exact hP, va_K.moved hW.alike hK, hD⟩, hS.F ht⟩) hS.2.2 d) v0 s0 _ _ _ h hP hD va_S.rf (lv_sub hl [0, 1] rfl)
def ow_dm_X5_sleep : List Cond := .code yX5_sleep cX5_sleep 3 (some .long) :: ([.fieldLink RX5 18 "TimeMachine$Kernel" "machine" "LTimeMachine$Machine;", .fieldLink RX5 137 "TimeMachine$Machine" "sleep" "[J", .fieldLink RX5 133 "TimeMachine$Machine" "clock" "J", .constantLong RX5 294 (-1), .constantLong RX5 157 (1099511627776), .constantLong RX5 381 (4294967295)] ++ (u_ws RX5 TX5 8 ++ (u_ws RX6 TX6 20 ++ [])))
theorem gd_dm_X5_sleep : ∀ w ∈ ow_dm_X5_sleep, (w.onTables && w.keeps) = true ∨ ∃ ty, w = Cond.arrayClass ty := List.forall_mem_cons.mpr ⟨good_of_word rfl, List.forall_mem_append.mpr ⟨fun w h => good_of_word (List.all_eq_true.mp (by decide +kernel) w h), List.forall_mem_append.mpr ⟨gu_X5, List.forall_mem_append.mpr ⟨gu_X6, fun _ h => nomatch h⟩⟩⟩⟩
theorem hi_dm_X5_sleep_X5 : ∀ w ∈ u_ws RX5 TX5 8, w ∈ ow_dm_X5_sleep := fun w h => List.mem_cons_of_mem _ (List.mem_append_right _ (List.mem_append_left _ h))
theorem hi_dm_X5_sleep_X6 : ∀ w ∈ u_ws RX6 TX6 20, w ∈ ow_dm_X5_sleep := fun w h => List.mem_cons_of_mem _ (List.mem_append_right _ (List.mem_append_right _ (List.mem_append_left _ h)))
def dj_X5_sleep_37 (p : Program) (l : Launch) (e : Env) (s : State) (m : MethodId) (args : Array Value) (below : List Frame) (meth : Method) (c : Code) (Q : State → Prop) (A : Nat → Prop) (dC : Nat → ClassId) (dI : Nat → Nat → Nat) (a : Nat → Nat) (ac : Nat → ClassId) (g : Int32 → (St × (St × (St × (St)))) → Option (Int64 × (St × (St × (St × (St)))))) (r : Int64 × (St × (St × (St × (St))))) : Prop := ∀ (x1 : Int32) (s0 : St × (St × (St × (St)))) (H : Heap) (locs : List Loc) (ls : Array Slot), g x1 s0 = some r → va_P (dC, dI) vwCl (dw_X5 a ac s0) H → va_D A (dw_X5 a ac s0) → va_S A s.heap H locs → lv_has ls 3 [(0, .ref (a 0)), (1, .int x1)] → W p l e (headSpec ow_dm_X5_sleep ({ frames := 0, cells := 0, slots := 0, locals := 0 })).room s m args below meth c H locs 0 0 Q (F0 m 37 ls [])
def dj_X5_sleep_0 (p : Program) (l : Launch) (e : Env) (s : State) (m : MethodId) (args : Array Value) (below : List Frame) (meth : Method) (c : Code) (Q : State → Prop) (A : Nat → Prop) (dC : Nat → ClassId) (dI : Nat → Nat → Nat) (a : Nat → Nat) (ac : Nat → ClassId) (g : Int32 → Int32 → (St × (St × (St × (St)))) → Option (Int64 × (St × (St × (St × (St)))))) (r : Int64 × (St × (St × (St × (St))))) : Prop := ∀ (v0 : Int32) (v1 : Int32) (s0 : St × (St × (St × (St)))) (H : Heap) (locs : List Loc) (ls : Array Slot), g v0 v1 s0 = some r → va_P (dC, dI) vwCl (dw_X5 a ac s0) H → va_D A (dw_X5 a ac s0) → va_S A s.heap H locs → lv_has ls 3 [(0, .ref (a 0)), (1, .int v0), (2, .int v1)] → W p l e (headSpec ow_dm_X5_sleep ({ frames := 0, cells := 0, slots := 0, locals := 0 })).room s m args below meth c H locs 0 0 Q (F0 m 0 ls [])
set_option maxHeartbeats 40000000 in
set_option maxRecDepth 100000 in
theorem db_X5_sleep_37 {p : Program} {l : Launch} {e : Env} {s : State} {m : MethodId} {args : Array Value} {below : List Frame} {meth : Method} {c : Code} {Q : State → Prop} {A : Nat → Prop} {dC : Nat → ClassId} {dI : Nat → Nat → Nat} {a : Nat → Nat} {ac : Nat → ClassId} {n : Nat} {r : Int64 × (St × (St × (St × (St))))} (C : nd_C p l s m args c A (dC, dI) cX5_sleep 3 RX5 ow_dm_X5_sleep (dk_X5 ac)) (K : nd_Kl p l e (headSpec ow_dm_X5_sleep ({ frames := 0, cells := 0, slots := 0, locals := 0 })).room s m args below meth c Q A (dC, dI) cX5_sleep (St × (St × (St × (St)))) (dw_X5 a ac) r) : dj_X5_sleep_37 p l e s m args below meth c Q A dC dI a ac (df_X5_sleep_37 n) r := by
  obtain ⟨hlt, hx, hb, hml, hown, hts, hN, hA, hK⟩ := id C
  intro x1 s0 H locs ls h hP hD hS hl
  unfold df_X5_sleep_37 at h
  refine lv_aload_n hx hb dX5_sleep_37 rfl (lv_at hl 0 rfl) ?_
  refine va_get (D := (dC, dI)) (ci := 6) (v := .ref (a 4)) (C := RX5) (T := TX5) (N := 8) hx hb hts hi_dm_X5_sleep_X5 hown hK hP 0 rfl rfl 0 (by decide) (hts (.fieldLink RX5 18 "TimeMachine$Kernel" "machine" "LTimeMachine$Machine;") (List.mem_of_getElem? (i := 1) rfl)) (fun _ h9 => h9) rfl dX5_sleep_38 ?_
  refine va_get (D := (dC, dI)) (ci := 7) (v := .long (sL s0.2.2.1 0)) (C := RX6) (T := TX6) (N := 20) hx hb hts hi_dm_X5_sleep_X6 hown hK hP 4 rfl rfl 17 (by decide) (hts (.fieldLink RX5 133 "TimeMachine$Machine" "clock" "J") (List.mem_of_getElem? (i := 3) rfl)) (fun _ h9 => h9) rfl dX5_sleep_41 ?_
  refine lv_aload_n hx hb dX5_sleep_44 rfl (lv_at hl 0 rfl) ?_
  refine va_get (D := (dC, dI)) (ci := 6) (v := .ref (a 4)) (C := RX5) (T := TX5) (N := 8) hx hb hts hi_dm_X5_sleep_X5 hown hK hP 0 rfl rfl 0 (by decide) (hts (.fieldLink RX5 18 "TimeMachine$Kernel" "machine" "LTimeMachine$Machine;") (List.mem_of_getElem? (i := 1) rfl)) (fun _ h9 => h9) rfl dX5_sleep_45 ?_
  refine va_get (D := (dC, dI)) (ci := 7) (v := .ref (a 12)) (C := RX6) (T := TX6) (N := 20) hx hb hts hi_dm_X5_sleep_X6 hown hK hP 4 rfl rfl 8 (by decide) (hts (.fieldLink RX5 137 "TimeMachine$Machine" "sleep" "[J") (List.mem_of_getElem? (i := 2) rfl)) (fun _ h9 => h9) rfl dX5_sleep_48 ?_
  refine lv_iload_n hx hb dX5_sleep_51 rfl (lv_at hl 1 rfl) ?_
  obtain ⟨i3, h⟩ := nd_ck_e h
  refine va_lald (i := x1) hx hb hK hP 12 9 rfl rfl i3 dX5_sleep_52 ?_
  refine W.lcmp hx hb dX5_sleep_53 ?_
  refine lv_if_ge (tgt := 61) hx hb dX5_sleep_54 (by decide) (fun c4 => ?_) (fun c4 => ?_)
  · have h := nd_pos h c4
    refine lv_aload_n hx hb dX5_sleep_61 rfl (lv_at hl 0 rfl) ?_
    refine va_get (D := (dC, dI)) (ci := 6) (v := .ref (a 4)) (C := RX5) (T := TX5) (N := 8) hx hb hts hi_dm_X5_sleep_X5 hown hK hP 0 rfl rfl 0 (by decide) (hts (.fieldLink RX5 18 "TimeMachine$Kernel" "machine" "LTimeMachine$Machine;") (List.mem_of_getElem? (i := 1) rfl)) (fun _ h9 => h9) rfl dX5_sleep_62 ?_
    refine va_get (D := (dC, dI)) (ci := 7) (v := .ref (a 12)) (C := RX6) (T := TX6) (N := 20) hx hb hts hi_dm_X5_sleep_X6 hown hK hP 4 rfl rfl 8 (by decide) (hts (.fieldLink RX5 137 "TimeMachine$Machine" "sleep" "[J") (List.mem_of_getElem? (i := 2) rfl)) (fun _ h9 => h9) rfl dX5_sleep_65 ?_
    refine lv_iload_n hx hb dX5_sleep_68 rfl (lv_at hl 1 rfl) ?_
    refine lv_ldc2 hx hb hown (hts (.constantLong RX5 294 (-1)) (List.mem_of_getElem? (i := 4) rfl)) dX5_sleep_69 ?_
    obtain ⟨i5, h⟩ := nd_ck_e h
    refine va_last (i := x1) (x := (-1)) hx hb hK hP hD hS 12 9 rfl rfl i5 dX5_sleep_72 (fun H locs hP hD hS => ?_)
    obtain ⟨s6, es6, h⟩ := nd_let_e h
    have hP : va_P (dC, dI) vwCl (dw_X5 a ac s6) H := by rw [es6]; exact hP
    have hD : va_D A (dw_X5 a ac s6) := by rw [es6]; exact hD
    refine lv_lconst (v := 0) hx hb dX5_sleep_73 (by decide) ?_
    exact K _ _ _ _ _ _ dX5_sleep_74 (Option.some.inj h).symm hP hD hS
  · have h := nd_neg h c4
    refine lv_ldc2 hx hb hown (hts (.constantLong RX5 157 (1099511627776)) (List.mem_of_getElem? (i := 5) rfl)) dX5_sleep_57 ?_
    exact K _ _ _ _ _ _ dX5_sleep_60 (Option.some.inj h).symm hP hD hS
set_option maxHeartbeats 40000000 in
set_option maxRecDepth 100000 in
theorem db_X5_sleep_0 {p : Program} {l : Launch} {e : Env} {s : State} {m : MethodId} {args : Array Value} {below : List Frame} {meth : Method} {c : Code} {Q : State → Prop} {A : Nat → Prop} {dC : Nat → ClassId} {dI : Nat → Nat → Nat} {a : Nat → Nat} {ac : Nat → ClassId} {n : Nat} {r : Int64 × (St × (St × (St × (St))))} (C : nd_C p l s m args c A (dC, dI) cX5_sleep 3 RX5 ow_dm_X5_sleep (dk_X5 ac)) (K : nd_Kl p l e (headSpec ow_dm_X5_sleep ({ frames := 0, cells := 0, slots := 0, locals := 0 })).room s m args below meth c Q A (dC, dI) cX5_sleep (St × (St × (St × (St)))) (dw_X5 a ac) r) : dj_X5_sleep_0 p l e s m args below meth c Q A dC dI a ac (df_X5_sleep_0 n) r := by
  obtain ⟨hlt, hx, hb, hml, hown, hts, hN, hA, hK⟩ := id C
  intro v0 v1 s0 H locs ls h hP hD hS hl
  unfold df_X5_sleep_0 at h
  refine lv_aload_n hx hb dX5_sleep_0 rfl (lv_at hl 0 rfl) ?_
  refine va_get (D := (dC, dI)) (ci := 6) (v := .ref (a 4)) (C := RX5) (T := TX5) (N := 8) hx hb hts hi_dm_X5_sleep_X5 hown hK hP 0 rfl rfl 0 (by decide) (hts (.fieldLink RX5 18 "TimeMachine$Kernel" "machine" "LTimeMachine$Machine;") (List.mem_of_getElem? (i := 1) rfl)) (fun _ h9 => h9) rfl dX5_sleep_1 ?_
  refine va_get (D := (dC, dI)) (ci := 7) (v := .ref (a 12)) (C := RX6) (T := TX6) (N := 20) hx hb hts hi_dm_X5_sleep_X6 hown hK hP 4 rfl rfl 8 (by decide) (hts (.fieldLink RX5 137 "TimeMachine$Machine" "sleep" "[J") (List.mem_of_getElem? (i := 2) rfl)) (fun _ h9 => h9) rfl dX5_sleep_4 ?_
  refine lv_iload_n hx hb dX5_sleep_7 rfl (lv_at hl 1 rfl) ?_
  obtain ⟨i1, h⟩ := nd_ck_e h
  refine va_lald (i := v0) hx hb hK hP 12 9 rfl rfl i1 dX5_sleep_8 ?_
  refine lv_lconst (v := 0) hx hb dX5_sleep_9 (by decide) ?_
  refine W.lcmp hx hb dX5_sleep_10 ?_
  refine lv_if_ge (tgt := 37) hx hb dX5_sleep_11 (by decide) (fun c2 => ?_) (fun c2 => ?_)
  · have h := nd_pos h c2
    exact (db_X5_sleep_37 C K) (v0) s0 _ _ _ h hP hD hS (lv_sub hl [0, 1] rfl)
  · have h := nd_neg h c2
    refine lv_aload_n hx hb dX5_sleep_14 rfl (lv_at hl 0 rfl) ?_
    refine va_get (D := (dC, dI)) (ci := 6) (v := .ref (a 4)) (C := RX5) (T := TX5) (N := 8) hx hb hts hi_dm_X5_sleep_X5 hown hK hP 0 rfl rfl 0 (by decide) (hts (.fieldLink RX5 18 "TimeMachine$Kernel" "machine" "LTimeMachine$Machine;") (List.mem_of_getElem? (i := 1) rfl)) (fun _ h9 => h9) rfl dX5_sleep_15 ?_
    refine va_get (D := (dC, dI)) (ci := 7) (v := .ref (a 12)) (C := RX6) (T := TX6) (N := 20) hx hb hts hi_dm_X5_sleep_X6 hown hK hP 4 rfl rfl 8 (by decide) (hts (.fieldLink RX5 137 "TimeMachine$Machine" "sleep" "[J") (List.mem_of_getElem? (i := 2) rfl)) (fun _ h9 => h9) rfl dX5_sleep_18 ?_
    refine lv_iload_n hx hb dX5_sleep_21 rfl (lv_at hl 1 rfl) ?_
    refine lv_aload_n hx hb dX5_sleep_22 rfl (lv_at hl 0 rfl) ?_
    refine va_get (D := (dC, dI)) (ci := 6) (v := .ref (a 4)) (C := RX5) (T := TX5) (N := 8) hx hb hts hi_dm_X5_sleep_X5 hown hK hP 0 rfl rfl 0 (by decide) (hts (.fieldLink RX5 18 "TimeMachine$Kernel" "machine" "LTimeMachine$Machine;") (List.mem_of_getElem? (i := 1) rfl)) (fun _ h9 => h9) rfl dX5_sleep_23 ?_
    refine va_get (D := (dC, dI)) (ci := 7) (v := .long (sL s0.2.2.1 0)) (C := RX6) (T := TX6) (N := 20) hx hb hts hi_dm_X5_sleep_X6 hown hK hP 4 rfl rfl 17 (by decide) (hts (.fieldLink RX5 133 "TimeMachine$Machine" "clock" "J") (List.mem_of_getElem? (i := 3) rfl)) (fun _ h9 => h9) rfl dX5_sleep_26 ?_
    refine lv_iload_n hx hb dX5_sleep_29 rfl (lv_at hl 2 rfl) ?_
    refine lv_i2l hx hb dX5_sleep_30 rfl ?_
    refine lv_ldc2 hx hb hown (hts (.constantLong RX5 381 (4294967295)) (List.mem_of_getElem? (i := 6) rfl)) dX5_sleep_31 ?_
    refine lv_land hx hb dX5_sleep_34 ?_
    refine lv_ladd hx hb dX5_sleep_35 ?_
    obtain ⟨i7, h⟩ := nd_ck_e h
    refine va_last (i := v0) (x := (((sL s0.2.2.1 0) : Int64) + (((v1.toInt64) : Int64) &&& 4294967295))) hx hb hK hP hD hS 12 9 rfl rfl i7 dX5_sleep_36 (fun H locs hP hD hS => ?_)
    obtain ⟨s8, es8, h⟩ := nd_let_e h
    have hP : va_P (dC, dI) vwCl (dw_X5 a ac s8) H := by rw [es8]; exact hP
    have hD : va_D A (dw_X5 a ac s8) := by rw [es8]; exact hD
    exact (db_X5_sleep_37 C K) (v0) s8 _ _ _ h hP hD hS (lv_sub hl [0, 1] rfl)
set_option maxHeartbeats 40000000 in
set_option maxRecDepth 100000 in
theorem dm_X5_sleep (l : Launch) (hlt : l.stackTraces = false) (dC : Nat → ClassId) (dI : Nat → Nat → Nat) (a : Nat → Nat) (ac : Nat → ClassId) (n : Nat) (v0 : Int32) (v1 : Int32) (s0 : St × (St × (St × (St)))) {r : Int64 × (St × (St × (St × (St))))} (h : df_X5_sleep n v0 v1 s0 = some r) (sz : Nat) : Met l yX5_sleep ow_dm_X5_sleep ({ frames := 0, cells := 0, slots := 0, locals := 0 }) (va_Pc [.ref (a 0), .int v0, .int v1] (fun U => U.heap.size = sz ∧ va_P (dC, dI) vwCl (dw_X5 a ac s0) U.heap ∧ va_K (dC, dI) vwCl (dk_X5 ac) U ∧ va_D (fun _ => True) (dw_X5 a ac s0) ∧ nv_E (va_A (dw_X5 a ac s0) sz) U)) (va_Ql (fun x _ => x = r.1) (fun (_ : Unit) t => va_P (dC, dI) vwCl (dw_X5 a ac r.2) t.heap ∧ va_K (dC, dI) vwCl (dk_X5 ac) t ∧ va_D (va_A (dw_X5 a ac s0) sz) (dw_X5 a ac r.2)) (va_A (dw_X5 a ac s0) sz)) 0 0 (va_A (dw_X5 a ac s0) sz) := by
  refine Met.ofW (cc := cX5_sleep) (maxL := 3) (ret := (some .long)) (by decide) rfl ?_
  intro p e s m args below meth c s₁ B hml hv
  obtain ⟨rfl, hsz, hP, hK, hD0, hN⟩ := hv
  have hx := B.exec
  have hb := B.bytes
  have hr := B.returns
  have hts := atoms_spec (ws := ow_dm_X5_sleep) B.pre
  have hown : s.vm.findClass RX5 = some m.cls := findClass_of_methodNamed B.named
  have hlocks := B.notSynchronized
  subst hsz
  have hD := hD0.self (sz := s.heap.size)
  generalize hAe : va_A (dw_X5 a ac s0) s.heap.size = A at hD hN ⊢
  have hA : ∀ q : Nat, s.heap.size ≤ q → A q := fun q h => by rw [← hAe]; exact Or.inr h
  have hl := lv_entry ([.ref (a 0), .int v0, .int v1]) (n := 3) (Nat.le_of_ble_eq_true rfl)
  rw [lg_entry_eq]
  generalize (lg_sl ([.ref (a 0), .int v0, .int v1]) ++ List.replicate (3 - (lg_sl ([.ref (a 0), .int v0, .int v1])).length) Slot.unset).toArray = ls at hl ⊢
  have hl : lv_has ls 3 [(0, .ref (a 0)), (1, .int v0), (2, .int v1)] := hl
  exact db_X5_sleep_0 (dC := dC) (dI := dI) (a := a) (ac := ac) (n := n) (r := r) ⟨hlt, hx, hb, hml, hown, hts, hN, hA, hK⟩ (fun pc v τ H locs ls d er hP hD hS => by subst er; exact W.lret (v := v) hx hb hr (fun t ht hW => ⟨⟨v, (), rfl, rfl, by rw [ht]; exact hP, va_K.moved hW.alike hK, hD⟩, hS.F ht⟩) hS.2.2 d) v0 v1 s0 _ _ _ h hP hD va_S.rf (lv_sub hl [0, 1, 2] rfl)
def ow_dm_X5_answer : List Cond := .code yX5_answer cX5_answer 4 (some .int) :: ([.constantLong RX5 155 (4398046511104), .constantLong RX5 157 (1099511627776), .constantLong RX5 159 (2199023255552), .fieldLink RX5 33 "TimeMachine$Kernel" "reg" "[I", .fieldLink RX5 37 "TimeMachine$Kernel" "self" "[I", .fieldLink RX5 18 "TimeMachine$Kernel" "machine" "LTimeMachine$Machine;", .fieldLink RX5 102 "TimeMachine$Machine" "waiting" "I"] ++ (u_ws RX5 TX5 8 ++ (u_ws RX6 TX6 20 ++ [])))
theorem gd_dm_X5_answer : ∀ w ∈ ow_dm_X5_answer, (w.onTables && w.keeps) = true ∨ ∃ ty, w = Cond.arrayClass ty := List.forall_mem_cons.mpr ⟨good_of_word rfl, List.forall_mem_append.mpr ⟨fun w h => good_of_word (List.all_eq_true.mp (by decide +kernel) w h), List.forall_mem_append.mpr ⟨gu_X5, List.forall_mem_append.mpr ⟨gu_X6, fun _ h => nomatch h⟩⟩⟩⟩
theorem hi_dm_X5_answer_X5 : ∀ w ∈ u_ws RX5 TX5 8, w ∈ ow_dm_X5_answer := fun w h => List.mem_cons_of_mem _ (List.mem_append_right _ (List.mem_append_left _ h))
theorem hi_dm_X5_answer_X6 : ∀ w ∈ u_ws RX6 TX6 20, w ∈ ow_dm_X5_answer := fun w h => List.mem_cons_of_mem _ (List.mem_append_right _ (List.mem_append_right _ (List.mem_append_left _ h)))
def dj_X5_answer_85 (p : Program) (l : Launch) (e : Env) (s : State) (m : MethodId) (args : Array Value) (below : List Frame) (meth : Method) (c : Code) (Q : State → Prop) (A : Nat → Prop) (dC : Nat → ClassId) (dI : Nat → Nat → Nat) (a : Nat → Nat) (ac : Nat → ClassId) (g : (St × (St × (St × (St)))) → Option (Int32 × (St × (St × (St × (St)))))) (r : Int32 × (St × (St × (St × (St))))) : Prop := ∀ (s0 : St × (St × (St × (St)))) (H : Heap) (locs : List Loc) (ls : Array Slot), g s0 = some r → va_P (dC, dI) vwCl (dw_X5 a ac s0) H → va_D A (dw_X5 a ac s0) → va_S A s.heap H locs → lv_has ls 4 [] → W p l e (headSpec ow_dm_X5_answer ({ frames := 0, cells := 0, slots := 0, locals := 0 })).room s m args below meth c H locs 0 0 Q (F0 m 85 ls [])
def dj_X5_answer_0 (p : Program) (l : Launch) (e : Env) (s : State) (m : MethodId) (args : Array Value) (below : List Frame) (meth : Method) (c : Code) (Q : State → Prop) (A : Nat → Prop) (dC : Nat → ClassId) (dI : Nat → Nat → Nat) (a : Nat → Nat) (ac : Nat → ClassId) (g : Int32 → Int64 → (St × (St × (St × (St)))) → Option (Int32 × (St × (St × (St × (St)))))) (r : Int32 × (St × (St × (St × (St))))) : Prop := ∀ (v0 : Int32) (v1 : Int64) (s0 : St × (St × (St × (St)))) (H : Heap) (locs : List Loc) (ls : Array Slot), g v0 v1 s0 = some r → va_P (dC, dI) vwCl (dw_X5 a ac s0) H → va_D A (dw_X5 a ac s0) → va_S A s.heap H locs → lv_has ls 4 [(0, .ref (a 0)), (1, .int v0), (2, .long v1)] → W p l e (headSpec ow_dm_X5_answer ({ frames := 0, cells := 0, slots := 0, locals := 0 })).room s m args below meth c H locs 0 0 Q (F0 m 0 ls [])
set_option maxHeartbeats 40000000 in
set_option maxRecDepth 100000 in
theorem db_X5_answer_85 {p : Program} {l : Launch} {e : Env} {s : State} {m : MethodId} {args : Array Value} {below : List Frame} {meth : Method} {c : Code} {Q : State → Prop} {A : Nat → Prop} {dC : Nat → ClassId} {dI : Nat → Nat → Nat} {a : Nat → Nat} {ac : Nat → ClassId} {n : Nat} {r : Int32 × (St × (St × (St × (St))))} (C : nd_C p l s m args c A (dC, dI) cX5_answer 4 RX5 ow_dm_X5_answer (dk_X5 ac)) (K : nd_Ki p l e (headSpec ow_dm_X5_answer ({ frames := 0, cells := 0, slots := 0, locals := 0 })).room s m args below meth c Q A (dC, dI) cX5_answer .int (St × (St × (St × (St)))) (dw_X5 a ac) r) : dj_X5_answer_85 p l e s m args below meth c Q A dC dI a ac (df_X5_answer_85 n) r := by
  obtain ⟨hlt, hx, hb, hml, hown, hts, hN, hA, hK⟩ := id C
  intro s0 H locs ls h hP hD hS hl
  unfold df_X5_answer_85 at h
  refine lv_iconst (v := 0) hx hb dX5_answer_85 (by decide) ?_
  exact K _ _ _ _ _ _ dX5_answer_86 rfl (Option.some.inj h).symm hP hD hS
set_option maxHeartbeats 40000000 in
set_option maxRecDepth 100000 in
theorem db_X5_answer_0 {p : Program} {l : Launch} {e : Env} {s : State} {m : MethodId} {args : Array Value} {below : List Frame} {meth : Method} {c : Code} {Q : State → Prop} {A : Nat → Prop} {dC : Nat → ClassId} {dI : Nat → Nat → Nat} {a : Nat → Nat} {ac : Nat → ClassId} {n : Nat} {r : Int32 × (St × (St × (St × (St))))} (C : nd_C p l s m args c A (dC, dI) cX5_answer 4 RX5 ow_dm_X5_answer (dk_X5 ac)) (K : nd_Ki p l e (headSpec ow_dm_X5_answer ({ frames := 0, cells := 0, slots := 0, locals := 0 })).room s m args below meth c Q A (dC, dI) cX5_answer .int (St × (St × (St × (St)))) (dw_X5 a ac) r) : dj_X5_answer_0 p l e s m args below meth c Q A dC dI a ac (df_X5_answer_0 n) r := by
  obtain ⟨hlt, hx, hb, hml, hown, hts, hN, hA, hK⟩ := id C
  intro v0 v1 s0 H locs ls h hP hD hS hl
  unfold df_X5_answer_0 at h
  refine lv_lload_n hx hb dX5_answer_0 rfl (lv_at hl 2 rfl) ?_
  refine lv_ldc2 hx hb hown (hts (.constantLong RX5 155 (4398046511104)) (List.mem_of_getElem? (i := 1) rfl)) dX5_answer_1 ?_
  refine W.lcmp hx hb dX5_answer_4 ?_
  refine lv_if_ne (tgt := 11) hx hb dX5_answer_5 (by decide) (fun c1 => ?_) (fun c1 => ?_)
  · have h := nd_neg h c1
    refine lv_lload_n hx hb dX5_answer_11 rfl (lv_at hl 2 rfl) ?_
    refine lv_ldc2 hx hb hown (hts (.constantLong RX5 157 (1099511627776)) (List.mem_of_getElem? (i := 2) rfl)) dX5_answer_12 ?_
    refine W.lcmp hx hb dX5_answer_15 ?_
    refine lv_if_ne (tgt := 47) hx hb dX5_answer_16 (by decide) (fun c2 => ?_) (fun c2 => ?_)
    · have h := nd_neg h c2
      refine lv_lload_n hx hb dX5_answer_47 rfl (lv_at hl 2 rfl) ?_
      refine lv_ldc2 hx hb hown (hts (.constantLong RX5 159 (2199023255552)) (List.mem_of_getElem? (i := 3) rfl)) dX5_answer_48 ?_
      refine W.lcmp hx hb dX5_answer_51 ?_
      refine lv_if_eq (tgt := 85) hx hb dX5_answer_52 (by decide) (fun c3 => ?_) (fun c3 => ?_)
      · have h := nd_pos h c3
        exact (db_X5_answer_85 C K)  s0 _ _ _ h hP hD hS (lv_sub hl [] rfl)
      · have h := nd_neg h c3
        refine lv_aload_n hx hb dX5_answer_55 rfl (lv_at hl 0 rfl) ?_
        refine va_get (D := (dC, dI)) (ci := 6) (v := .ref (a 8)) (C := RX5) (T := TX5) (N := 8) hx hb hts hi_dm_X5_answer_X5 hown hK hP 0 rfl rfl 2 (by decide) (hts (.fieldLink RX5 33 "TimeMachine$Kernel" "reg" "[I") (List.mem_of_getElem? (i := 4) rfl)) (fun _ h9 => h9) rfl dX5_answer_56 ?_
        refine lv_iload_n hx hb dX5_answer_59 rfl (lv_at hl 1 rfl) ?_
        refine lv_bipush (v := 33) hx hb dX5_answer_60 (by decide) ?_
        refine lv_imul hx hb dX5_answer_62 ?_
        refine lv_bipush (v := 10) hx hb dX5_answer_63 (by decide) ?_
        refine lv_iadd hx hb dX5_answer_65 ?_
        refine lv_lload_n hx hb dX5_answer_66 rfl (lv_at hl 2 rfl) ?_
        refine lv_l2i hx hb dX5_answer_67 rfl ?_
        obtain ⟨i4, h⟩ := nd_ck_e h
        refine va_iast (i := ((v0 * 33) + 10)) (x := (v1.toInt32)) hx hb hK hP hD hS 8 5 rfl rfl i4 dX5_answer_68 (fun H locs hP hD hS => ?_)
        obtain ⟨s5, es5, h⟩ := nd_let_e h
        have hP : va_P (dC, dI) vwCl (dw_X5 a ac s5) H := by rw [es5]; exact hP
        have hD : va_D A (dw_X5 a ac s5) := by rw [es5]; exact hD
        refine lv_aload_n hx hb dX5_answer_69 rfl (lv_at hl 0 rfl) ?_
        refine va_get (D := (dC, dI)) (ci := 6) (v := .ref (a 8)) (C := RX5) (T := TX5) (N := 8) hx hb hts hi_dm_X5_answer_X5 hown hK hP 0 rfl rfl 2 (by decide) (hts (.fieldLink RX5 33 "TimeMachine$Kernel" "reg" "[I") (List.mem_of_getElem? (i := 4) rfl)) (fun _ h9 => h9) rfl dX5_answer_70 ?_
        refine lv_iload_n hx hb dX5_answer_73 rfl (lv_at hl 1 rfl) ?_
        refine lv_bipush (v := 33) hx hb dX5_answer_74 (by decide) ?_
        refine lv_imul hx hb dX5_answer_76 ?_
        refine lv_bipush (v := 32) hx hb dX5_answer_77 (by decide) ?_
        refine lv_iadd hx hb dX5_answer_79 ?_
        refine lv_dup2_11 hx hb dX5_answer_80 rfl rfl ?_
        obtain ⟨i6, h⟩ := nd_ck_e h
        refine va_iald (i := ((v0 * 33) + 32)) hx hb hK hP 8 5 rfl rfl i6 dX5_answer_81 ?_
        refine lv_iconst (v := 4) hx hb dX5_answer_82 (by decide) ?_
        refine lv_iadd hx hb dX5_answer_83 ?_
        obtain ⟨i7, h⟩ := nd_ck_e h
        refine va_iast (i := ((v0 * 33) + 32)) (x := ((sR s5.2.2.1 3 (Int32.toNatClampNeg ((v0 * 33) + 32))) + 4)) hx hb hK hP hD hS 8 5 rfl rfl i7 dX5_answer_84 (fun H locs hP hD hS => ?_)
        obtain ⟨s8, es8, h⟩ := nd_let_e h
        have hP : va_P (dC, dI) vwCl (dw_X5 a ac s8) H := by rw [es8]; exact hP
        have hD : va_D A (dw_X5 a ac s8) := by rw [es8]; exact hD
        exact (db_X5_answer_85 C K)  s8 _ _ _ h hP hD hS (lv_sub hl [] rfl)
    · have h := nd_pos h c2
      refine lv_aload_n hx hb dX5_answer_19 rfl (lv_at hl 0 rfl) ?_
      refine va_get (D := (dC, dI)) (ci := 6) (v := .ref (a 11)) (C := RX5) (T := TX5) (N := 8) hx hb hts hi_dm_X5_answer_X5 hown hK hP 0 rfl rfl 3 (by decide) (hts (.fieldLink RX5 37 "TimeMachine$Kernel" "self" "[I") (List.mem_of_getElem? (i := 5) rfl)) (fun _ h9 => h9) rfl dX5_answer_20 ?_
      refine lv_iload_n hx hb dX5_answer_23 rfl (lv_at hl 1 rfl) ?_
      refine lv_bipush (v := 7) hx hb dX5_answer_24 (by decide) ?_
      refine lv_imul hx hb dX5_answer_26 ?_
      refine lv_iconst (v := 0) hx hb dX5_answer_27 (by decide) ?_
      refine lv_iadd hx hb dX5_answer_28 ?_
      refine lv_iconst (v := 2) hx hb dX5_answer_29 (by decide) ?_
      obtain ⟨i9, h⟩ := nd_ck_e h
      refine va_iast (i := ((v0 * 7) + 0)) (x := 2) hx hb hK hP hD hS 11 8 rfl rfl i9 dX5_answer_30 (fun H locs hP hD hS => ?_)
      obtain ⟨s10, es10, h⟩ := nd_let_e h
      have hP : va_P (dC, dI) vwCl (dw_X5 a ac s10) H := by rw [es10]; exact hP
      have hD : va_D A (dw_X5 a ac s10) := by rw [es10]; exact hD
      refine lv_aload_n hx hb dX5_answer_31 rfl (lv_at hl 0 rfl) ?_
      refine va_get (D := (dC, dI)) (ci := 6) (v := .ref (a 4)) (C := RX5) (T := TX5) (N := 8) hx hb hts hi_dm_X5_answer_X5 hown hK hP 0 rfl rfl 0 (by decide) (hts (.fieldLink RX5 18 "TimeMachine$Kernel" "machine" "LTimeMachine$Machine;") (List.mem_of_getElem? (i := 6) rfl)) (fun _ h9 => h9) rfl dX5_answer_32 ?_
      refine lv_dup hx hb dX5_answer_35 rfl ?_
      refine va_get (D := (dC, dI)) (ci := 7) (v := .int (sI s10.2.2.1 2)) (C := RX6) (T := TX6) (N := 20) hx hb hts hi_dm_X5_answer_X6 hown hK hP 4 rfl rfl 12 (by decide) (hts (.fieldLink RX5 102 "TimeMachine$Machine" "waiting" "I") (List.mem_of_getElem? (i := 7) rfl)) (fun _ h9 => h9) rfl dX5_answer_36 ?_
      refine lv_iconst (v := 1) hx hb dX5_answer_39 (by decide) ?_
      refine lv_iadd hx hb dX5_answer_40 ?_
      refine va_put (D := (dC, dI)) (ci := 7) (v := .int ((sI s10.2.2.1 2) + 1)) (ty := .int) (C := RX6) (T := TX6) (N := 20) hx hb hts hi_dm_X5_answer_X6 tyX6 tyX6_ok nmX6 hown hK hP hD hS 4 rfl rfl 12 (by decide) (hts (.fieldLink RX5 102 "TimeMachine$Machine" "waiting" "I") (List.mem_of_getElem? (i := 7) rfl)) (fun _ h9 => h9) rfl (by decide +kernel) rfl rfl (Nat.le_of_ble_eq_true rfl) dX5_answer_41 (fun H locs hP hD hS => ?_)
      obtain ⟨s11, es11, h⟩ := nd_let_e h
      have hP : va_P (dC, dI) vwCl (dw_X5 a ac s11) H := by rw [es11]; exact hP
      have hD : va_D A (dw_X5 a ac s11) := by rw [es11]; exact hD
      refine lv_goto (tgt := 85) hx hb dX5_answer_44 (by decide) ?_
      exact (db_X5_answer_85 C K)  s11 _ _ _ h hP hD hS (lv_sub hl [] rfl)
  · have h := nd_pos h c1
    refine lv_bipush (v := 7) hx hb dX5_answer_8 (by decide) ?_
    exact K _ _ _ _ _ _ dX5_answer_10 rfl (Option.some.inj h).symm hP hD hS
set_option maxHeartbeats 40000000 in
set_option maxRecDepth 100000 in
theorem dm_X5_answer (l : Launch) (hlt : l.stackTraces = false) (dC : Nat → ClassId) (dI : Nat → Nat → Nat) (a : Nat → Nat) (ac : Nat → ClassId) (n : Nat) (v0 : Int32) (v1 : Int64) (s0 : St × (St × (St × (St)))) {r : Int32 × (St × (St × (St × (St))))} (h : df_X5_answer n v0 v1 s0 = some r) (sz : Nat) : Met l yX5_answer ow_dm_X5_answer ({ frames := 0, cells := 0, slots := 0, locals := 0 }) (va_Pc [.ref (a 0), .int v0, .long v1] (fun U => U.heap.size = sz ∧ va_P (dC, dI) vwCl (dw_X5 a ac s0) U.heap ∧ va_K (dC, dI) vwCl (dk_X5 ac) U ∧ va_D (fun _ => True) (dw_X5 a ac s0) ∧ nv_E (va_A (dw_X5 a ac s0) sz) U)) (va_Qi (fun x _ => x = r.1) (fun (_ : Unit) t => va_P (dC, dI) vwCl (dw_X5 a ac r.2) t.heap ∧ va_K (dC, dI) vwCl (dk_X5 ac) t ∧ va_D (va_A (dw_X5 a ac s0) sz) (dw_X5 a ac r.2)) (va_A (dw_X5 a ac s0) sz)) 0 0 (va_A (dw_X5 a ac s0) sz) := by
  refine Met.ofW (cc := cX5_answer) (maxL := 4) (ret := (some .int)) (by decide) rfl ?_
  intro p e s m args below meth c s₁ B hml hv
  obtain ⟨rfl, hsz, hP, hK, hD0, hN⟩ := hv
  have hx := B.exec
  have hb := B.bytes
  have hr := B.returns
  have hts := atoms_spec (ws := ow_dm_X5_answer) B.pre
  have hown : s.vm.findClass RX5 = some m.cls := findClass_of_methodNamed B.named
  have hlocks := B.notSynchronized
  subst hsz
  have hD := hD0.self (sz := s.heap.size)
  generalize hAe : va_A (dw_X5 a ac s0) s.heap.size = A at hD hN ⊢
  have hA : ∀ q : Nat, s.heap.size ≤ q → A q := fun q h => by rw [← hAe]; exact Or.inr h
  have hl := lv_entry ([.ref (a 0), .int v0, .long v1]) (n := 4) (Nat.le_of_ble_eq_true rfl)
  rw [lg_entry_eq]
  generalize (lg_sl ([.ref (a 0), .int v0, .long v1]) ++ List.replicate (4 - (lg_sl ([.ref (a 0), .int v0, .long v1])).length) Slot.unset).toArray = ls at hl ⊢
  have hl : lv_has ls 4 [(0, .ref (a 0)), (1, .int v0), (2, .long v1)] := hl
  exact db_X5_answer_0 (dC := dC) (dI := dI) (a := a) (ac := ac) (n := n) (r := r) ⟨hlt, hx, hb, hml, hown, hts, hN, hA, hK⟩ (fun pc v τ H locs ls d z er hP hD hS => by subst er; exact W.zret (v := v) hx hb hr z (fun t ht hW => ⟨⟨v, (), rfl, rfl, by rw [ht]; exact hP, va_K.moved hW.alike hK, hD⟩, hS.F ht⟩) hS.2.2 d) v0 v1 s0 _ _ _ h hP hD va_S.rf (lv_sub hl [0, 1, 2] rfl)
def ow_dm_X5_come : List Cond := .code yX5_come cX5_come 8 (some .boolean) :: ([.fieldLink RX5 18 "TimeMachine$Kernel" "machine" "LTimeMachine$Machine;", .methodLink RX5 105 yX6_status, .instanceMethod yX6_status, .selects RX6 yX6_status yX6_status, .initialized RX6, .methodLink RX5 83 yX5_settle, .instanceMethod yX5_settle, .selects RX5 yX5_settle yX5_settle, .initialized RX5, .methodLink RX5 144 yX6_makeCurrent, .instanceMethod yX6_makeCurrent, .selects RX6 yX6_makeCurrent yX6_makeCurrent, .fieldLink RX5 28 "TimeMachine$Kernel" "things" "LTimeMachine$Things;", .methodLink RX5 148 yX10_type, .instanceMethod yX10_type, .selects RX10 yX10_type yX10_type, .initialized RX10, .fieldLink RX5 37 "TimeMachine$Kernel" "self" "[I", .fieldLink RX5 133 "TimeMachine$Machine" "clock" "J", .methodLink RX5 152 yX6_addRandom, .instanceMethod yX6_addRandom, .selects RX6 yX6_addRandom yX6_addRandom] ++ (u_ws RX5 TX5 8 ++ (u_ws RX6 TX6 20 ++ (ow_dm_X6_status ++ (ow_dm_X5_settle ++ (ow_dm_X6_makeCurrent ++ (ow_dm_X10_type ++ (ow_dm_X6_addRandom ++ []))))))))
theorem gd_dm_X5_come : ∀ w ∈ ow_dm_X5_come, (w.onTables && w.keeps) = true ∨ ∃ ty, w = Cond.arrayClass ty := List.forall_mem_cons.mpr ⟨good_of_word rfl, List.forall_mem_append.mpr ⟨fun w h => good_of_word (List.all_eq_true.mp (by decide +kernel) w h), List.forall_mem_append.mpr ⟨gu_X5, List.forall_mem_append.mpr ⟨gu_X6, List.forall_mem_append.mpr ⟨gd_dm_X6_status, List.forall_mem_append.mpr ⟨gd_dm_X5_settle, List.forall_mem_append.mpr ⟨gd_dm_X6_makeCurrent, List.forall_mem_append.mpr ⟨gd_dm_X10_type, List.forall_mem_append.mpr ⟨gd_dm_X6_addRandom, fun _ h => nomatch h⟩⟩⟩⟩⟩⟩⟩⟩⟩
theorem hi_dm_X5_come_X5 : ∀ w ∈ u_ws RX5 TX5 8, w ∈ ow_dm_X5_come := fun w h => List.mem_cons_of_mem _ (List.mem_append_right _ (List.mem_append_left _ h))
theorem hi_dm_X5_come_X6 : ∀ w ∈ u_ws RX6 TX6 20, w ∈ ow_dm_X5_come := fun w h => List.mem_cons_of_mem _ (List.mem_append_right _ (List.mem_append_right _ (List.mem_append_left _ h)))
theorem gi_dm_X5_come_0 : GoodIn ow_dm_X5_come (wsV RX5 105 RX6 yX6_status ow_dm_X6_status) := goodIn_app (goodIn_of _ (by decide +kernel)) (fun w h => ⟨List.mem_cons_of_mem _ (List.mem_append_right _ (List.mem_append_right _ (List.mem_append_right _ (List.mem_append_left _ h)))), gd_dm_X6_status w h⟩)
theorem gi_dm_X5_come_1 : GoodIn ow_dm_X5_come (wsV RX5 83 RX5 yX5_settle ow_dm_X5_settle) := goodIn_app (goodIn_of _ (by decide +kernel)) (fun w h => ⟨List.mem_cons_of_mem _ (List.mem_append_right _ (List.mem_append_right _ (List.mem_append_right _ (List.mem_append_right _ (List.mem_append_left _ h))))), gd_dm_X5_settle w h⟩)
theorem gi_dm_X5_come_2 : GoodIn ow_dm_X5_come (wsV RX5 144 RX6 yX6_makeCurrent ow_dm_X6_makeCurrent) := goodIn_app (goodIn_of _ (by decide +kernel)) (fun w h => ⟨List.mem_cons_of_mem _ (List.mem_append_right _ (List.mem_append_right _ (List.mem_append_right _ (List.mem_append_right _ (List.mem_append_right _ (List.mem_append_left _ h)))))), gd_dm_X6_makeCurrent w h⟩)
theorem gi_dm_X5_come_3 : GoodIn ow_dm_X5_come (wsV RX5 148 RX10 yX10_type ow_dm_X10_type) := goodIn_app (goodIn_of _ (by decide +kernel)) (fun w h => ⟨List.mem_cons_of_mem _ (List.mem_append_right _ (List.mem_append_right _ (List.mem_append_right _ (List.mem_append_right _ (List.mem_append_right _ (List.mem_append_right _ (List.mem_append_left _ h))))))), gd_dm_X10_type w h⟩)
theorem gi_dm_X5_come_4 : GoodIn ow_dm_X5_come (wsV RX5 152 RX6 yX6_addRandom ow_dm_X6_addRandom) := goodIn_app (goodIn_of _ (by decide +kernel)) (fun w h => ⟨List.mem_cons_of_mem _ (List.mem_append_right _ (List.mem_append_right _ (List.mem_append_right _ (List.mem_append_right _ (List.mem_append_right _ (List.mem_append_right _ (List.mem_append_right _ (List.mem_append_left _ h)))))))), gd_dm_X6_addRandom w h⟩)
def dj_X5_come_186 (p : Program) (l : Launch) (e : Env) (s : State) (m : MethodId) (args : Array Value) (below : List Frame) (meth : Method) (c : Code) (Q : State → Prop) (A : Nat → Prop) (dC : Nat → ClassId) (dI : Nat → Nat → Nat) (a : Nat → Nat) (ac : Nat → ClassId) (g : Int32 → (St × (St × (St × (St)))) → Option (Int32 × (St × (St × (St × (St)))))) (r : Int32 × (St × (St × (St × (St))))) : Prop := ∀ (x5 : Int32) (s0 : St × (St × (St × (St)))) (H : Heap) (locs : List Loc) (ls : Array Slot), g x5 s0 = some r → va_P (dC, dI) vwCl (dw_X5 a ac s0) H → va_D A (dw_X5 a ac s0) → va_S A s.heap H locs → lv_has ls 8 [(0, .ref (a 0)), (5, .int x5)] → W p l e (headSpec ow_dm_X5_come ({ frames := 3, cells := 0, slots := 0, locals := 68 })).room s m args below meth c H locs 0 0 Q (F0 m 186 ls [])
def dj_X5_come_58 (p : Program) (l : Launch) (e : Env) (s : State) (m : MethodId) (args : Array Value) (below : List Frame) (meth : Method) (c : Code) (Q : State → Prop) (A : Nat → Prop) (dC : Nat → ClassId) (dI : Nat → Nat → Nat) (a : Nat → Nat) (ac : Nat → ClassId) (g : Int32 → Int32 → (St × (St × (St × (St)))) → Option (Int32 × (St × (St × (St × (St)))))) (r : Int32 × (St × (St × (St × (St))))) : Prop := ∀ (x6 : Int32) (y0 : Int32) (s0 : St × (St × (St × (St)))) (H : Heap) (locs : List Loc) (ls : Array Slot), g x6 y0 s0 = some r → va_P (dC, dI) vwCl (dw_X5 a ac s0) H → va_D A (dw_X5 a ac s0) → va_S A s.heap H locs → lv_has ls 8 [(0, .ref (a 0)), (6, .int x6)] → W p l e (headSpec ow_dm_X5_come ({ frames := 3, cells := 0, slots := 0, locals := 68 })).room s m args below meth c H locs 0 0 Q (F0 m 58 ls [.int y0])
def dj_X5_come_127 (p : Program) (l : Launch) (e : Env) (s : State) (m : MethodId) (args : Array Value) (below : List Frame) (meth : Method) (c : Code) (Q : State → Prop) (A : Nat → Prop) (dC : Nat → ClassId) (dI : Nat → Nat → Nat) (a : Nat → Nat) (ac : Nat → ClassId) (g : Int32 → Int32 → Int32 → (St × (St × (St × (St)))) → Option (Int32 × (St × (St × (St × (St)))))) (r : Int32 × (St × (St × (St × (St))))) : Prop := ∀ (x4 : Int32) (x6 : Int32) (y0 : Int32) (s0 : St × (St × (St × (St)))) (H : Heap) (locs : List Loc) (ls : Array Slot), g x4 x6 y0 s0 = some r → va_P (dC, dI) vwCl (dw_X5 a ac s0) H → va_D A (dw_X5 a ac s0) → va_S A s.heap H locs → lv_has ls 8 [(0, .ref (a 0)), (4, .int x4), (6, .int x6)] → W p l e (headSpec ow_dm_X5_come ({ frames := 3, cells := 0, slots := 0, locals := 68 })).room s m args below meth c H locs 0 0 Q (F0 m 127 ls [.int y0])
def dj_X5_come_126 (p : Program) (l : Launch) (e : Env) (s : State) (m : MethodId) (args : Array Value) (below : List Frame) (meth : Method) (c : Code) (Q : State → Prop) (A : Nat → Prop) (dC : Nat → ClassId) (dI : Nat → Nat → Nat) (a : Nat → Nat) (ac : Nat → ClassId) (g : Int32 → Int32 → (St × (St × (St × (St)))) → Option (Int32 × (St × (St × (St × (St)))))) (r : Int32 × (St × (St × (St × (St))))) : Prop := ∀ (x4 : Int32) (x6 : Int32) (s0 : St × (St × (St × (St)))) (H : Heap) (locs : List Loc) (ls : Array Slot), g x4 x6 s0 = some r → va_P (dC, dI) vwCl (dw_X5 a ac s0) H → va_D A (dw_X5 a ac s0) → va_S A s.heap H locs → lv_has ls 8 [(0, .ref (a 0)), (4, .int x4), (6, .int x6)] → W p l e (headSpec ow_dm_X5_come ({ frames := 3, cells := 0, slots := 0, locals := 68 })).room s m args below meth c H locs 0 0 Q (F0 m 126 ls [])
def dj_X5_come_122 (p : Program) (l : Launch) (e : Env) (s : State) (m : MethodId) (args : Array Value) (below : List Frame) (meth : Method) (c : Code) (Q : State → Prop) (A : Nat → Prop) (dC : Nat → ClassId) (dI : Nat → Nat → Nat) (a : Nat → Nat) (ac : Nat → ClassId) (g : Int32 → Int32 → (St × (St × (St × (St)))) → Option (Int32 × (St × (St × (St × (St)))))) (r : Int32 × (St × (St × (St × (St))))) : Prop := ∀ (x4 : Int32) (x6 : Int32) (s0 : St × (St × (St × (St)))) (H : Heap) (locs : List Loc) (ls : Array Slot), g x4 x6 s0 = some r → va_P (dC, dI) vwCl (dw_X5 a ac s0) H → va_D A (dw_X5 a ac s0) → va_S A s.heap H locs → lv_has ls 8 [(0, .ref (a 0)), (4, .int x4), (6, .int x6)] → W p l e (headSpec ow_dm_X5_come ({ frames := 3, cells := 0, slots := 0, locals := 68 })).room s m args below meth c H locs 0 0 Q (F0 m 122 ls [])
def dj_X5_come_0 (p : Program) (l : Launch) (e : Env) (s : State) (m : MethodId) (args : Array Value) (below : List Frame) (meth : Method) (c : Code) (Q : State → Prop) (A : Nat → Prop) (dC : Nat → ClassId) (dI : Nat → Nat → Nat) (a : Nat → Nat) (ac : Nat → ClassId) (g : Int32 → Int64 → Int32 → (St × (St × (St × (St)))) → Option (Int32 × (St × (St × (St × (St)))))) (r : Int32 × (St × (St × (St × (St))))) : Prop := ∀ (v0 : Int32) (v1 : Int64) (v2 : Int32) (s0 : St × (St × (St × (St)))) (H : Heap) (locs : List Loc) (ls : Array Slot), g v0 v1 v2 s0 = some r → va_P (dC, dI) vwCl (dw_X5 a ac s0) H → va_D A (dw_X5 a ac s0) → va_S A s.heap H locs → lv_has ls 8 [(0, .ref (a 0)), (1, .int v0), (2, .long v1), (4, .int v2)] → W p l e (headSpec ow_dm_X5_come ({ frames := 3, cells := 0, slots := 0, locals := 68 })).room s m args below meth c H locs 0 0 Q (F0 m 0 ls [])
set_option maxHeartbeats 40000000 in
set_option maxRecDepth 100000 in
theorem db_X5_come_186 {p : Program} {l : Launch} {e : Env} {s : State} {m : MethodId} {args : Array Value} {below : List Frame} {meth : Method} {c : Code} {Q : State → Prop} {A : Nat → Prop} {dC : Nat → ClassId} {dI : Nat → Nat → Nat} {a : Nat → Nat} {ac : Nat → ClassId} {n : Nat} {r : Int32 × (St × (St × (St × (St))))} (C : nd_C p l s m args c A (dC, dI) cX5_come 8 RX5 ow_dm_X5_come (dk_X5 ac)) (K : nd_Ki p l e (headSpec ow_dm_X5_come ({ frames := 3, cells := 0, slots := 0, locals := 68 })).room s m args below meth c Q A (dC, dI) cX5_come .boolean (St × (St × (St × (St)))) (dw_X5 a ac) r) : dj_X5_come_186 p l e s m args below meth c Q A dC dI a ac (df_X5_come_186 n) r := by
  obtain ⟨hlt, hx, hb, hml, hown, hts, hN, hA, hK⟩ := id C
  intro x5 s0 H locs ls h hP hD hS hl
  unfold df_X5_come_186 at h
  refine lv_aload_n hx hb dX5_come_186 rfl (lv_at hl 0 rfl) ?_
  obtain ⟨s10, hq, h⟩ := nd_b1_e h
  have hPc := hP
  have hDc := hD
  have hKc := hK
  have hFc := nd_rs hD hS hA
  refine nd_cVv (As := []) (rest := []) (w' := dw_X5 a ac s10) ⟨hx, hb, hml, hown, hts⟩ (fun sz => dm_X5_settle l hlt dC dI a ac n  s0 hq sz) (cwV 0 hts gi_dm_X5_come_1 rfl rfl rfl (by decide +kernel) ⟨Nat.le_of_ble_eq_true rfl, Nat.le_of_ble_eq_true rfl⟩) hPc hDc hKc hS hA hN (va_recv hKc hPc (ci := 6) (q0 := 0) rfl rfl) rfl hl.1 rfl (Nat.le_of_ble_eq_true rfl) dX5_come_187 (fun H locs hP1 hD1 hk1 hS => ?_)
  have hP := hP1
  have hD := hD1.weaken (fun k q _ h => hFc q.1 h)
  refine lv_iload hx hb dX5_come_190 (lv_at hl 1 rfl) ?_
  obtain ⟨n12, h⟩ := nd_z_e ⟨_, rfl⟩ h
  exact K _ _ _ _ _ _ dX5_come_192 n12 (Option.some.inj h).symm hP hD hS
set_option maxHeartbeats 40000000 in
set_option maxRecDepth 100000 in
theorem db_X5_come_58 {p : Program} {l : Launch} {e : Env} {s : State} {m : MethodId} {args : Array Value} {below : List Frame} {meth : Method} {c : Code} {Q : State → Prop} {A : Nat → Prop} {dC : Nat → ClassId} {dI : Nat → Nat → Nat} {a : Nat → Nat} {ac : Nat → ClassId} {n : Nat} {r : Int32 × (St × (St × (St × (St))))} (C : nd_C p l s m args c A (dC, dI) cX5_come 8 RX5 ow_dm_X5_come (dk_X5 ac)) (K : nd_Ki p l e (headSpec ow_dm_X5_come ({ frames := 3, cells := 0, slots := 0, locals := 68 })).room s m args below meth c Q A (dC, dI) cX5_come .boolean (St × (St × (St × (St)))) (dw_X5 a ac) r) : dj_X5_come_58 p l e s m args below meth c Q A dC dI a ac (df_X5_come_58 n) r := by
  obtain ⟨hlt, hx, hb, hml, hown, hts, hN, hA, hK⟩ := id C
  intro x6 y0 s0 H locs ls h hP hD hS hl
  unfold df_X5_come_58 at h
  refine lv_istore (lv' := [(5, .int y0), (0, .ref (a 0)), (6, .int x6)]) hx hb dX5_come_58 hl (by decide) rfl (fun ls hl => ?_)
  refine lv_iload hx hb dX5_come_60 (lv_at hl 0 rfl) ?_
  refine lv_if_eq (tgt := 186) hx hb dX5_come_62 (by decide) (fun c8 => ?_) (fun c8 => ?_)
  · have h := nd_pos h c8
    exact (db_X5_come_186 C K) (y0) s0 _ _ _ h hP hD hS (lv_sub hl [1, 0] rfl)
  · have h := nd_neg h c8
    refine lv_aload_n hx hb dX5_come_65 rfl (lv_at hl 1 rfl) ?_
    refine va_get (D := (dC, dI)) (ci := 6) (v := .ref (a 4)) (C := RX5) (T := TX5) (N := 8) hx hb hts hi_dm_X5_come_X5 hown hK hP 0 rfl rfl 0 (by decide) (hts (.fieldLink RX5 18 "TimeMachine$Kernel" "machine" "LTimeMachine$Machine;") (List.mem_of_getElem? (i := 1) rfl)) (fun _ h9 => h9) rfl dX5_come_66 ?_
    refine lv_iload hx hb dX5_come_69 (lv_at hl 2 rfl) ?_
    obtain ⟨s14, hq, h⟩ := nd_b1_e h
    have hPc := dp_X5_4 hP
    have hDc := dd_X5_4 hD
    have hKc := dy_X5_4 hK
    have hFc := nd_rs hDc hS hA
    have hzA : ∀ q : Nat, H.size ≤ q → A q := fun q h => hA q (Nat.le_trans hS.1 h)
    refine nd_cVv (As := [.int x6]) (rest := []) (w' := dw_X6 (fun k => a (k + 4)) (fun k => ac (k + 4)) s14) ⟨hx, hb, hml, hown, hts⟩ (fun sz => dm_X6_makeCurrent l hlt dC dI (fun k => a (k + 4)) (fun k => ac (k + 4)) n (x6) s0.2.2 hq sz) (cwV 1 hts gi_dm_X5_come_2 rfl rfl rfl (by decide +kernel) ⟨Nat.le_of_ble_eq_true rfl, Nat.le_of_ble_eq_true rfl⟩) hPc hDc hKc hS hA hN (va_recv hKc hPc (ci := 7) (q0 := 0) rfl rfl) rfl hl.1 rfl (Nat.le_of_ble_eq_true rfl) dX5_come_71 (fun H locs hP1 hD1 hk1 hS => ?_)
    obtain ⟨hP, hD⟩ := dn_X5_4 hP hD hzA hk1 hP1 hD1
    obtain ⟨s16, es16, h⟩ := nd_let_e h
    have hP : va_P (dC, dI) vwCl (dw_X5 a ac s16) H := by rw [es16]; exact hP
    have hD : va_D A (dw_X5 a ac s16) := by rw [es16]; exact hD
    refine lv_goto (tgt := 186) hx hb dX5_come_74 (by decide) ?_
    exact (db_X5_come_186 C K) (y0) s16 _ _ _ h hP hD hS (lv_sub hl [1, 0] rfl)
set_option maxHeartbeats 40000000 in
set_option maxRecDepth 100000 in
theorem db_X5_come_127 {p : Program} {l : Launch} {e : Env} {s : State} {m : MethodId} {args : Array Value} {below : List Frame} {meth : Method} {c : Code} {Q : State → Prop} {A : Nat → Prop} {dC : Nat → ClassId} {dI : Nat → Nat → Nat} {a : Nat → Nat} {ac : Nat → ClassId} {n : Nat} {r : Int32 × (St × (St × (St × (St))))} (C : nd_C p l s m args c A (dC, dI) cX5_come 8 RX5 ow_dm_X5_come (dk_X5 ac)) (K : nd_Ki p l e (headSpec ow_dm_X5_come ({ frames := 3, cells := 0, slots := 0, locals := 68 })).room s m args below meth c Q A (dC, dI) cX5_come .boolean (St × (St × (St × (St)))) (dw_X5 a ac) r) : dj_X5_come_127 p l e s m args below meth c Q A dC dI a ac (df_X5_come_127 n) r := by
  obtain ⟨hlt, hx, hb, hml, hown, hts, hN, hA, hK⟩ := id C
  intro x4 x6 y0 s0 H locs ls h hP hD hS hl
  unfold df_X5_come_127 at h
  refine lv_istore (lv' := [(5, .int y0), (0, .ref (a 0)), (4, .int x4), (6, .int x6)]) hx hb dX5_come_127 hl (by decide) rfl (fun ls hl => ?_)
  refine lv_iload hx hb dX5_come_129 (lv_at hl 0 rfl) ?_
  refine lv_if_eq (tgt := 186) hx hb dX5_come_131 (by decide) (fun c28 => ?_) (fun c28 => ?_)
  · have h := nd_pos h c28
    exact (db_X5_come_186 C K) (y0) s0 _ _ _ h hP hD hS (lv_sub hl [1, 0] rfl)
  · have h := nd_neg h c28
    refine lv_aload_n hx hb dX5_come_134 rfl (lv_at hl 1 rfl) ?_
    refine va_get (D := (dC, dI)) (ci := 6) (v := .ref (a 11)) (C := RX5) (T := TX5) (N := 8) hx hb hts hi_dm_X5_come_X5 hown hK hP 0 rfl rfl 3 (by decide) (hts (.fieldLink RX5 37 "TimeMachine$Kernel" "self" "[I") (List.mem_of_getElem? (i := 18) rfl)) (fun _ h9 => h9) rfl dX5_come_135 ?_
    refine lv_iload hx hb dX5_come_138 (lv_at hl 3 rfl) ?_
    refine lv_bipush (v := 7) hx hb dX5_come_140 (by decide) ?_
    refine lv_imul hx hb dX5_come_142 ?_
    refine lv_iconst (v := 3) hx hb dX5_come_143 (by decide) ?_
    refine lv_iadd hx hb dX5_come_144 ?_
    refine lv_dup2_11 hx hb dX5_come_145 rfl rfl ?_
    obtain ⟨i29, h⟩ := nd_ck_e h
    refine va_iald (i := ((x6 * 7) + 3)) hx hb hK hP 11 8 rfl rfl i29 dX5_come_146 ?_
    refine lv_iconst (v := 1) hx hb dX5_come_147 (by decide) ?_
    refine lv_iload hx hb dX5_come_148 (lv_at hl 2 rfl) ?_
    refine lv_ishl hx hb dX5_come_150 ?_
    refine lv_ior hx hb dX5_come_151 ?_
    obtain ⟨i30, h⟩ := nd_ck_e h
    refine va_iast (i := ((x6 * 7) + 3)) (x := ((sR s0.2.2.1 6 (Int32.toNatClampNeg ((x6 * 7) + 3))) ||| ((1 : Int32) <<< ((x4 : Int32) &&& 31)))) hx hb hK hP hD hS 11 8 rfl rfl i30 dX5_come_152 (fun H locs hP hD hS => ?_)
    obtain ⟨s31, es31, h⟩ := nd_let_e h
    have hP : va_P (dC, dI) vwCl (dw_X5 a ac s31) H := by rw [es31]; exact hP
    have hD : va_D A (dw_X5 a ac s31) := by rw [es31]; exact hD
    refine lv_goto (tgt := 186) hx hb dX5_come_153 (by decide) ?_
    exact (db_X5_come_186 C K) (y0) s31 _ _ _ h hP hD hS (lv_sub hl [1, 0] rfl)
set_option maxHeartbeats 40000000 in
set_option maxRecDepth 100000 in
theorem db_X5_come_126 {p : Program} {l : Launch} {e : Env} {s : State} {m : MethodId} {args : Array Value} {below : List Frame} {meth : Method} {c : Code} {Q : State → Prop} {A : Nat → Prop} {dC : Nat → ClassId} {dI : Nat → Nat → Nat} {a : Nat → Nat} {ac : Nat → ClassId} {n : Nat} {r : Int32 × (St × (St × (St × (St))))} (C : nd_C p l s m args c A (dC, dI) cX5_come 8 RX5 ow_dm_X5_come (dk_X5 ac)) (K : nd_Ki p l e (headSpec ow_dm_X5_come ({ frames := 3, cells := 0, slots := 0, locals := 68 })).room s m args below meth c Q A (dC, dI) cX5_come .boolean (St × (St × (St × (St)))) (dw_X5 a ac) r) : dj_X5_come_126 p l e s m args below meth c Q A dC dI a ac (df_X5_come_126 n) r := by
  obtain ⟨hlt, hx, hb, hml, hown, hts, hN, hA, hK⟩ := id C
  intro x4 x6 s0 H locs ls h hP hD hS hl
  unfold df_X5_come_126 at h
  refine lv_iconst (v := 0) hx hb dX5_come_126 (by decide) ?_
  exact (db_X5_come_127 C K) (x4) (x6) (0) s0 _ _ _ h hP hD hS (lv_sub hl [0, 1, 2] rfl)
set_option maxHeartbeats 40000000 in
set_option maxRecDepth 100000 in
theorem db_X5_come_122 {p : Program} {l : Launch} {e : Env} {s : State} {m : MethodId} {args : Array Value} {below : List Frame} {meth : Method} {c : Code} {Q : State → Prop} {A : Nat → Prop} {dC : Nat → ClassId} {dI : Nat → Nat → Nat} {a : Nat → Nat} {ac : Nat → ClassId} {n : Nat} {r : Int32 × (St × (St × (St × (St))))} (C : nd_C p l s m args c A (dC, dI) cX5_come 8 RX5 ow_dm_X5_come (dk_X5 ac)) (K : nd_Ki p l e (headSpec ow_dm_X5_come ({ frames := 3, cells := 0, slots := 0, locals := 68 })).room s m args below meth c Q A (dC, dI) cX5_come .boolean (St × (St × (St × (St)))) (dw_X5 a ac) r) : dj_X5_come_122 p l e s m args below meth c Q A dC dI a ac (df_X5_come_122 n) r := by
  obtain ⟨hlt, hx, hb, hml, hown, hts, hN, hA, hK⟩ := id C
  intro x4 x6 s0 H locs ls h hP hD hS hl
  unfold df_X5_come_122 at h
  refine lv_iconst (v := 1) hx hb dX5_come_122 (by decide) ?_
  refine lv_goto (tgt := 127) hx hb dX5_come_123 (by decide) ?_
  exact (db_X5_come_127 C K) (x4) (x6) (1) s0 _ _ _ h hP hD hS (lv_sub hl [0, 1, 2] rfl)
set_option maxHeartbeats 40000000 in
set_option maxRecDepth 100000 in
theorem db_X5_come_0 {p : Program} {l : Launch} {e : Env} {s : State} {m : MethodId} {args : Array Value} {below : List Frame} {meth : Method} {c : Code} {Q : State → Prop} {A : Nat → Prop} {dC : Nat → ClassId} {dI : Nat → Nat → Nat} {a : Nat → Nat} {ac : Nat → ClassId} {n : Nat} {r : Int32 × (St × (St × (St × (St))))} (C : nd_C p l s m args c A (dC, dI) cX5_come 8 RX5 ow_dm_X5_come (dk_X5 ac)) (K : nd_Ki p l e (headSpec ow_dm_X5_come ({ frames := 3, cells := 0, slots := 0, locals := 68 })).room s m args below meth c Q A (dC, dI) cX5_come .boolean (St × (St × (St × (St)))) (dw_X5 a ac) r) : dj_X5_come_0 p l e s m args below meth c Q A dC dI a ac (df_X5_come_0 n) r := by
  obtain ⟨hlt, hx, hb, hml, hown, hts, hN, hA, hK⟩ := id C
  intro v0 v1 v2 s0 H locs ls h hP hD hS hl
  unfold df_X5_come_0 at h
  refine lv_lload_n hx hb dX5_come_0 rfl (lv_at hl 2 rfl) ?_
  refine lv_l2i hx hb dX5_come_1 rfl ?_
  refine lv_bipush (v := 15) hx hb dX5_come_2 (by decide) ?_
  refine lv_iand hx hb dX5_come_4 ?_
  refine lv_topi (fun z1 ez1 => ?_)
  have h := nd_at h ez1
  refine lv_istore (lv' := [(6, .int z1), (0, .ref (a 0)), (1, .int v0), (2, .long v1), (4, .int v2)]) hx hb dX5_come_5 hl (by decide) rfl (fun ls hl => ?_)
  refine lv_iload_n hx hb dX5_come_7 rfl (lv_at hl 2 rfl) ?_
  by_cases c2 : v0 = 0
  · have h := nd_pos h c2
    refine lv_tableIn (off := 32) (tgt := 40) hx hb dX5_come_8 (by rw [c2]; decide) (by rw [c2]; decide) (by rw [c2]; decide) (by decide) ?_
    refine lv_aload_n hx hb dX5_come_40 rfl (lv_at hl 1 rfl) ?_
    refine va_get (D := (dC, dI)) (ci := 6) (v := .ref (a 4)) (C := RX5) (T := TX5) (N := 8) hx hb hts hi_dm_X5_come_X5 hown hK hP 0 rfl rfl 0 (by decide) (hts (.fieldLink RX5 18 "TimeMachine$Kernel" "machine" "LTimeMachine$Machine;") (List.mem_of_getElem? (i := 1) rfl)) (fun _ h9 => h9) rfl dX5_come_41 ?_
    refine lv_iload hx hb dX5_come_44 (lv_at hl 0 rfl) ?_
    obtain ⟨q3, s4, hq, h⟩ := nd_b2_e h
    have hPc := dp_X5_4 hP
    have hDc := dd_X5_4 hD
    have hKc := dy_X5_4 hK
    have hFc := nd_rs hDc hS hA
    have hzA : ∀ q : Nat, H.size ≤ q → A q := fun q h => hA q (Nat.le_trans hS.1 h)
    refine nd_cVi (As := [.int z1]) (rest := []) (q := q3) (w' := dw_X6 (fun k => a (k + 4)) (fun k => ac (k + 4)) s4) ⟨hx, hb, hml, hown, hts⟩ (fun sz => dm_X6_status l hlt dC dI (fun k => a (k + 4)) (fun k => ac (k + 4)) n (z1) s0.2.2 hq sz) (cwV 1 hts gi_dm_X5_come_0 rfl rfl rfl (by decide +kernel) ⟨Nat.le_of_ble_eq_true rfl, Nat.le_of_ble_eq_true rfl⟩) hPc hDc hKc hS hA hN (va_recv hKc hPc (ci := 7) (q0 := 0) rfl rfl) rfl hl.1 rfl (Nat.le_of_ble_eq_true rfl) dX5_come_46 (fun H locs hP1 hD1 hk1 hS => ?_)
    obtain ⟨hP, hD⟩ := dn_X5_4 hP hD hzA hk1 hP1 hD1
    obtain ⟨s6, es6, h⟩ := nd_let_e h
    have hP : va_P (dC, dI) vwCl (dw_X5 a ac s6) H := by rw [es6]; exact hP
    have hD : va_D A (dw_X5 a ac s6) := by rw [es6]; exact hD
    refine lv_iconst (v := 1) hx hb dX5_come_49 (by decide) ?_
    refine lv_icmp_ne (tgt := 57) hx hb dX5_come_50 (by decide) (fun c7 => ?_) (fun c7 => ?_)
    · have h := nd_neg h c7
      refine lv_iconst (v := 0) hx hb dX5_come_57 (by decide) ?_
      exact (db_X5_come_58 C K) (z1) (0) s6 _ _ _ h hP hD hS (lv_sub hl [1, 0] rfl)
    · have h := nd_pos h c7
      refine lv_iconst (v := 1) hx hb dX5_come_53 (by decide) ?_
      refine lv_goto (tgt := 58) hx hb dX5_come_54 (by decide) ?_
      exact (db_X5_come_58 C K) (z1) (1) s6 _ _ _ h hP hD hS (lv_sub hl [1, 0] rfl)
  have h := nd_neg h c2
  by_cases c17 : v0 = 1
  · have h := nd_pos h c17
    refine lv_tableIn (off := 69) (tgt := 77) hx hb dX5_come_8 (by rw [c17]; decide) (by rw [c17]; decide) (by rw [c17]; decide) (by decide) ?_
    refine lv_aload_n hx hb dX5_come_77 rfl (lv_at hl 1 rfl) ?_
    refine va_get (D := (dC, dI)) (ci := 6) (v := .ref (a 14)) (C := RX5) (T := TX5) (N := 8) hx hb hts hi_dm_X5_come_X5 hown hK hP 0 rfl rfl 1 (by decide) (hts (.fieldLink RX5 28 "TimeMachine$Kernel" "things" "LTimeMachine$Things;") (List.mem_of_getElem? (i := 13) rfl)) (fun _ h9 => h9) rfl dX5_come_78 ?_
    refine lv_lload_n hx hb dX5_come_81 rfl (lv_at hl 3 rfl) ?_
    refine lv_iload hx hb dX5_come_82 (lv_at hl 4 rfl) ?_
    obtain ⟨q18, s19, hq, h⟩ := nd_b2_e h
    have hPc := dp_X5_14 hP
    have hDc := dd_X5_14 hD
    have hKc := dy_X5_14 hK
    have hFc := nd_rs hDc hS hA
    have hzA : ∀ q : Nat, H.size ≤ q → A q := fun q h => hA q (Nat.le_trans hS.1 h)
    refine nd_cVi (As := [.long v1, .int v2]) (rest := []) (q := q18) (w' := dw_X10 (fun k => a (k + 14)) (fun k => ac (k + 14)) s19) ⟨hx, hb, hml, hown, hts⟩ (fun sz => dm_X10_type l hlt dC dI (fun k => a (k + 14)) (fun k => ac (k + 14)) n (v1) (v2) s0.2.2.2 hq sz) (cwV 2 hts gi_dm_X5_come_3 rfl rfl rfl (by decide +kernel) ⟨Nat.le_of_ble_eq_true rfl, Nat.le_of_ble_eq_true rfl⟩) hPc hDc hKc hS hA hN (va_recv hKc hPc (ci := 11) (q0 := 0) rfl rfl) rfl hl.1 rfl (Nat.le_of_ble_eq_true rfl) dX5_come_84 (fun H locs hP1 hD1 hk1 hS => ?_)
    obtain ⟨hP, hD⟩ := dn_X5_14 hP hD hzA hk1 hP1 hD1
    obtain ⟨s21, es21, h⟩ := nd_let_e h
    have hP : va_P (dC, dI) vwCl (dw_X5 a ac s21) H := by rw [es21]; exact hP
    have hD : va_D A (dw_X5 a ac s21) := by rw [es21]; exact hD
    refine lv_istore (lv' := [(5, .int q18), (6, .int z1), (0, .ref (a 0)), (1, .int v0), (2, .long v1), (4, .int v2)]) hx hb dX5_come_87 hl (by decide) rfl (fun ls hl => ?_)
    refine lv_goto (tgt := 186) hx hb dX5_come_89 (by decide) ?_
    exact (db_X5_come_186 C K) (q18) s21 _ _ _ h hP hD hS (lv_sub hl [2, 0] rfl)
  have h := nd_neg h c17
  by_cases c22 : v0 = 2
  · have h := nd_pos h c22
    refine lv_tableIn (off := 84) (tgt := 92) hx hb dX5_come_8 (by rw [c22]; decide) (by rw [c22]; decide) (by rw [c22]; decide) (by decide) ?_
    refine lv_aload_n hx hb dX5_come_92 rfl (lv_at hl 1 rfl) ?_
    refine va_get (D := (dC, dI)) (ci := 6) (v := .ref (a 4)) (C := RX5) (T := TX5) (N := 8) hx hb hts hi_dm_X5_come_X5 hown hK hP 0 rfl rfl 0 (by decide) (hts (.fieldLink RX5 18 "TimeMachine$Kernel" "machine" "LTimeMachine$Machine;") (List.mem_of_getElem? (i := 1) rfl)) (fun _ h9 => h9) rfl dX5_come_93 ?_
    refine lv_iload hx hb dX5_come_96 (lv_at hl 0 rfl) ?_
    obtain ⟨q23, s24, hq, h⟩ := nd_b2_e h
    have hPc := dp_X5_4 hP
    have hDc := dd_X5_4 hD
    have hKc := dy_X5_4 hK
    have hFc := nd_rs hDc hS hA
    have hzA : ∀ q : Nat, H.size ≤ q → A q := fun q h => hA q (Nat.le_trans hS.1 h)
    refine nd_cVi (As := [.int z1]) (rest := []) (q := q23) (w' := dw_X6 (fun k => a (k + 4)) (fun k => ac (k + 4)) s24) ⟨hx, hb, hml, hown, hts⟩ (fun sz => dm_X6_status l hlt dC dI (fun k => a (k + 4)) (fun k => ac (k + 4)) n (z1) s0.2.2 hq sz) (cwV 1 hts gi_dm_X5_come_0 rfl rfl rfl (by decide +kernel) ⟨Nat.le_of_ble_eq_true rfl, Nat.le_of_ble_eq_true rfl⟩) hPc hDc hKc hS hA hN (va_recv hKc hPc (ci := 7) (q0 := 0) rfl rfl) rfl hl.1 rfl (Nat.le_of_ble_eq_true rfl) dX5_come_98 (fun H locs hP1 hD1 hk1 hS => ?_)
    obtain ⟨hP, hD⟩ := dn_X5_4 hP hD hzA hk1 hP1 hD1
    obtain ⟨s26, es26, h⟩ := nd_let_e h
    have hP : va_P (dC, dI) vwCl (dw_X5 a ac s26) H := by rw [es26]; exact hP
    have hD : va_D A (dw_X5 a ac s26) := by rw [es26]; exact hD
    refine lv_istore (lv' := [(7, .int q23), (6, .int z1), (0, .ref (a 0)), (1, .int v0), (2, .long v1), (4, .int v2)]) hx hb dX5_come_101 hl (by decide) rfl (fun ls hl => ?_)
    refine lv_iload hx hb dX5_come_103 (lv_at hl 5 rfl) ?_
    refine lv_bipush (v := 16) hx hb dX5_come_105 (by decide) ?_
    refine lv_icmp_ge (tgt := 126) hx hb dX5_come_107 (by decide) (fun c27 => ?_) (fun c27 => ?_)
    · have h := nd_pos h c27
      exact (db_X5_come_126 C K) (v2) (z1) s26 _ _ _ h hP hD hS (lv_sub hl [2, 5, 1] rfl)
    · have h := nd_neg h c27
      refine lv_iload hx hb dX5_come_110 (lv_at hl 0 rfl) ?_
      refine lv_iconst (v := 1) hx hb dX5_come_112 (by decide) ?_
      refine lv_icmp_eq (tgt := 122) hx hb dX5_come_113 (by decide) (fun c32 => ?_) (fun c32 => ?_)
      · have h := nd_pos h c32
        exact (db_X5_come_122 C K) (v2) (z1) s26 _ _ _ h hP hD hS (lv_sub hl [2, 5, 1] rfl)
      · have h := nd_neg h c32
        refine lv_iload hx hb dX5_come_116 (lv_at hl 0 rfl) ?_
        refine lv_iconst (v := 2) hx hb dX5_come_118 (by decide) ?_
        refine lv_icmp_ne (tgt := 126) hx hb dX5_come_119 (by decide) (fun c33 => ?_) (fun c33 => ?_)
        · have h := nd_neg h c33
          exact (db_X5_come_126 C K) (v2) (z1) s26 _ _ _ h hP hD hS (lv_sub hl [2, 5, 1] rfl)
        · have h := nd_pos h c33
          exact (db_X5_come_122 C K) (v2) (z1) s26 _ _ _ h hP hD hS (lv_sub hl [2, 5, 1] rfl)
  have h := nd_neg h c22
  by_cases c34 : v0 = 3
  · have h := nd_pos h c34
    refine lv_tableIn (off := 148) (tgt := 156) hx hb dX5_come_8 (by rw [c34]; decide) (by rw [c34]; decide) (by rw [c34]; decide) (by decide) ?_
    refine lv_iconst (v := 1) hx hb dX5_come_156 (by decide) ?_
    refine lv_istore (lv' := [(5, .int 1), (6, .int z1), (0, .ref (a 0)), (1, .int v0), (2, .long v1), (4, .int v2)]) hx hb dX5_come_157 hl (by decide) rfl (fun ls hl => ?_)
    refine lv_aload_n hx hb dX5_come_159 rfl (lv_at hl 2 rfl) ?_
    refine va_get (D := (dC, dI)) (ci := 6) (v := .ref (a 4)) (C := RX5) (T := TX5) (N := 8) hx hb hts hi_dm_X5_come_X5 hown hK hP 0 rfl rfl 0 (by decide) (hts (.fieldLink RX5 18 "TimeMachine$Kernel" "machine" "LTimeMachine$Machine;") (List.mem_of_getElem? (i := 1) rfl)) (fun _ h9 => h9) rfl dX5_come_160 ?_
    refine lv_dup hx hb dX5_come_163 rfl ?_
    refine va_get (D := (dC, dI)) (ci := 7) (v := .long (sL s0.2.2.1 0)) (C := RX6) (T := TX6) (N := 20) hx hb hts hi_dm_X5_come_X6 hown hK hP 4 rfl rfl 17 (by decide) (hts (.fieldLink RX5 133 "TimeMachine$Machine" "clock" "J") (List.mem_of_getElem? (i := 19) rfl)) (fun _ h9 => h9) rfl dX5_come_164 ?_
    refine lv_lload_n hx hb dX5_come_167 rfl (lv_at hl 4 rfl) ?_
    refine lv_ladd hx hb dX5_come_168 ?_
    refine va_put (D := (dC, dI)) (ci := 7) (v := .long (((sL s0.2.2.1 0) : Int64) + v1)) (ty := .long) (C := RX6) (T := TX6) (N := 20) hx hb hts hi_dm_X5_come_X6 tyX6 tyX6_ok nmX6 hown hK hP hD hS 4 rfl rfl 17 (by decide) (hts (.fieldLink RX5 133 "TimeMachine$Machine" "clock" "J") (List.mem_of_getElem? (i := 19) rfl)) (fun _ h9 => h9) rfl (by decide +kernel) rfl rfl (Nat.le_of_ble_eq_true rfl) dX5_come_169 (fun H locs hP hD hS => ?_)
    obtain ⟨s35, es35, h⟩ := nd_let_e h
    have hP : va_P (dC, dI) vwCl (dw_X5 a ac s35) H := by rw [es35]; exact hP
    have hD : va_D A (dw_X5 a ac s35) := by rw [es35]; exact hD
    refine lv_goto (tgt := 186) hx hb dX5_come_172 (by decide) ?_
    exact (db_X5_come_186 C K) (1) s35 _ _ _ h hP hD hS (lv_sub hl [2, 0] rfl)
  have h := nd_neg h c34
  refine lv_tableOut (tgt := 175) hx hb dX5_come_8 (by have g0 := nv_nei c2 (k := 0) (by decide); have g1 := nv_nei c17 (k := 1) (by decide); have g2 := nv_nei c22 (k := 2) (by decide); have g3 := nv_nei c34 (k := 3) (by decide); omega) (by decide) ?_
  refine lv_aload_n hx hb dX5_come_175 rfl (lv_at hl 1 rfl) ?_
  refine va_get (D := (dC, dI)) (ci := 6) (v := .ref (a 4)) (C := RX5) (T := TX5) (N := 8) hx hb hts hi_dm_X5_come_X5 hown hK hP 0 rfl rfl 0 (by decide) (hts (.fieldLink RX5 18 "TimeMachine$Kernel" "machine" "LTimeMachine$Machine;") (List.mem_of_getElem? (i := 1) rfl)) (fun _ h9 => h9) rfl dX5_come_176 ?_
  refine lv_lload_n hx hb dX5_come_179 rfl (lv_at hl 3 rfl) ?_
  refine lv_l2i hx hb dX5_come_180 rfl ?_
  obtain ⟨q36, s37, hq, h⟩ := nd_b2_e h
  have hPc := dp_X5_4 hP
  have hDc := dd_X5_4 hD
  have hKc := dy_X5_4 hK
  have hFc := nd_rs hDc hS hA
  have hzA : ∀ q : Nat, H.size ≤ q → A q := fun q h => hA q (Nat.le_trans hS.1 h)
  refine nd_cVi (As := [.int (v1.toInt32)]) (rest := []) (q := q36) (w' := dw_X6 (fun k => a (k + 4)) (fun k => ac (k + 4)) s37) ⟨hx, hb, hml, hown, hts⟩ (fun sz => dm_X6_addRandom l hlt dC dI (fun k => a (k + 4)) (fun k => ac (k + 4)) n ((v1.toInt32)) s0.2.2 hq sz) (cwV 1 hts gi_dm_X5_come_4 rfl rfl rfl (by decide +kernel) ⟨Nat.le_of_ble_eq_true rfl, Nat.le_of_ble_eq_true rfl⟩) hPc hDc hKc hS hA hN (va_recv hKc hPc (ci := 7) (q0 := 0) rfl rfl) rfl hl.1 rfl (Nat.le_of_ble_eq_true rfl) dX5_come_181 (fun H locs hP1 hD1 hk1 hS => ?_)
  obtain ⟨hP, hD⟩ := dn_X5_4 hP hD hzA hk1 hP1 hD1
  obtain ⟨s39, es39, h⟩ := nd_let_e h
  have hP : va_P (dC, dI) vwCl (dw_X5 a ac s39) H := by rw [es39]; exact hP
  have hD : va_D A (dw_X5 a ac s39) := by rw [es39]; exact hD
  refine lv_istore (lv' := [(5, .int q36), (6, .int z1), (0, .ref (a 0)), (1, .int v0), (2, .long v1), (4, .int v2)]) hx hb dX5_come_184 hl (by decide) rfl (fun ls hl => ?_)
  exact (db_X5_come_186 C K) (q36) s39 _ _ _ h hP hD hS (lv_sub hl [2, 0] rfl)
set_option maxHeartbeats 40000000 in
set_option maxRecDepth 100000 in
theorem dm_X5_come (l : Launch) (hlt : l.stackTraces = false) (dC : Nat → ClassId) (dI : Nat → Nat → Nat) (a : Nat → Nat) (ac : Nat → ClassId) (n : Nat) (v0 : Int32) (v1 : Int64) (v2 : Int32) (s0 : St × (St × (St × (St)))) {r : Int32 × (St × (St × (St × (St))))} (h : df_X5_come n v0 v1 v2 s0 = some r) (sz : Nat) : Met l yX5_come ow_dm_X5_come ({ frames := 3, cells := 0, slots := 0, locals := 68 }) (va_Pc [.ref (a 0), .int v0, .long v1, .int v2] (fun U => U.heap.size = sz ∧ va_P (dC, dI) vwCl (dw_X5 a ac s0) U.heap ∧ va_K (dC, dI) vwCl (dk_X5 ac) U ∧ va_D (fun _ => True) (dw_X5 a ac s0) ∧ nv_E (va_A (dw_X5 a ac s0) sz) U)) (va_Qi (fun x _ => x = r.1) (fun (_ : Unit) t => va_P (dC, dI) vwCl (dw_X5 a ac r.2) t.heap ∧ va_K (dC, dI) vwCl (dk_X5 ac) t ∧ va_D (va_A (dw_X5 a ac s0) sz) (dw_X5 a ac r.2)) (va_A (dw_X5 a ac s0) sz)) 0 0 (va_A (dw_X5 a ac s0) sz) := by
  refine Met.ofW (cc := cX5_come) (maxL := 8) (ret := (some .boolean)) (by decide) rfl ?_
  intro p e s m args below meth c s₁ B hml hv
  obtain ⟨rfl, hsz, hP, hK, hD0, hN⟩ := hv
  have hx := B.exec
  have hb := B.bytes
  have hr := B.returns
  have hts := atoms_spec (ws := ow_dm_X5_come) B.pre
  have hown : s.vm.findClass RX5 = some m.cls := findClass_of_methodNamed B.named
  have hlocks := B.notSynchronized
  subst hsz
  have hD := hD0.self (sz := s.heap.size)
  generalize hAe : va_A (dw_X5 a ac s0) s.heap.size = A at hD hN ⊢
  have hA : ∀ q : Nat, s.heap.size ≤ q → A q := fun q h => by rw [← hAe]; exact Or.inr h
  have hl := lv_entry ([.ref (a 0), .int v0, .long v1, .int v2]) (n := 8) (Nat.le_of_ble_eq_true rfl)
  rw [lg_entry_eq]
  generalize (lg_sl ([.ref (a 0), .int v0, .long v1, .int v2]) ++ List.replicate (8 - (lg_sl ([.ref (a 0), .int v0, .long v1, .int v2])).length) Slot.unset).toArray = ls at hl ⊢
  have hl : lv_has ls 8 [(0, .ref (a 0)), (1, .int v0), (2, .long v1), (4, .int v2)] := hl
  exact db_X5_come_0 (dC := dC) (dI := dI) (a := a) (ac := ac) (n := n) (r := r) ⟨hlt, hx, hb, hml, hown, hts, hN, hA, hK⟩ (fun pc v τ H locs ls d z er hP hD hS => by subst er; exact W.zret (v := v) hx hb hr z (fun t ht hW => ⟨⟨v, (), rfl, rfl, by rw [ht]; exact hP, va_K.moved hW.alike hK, hD⟩, hS.F ht⟩) hS.2.2 d) v0 v1 v2 s0 _ _ _ h hP hD va_S.rf (lv_sub hl [0, 1, 2, 3] rfl)
