set_option maxHeartbeats 40000000 in
set_option maxRecDepth 100000 in
theorem db_X16_entitle_0 {p : Program} {l : Launch} {e : Env} {s : State} {m : MethodId} {args : Array Value} {below : List Frame} {meth : Method} {c : Code} {Q : State → Prop} {A : Nat → Prop} {dC : Nat → ClassId} {dI : Nat → Nat → Nat} {a : Nat → Nat} {ac : Nat → ClassId} {n : Nat} {r : St × (St)} (C : nd_C p l s m args c A (dC, dI) cX16_entitle 3 RX16 ow_dm_X16_entitle (dk_X16 ac)) (K : nd_Kv p l e (headSpec ow_dm_X16_entitle ({ frames := 0, cells := 0, slots := 0, locals := 0 })).room s m args below meth c Q A (dC, dI) cX16_entitle (St × (St)) (dw_X16 a ac) r) : dj_X16_entitle_0 p l e s m args below meth c Q A dC dI a ac (df_X16_entitle_0 n) r := by
  obtain ⟨hlt, hx, hb, hml, hown, hts, hN, hA, hK⟩ := id C
  intro v0 s0 H locs ls h hP hD hS hl
  unfold df_X16_entitle_0 at h
  refine lv_aload_n hx hb dX16_entitle_0 rfl (lv_at hl 0 rfl) ?_
  refine va_get (D := (dC, dI)) (ci := 17) (v := .ref (a 27)) (C := RX16) (T := TX16) (N := 56) hx hb hts hi_dm_X16_entitle_X16 hown hK hP 0 rfl rfl 36 (by decide) (hts (.fieldLink RX16 91 "TimeMachineModel$Machine" "isNamed" "[Z") (List.mem_of_getElem? (i := 1) rfl)) (fun _ h9 => h9) rfl dX16_entitle_1 ?_
  refine lv_iload_n hx hb dX16_entitle_4 rfl (lv_at hl 1 rfl) ?_
  refine lv_iconst (v := 1) hx hb dX16_entitle_5 (by decide) ?_
  obtain ⟨i1, h⟩ := nd_ck_e h
  refine va_zast (i := v0) (x := 1) hx hb hK hP hD hS 27 26 rfl rfl i1 dX16_entitle_6 (fun H locs hP hD hS => ?_)
  obtain ⟨s2, es2, h⟩ := nd_let_e h
  have hP : va_P (dC, dI) vwCl (dw_X16 a ac s2) H := by rw [es2]; exact hP
  have hD : va_D A (dw_X16 a ac s2) := by rw [es2]; exact hD
  refine lv_iconst (v := 0) hx hb dX16_entitle_7 (by decide) ?_
  refine lv_istore_n (lv' := [(2, .int 0), (0, .ref (a 0)), (1, .int v0)]) hx hb dX16_entitle_8 rfl hl (by decide) rfl (fun ls hl => ?_)
  exact (db_X16_entitle_9 C K n) (v0) (0) s2 _ _ _ h hP hD hS (lv_sub hl [1, 2, 0] rfl)
set_option maxHeartbeats 40000000 in
set_option maxRecDepth 100000 in
theorem dm_X16_entitle (l : Launch) (hlt : l.stackTraces = false) (dC : Nat → ClassId) (dI : Nat → Nat → Nat) (a : Nat → Nat) (ac : Nat → ClassId) (n : Nat) (v0 : Int32) (s0 : St × (St)) {r : St × (St)} (h : df_X16_entitle n v0 s0 = some r) (sz : Nat) : Met l yX16_entitle ow_dm_X16_entitle ({ frames := 0, cells := 0, slots := 0, locals := 0 }) (va_Pc [.ref (a 0), .int v0] (fun U => U.heap.size = sz ∧ va_P (dC, dI) vwCl (dw_X16 a ac s0) U.heap ∧ va_K (dC, dI) vwCl (dk_X16 ac) U ∧ va_D (fun _ => True) (dw_X16 a ac s0) ∧ nv_E (va_A (dw_X16 a ac s0) sz) U)) (va_Qv (fun _ => True) (fun (_ : Unit) t => va_P (dC, dI) vwCl (dw_X16 a ac r) t.heap ∧ va_K (dC, dI) vwCl (dk_X16 ac) t ∧ va_D (va_A (dw_X16 a ac s0) sz) (dw_X16 a ac r)) (va_A (dw_X16 a ac s0) sz)) 0 0 (va_A (dw_X16 a ac s0) sz) := by
  refine Met.ofW (cc := cX16_entitle) (maxL := 3) (ret := none) (by decide) rfl ?_
  intro p e s m args below meth c s₁ B hml hv
  obtain ⟨rfl, hsz, hP, hK, hD0, hN⟩ := hv
  have hx := B.exec
  have hb := B.bytes
  have hr := B.returns
  have hts := atoms_spec (ws := ow_dm_X16_entitle) B.pre
  have hown : s.vm.findClass RX16 = some m.cls := findClass_of_methodNamed B.named
  have hlocks := B.notSynchronized
  subst hsz
  have hD := hD0.self (sz := s.heap.size)
  generalize hAe : va_A (dw_X16 a ac s0) s.heap.size = A at hD hN ⊢
  have hA : ∀ q : Nat, s.heap.size ≤ q → A q := fun q h => by rw [← hAe]; exact Or.inr h
  have hl := lv_entry ([.ref (a 0), .int v0]) (n := 3) (Nat.le_of_ble_eq_true rfl)
  rw [lg_entry_eq]
  generalize (lg_sl ([.ref (a 0), .int v0]) ++ List.replicate (3 - (lg_sl ([.ref (a 0), .int v0])).length) Slot.unset).toArray = ls at hl ⊢
  have hl : lv_has ls 3 [(0, .ref (a 0)), (1, .int v0)] := hl
  exact db_X16_entitle_0 (dC := dC) (dI := dI) (a := a) (ac := ac) (n := n) (r := r) ⟨hlt, hx, hb, hml, hown, hts, hN, hA, hK⟩ (fun pc τ H locs ls d er hP hD hS => by subst er; exact W.vret hx hb hr (fun t ht hW => ⟨⟨(), rfl, trivial, by rw [ht]; exact hP, va_K.moved hW.alike hK, hD⟩, hS.F ht⟩) hS.2.2 d) v0 s0 _ _ _ h hP hD va_S.rf (lv_sub hl [0, 1] rfl)
def ow_dm_X16_open : List Cond := .code yX16_open cX16_open 7 (some .int) :: ([.methodLink RX16 505 yX16_nameAt, .instanceMethod yX16_nameAt, .selects RX16 yX16_nameAt yX16_nameAt, .initialized RX16, .methodLink RX16 508 yX16_named, .instanceMethod yX16_named, .selects RX16 yX16_named yX16_named, .methodLink RX16 249 yX16_freeDescriptor, .instanceMethod yX16_freeDescriptor, .selects RX16 yX16_freeDescriptor yX16_freeDescriptor, .methodLink RX16 246 yX16_freeOpening, .instanceMethod yX16_freeOpening, .selects RX16 yX16_freeOpening yX16_freeOpening, .methodLink RX16 168 yX16_opening, .instanceMethod yX16_opening, .selects RX16 yX16_opening yX16_opening, .methodLink RX16 488 yX16_give, .instanceMethod yX16_give, .selects RX16 yX16_give yX16_give, .fieldLink RX16 100 "TimeMachineModel$Machine" "length" "[I", .fieldLink RX16 88 "TimeMachineModel$Machine" "isFile" "[Z", .methodLink RX16 511 yX16_entitle, .instanceMethod yX16_entitle, .selects RX16 yX16_entitle yX16_entitle] ++ (u_ws RX16 TX16 56 ++ (ow_dm_X16_nameAt ++ (ow_dm_X16_named ++ (ow_dm_X16_freeDescriptor ++ (ow_dm_X16_freeOpening ++ (ow_dm_X16_opening ++ (ow_dm_X16_give ++ (ow_dm_X16_entitle ++ [])))))))))
theorem gd_dm_X16_open : ∀ w ∈ ow_dm_X16_open, (w.onTables && w.keeps) = true ∨ ∃ ty, w = Cond.arrayClass ty := List.forall_mem_cons.mpr ⟨good_of_word rfl, List.forall_mem_append.mpr ⟨fun w h => good_of_word (List.all_eq_true.mp (by decide +kernel) w h), List.forall_mem_append.mpr ⟨gu_X16, List.forall_mem_append.mpr ⟨gd_dm_X16_nameAt, List.forall_mem_append.mpr ⟨gd_dm_X16_named, List.forall_mem_append.mpr ⟨gd_dm_X16_freeDescriptor, List.forall_mem_append.mpr ⟨gd_dm_X16_freeOpening, List.forall_mem_append.mpr ⟨gd_dm_X16_opening, List.forall_mem_append.mpr ⟨gd_dm_X16_give, List.forall_mem_append.mpr ⟨gd_dm_X16_entitle, fun _ h => nomatch h⟩⟩⟩⟩⟩⟩⟩⟩⟩⟩
theorem hi_dm_X16_open_X16 : ∀ w ∈ u_ws RX16 TX16 56, w ∈ ow_dm_X16_open := fun w h => List.mem_cons_of_mem _ (List.mem_append_right _ (List.mem_append_left _ h))
theorem gi_dm_X16_open_0 : GoodIn ow_dm_X16_open (wsV RX16 505 RX16 yX16_nameAt ow_dm_X16_nameAt) := goodIn_app (goodIn_of _ (by decide +kernel)) (fun w h => ⟨List.mem_cons_of_mem _ (List.mem_append_right _ (List.mem_append_right _ (List.mem_append_left _ h))), gd_dm_X16_nameAt w h⟩)
theorem gi_dm_X16_open_1 : GoodIn ow_dm_X16_open (wsV RX16 508 RX16 yX16_named ow_dm_X16_named) := goodIn_app (goodIn_of _ (by decide +kernel)) (fun w h => ⟨List.mem_cons_of_mem _ (List.mem_append_right _ (List.mem_append_right _ (List.mem_append_right _ (List.mem_append_left _ h)))), gd_dm_X16_named w h⟩)
theorem gi_dm_X16_open_2 : GoodIn ow_dm_X16_open (wsV RX16 249 RX16 yX16_freeDescriptor ow_dm_X16_freeDescriptor) := goodIn_app (goodIn_of _ (by decide +kernel)) (fun w h => ⟨List.mem_cons_of_mem _ (List.mem_append_right _ (List.mem_append_right _ (List.mem_append_right _ (List.mem_append_right _ (List.mem_append_left _ h))))), gd_dm_X16_freeDescriptor w h⟩)
theorem gi_dm_X16_open_3 : GoodIn ow_dm_X16_open (wsV RX16 246 RX16 yX16_freeOpening ow_dm_X16_freeOpening) := goodIn_app (goodIn_of _ (by decide +kernel)) (fun w h => ⟨List.mem_cons_of_mem _ (List.mem_append_right _ (List.mem_append_right _ (List.mem_append_right _ (List.mem_append_right _ (List.mem_append_right _ (List.mem_append_left _ h)))))), gd_dm_X16_freeOpening w h⟩)
theorem gi_dm_X16_open_4 : GoodIn ow_dm_X16_open (wsV RX16 168 RX16 yX16_opening ow_dm_X16_opening) := goodIn_app (goodIn_of _ (by decide +kernel)) (fun w h => ⟨List.mem_cons_of_mem _ (List.mem_append_right _ (List.mem_append_right _ (List.mem_append_right _ (List.mem_append_right _ (List.mem_append_right _ (List.mem_append_right _ (List.mem_append_left _ h))))))), gd_dm_X16_opening w h⟩)
theorem gi_dm_X16_open_5 : GoodIn ow_dm_X16_open (wsV RX16 488 RX16 yX16_give ow_dm_X16_give) := goodIn_app (goodIn_of _ (by decide +kernel)) (fun w h => ⟨List.mem_cons_of_mem _ (List.mem_append_right _ (List.mem_append_right _ (List.mem_append_right _ (List.mem_append_right _ (List.mem_append_right _ (List.mem_append_right _ (List.mem_append_right _ (List.mem_append_left _ h)))))))), gd_dm_X16_give w h⟩)
theorem gi_dm_X16_open_6 : GoodIn ow_dm_X16_open (wsV RX16 511 RX16 yX16_entitle ow_dm_X16_entitle) := goodIn_app (goodIn_of _ (by decide +kernel)) (fun w h => ⟨List.mem_cons_of_mem _ (List.mem_append_right _ (List.mem_append_right _ (List.mem_append_right _ (List.mem_append_right _ (List.mem_append_right _ (List.mem_append_right _ (List.mem_append_right _ (List.mem_append_right _ (List.mem_append_left _ h))))))))), gd_dm_X16_entitle w h⟩)
def dj_X16_open_176 (p : Program) (l : Launch) (e : Env) (s : State) (m : MethodId) (args : Array Value) (below : List Frame) (meth : Method) (c : Code) (Q : State → Prop) (A : Nat → Prop) (dC : Nat → ClassId) (dI : Nat → Nat → Nat) (a : Nat → Nat) (ac : Nat → ClassId) (g : (St × (St)) → Option (Int32 × (St × (St)))) (r : Int32 × (St × (St))) : Prop := ∀ (s0 : St × (St)) (H : Heap) (locs : List Loc) (ls : Array Slot), g s0 = some r → va_P (dC, dI) vwCl (dw_X16 a ac s0) H → va_D A (dw_X16 a ac s0) → va_S A s.heap H locs → lv_has ls 7 [] → W p l e (headSpec ow_dm_X16_open ({ frames := 3, cells := 0, slots := 0, locals := 70 })).room s m args below meth c H locs 0 0 Q (F0 m 176 ls [])
def dj_X16_open_226 (p : Program) (l : Launch) (e : Env) (s : State) (m : MethodId) (args : Array Value) (below : List Frame) (meth : Method) (c : Code) (Q : State → Prop) (A : Nat → Prop) (dC : Nat → ClassId) (dI : Nat → Nat → Nat) (a : Nat → Nat) (ac : Nat → ClassId) (g : Int32 → Int32 → (St × (St)) → Option (Int32 × (St × (St)))) (r : Int32 × (St × (St))) : Prop := ∀ (x2 : Int32) (x5 : Int32) (s0 : St × (St)) (H : Heap) (locs : List Loc) (ls : Array Slot), g x2 x5 s0 = some r → va_P (dC, dI) vwCl (dw_X16 a ac s0) H → va_D A (dw_X16 a ac s0) → va_S A s.heap H locs → lv_has ls 7 [(0, .ref (a 0)), (2, .int x2), (5, .int x5)] → W p l e (headSpec ow_dm_X16_open ({ frames := 3, cells := 0, slots := 0, locals := 70 })).room s m args below meth c H locs 0 0 Q (F0 m 226 ls [])
def dj_X16_open_211 (p : Program) (l : Launch) (e : Env) (s : State) (m : MethodId) (args : Array Value) (below : List Frame) (meth : Method) (c : Code) (Q : State → Prop) (A : Nat → Prop) (dC : Nat → ClassId) (dI : Nat → Nat → Nat) (a : Nat → Nat) (ac : Nat → ClassId) (g : Int32 → Int32 → (St × (St)) → Option (Int32 × (St × (St)))) (r : Int32 × (St × (St))) : Prop := ∀ (x2 : Int32) (x5 : Int32) (s0 : St × (St)) (H : Heap) (locs : List Loc) (ls : Array Slot), g x2 x5 s0 = some r → va_P (dC, dI) vwCl (dw_X16 a ac s0) H → va_D A (dw_X16 a ac s0) → va_S A s.heap H locs → lv_has ls 7 [(0, .ref (a 0)), (2, .int x2), (5, .int x5)] → W p l e (headSpec ow_dm_X16_open ({ frames := 3, cells := 0, slots := 0, locals := 70 })).room s m args below meth c H locs 0 0 Q (F0 m 211 ls [])
def dj_X16_open_179 (p : Program) (l : Launch) (e : Env) (s : State) (m : MethodId) (args : Array Value) (below : List Frame) (meth : Method) (c : Code) (Q : State → Prop) (A : Nat → Prop) (dC : Nat → ClassId) (dI : Nat → Nat → Nat) (a : Nat → Nat) (ac : Nat → ClassId) (g : Int32 → Int32 → Int32 → (St × (St)) → Option (Int32 × (St × (St)))) (r : Int32 × (St × (St))) : Prop := ∀ (x2 : Int32) (x5 : Int32) (x6 : Int32) (s0 : St × (St)) (H : Heap) (locs : List Loc) (ls : Array Slot), g x2 x5 x6 s0 = some r → va_P (dC, dI) vwCl (dw_X16 a ac s0) H → va_D A (dw_X16 a ac s0) → va_S A s.heap H locs → lv_has ls 7 [(0, .ref (a 0)), (2, .int x2), (5, .int x5), (6, .int x6)] → W p l e (headSpec ow_dm_X16_open ({ frames := 3, cells := 0, slots := 0, locals := 70 })).room s m args below meth c H locs 0 0 Q (F0 m 179 ls [])
def dj_X16_open_147 (p : Program) (l : Launch) (e : Env) (s : State) (m : MethodId) (args : Array Value) (below : List Frame) (meth : Method) (c : Code) (Q : State → Prop) (A : Nat → Prop) (dC : Nat → ClassId) (dI : Nat → Nat → Nat) (a : Nat → Nat) (ac : Nat → ClassId) (g : Int32 → Int32 → Int32 → (St × (St)) → Option (Int32 × (St × (St)))) (r : Int32 × (St × (St))) : Prop := ∀ (x2 : Int32) (x5 : Int32) (x6 : Int32) (s0 : St × (St)) (H : Heap) (locs : List Loc) (ls : Array Slot), g x2 x5 x6 s0 = some r → va_P (dC, dI) vwCl (dw_X16 a ac s0) H → va_D A (dw_X16 a ac s0) → va_S A s.heap H locs → lv_has ls 7 [(0, .ref (a 0)), (2, .int x2), (5, .int x5), (6, .int x6)] → W p l e (headSpec ow_dm_X16_open ({ frames := 3, cells := 0, slots := 0, locals := 70 })).room s m args below meth c H locs 0 0 Q (F0 m 147 ls [])
def dj_X16_open_124 (p : Program) (l : Launch) (e : Env) (s : State) (m : MethodId) (args : Array Value) (below : List Frame) (meth : Method) (c : Code) (Q : State → Prop) (A : Nat → Prop) (dC : Nat → ClassId) (dI : Nat → Nat → Nat) (a : Nat → Nat) (ac : Nat → ClassId) (g : Int32 → Int32 → Int32 → (St × (St)) → Option (Int32 × (St × (St)))) (r : Int32 × (St × (St))) : Prop := ∀ (x2 : Int32) (x5 : Int32) (x6 : Int32) (s0 : St × (St)) (H : Heap) (locs : List Loc) (ls : Array Slot), g x2 x5 x6 s0 = some r → va_P (dC, dI) vwCl (dw_X16 a ac s0) H → va_D A (dw_X16 a ac s0) → va_S A s.heap H locs → lv_has ls 7 [(0, .ref (a 0)), (2, .int x2), (5, .int x5), (6, .int x6)] → W p l e (headSpec ow_dm_X16_open ({ frames := 3, cells := 0, slots := 0, locals := 70 })).room s m args below meth c H locs 0 0 Q (F0 m 124 ls [])
def dj_X16_open_121 (p : Program) (l : Launch) (e : Env) (s : State) (m : MethodId) (args : Array Value) (below : List Frame) (meth : Method) (c : Code) (Q : State → Prop) (A : Nat → Prop) (dC : Nat → ClassId) (dI : Nat → Nat → Nat) (a : Nat → Nat) (ac : Nat → ClassId) (g : Int32 → Int32 → (St × (St)) → Option (Int32 × (St × (St)))) (r : Int32 × (St × (St))) : Prop := ∀ (x2 : Int32) (x5 : Int32) (s0 : St × (St)) (H : Heap) (locs : List Loc) (ls : Array Slot), g x2 x5 s0 = some r → va_P (dC, dI) vwCl (dw_X16 a ac s0) H → va_D A (dw_X16 a ac s0) → va_S A s.heap H locs → lv_has ls 7 [(0, .ref (a 0)), (2, .int x2), (5, .int x5)] → W p l e (headSpec ow_dm_X16_open ({ frames := 3, cells := 0, slots := 0, locals := 70 })).room s m args below meth c H locs 0 0 Q (F0 m 121 ls [])
def dj_X16_open_105 (p : Program) (l : Launch) (e : Env) (s : State) (m : MethodId) (args : Array Value) (below : List Frame) (meth : Method) (c : Code) (Q : State → Prop) (A : Nat → Prop) (dC : Nat → ClassId) (dI : Nat → Nat → Nat) (a : Nat → Nat) (ac : Nat → ClassId) (g : Int32 → Int32 → (St × (St)) → Option (Int32 × (St × (St)))) (r : Int32 × (St × (St))) : Prop := ∀ (x2 : Int32) (x5 : Int32) (s0 : St × (St)) (H : Heap) (locs : List Loc) (ls : Array Slot), g x2 x5 s0 = some r → va_P (dC, dI) vwCl (dw_X16 a ac s0) H → va_D A (dw_X16 a ac s0) → va_S A s.heap H locs → lv_has ls 7 [(0, .ref (a 0)), (2, .int x2), (5, .int x5)] → W p l e (headSpec ow_dm_X16_open ({ frames := 3, cells := 0, slots := 0, locals := 70 })).room s m args below meth c H locs 0 0 Q (F0 m 105 ls [])
def dj_X16_open_60 (p : Program) (l : Launch) (e : Env) (s : State) (m : MethodId) (args : Array Value) (below : List Frame) (meth : Method) (c : Code) (Q : State → Prop) (A : Nat → Prop) (dC : Nat → ClassId) (dI : Nat → Nat → Nat) (a : Nat → Nat) (ac : Nat → ClassId) (g : Int32 → Int32 → Int32 → (St × (St)) → Option (Int32 × (St × (St)))) (r : Int32 × (St × (St))) : Prop := ∀ (x1 : Int32) (x2 : Int32) (y0 : Int32) (s0 : St × (St)) (H : Heap) (locs : List Loc) (ls : Array Slot), g x1 x2 y0 s0 = some r → va_P (dC, dI) vwCl (dw_X16 a ac s0) H → va_D A (dw_X16 a ac s0) → va_S A s.heap H locs → lv_has ls 7 [(0, .ref (a 0)), (1, .int x1), (2, .int x2)] → W p l e (headSpec ow_dm_X16_open ({ frames := 3, cells := 0, slots := 0, locals := 70 })).room s m args below meth c H locs 0 0 Q (F0 m 60 ls [.int y0])
def dj_X16_open_59 (p : Program) (l : Launch) (e : Env) (s : State) (m : MethodId) (args : Array Value) (below : List Frame) (meth : Method) (c : Code) (Q : State → Prop) (A : Nat → Prop) (dC : Nat → ClassId) (dI : Nat → Nat → Nat) (a : Nat → Nat) (ac : Nat → ClassId) (g : Int32 → Int32 → (St × (St)) → Option (Int32 × (St × (St)))) (r : Int32 × (St × (St))) : Prop := ∀ (x1 : Int32) (x2 : Int32) (s0 : St × (St)) (H : Heap) (locs : List Loc) (ls : Array Slot), g x1 x2 s0 = some r → va_P (dC, dI) vwCl (dw_X16 a ac s0) H → va_D A (dw_X16 a ac s0) → va_S A s.heap H locs → lv_has ls 7 [(0, .ref (a 0)), (1, .int x1), (2, .int x2)] → W p l e (headSpec ow_dm_X16_open ({ frames := 3, cells := 0, slots := 0, locals := 70 })).room s m args below meth c H locs 0 0 Q (F0 m 59 ls [])
def dj_X16_open_55 (p : Program) (l : Launch) (e : Env) (s : State) (m : MethodId) (args : Array Value) (below : List Frame) (meth : Method) (c : Code) (Q : State → Prop) (A : Nat → Prop) (dC : Nat → ClassId) (dI : Nat → Nat → Nat) (a : Nat → Nat) (ac : Nat → ClassId) (g : Int32 → Int32 → (St × (St)) → Option (Int32 × (St × (St)))) (r : Int32 × (St × (St))) : Prop := ∀ (x1 : Int32) (x2 : Int32) (s0 : St × (St)) (H : Heap) (locs : List Loc) (ls : Array Slot), g x1 x2 s0 = some r → va_P (dC, dI) vwCl (dw_X16 a ac s0) H → va_D A (dw_X16 a ac s0) → va_S A s.heap H locs → lv_has ls 7 [(0, .ref (a 0)), (1, .int x1), (2, .int x2)] → W p l e (headSpec ow_dm_X16_open ({ frames := 3, cells := 0, slots := 0, locals := 70 })).room s m args below meth c H locs 0 0 Q (F0 m 55 ls [])
def dj_X16_open_42 (p : Program) (l : Launch) (e : Env) (s : State) (m : MethodId) (args : Array Value) (below : List Frame) (meth : Method) (c : Code) (Q : State → Prop) (A : Nat → Prop) (dC : Nat → ClassId) (dI : Nat → Nat → Nat) (a : Nat → Nat) (ac : Nat → ClassId) (g : Int32 → Int32 → (St × (St)) → Option (Int32 × (St × (St)))) (r : Int32 × (St × (St))) : Prop := ∀ (x1 : Int32) (x2 : Int32) (s0 : St × (St)) (H : Heap) (locs : List Loc) (ls : Array Slot), g x1 x2 s0 = some r → va_P (dC, dI) vwCl (dw_X16 a ac s0) H → va_D A (dw_X16 a ac s0) → va_S A s.heap H locs → lv_has ls 7 [(0, .ref (a 0)), (1, .int x1), (2, .int x2)] → W p l e (headSpec ow_dm_X16_open ({ frames := 3, cells := 0, slots := 0, locals := 70 })).room s m args below meth c H locs 0 0 Q (F0 m 42 ls [])
def dj_X16_open_28 (p : Program) (l : Launch) (e : Env) (s : State) (m : MethodId) (args : Array Value) (below : List Frame) (meth : Method) (c : Code) (Q : State → Prop) (A : Nat → Prop) (dC : Nat → ClassId) (dI : Nat → Nat → Nat) (a : Nat → Nat) (ac : Nat → ClassId) (g : Int32 → Int32 → (St × (St)) → Option (Int32 × (St × (St)))) (r : Int32 × (St × (St))) : Prop := ∀ (x1 : Int32) (x2 : Int32) (s0 : St × (St)) (H : Heap) (locs : List Loc) (ls : Array Slot), g x1 x2 s0 = some r → va_P (dC, dI) vwCl (dw_X16 a ac s0) H → va_D A (dw_X16 a ac s0) → va_S A s.heap H locs → lv_has ls 7 [(0, .ref (a 0)), (1, .int x1), (2, .int x2)] → W p l e (headSpec ow_dm_X16_open ({ frames := 3, cells := 0, slots := 0, locals := 70 })).room s m args below meth c H locs 0 0 Q (F0 m 28 ls [])
def dj_X16_open_0 (p : Program) (l : Launch) (e : Env) (s : State) (m : MethodId) (args : Array Value) (below : List Frame) (meth : Method) (c : Code) (Q : State → Prop) (A : Nat → Prop) (dC : Nat → ClassId) (dI : Nat → Nat → Nat) (a : Nat → Nat) (ac : Nat → ClassId) (g : Int32 → Int32 → (St × (St)) → Option (Int32 × (St × (St)))) (r : Int32 × (St × (St))) : Prop := ∀ (v0 : Int32) (v1 : Int32) (s0 : St × (St)) (H : Heap) (locs : List Loc) (ls : Array Slot), g v0 v1 s0 = some r → va_P (dC, dI) vwCl (dw_X16 a ac s0) H → va_D A (dw_X16 a ac s0) → va_S A s.heap H locs → lv_has ls 7 [(0, .ref (a 0)), (1, .int v0), (2, .int v1)] → W p l e (headSpec ow_dm_X16_open ({ frames := 3, cells := 0, slots := 0, locals := 70 })).room s m args below meth c H locs 0 0 Q (F0 m 0 ls [])
set_option maxHeartbeats 40000000 in
set_option maxRecDepth 100000 in
theorem db_X16_open_176 {p : Program} {l : Launch} {e : Env} {s : State} {m : MethodId} {args : Array Value} {below : List Frame} {meth : Method} {c : Code} {Q : State → Prop} {A : Nat → Prop} {dC : Nat → ClassId} {dI : Nat → Nat → Nat} {a : Nat → Nat} {ac : Nat → ClassId} {n : Nat} {r : Int32 × (St × (St))} (C : nd_C p l s m args c A (dC, dI) cX16_open 7 RX16 ow_dm_X16_open (dk_X16 ac)) (K : nd_Ki p l e (headSpec ow_dm_X16_open ({ frames := 3, cells := 0, slots := 0, locals := 70 })).room s m args below meth c Q A (dC, dI) cX16_open .int (St × (St)) (dw_X16 a ac) r) : dj_X16_open_176 p l e s m args below meth c Q A dC dI a ac (df_X16_open_176 n) r := by
  obtain ⟨hlt, hx, hb, hml, hown, hts, hN, hA, hK⟩ := id C
  intro s0 H locs ls h hP hD hS hl
  unfold df_X16_open_176 at h
  refine lv_bipush (v := (-4)) hx hb dX16_open_176 (by decide) ?_
  exact K _ _ _ _ _ _ dX16_open_178 rfl (Option.some.inj h).symm hP hD hS
set_option maxHeartbeats 40000000 in
set_option maxRecDepth 100000 in
theorem db_X16_open_226 {p : Program} {l : Launch} {e : Env} {s : State} {m : MethodId} {args : Array Value} {below : List Frame} {meth : Method} {c : Code} {Q : State → Prop} {A : Nat → Prop} {dC : Nat → ClassId} {dI : Nat → Nat → Nat} {a : Nat → Nat} {ac : Nat → ClassId} {n : Nat} {r : Int32 × (St × (St))} (C : nd_C p l s m args c A (dC, dI) cX16_open 7 RX16 ow_dm_X16_open (dk_X16 ac)) (K : nd_Ki p l e (headSpec ow_dm_X16_open ({ frames := 3, cells := 0, slots := 0, locals := 70 })).room s m args below meth c Q A (dC, dI) cX16_open .int (St × (St)) (dw_X16 a ac) r) : dj_X16_open_226 p l e s m args below meth c Q A dC dI a ac (df_X16_open_226 n) r := by
  obtain ⟨hlt, hx, hb, hml, hown, hts, hN, hA, hK⟩ := id C
  intro x2 x5 s0 H locs ls h hP hD hS hl
  unfold df_X16_open_226 at h
  refine lv_aload_n hx hb dX16_open_226 rfl (lv_at hl 0 rfl) ?_
  refine lv_aload_n hx hb dX16_open_227 rfl (lv_at hl 0 rfl) ?_
  refine lv_iconst (v := 3) hx hb dX16_open_228 (by decide) ?_
  refine lv_iload hx hb dX16_open_229 (lv_at hl 2 rfl) ?_
  refine lv_iload_n hx hb dX16_open_231 rfl (lv_at hl 1 rfl) ?_
  refine lv_bipush (v := 7) hx hb dX16_open_232 (by decide) ?_
  refine lv_iand hx hb dX16_open_234 ?_
  obtain ⟨q24, s25, hq, h⟩ := nd_b2_e h
  have hPc := hP
  have hDc := hD
  have hKc := hK
  have hFc := nd_rs hD hS hA
  refine nd_cVi (As := [.int 3, .int x5, .int (x2 &&& 7)]) (rest := [.ref (a 0)]) (q := q24) (w' := dw_X16 a ac s25) ⟨hx, hb, hml, hown, hts⟩ (fun sz => dm_X16_opening l hlt dC dI a ac n (3) (x5) ((x2 &&& 7)) s0 hq sz) (cwV 3 hts gi_dm_X16_open_4 rfl rfl rfl (by decide +kernel) ⟨Nat.le_of_ble_eq_true rfl, Nat.le_of_ble_eq_true rfl⟩) hPc hDc hKc hS hA hN (va_recv hKc hPc (ci := 17) (q0 := 0) rfl rfl) rfl hl.1 rfl (Nat.le_of_ble_eq_true rfl) dX16_open_235 (fun H locs hP1 hD1 hk1 hS => ?_)
  have hP := hP1
  have hD := hD1.weaken (fun k q _ h => hFc q.1 h)
  obtain ⟨q27, s28, hq, h⟩ := nd_b2_e h
  have hPc := hP
  have hDc := hD
  have hKc := hK
  have hFc := nd_rs hD hS hA
  refine nd_cVi (As := [.int q24]) (rest := []) (q := q27) (w' := dw_X16 a ac s28) ⟨hx, hb, hml, hown, hts⟩ (fun sz => dm_X16_give l hlt dC dI a ac n (q24) s25 hq sz) (cwV 1 hts gi_dm_X16_open_5 rfl rfl rfl (by decide +kernel) ⟨Nat.le_of_ble_eq_true rfl, Nat.le_of_ble_eq_true rfl⟩) hPc hDc hKc hS hA hN (va_recv hKc hPc (ci := 17) (q0 := 0) rfl rfl) rfl hl.1 rfl (Nat.le_of_ble_eq_true rfl) dX16_open_238 (fun H locs hP1 hD1 hk1 hS => ?_)
  have hP := hP1
  have hD := hD1.weaken (fun k q _ h => hFc q.1 h)
  exact K _ _ _ _ _ _ dX16_open_241 rfl (Option.some.inj h).symm hP hD hS
set_option maxHeartbeats 40000000 in
set_option maxRecDepth 100000 in
theorem db_X16_open_211 {p : Program} {l : Launch} {e : Env} {s : State} {m : MethodId} {args : Array Value} {below : List Frame} {meth : Method} {c : Code} {Q : State → Prop} {A : Nat → Prop} {dC : Nat → ClassId} {dI : Nat → Nat → Nat} {a : Nat → Nat} {ac : Nat → ClassId} {n : Nat} {r : Int32 × (St × (St))} (C : nd_C p l s m args c A (dC, dI) cX16_open 7 RX16 ow_dm_X16_open (dk_X16 ac)) (K : nd_Ki p l e (headSpec ow_dm_X16_open ({ frames := 3, cells := 0, slots := 0, locals := 70 })).room s m args below meth c Q A (dC, dI) cX16_open .int (St × (St)) (dw_X16 a ac) r) : dj_X16_open_211 p l e s m args below meth c Q A dC dI a ac (df_X16_open_211 n) r := by
  obtain ⟨hlt, hx, hb, hml, hown, hts, hN, hA, hK⟩ := id C
  intro x2 x5 s0 H locs ls h hP hD hS hl
  unfold df_X16_open_211 at h
  refine lv_iload_n hx hb dX16_open_211 rfl (lv_at hl 1 rfl) ?_
  refine lv_bipush (v := 32) hx hb dX16_open_212 (by decide) ?_
  refine lv_iand hx hb dX16_open_214 ?_
  refine lv_if_le (tgt := 226) hx hb dX16_open_215 (by decide) (fun c23 => ?_) (fun c23 => ?_)
  · have h := nd_pos h c23
    exact (db_X16_open_226 C K) (x2) (x5) s0 _ _ _ h hP hD hS (lv_sub hl [0, 1, 2] rfl)
  · have h := nd_neg h c23
    refine lv_aload_n hx hb dX16_open_218 rfl (lv_at hl 0 rfl) ?_
    refine va_get (D := (dC, dI)) (ci := 17) (v := .ref (a 30)) (C := RX16) (T := TX16) (N := 56) hx hb hts hi_dm_X16_open_X16 hown hK hP 0 rfl rfl 39 (by decide) (hts (.fieldLink RX16 100 "TimeMachineModel$Machine" "length" "[I") (List.mem_of_getElem? (i := 20) rfl)) (fun _ h9 => h9) rfl dX16_open_219 ?_
    refine lv_iload hx hb dX16_open_222 (lv_at hl 2 rfl) ?_
    refine lv_iconst (v := 0) hx hb dX16_open_224 (by decide) ?_
    obtain ⟨i30, h⟩ := nd_ck_e h
    refine va_iast (i := x5) (x := 0) hx hb hK hP hD hS 30 29 rfl rfl i30 dX16_open_225 (fun H locs hP hD hS => ?_)
    obtain ⟨s31, es31, h⟩ := nd_let_e h
    have hP : va_P (dC, dI) vwCl (dw_X16 a ac s31) H := by rw [es31]; exact hP
    have hD : va_D A (dw_X16 a ac s31) := by rw [es31]; exact hD
    exact (db_X16_open_226 C K) (x2) (x5) s31 _ _ _ h hP hD hS (lv_sub hl [0, 1, 2] rfl)
set_option maxHeartbeats 40000000 in
set_option maxRecDepth 100000 in
theorem db_X16_open_179 {p : Program} {l : Launch} {e : Env} {s : State} {m : MethodId} {args : Array Value} {below : List Frame} {meth : Method} {c : Code} {Q : State → Prop} {A : Nat → Prop} {dC : Nat → ClassId} {dI : Nat → Nat → Nat} {a : Nat → Nat} {ac : Nat → ClassId} {n : Nat} {r : Int32 × (St × (St))} (C : nd_C p l s m args c A (dC, dI) cX16_open 7 RX16 ow_dm_X16_open (dk_X16 ac)) (K : nd_Ki p l e (headSpec ow_dm_X16_open ({ frames := 3, cells := 0, slots := 0, locals := 70 })).room s m args below meth c Q A (dC, dI) cX16_open .int (St × (St)) (dw_X16 a ac) r) : dj_X16_open_179 p l e s m args below meth c Q A dC dI a ac (df_X16_open_179 n) r := by
  obtain ⟨hlt, hx, hb, hml, hown, hts, hN, hA, hK⟩ := id C
  intro x2 x5 x6 s0 H locs ls h hP hD hS hl
  unfold df_X16_open_179 at h
  refine lv_iload hx hb dX16_open_179 (lv_at hl 2 rfl) ?_
  refine lv_iconst (v := (-1)) hx hb dX16_open_181 (by decide) ?_
  refine lv_icmp_ne (tgt := 211) hx hb dX16_open_182 (by decide) (fun c22 => ?_) (fun c22 => ?_)
  · have h := nd_neg h c22
    exact (db_X16_open_211 C K) (x2) (x5) s0 _ _ _ h hP hD hS (lv_sub hl [0, 1, 2] rfl)
  · have h := nd_pos h c22
    refine lv_iload hx hb dX16_open_185 (lv_at hl 3 rfl) ?_
    refine lv_istore (lv' := [(5, .int x6), (0, .ref (a 0)), (2, .int x2), (6, .int x6)]) hx hb dX16_open_187 hl (by decide) rfl (fun ls hl => ?_)
    refine lv_aload_n hx hb dX16_open_189 rfl (lv_at hl 1 rfl) ?_
    refine va_get (D := (dC, dI)) (ci := 17) (v := .ref (a 26)) (C := RX16) (T := TX16) (N := 56) hx hb hts hi_dm_X16_open_X16 hown hK hP 0 rfl rfl 35 (by decide) (hts (.fieldLink RX16 88 "TimeMachineModel$Machine" "isFile" "[Z") (List.mem_of_getElem? (i := 21) rfl)) (fun _ h9 => h9) rfl dX16_open_190 ?_
    refine lv_iload hx hb dX16_open_193 (lv_at hl 0 rfl) ?_
    refine lv_iconst (v := 1) hx hb dX16_open_195 (by decide) ?_
    obtain ⟨i32, h⟩ := nd_ck_e h
    refine va_zast (i := x6) (x := 1) hx hb hK hP hD hS 26 25 rfl rfl i32 dX16_open_196 (fun H locs hP hD hS => ?_)
    obtain ⟨s33, es33, h⟩ := nd_let_e h
    have hP : va_P (dC, dI) vwCl (dw_X16 a ac s33) H := by rw [es33]; exact hP
    have hD : va_D A (dw_X16 a ac s33) := by rw [es33]; exact hD
    refine lv_aload_n hx hb dX16_open_197 rfl (lv_at hl 1 rfl) ?_
    refine va_get (D := (dC, dI)) (ci := 17) (v := .ref (a 30)) (C := RX16) (T := TX16) (N := 56) hx hb hts hi_dm_X16_open_X16 hown hK hP 0 rfl rfl 39 (by decide) (hts (.fieldLink RX16 100 "TimeMachineModel$Machine" "length" "[I") (List.mem_of_getElem? (i := 20) rfl)) (fun _ h9 => h9) rfl dX16_open_198 ?_
    refine lv_iload hx hb dX16_open_201 (lv_at hl 0 rfl) ?_
    refine lv_iconst (v := 0) hx hb dX16_open_203 (by decide) ?_
    obtain ⟨i34, h⟩ := nd_ck_e h
    refine va_iast (i := x6) (x := 0) hx hb hK hP hD hS 30 29 rfl rfl i34 dX16_open_204 (fun H locs hP hD hS => ?_)
    obtain ⟨s35, es35, h⟩ := nd_let_e h
    have hP : va_P (dC, dI) vwCl (dw_X16 a ac s35) H := by rw [es35]; exact hP
    have hD : va_D A (dw_X16 a ac s35) := by rw [es35]; exact hD
    refine lv_aload_n hx hb dX16_open_205 rfl (lv_at hl 1 rfl) ?_
    refine lv_iload hx hb dX16_open_206 (lv_at hl 0 rfl) ?_
    obtain ⟨s37, hq, h⟩ := nd_b1_e h
    have hPc := hP
    have hDc := hD
    have hKc := hK
    have hFc := nd_rs hD hS hA
    refine nd_cVv (As := [.int x6]) (rest := []) (w' := dw_X16 a ac s37) ⟨hx, hb, hml, hown, hts⟩ (fun sz => dm_X16_entitle l hlt dC dI a ac n (x6) s35 hq sz) (cwV 1 hts gi_dm_X16_open_6 rfl rfl rfl (by decide +kernel) ⟨Nat.le_of_ble_eq_true rfl, Nat.le_of_ble_eq_true rfl⟩) hPc hDc hKc hS hA hN (va_recv hKc hPc (ci := 17) (q0 := 0) rfl rfl) rfl hl.1 rfl (Nat.le_of_ble_eq_true rfl) dX16_open_208 (fun H locs hP1 hD1 hk1 hS => ?_)
    have hP := hP1
    have hD := hD1.weaken (fun k q _ h => hFc q.1 h)
    exact (db_X16_open_211 C K) (x2) (x6) s37 _ _ _ h hP hD hS (lv_sub hl [1, 2, 0] rfl)
set_option maxHeartbeats 40000000 in
set_option maxRecDepth 100000 in
theorem db_X16_open_147 {p : Program} {l : Launch} {e : Env} {s : State} {m : MethodId} {args : Array Value} {below : List Frame} {meth : Method} {c : Code} {Q : State → Prop} {A : Nat → Prop} {dC : Nat → ClassId} {dI : Nat → Nat → Nat} {a : Nat → Nat} {ac : Nat → ClassId} {n : Nat} {r : Int32 × (St × (St))} (C : nd_C p l s m args c A (dC, dI) cX16_open 7 RX16 ow_dm_X16_open (dk_X16 ac)) (K : nd_Ki p l e (headSpec ow_dm_X16_open ({ frames := 3, cells := 0, slots := 0, locals := 70 })).room s m args below meth c Q A (dC, dI) cX16_open .int (St × (St)) (dw_X16 a ac) r) : dj_X16_open_147 p l e s m args below meth c Q A dC dI a ac (df_X16_open_147 n) r := by
  obtain ⟨hlt, hx, hb, hml, hown, hts, hN, hA, hK⟩ := id C
  intro x2 x5 x6 s0 H locs ls h hP hD hS hl
  unfold df_X16_open_147 at h
  refine lv_aload_n hx hb dX16_open_147 rfl (lv_at hl 0 rfl) ?_
  obtain ⟨q13, s14, hq, h⟩ := nd_b2_e h
  have hPc := hP
  have hDc := hD
  have hKc := hK
  have hFc := nd_rs hD hS hA
  refine nd_cVi (As := []) (rest := []) (q := q13) (w' := dw_X16 a ac s14) ⟨hx, hb, hml, hown, hts⟩ (fun sz => dm_X16_freeDescriptor l hlt dC dI a ac n  s0 hq sz) (cwV 0 hts gi_dm_X16_open_2 rfl rfl rfl (by decide +kernel) ⟨Nat.le_of_ble_eq_true rfl, Nat.le_of_ble_eq_true rfl⟩) hPc hDc hKc hS hA hN (va_recv hKc hPc (ci := 17) (q0 := 0) rfl rfl) rfl hl.1 rfl (Nat.le_of_ble_eq_true rfl) dX16_open_148 (fun H locs hP1 hD1 hk1 hS => ?_)
  have hP := hP1
  have hD := hD1.weaken (fun k q _ h => hFc q.1 h)
  refine lv_iconst (v := (-1)) hx hb dX16_open_151 (by decide) ?_
  refine lv_icmp_eq (tgt := 176) hx hb dX16_open_152 (by decide) (fun c16 => ?_) (fun c16 => ?_)
  · have h := nd_pos h c16
    exact (db_X16_open_176 C K)  s14 _ _ _ h hP hD hS (lv_sub hl [] rfl)
  · have h := nd_neg h c16
    refine lv_aload_n hx hb dX16_open_155 rfl (lv_at hl 0 rfl) ?_
    obtain ⟨q17, s18, hq, h⟩ := nd_b2_e h
    have hPc := hP
    have hDc := hD
    have hKc := hK
    have hFc := nd_rs hD hS hA
    refine nd_cVi (As := []) (rest := []) (q := q17) (w' := dw_X16 a ac s18) ⟨hx, hb, hml, hown, hts⟩ (fun sz => dm_X16_freeOpening l hlt dC dI a ac n  s14 hq sz) (cwV 0 hts gi_dm_X16_open_3 rfl rfl rfl (by decide +kernel) ⟨Nat.le_of_ble_eq_true rfl, Nat.le_of_ble_eq_true rfl⟩) hPc hDc hKc hS hA hN (va_recv hKc hPc (ci := 17) (q0 := 0) rfl rfl) rfl hl.1 rfl (Nat.le_of_ble_eq_true rfl) dX16_open_156 (fun H locs hP1 hD1 hk1 hS => ?_)
    have hP := hP1
    have hD := hD1.weaken (fun k q _ h => hFc q.1 h)
    refine lv_iconst (v := (-1)) hx hb dX16_open_159 (by decide) ?_
    refine lv_icmp_eq (tgt := 176) hx hb dX16_open_160 (by decide) (fun c20 => ?_) (fun c20 => ?_)
    · have h := nd_pos h c20
      exact (db_X16_open_176 C K)  s18 _ _ _ h hP hD hS (lv_sub hl [] rfl)
    · have h := nd_neg h c20
      refine lv_iload hx hb dX16_open_163 (lv_at hl 2 rfl) ?_
      refine lv_iconst (v := (-1)) hx hb dX16_open_165 (by decide) ?_
      refine lv_icmp_ne (tgt := 179) hx hb dX16_open_166 (by decide) (fun c21 => ?_) (fun c21 => ?_)
      · have h := nd_neg h c21
        exact (db_X16_open_179 C K) (x2) (x5) (x6) s18 _ _ _ h hP hD hS (lv_sub hl [0, 1, 2, 3] rfl)
      · have h := nd_pos h c21
        refine lv_iload hx hb dX16_open_169 (lv_at hl 3 rfl) ?_
        refine lv_bipush (v := 16) hx hb dX16_open_171 (by decide) ?_
        refine lv_icmp_ne (tgt := 179) hx hb dX16_open_173 (by decide) (fun c39 => ?_) (fun c39 => ?_)
        · have h := nd_neg h c39
          exact (db_X16_open_179 C K) (x2) (x5) (x6) s18 _ _ _ h hP hD hS (lv_sub hl [0, 1, 2, 3] rfl)
        · have h := nd_pos h c39
          exact (db_X16_open_176 C K)  s18 _ _ _ h hP hD hS (lv_sub hl [] rfl)
set_option maxHeartbeats 40000000 in
set_option maxRecDepth 100000 in
theorem dB_X16_open_124 {p : Program} {l : Launch} {e : Env} {s : State} {m : MethodId} {args : Array Value} {below : List Frame} {meth : Method} {c : Code} {Q : State → Prop} {A : Nat → Prop} {dC : Nat → ClassId} {dI : Nat → Nat → Nat} {a : Nat → Nat} {ac : Nat → ClassId} {n : Nat} {r : Int32 × (St × (St))} (C : nd_C p l s m args c A (dC, dI) cX16_open 7 RX16 ow_dm_X16_open (dk_X16 ac)) (K : nd_Ki p l e (headSpec ow_dm_X16_open ({ frames := 3, cells := 0, slots := 0, locals := 70 })).room s m args below meth c Q A (dC, dI) cX16_open .int (St × (St)) (dw_X16 a ac) r) {g124 : Int32 → Int32 → Int32 → (St × (St)) → Option (Int32 × (St × (St)))} (J124 : dj_X16_open_124 p l e s m args below meth c Q A dC dI a ac g124 r) : dj_X16_open_124 p l e s m args below meth c Q A dC dI a ac (dF_X16_open_124 n g124) r := by
  obtain ⟨hlt, hx, hb, hml, hown, hts, hN, hA, hK⟩ := id C
  intro x2 x5 x6 s0 H locs ls h hP hD hS hl
  unfold dF_X16_open_124 at h
  refine lv_iload hx hb dX16_open_124 (lv_at hl 3 rfl) ?_
  refine lv_bipush (v := 16) hx hb dX16_open_126 (by decide) ?_
  refine lv_icmp_ge (tgt := 147) hx hb dX16_open_128 (by decide) (fun c12 => ?_) (fun c12 => ?_)
  · have h := nd_pos h c12
    exact (db_X16_open_147 C K) (x2) (x5) (x6) s0 _ _ _ h hP hD hS (lv_sub hl [0, 1, 2, 3] rfl)
  · have h := nd_neg h c12
    refine lv_aload_n hx hb dX16_open_131 rfl (lv_at hl 0 rfl) ?_
    refine va_get (D := (dC, dI)) (ci := 17) (v := .ref (a 26)) (C := RX16) (T := TX16) (N := 56) hx hb hts hi_dm_X16_open_X16 hown hK hP 0 rfl rfl 35 (by decide) (hts (.fieldLink RX16 88 "TimeMachineModel$Machine" "isFile" "[Z") (List.mem_of_getElem? (i := 21) rfl)) (fun _ h9 => h9) rfl dX16_open_132 ?_
    refine lv_iload hx hb dX16_open_135 (lv_at hl 3 rfl) ?_
    obtain ⟨i40, h⟩ := nd_ck_e h
    refine va_zald (i := x6) hx hb hK hP 26 25 rfl rfl i40 dX16_open_137 ?_
    refine lv_if_eq (tgt := 147) hx hb dX16_open_138 (by decide) (fun c41 => ?_) (fun c41 => ?_)
    · have h := nd_pos h c41
      exact (db_X16_open_147 C K) (x2) (x5) (x6) s0 _ _ _ h hP hD hS (lv_sub hl [0, 1, 2, 3] rfl)
    · have h := nd_neg h c41
      obtain ⟨z42, ez42, h⟩ := nd_let_e h
      refine lv_iinc (v := z42) (lv' := [(6, .int z42), (0, .ref (a 0)), (2, .int x2), (5, .int x5)]) hx hb dX16_open_141 hl (k := 3) rfl (by rw [ez42]) (by decide) rfl (fun ls hl => ?_)
      refine lv_goto (tgt := 124) hx hb dX16_open_144 (by decide) ?_
      exact (J124) (x2) (x5) (z42) s0 _ _ _ h hP hD hS (lv_sub hl [1, 2, 3, 0] rfl)
set_option maxHeartbeats 40000000 in
set_option maxRecDepth 100000 in
theorem db_X16_open_124 {p : Program} {l : Launch} {e : Env} {s : State} {m : MethodId} {args : Array Value} {below : List Frame} {meth : Method} {c : Code} {Q : State → Prop} {A : Nat → Prop} {dC : Nat → ClassId} {dI : Nat → Nat → Nat} {a : Nat → Nat} {ac : Nat → ClassId} {n : Nat} {r : Int32 × (St × (St))} (C : nd_C p l s m args c A (dC, dI) cX16_open 7 RX16 ow_dm_X16_open (dk_X16 ac)) (K : nd_Ki p l e (headSpec ow_dm_X16_open ({ frames := 3, cells := 0, slots := 0, locals := 70 })).room s m args below meth c Q A (dC, dI) cX16_open .int (St × (St)) (dw_X16 a ac) r) (k : Nat) : dj_X16_open_124 p l e s m args below meth c Q A dC dI a ac (df_X16_open_124 n k) r := by
  induction k with
  | zero => intro x2 x5 x6 s0 H locs ls h; exact nomatch (show (none : Option (Int32 × (St × (St)))) = some r from h)
  | succ k ih => exact dB_X16_open_124 C K ih
set_option maxHeartbeats 40000000 in
set_option maxRecDepth 100000 in
theorem db_X16_open_121 {p : Program} {l : Launch} {e : Env} {s : State} {m : MethodId} {args : Array Value} {below : List Frame} {meth : Method} {c : Code} {Q : State → Prop} {A : Nat → Prop} {dC : Nat → ClassId} {dI : Nat → Nat → Nat} {a : Nat → Nat} {ac : Nat → ClassId} {n : Nat} {r : Int32 × (St × (St))} (C : nd_C p l s m args c A (dC, dI) cX16_open 7 RX16 ow_dm_X16_open (dk_X16 ac)) (K : nd_Ki p l e (headSpec ow_dm_X16_open ({ frames := 3, cells := 0, slots := 0, locals := 70 })).room s m args below meth c Q A (dC, dI) cX16_open .int (St × (St)) (dw_X16 a ac) r) : dj_X16_open_121 p l e s m args below meth c Q A dC dI a ac (df_X16_open_121 n) r := by
  obtain ⟨hlt, hx, hb, hml, hown, hts, hN, hA, hK⟩ := id C
  intro x2 x5 s0 H locs ls h hP hD hS hl
  unfold df_X16_open_121 at h
  refine lv_iconst (v := 0) hx hb dX16_open_121 (by decide) ?_
  refine lv_istore (lv' := [(6, .int 0), (0, .ref (a 0)), (2, .int x2), (5, .int x5)]) hx hb dX16_open_122 hl (by decide) rfl (fun ls hl => ?_)
  exact (db_X16_open_124 C K n) (x2) (x5) (0) s0 _ _ _ h hP hD hS (lv_sub hl [1, 2, 3, 0] rfl)
set_option maxHeartbeats 40000000 in
set_option maxRecDepth 100000 in
theorem db_X16_open_105 {p : Program} {l : Launch} {e : Env} {s : State} {m : MethodId} {args : Array Value} {below : List Frame} {meth : Method} {c : Code} {Q : State → Prop} {A : Nat → Prop} {dC : Nat → ClassId} {dI : Nat → Nat → Nat} {a : Nat → Nat} {ac : Nat → ClassId} {n : Nat} {r : Int32 × (St × (St))} (C : nd_C p l s m args c A (dC, dI) cX16_open 7 RX16 ow_dm_X16_open (dk_X16 ac)) (K : nd_Ki p l e (headSpec ow_dm_X16_open ({ frames := 3, cells := 0, slots := 0, locals := 70 })).room s m args below meth c Q A (dC, dI) cX16_open .int (St × (St)) (dw_X16 a ac) r) : dj_X16_open_105 p l e s m args below meth c Q A dC dI a ac (df_X16_open_105 n) r := by
  obtain ⟨hlt, hx, hb, hml, hown, hts, hN, hA, hK⟩ := id C
  intro x2 x5 s0 H locs ls h hP hD hS hl
  unfold df_X16_open_105 at h
  refine lv_iload hx hb dX16_open_105 (lv_at hl 2 rfl) ?_
  refine lv_iconst (v := (-1)) hx hb dX16_open_107 (by decide) ?_
  refine lv_icmp_eq (tgt := 121) hx hb dX16_open_108 (by decide) (fun c11 => ?_) (fun c11 => ?_)
  · have h := nd_pos h c11
    exact (db_X16_open_121 C K) (x2) (x5) s0 _ _ _ h hP hD hS (lv_sub hl [0, 1, 2] rfl)
  · have h := nd_neg h c11
    refine lv_iload_n hx hb dX16_open_111 rfl (lv_at hl 1 rfl) ?_
    refine lv_bipush (v := 16) hx hb dX16_open_112 (by decide) ?_
    refine lv_iand hx hb dX16_open_114 ?_
    refine lv_if_le (tgt := 121) hx hb dX16_open_115 (by decide) (fun c43 => ?_) (fun c43 => ?_)
    · have h := nd_pos h c43
      exact (db_X16_open_121 C K) (x2) (x5) s0 _ _ _ h hP hD hS (lv_sub hl [0, 1, 2] rfl)
    · have h := nd_neg h c43
      refine lv_bipush (v := (-3)) hx hb dX16_open_118 (by decide) ?_
      exact K _ _ _ _ _ _ dX16_open_120 rfl (Option.some.inj h).symm hP hD hS
set_option maxHeartbeats 40000000 in
set_option maxRecDepth 100000 in
theorem db_X16_open_60 {p : Program} {l : Launch} {e : Env} {s : State} {m : MethodId} {args : Array Value} {below : List Frame} {meth : Method} {c : Code} {Q : State → Prop} {A : Nat → Prop} {dC : Nat → ClassId} {dI : Nat → Nat → Nat} {a : Nat → Nat} {ac : Nat → ClassId} {n : Nat} {r : Int32 × (St × (St))} (C : nd_C p l s m args c A (dC, dI) cX16_open 7 RX16 ow_dm_X16_open (dk_X16 ac)) (K : nd_Ki p l e (headSpec ow_dm_X16_open ({ frames := 3, cells := 0, slots := 0, locals := 70 })).room s m args below meth c Q A (dC, dI) cX16_open .int (St × (St)) (dw_X16 a ac) r) : dj_X16_open_60 p l e s m args below meth c Q A dC dI a ac (df_X16_open_60 n) r := by
  obtain ⟨hlt, hx, hb, hml, hown, hts, hN, hA, hK⟩ := id C
  intro x1 x2 y0 s0 H locs ls h hP hD hS hl
  unfold df_X16_open_60 at h
  refine lv_istore_n (lv' := [(3, .int y0), (0, .ref (a 0)), (1, .int x1), (2, .int x2)]) hx hb dX16_open_60 rfl hl (by decide) rfl (fun ls hl => ?_)
  refine lv_iload_n hx hb dX16_open_61 rfl (lv_at hl 0 rfl) ?_
  refine lv_if_ne (tgt := 68) hx hb dX16_open_62 (by decide) (fun c2 => ?_) (fun c2 => ?_)
  · have h := nd_neg h c2
    refine lv_aload_n hx hb dX16_open_68 rfl (lv_at hl 1 rfl) ?_
    refine lv_iload_n hx hb dX16_open_69 rfl (lv_at hl 2 rfl) ?_
    obtain ⟨q3, s4, hq, h⟩ := nd_b2_e h
    have hPc := hP
    have hDc := hD
    have hKc := hK
    have hFc := nd_rs hD hS hA
    refine nd_cVi (As := [.int x1]) (rest := []) (q := q3) (w' := dw_X16 a ac s4) ⟨hx, hb, hml, hown, hts⟩ (fun sz => dm_X16_nameAt l hlt dC dI a ac n (x1) s0 hq sz) (cwV 1 hts gi_dm_X16_open_0 rfl rfl rfl (by decide +kernel) ⟨Nat.le_of_ble_eq_true rfl, Nat.le_of_ble_eq_true rfl⟩) hPc hDc hKc hS hA hN (va_recv hKc hPc (ci := 17) (q0 := 0) rfl rfl) rfl hl.1 rfl (Nat.le_of_ble_eq_true rfl) dX16_open_70 (fun H locs hP1 hD1 hk1 hS => ?_)
    have hP := hP1
    have hD := hD1.weaken (fun k q _ h => hFc q.1 h)
    refine lv_istore (lv' := [(4, .int q3), (3, .int y0), (0, .ref (a 0)), (1, .int x1), (2, .int x2)]) hx hb dX16_open_73 hl (by decide) rfl (fun ls hl => ?_)
    refine lv_iload hx hb dX16_open_75 (lv_at hl 0 rfl) ?_
    refine lv_if_ge (tgt := 83) hx hb dX16_open_77 (by decide) (fun c6 => ?_) (fun c6 => ?_)
    · have h := nd_pos h c6
      refine lv_aload_n hx hb dX16_open_83 rfl (lv_at hl 2 rfl) ?_
      obtain ⟨q7, s8, hq, h⟩ := nd_b2_e h
      have hPc := hP
      have hDc := hD
      have hKc := hK
      have hFc := nd_rs hD hS hA
      refine nd_cVi (As := []) (rest := []) (q := q7) (w' := dw_X16 a ac s8) ⟨hx, hb, hml, hown, hts⟩ (fun sz => dm_X16_named l hlt dC dI a ac n  s4 hq sz) (cwV 0 hts gi_dm_X16_open_1 rfl rfl rfl (by decide +kernel) ⟨Nat.le_of_ble_eq_true rfl, Nat.le_of_ble_eq_true rfl⟩) hPc hDc hKc hS hA hN (va_recv hKc hPc (ci := 17) (q0 := 0) rfl rfl) rfl hl.1 rfl (Nat.le_of_ble_eq_true rfl) dX16_open_84 (fun H locs hP1 hD1 hk1 hS => ?_)
      have hP := hP1
      have hD := hD1.weaken (fun k q _ h => hFc q.1 h)
      refine lv_istore (lv' := [(5, .int q7), (4, .int q3), (3, .int y0), (0, .ref (a 0)), (1, .int x1), (2, .int x2)]) hx hb dX16_open_87 hl (by decide) rfl (fun ls hl => ?_)
      refine lv_iload hx hb dX16_open_89 (lv_at hl 0 rfl) ?_
      refine lv_iconst (v := (-1)) hx hb dX16_open_91 (by decide) ?_
      refine lv_icmp_ne (tgt := 105) hx hb dX16_open_92 (by decide) (fun c10 => ?_) (fun c10 => ?_)
      · have h := nd_neg h c10
        exact (db_X16_open_105 C K) (x2) (q7) s8 _ _ _ h hP hD hS (lv_sub hl [3, 5, 0] rfl)
      · have h := nd_pos h c10
        refine lv_iload_n hx hb dX16_open_95 rfl (lv_at hl 5 rfl) ?_
        refine lv_bipush (v := 8) hx hb dX16_open_96 (by decide) ?_
        refine lv_iand hx hb dX16_open_98 ?_
        refine lv_if_ne (tgt := 105) hx hb dX16_open_99 (by decide) (fun c44 => ?_) (fun c44 => ?_)
        · have h := nd_neg h c44
          exact (db_X16_open_105 C K) (x2) (q7) s8 _ _ _ h hP hD hS (lv_sub hl [3, 5, 0] rfl)
        · have h := nd_pos h c44
          refine lv_bipush (v := (-2)) hx hb dX16_open_102 (by decide) ?_
          exact K _ _ _ _ _ _ dX16_open_104 rfl (Option.some.inj h).symm hP hD hS
    · have h := nd_neg h c6
      refine lv_iload hx hb dX16_open_80 (lv_at hl 0 rfl) ?_
      exact K _ _ _ _ _ _ dX16_open_82 rfl (Option.some.inj h).symm hP hD hS
  · have h := nd_pos h c2
    refine lv_bipush (v := (-22)) hx hb dX16_open_65 (by decide) ?_
    exact K _ _ _ _ _ _ dX16_open_67 rfl (Option.some.inj h).symm hP hD hS
set_option maxHeartbeats 40000000 in
set_option maxRecDepth 100000 in
theorem db_X16_open_59 {p : Program} {l : Launch} {e : Env} {s : State} {m : MethodId} {args : Array Value} {below : List Frame} {meth : Method} {c : Code} {Q : State → Prop} {A : Nat → Prop} {dC : Nat → ClassId} {dI : Nat → Nat → Nat} {a : Nat → Nat} {ac : Nat → ClassId} {n : Nat} {r : Int32 × (St × (St))} (C : nd_C p l s m args c A (dC, dI) cX16_open 7 RX16 ow_dm_X16_open (dk_X16 ac)) (K : nd_Ki p l e (headSpec ow_dm_X16_open ({ frames := 3, cells := 0, slots := 0, locals := 70 })).room s m args below meth c Q A (dC, dI) cX16_open .int (St × (St)) (dw_X16 a ac) r) : dj_X16_open_59 p l e s m args below meth c Q A dC dI a ac (df_X16_open_59 n) r := by
  obtain ⟨hlt, hx, hb, hml, hown, hts, hN, hA, hK⟩ := id C
  intro x1 x2 s0 H locs ls h hP hD hS hl
  unfold df_X16_open_59 at h
  refine lv_iconst (v := 0) hx hb dX16_open_59 (by decide) ?_
  exact (db_X16_open_60 C K) (x1) (x2) (0) s0 _ _ _ h hP hD hS (lv_sub hl [0, 1, 2] rfl)
set_option maxHeartbeats 40000000 in
set_option maxRecDepth 100000 in
theorem db_X16_open_55 {p : Program} {l : Launch} {e : Env} {s : State} {m : MethodId} {args : Array Value} {below : List Frame} {meth : Method} {c : Code} {Q : State → Prop} {A : Nat → Prop} {dC : Nat → ClassId} {dI : Nat → Nat → Nat} {a : Nat → Nat} {ac : Nat → ClassId} {n : Nat} {r : Int32 × (St × (St))} (C : nd_C p l s m args c A (dC, dI) cX16_open 7 RX16 ow_dm_X16_open (dk_X16 ac)) (K : nd_Ki p l e (headSpec ow_dm_X16_open ({ frames := 3, cells := 0, slots := 0, locals := 70 })).room s m args below meth c Q A (dC, dI) cX16_open .int (St × (St)) (dw_X16 a ac) r) : dj_X16_open_55 p l e s m args below meth c Q A dC dI a ac (df_X16_open_55 n) r := by
  obtain ⟨hlt, hx, hb, hml, hown, hts, hN, hA, hK⟩ := id C
  intro x1 x2 s0 H locs ls h hP hD hS hl
  unfold df_X16_open_55 at h
  refine lv_iconst (v := 1) hx hb dX16_open_55 (by decide) ?_
  refine lv_goto (tgt := 60) hx hb dX16_open_56 (by decide) ?_
  exact (db_X16_open_60 C K) (x1) (x2) (1) s0 _ _ _ h hP hD hS (lv_sub hl [0, 1, 2] rfl)
set_option maxHeartbeats 40000000 in
set_option maxRecDepth 100000 in
theorem db_X16_open_42 {p : Program} {l : Launch} {e : Env} {s : State} {m : MethodId} {args : Array Value} {below : List Frame} {meth : Method} {c : Code} {Q : State → Prop} {A : Nat → Prop} {dC : Nat → ClassId} {dI : Nat → Nat → Nat} {a : Nat → Nat} {ac : Nat → ClassId} {n : Nat} {r : Int32 × (St × (St))} (C : nd_C p l s m args c A (dC, dI) cX16_open 7 RX16 ow_dm_X16_open (dk_X16 ac)) (K : nd_Ki p l e (headSpec ow_dm_X16_open ({ frames := 3, cells := 0, slots := 0, locals := 70 })).room s m args below meth c Q A (dC, dI) cX16_open .int (St × (St)) (dw_X16 a ac) r) : dj_X16_open_42 p l e s m args below meth c Q A dC dI a ac (df_X16_open_42 n) r := by
  obtain ⟨hlt, hx, hb, hml, hown, hts, hN, hA, hK⟩ := id C
  intro x1 x2 s0 H locs ls h hP hD hS hl
  unfold df_X16_open_42 at h
  refine lv_iload_n hx hb dX16_open_42 rfl (lv_at hl 2 rfl) ?_
  refine lv_bipush (v := 32) hx hb dX16_open_43 (by decide) ?_
  refine lv_iand hx hb dX16_open_45 ?_
  refine lv_if_eq (tgt := 55) hx hb dX16_open_46 (by decide) (fun c49 => ?_) (fun c49 => ?_)
  · have h := nd_pos h c49
    exact (db_X16_open_55 C K) (x1) (x2) s0 _ _ _ h hP hD hS (lv_sub hl [0, 1, 2] rfl)
  · have h := nd_neg h c49
    refine lv_iload_n hx hb dX16_open_49 rfl (lv_at hl 2 rfl) ?_
    refine lv_iconst (v := 2) hx hb dX16_open_50 (by decide) ?_
    refine lv_iand hx hb dX16_open_51 ?_
    refine lv_if_le (tgt := 59) hx hb dX16_open_52 (by decide) (fun c50 => ?_) (fun c50 => ?_)
    · have h := nd_pos h c50
      exact (db_X16_open_59 C K) (x1) (x2) s0 _ _ _ h hP hD hS (lv_sub hl [0, 1, 2] rfl)
    · have h := nd_neg h c50
      exact (db_X16_open_55 C K) (x1) (x2) s0 _ _ _ h hP hD hS (lv_sub hl [0, 1, 2] rfl)
set_option maxHeartbeats 40000000 in
set_option maxRecDepth 100000 in
theorem db_X16_open_28 {p : Program} {l : Launch} {e : Env} {s : State} {m : MethodId} {args : Array Value} {below : List Frame} {meth : Method} {c : Code} {Q : State → Prop} {A : Nat → Prop} {dC : Nat → ClassId} {dI : Nat → Nat → Nat} {a : Nat → Nat} {ac : Nat → ClassId} {n : Nat} {r : Int32 × (St × (St))} (C : nd_C p l s m args c A (dC, dI) cX16_open 7 RX16 ow_dm_X16_open (dk_X16 ac)) (K : nd_Ki p l e (headSpec ow_dm_X16_open ({ frames := 3, cells := 0, slots := 0, locals := 70 })).room s m args below meth c Q A (dC, dI) cX16_open .int (St × (St)) (dw_X16 a ac) r) : dj_X16_open_28 p l e s m args below meth c Q A dC dI a ac (df_X16_open_28 n) r := by
  obtain ⟨hlt, hx, hb, hml, hown, hts, hN, hA, hK⟩ := id C
  intro x1 x2 s0 H locs ls h hP hD hS hl
  unfold df_X16_open_28 at h
  refine lv_iload_n hx hb dX16_open_28 rfl (lv_at hl 2 rfl) ?_
  refine lv_bipush (v := 16) hx hb dX16_open_29 (by decide) ?_
  refine lv_iand hx hb dX16_open_31 ?_
  refine lv_if_eq (tgt := 42) hx hb dX16_open_32 (by decide) (fun c48 => ?_) (fun c48 => ?_)
  · have h := nd_pos h c48
    exact (db_X16_open_42 C K) (x1) (x2) s0 _ _ _ h hP hD hS (lv_sub hl [0, 1, 2] rfl)
  · have h := nd_neg h c48
    refine lv_iload_n hx hb dX16_open_35 rfl (lv_at hl 2 rfl) ?_
    refine lv_bipush (v := 8) hx hb dX16_open_36 (by decide) ?_
    refine lv_iand hx hb dX16_open_38 ?_
    refine lv_if_le (tgt := 59) hx hb dX16_open_39 (by decide) (fun c51 => ?_) (fun c51 => ?_)
    · have h := nd_pos h c51
      exact (db_X16_open_59 C K) (x1) (x2) s0 _ _ _ h hP hD hS (lv_sub hl [0, 1, 2] rfl)
    · have h := nd_neg h c51
      exact (db_X16_open_42 C K) (x1) (x2) s0 _ _ _ h hP hD hS (lv_sub hl [0, 1, 2] rfl)
set_option maxHeartbeats 40000000 in
set_option maxRecDepth 100000 in
theorem db_X16_open_0 {p : Program} {l : Launch} {e : Env} {s : State} {m : MethodId} {args : Array Value} {below : List Frame} {meth : Method} {c : Code} {Q : State → Prop} {A : Nat → Prop} {dC : Nat → ClassId} {dI : Nat → Nat → Nat} {a : Nat → Nat} {ac : Nat → ClassId} {n : Nat} {r : Int32 × (St × (St))} (C : nd_C p l s m args c A (dC, dI) cX16_open 7 RX16 ow_dm_X16_open (dk_X16 ac)) (K : nd_Ki p l e (headSpec ow_dm_X16_open ({ frames := 3, cells := 0, slots := 0, locals := 70 })).room s m args below meth c Q A (dC, dI) cX16_open .int (St × (St)) (dw_X16 a ac) r) : dj_X16_open_0 p l e s m args below meth c Q A dC dI a ac (df_X16_open_0 n) r := by
  obtain ⟨hlt, hx, hb, hml, hown, hts, hN, hA, hK⟩ := id C
  intro v0 v1 s0 H locs ls h hP hD hS hl
  unfold df_X16_open_0 at h
  refine lv_iload_n hx hb dX16_open_0 rfl (lv_at hl 2 rfl) ?_
  refine lv_if_le (tgt := 59) hx hb dX16_open_1 (by decide) (fun c1 => ?_) (fun c1 => ?_)
  · have h := nd_pos h c1
    exact (db_X16_open_59 C K) (v0) (v1) s0 _ _ _ h hP hD hS (lv_sub hl [0, 1, 2] rfl)
  · have h := nd_neg h c1
    refine lv_iload_n hx hb dX16_open_4 rfl (lv_at hl 2 rfl) ?_
    refine lv_bipush (v := 64) hx hb dX16_open_5 (by decide) ?_
    refine lv_icmp_ge (tgt := 59) hx hb dX16_open_7 (by decide) (fun c45 => ?_) (fun c45 => ?_)
    · have h := nd_pos h c45
      exact (db_X16_open_59 C K) (v0) (v1) s0 _ _ _ h hP hD hS (lv_sub hl [0, 1, 2] rfl)
    · have h := nd_neg h c45
      refine lv_iload_n hx hb dX16_open_10 rfl (lv_at hl 2 rfl) ?_
      refine lv_iconst (v := 3) hx hb dX16_open_11 (by decide) ?_
      refine lv_iand hx hb dX16_open_12 ?_
      refine lv_if_le (tgt := 59) hx hb dX16_open_13 (by decide) (fun c46 => ?_) (fun c46 => ?_)
      · have h := nd_pos h c46
        exact (db_X16_open_59 C K) (v0) (v1) s0 _ _ _ h hP hD hS (lv_sub hl [0, 1, 2] rfl)
      · have h := nd_neg h c46
        refine lv_iload_n hx hb dX16_open_16 rfl (lv_at hl 2 rfl) ?_
        refine lv_iconst (v := 4) hx hb dX16_open_17 (by decide) ?_
        refine lv_iand hx hb dX16_open_18 ?_
        refine lv_if_eq (tgt := 28) hx hb dX16_open_19 (by decide) (fun c47 => ?_) (fun c47 => ?_)
        · have h := nd_pos h c47
          exact (db_X16_open_28 C K) (v0) (v1) s0 _ _ _ h hP hD hS (lv_sub hl [0, 1, 2] rfl)
        · have h := nd_neg h c47
          refine lv_iload_n hx hb dX16_open_22 rfl (lv_at hl 2 rfl) ?_
          refine lv_iconst (v := 2) hx hb dX16_open_23 (by decide) ?_
          refine lv_iand hx hb dX16_open_24 ?_
          refine lv_if_le (tgt := 59) hx hb dX16_open_25 (by decide) (fun c52 => ?_) (fun c52 => ?_)
          · have h := nd_pos h c52
            exact (db_X16_open_59 C K) (v0) (v1) s0 _ _ _ h hP hD hS (lv_sub hl [0, 1, 2] rfl)
          · have h := nd_neg h c52
            exact (db_X16_open_28 C K) (v0) (v1) s0 _ _ _ h hP hD hS (lv_sub hl [0, 1, 2] rfl)
set_option maxHeartbeats 40000000 in
set_option maxRecDepth 100000 in
theorem dm_X16_open (l : Launch) (hlt : l.stackTraces = false) (dC : Nat → ClassId) (dI : Nat → Nat → Nat) (a : Nat → Nat) (ac : Nat → ClassId) (n : Nat) (v0 : Int32) (v1 : Int32) (s0 : St × (St)) {r : Int32 × (St × (St))} (h : df_X16_open n v0 v1 s0 = some r) (sz : Nat) : Met l yX16_open ow_dm_X16_open ({ frames := 3, cells := 0, slots := 0, locals := 70 }) (va_Pc [.ref (a 0), .int v0, .int v1] (fun U => U.heap.size = sz ∧ va_P (dC, dI) vwCl (dw_X16 a ac s0) U.heap ∧ va_K (dC, dI) vwCl (dk_X16 ac) U ∧ va_D (fun _ => True) (dw_X16 a ac s0) ∧ nv_E (va_A (dw_X16 a ac s0) sz) U)) (va_Qi (fun x _ => x = r.1) (fun (_ : Unit) t => va_P (dC, dI) vwCl (dw_X16 a ac r.2) t.heap ∧ va_K (dC, dI) vwCl (dk_X16 ac) t ∧ va_D (va_A (dw_X16 a ac s0) sz) (dw_X16 a ac r.2)) (va_A (dw_X16 a ac s0) sz)) 0 0 (va_A (dw_X16 a ac s0) sz) := by
  refine Met.ofW (cc := cX16_open) (maxL := 7) (ret := (some .int)) (by decide) rfl ?_
  intro p e s m args below meth c s₁ B hml hv
  obtain ⟨rfl, hsz, hP, hK, hD0, hN⟩ := hv
  have hx := B.exec
  have hb := B.bytes
  have hr := B.returns
  have hts := atoms_spec (ws := ow_dm_X16_open) B.pre
  have hown : s.vm.findClass RX16 = some m.cls := findClass_of_methodNamed B.named
  have hlocks := B.notSynchronized
  subst hsz
  have hD := hD0.self (sz := s.heap.size)
  generalize hAe : va_A (dw_X16 a ac s0) s.heap.size = A at hD hN ⊢
  have hA : ∀ q : Nat, s.heap.size ≤ q → A q := fun q h => by rw [← hAe]; exact Or.inr h
  have hl := lv_entry ([.ref (a 0), .int v0, .int v1]) (n := 7) (Nat.le_of_ble_eq_true rfl)
  rw [lg_entry_eq]
  generalize (lg_sl ([.ref (a 0), .int v0, .int v1]) ++ List.replicate (7 - (lg_sl ([.ref (a 0), .int v0, .int v1])).length) Slot.unset).toArray = ls at hl ⊢
  have hl : lv_has ls 7 [(0, .ref (a 0)), (1, .int v0), (2, .int v1)] := hl
  exact db_X16_open_0 (dC := dC) (dI := dI) (a := a) (ac := ac) (n := n) (r := r) ⟨hlt, hx, hb, hml, hown, hts, hN, hA, hK⟩ (fun pc v τ H locs ls d z er hP hD hS => by subst er; exact W.zret (v := v) hx hb hr z (fun t ht hW => ⟨⟨v, (), rfl, rfl, by rw [ht]; exact hP, va_K.moved hW.alike hK, hD⟩, hS.F ht⟩) hS.2.2 d) v0 v1 s0 _ _ _ h hP hD va_S.rf (lv_sub hl [0, 1, 2] rfl)
def ow_dm_X16_unlink : List Cond := .code yX16_unlink cX16_unlink 4 (some .int) :: ([.methodLink RX16 505 yX16_nameAt, .instanceMethod yX16_nameAt, .selects RX16 yX16_nameAt yX16_nameAt, .initialized RX16, .methodLink RX16 508 yX16_named, .instanceMethod yX16_named, .selects RX16 yX16_named yX16_named, .fieldLink RX16 91 "TimeMachineModel$Machine" "isNamed" "[Z", .methodLink RX16 252 yX16_sweep, .instanceMethod yX16_sweep, .selects RX16 yX16_sweep yX16_sweep] ++ (u_ws RX16 TX16 56 ++ (ow_dm_X16_nameAt ++ (ow_dm_X16_named ++ (ow_dm_X16_sweep ++ [])))))
theorem gd_dm_X16_unlink : ∀ w ∈ ow_dm_X16_unlink, (w.onTables && w.keeps) = true ∨ ∃ ty, w = Cond.arrayClass ty := List.forall_mem_cons.mpr ⟨good_of_word rfl, List.forall_mem_append.mpr ⟨fun w h => good_of_word (List.all_eq_true.mp (by decide +kernel) w h), List.forall_mem_append.mpr ⟨gu_X16, List.forall_mem_append.mpr ⟨gd_dm_X16_nameAt, List.forall_mem_append.mpr ⟨gd_dm_X16_named, List.forall_mem_append.mpr ⟨gd_dm_X16_sweep, fun _ h => nomatch h⟩⟩⟩⟩⟩⟩
theorem hi_dm_X16_unlink_X16 : ∀ w ∈ u_ws RX16 TX16 56, w ∈ ow_dm_X16_unlink := fun w h => List.mem_cons_of_mem _ (List.mem_append_right _ (List.mem_append_left _ h))
theorem gi_dm_X16_unlink_0 : GoodIn ow_dm_X16_unlink (wsV RX16 505 RX16 yX16_nameAt ow_dm_X16_nameAt) := goodIn_app (goodIn_of _ (by decide +kernel)) (fun w h => ⟨List.mem_cons_of_mem _ (List.mem_append_right _ (List.mem_append_right _ (List.mem_append_left _ h))), gd_dm_X16_nameAt w h⟩)
theorem gi_dm_X16_unlink_1 : GoodIn ow_dm_X16_unlink (wsV RX16 508 RX16 yX16_named ow_dm_X16_named) := goodIn_app (goodIn_of _ (by decide +kernel)) (fun w h => ⟨List.mem_cons_of_mem _ (List.mem_append_right _ (List.mem_append_right _ (List.mem_append_right _ (List.mem_append_left _ h)))), gd_dm_X16_named w h⟩)
theorem gi_dm_X16_unlink_2 : GoodIn ow_dm_X16_unlink (wsV RX16 252 RX16 yX16_sweep ow_dm_X16_sweep) := goodIn_app (goodIn_of _ (by decide +kernel)) (fun w h => ⟨List.mem_cons_of_mem _ (List.mem_append_right _ (List.mem_append_right _ (List.mem_append_right _ (List.mem_append_right _ (List.mem_append_left _ h))))), gd_dm_X16_sweep w h⟩)
def dj_X16_unlink_0 (p : Program) (l : Launch) (e : Env) (s : State) (m : MethodId) (args : Array Value) (below : List Frame) (meth : Method) (c : Code) (Q : State → Prop) (A : Nat → Prop) (dC : Nat → ClassId) (dI : Nat → Nat → Nat) (a : Nat → Nat) (ac : Nat → ClassId) (g : Int32 → (St × (St)) → Option (Int32 × (St × (St)))) (r : Int32 × (St × (St))) : Prop := ∀ (v0 : Int32) (s0 : St × (St)) (H : Heap) (locs : List Loc) (ls : Array Slot), g v0 s0 = some r → va_P (dC, dI) vwCl (dw_X16 a ac s0) H → va_D A (dw_X16 a ac s0) → va_S A s.heap H locs → lv_has ls 4 [(0, .ref (a 0)), (1, .int v0)] → W p l e (headSpec ow_dm_X16_unlink ({ frames := 3, cells := 0, slots := 0, locals := 70 })).room s m args below meth c H locs 0 0 Q (F0 m 0 ls [])
set_option maxHeartbeats 40000000 in
set_option maxRecDepth 100000 in
theorem db_X16_unlink_0 {p : Program} {l : Launch} {e : Env} {s : State} {m : MethodId} {args : Array Value} {below : List Frame} {meth : Method} {c : Code} {Q : State → Prop} {A : Nat → Prop} {dC : Nat → ClassId} {dI : Nat → Nat → Nat} {a : Nat → Nat} {ac : Nat → ClassId} {n : Nat} {r : Int32 × (St × (St))} (C : nd_C p l s m args c A (dC, dI) cX16_unlink 4 RX16 ow_dm_X16_unlink (dk_X16 ac)) (K : nd_Ki p l e (headSpec ow_dm_X16_unlink ({ frames := 3, cells := 0, slots := 0, locals := 70 })).room s m args below meth c Q A (dC, dI) cX16_unlink .int (St × (St)) (dw_X16 a ac) r) : dj_X16_unlink_0 p l e s m args below meth c Q A dC dI a ac (df_X16_unlink_0 n) r := by
  obtain ⟨hlt, hx, hb, hml, hown, hts, hN, hA, hK⟩ := id C
  intro v0 s0 H locs ls h hP hD hS hl
  unfold df_X16_unlink_0 at h
  refine lv_aload_n hx hb dX16_unlink_0 rfl (lv_at hl 0 rfl) ?_
  refine lv_iload_n hx hb dX16_unlink_1 rfl (lv_at hl 1 rfl) ?_
  obtain ⟨q1, s2, hq, h⟩ := nd_b2_e h
  have hPc := hP
  have hDc := hD
  have hKc := hK
  have hFc := nd_rs hD hS hA
  refine nd_cVi (As := [.int v0]) (rest := []) (q := q1) (w' := dw_X16 a ac s2) ⟨hx, hb, hml, hown, hts⟩ (fun sz => dm_X16_nameAt l hlt dC dI a ac n (v0) s0 hq sz) (cwV 1 hts gi_dm_X16_unlink_0 rfl rfl rfl (by decide +kernel) ⟨Nat.le_of_ble_eq_true rfl, Nat.le_of_ble_eq_true rfl⟩) hPc hDc hKc hS hA hN (va_recv hKc hPc (ci := 17) (q0 := 0) rfl rfl) rfl hl.1 rfl (Nat.le_of_ble_eq_true rfl) dX16_unlink_2 (fun H locs hP1 hD1 hk1 hS => ?_)
  have hP := hP1
  have hD := hD1.weaken (fun k q _ h => hFc q.1 h)
  refine lv_istore_n (lv' := [(2, .int q1), (0, .ref (a 0)), (1, .int v0)]) hx hb dX16_unlink_5 rfl hl (by decide) rfl (fun ls hl => ?_)
  refine lv_iload_n hx hb dX16_unlink_6 rfl (lv_at hl 0 rfl) ?_
  refine lv_if_ge (tgt := 12) hx hb dX16_unlink_7 (by decide) (fun c4 => ?_) (fun c4 => ?_)
  · have h := nd_pos h c4
    refine lv_aload_n hx hb dX16_unlink_12 rfl (lv_at hl 1 rfl) ?_
    obtain ⟨q5, s6, hq, h⟩ := nd_b2_e h
    have hPc := hP
    have hDc := hD
    have hKc := hK
    have hFc := nd_rs hD hS hA
    refine nd_cVi (As := []) (rest := []) (q := q5) (w' := dw_X16 a ac s6) ⟨hx, hb, hml, hown, hts⟩ (fun sz => dm_X16_named l hlt dC dI a ac n  s2 hq sz) (cwV 0 hts gi_dm_X16_unlink_1 rfl rfl rfl (by decide +kernel) ⟨Nat.le_of_ble_eq_true rfl, Nat.le_of_ble_eq_true rfl⟩) hPc hDc hKc hS hA hN (va_recv hKc hPc (ci := 17) (q0 := 0) rfl rfl) rfl hl.1 rfl (Nat.le_of_ble_eq_true rfl) dX16_unlink_13 (fun H locs hP1 hD1 hk1 hS => ?_)
    have hP := hP1
    have hD := hD1.weaken (fun k q _ h => hFc q.1 h)
    refine lv_istore_n (lv' := [(3, .int q5), (2, .int q1), (0, .ref (a 0)), (1, .int v0)]) hx hb dX16_unlink_16 rfl hl (by decide) rfl (fun ls hl => ?_)
    refine lv_iload_n hx hb dX16_unlink_17 rfl (lv_at hl 0 rfl) ?_
    refine lv_iconst (v := (-1)) hx hb dX16_unlink_18 (by decide) ?_
    refine lv_icmp_ne (tgt := 25) hx hb dX16_unlink_19 (by decide) (fun c8 => ?_) (fun c8 => ?_)
    · have h := nd_neg h c8
      refine lv_aload_n hx hb dX16_unlink_25 rfl (lv_at hl 2 rfl) ?_
      refine va_get (D := (dC, dI)) (ci := 17) (v := .ref (a 27)) (C := RX16) (T := TX16) (N := 56) hx hb hts hi_dm_X16_unlink_X16 hown hK hP 0 rfl rfl 36 (by decide) (hts (.fieldLink RX16 91 "TimeMachineModel$Machine" "isNamed" "[Z") (List.mem_of_getElem? (i := 8) rfl)) (fun _ h9 => h9) rfl dX16_unlink_26 ?_
      refine lv_iload_n hx hb dX16_unlink_29 rfl (lv_at hl 0 rfl) ?_
      refine lv_iconst (v := 0) hx hb dX16_unlink_30 (by decide) ?_
      obtain ⟨i9, h⟩ := nd_ck_e h
      refine va_zast (i := q5) (x := 0) hx hb hK hP hD hS 27 26 rfl rfl i9 dX16_unlink_31 (fun H locs hP hD hS => ?_)
      obtain ⟨s10, es10, h⟩ := nd_let_e h
      have hP : va_P (dC, dI) vwCl (dw_X16 a ac s10) H := by rw [es10]; exact hP
      have hD : va_D A (dw_X16 a ac s10) := by rw [es10]; exact hD
      refine lv_aload_n hx hb dX16_unlink_32 rfl (lv_at hl 2 rfl) ?_
      obtain ⟨s12, hq, h⟩ := nd_b1_e h
      have hPc := hP
      have hDc := hD
      have hKc := hK
      have hFc := nd_rs hD hS hA
      refine nd_cVv (As := []) (rest := []) (w' := dw_X16 a ac s12) ⟨hx, hb, hml, hown, hts⟩ (fun sz => dm_X16_sweep l hlt dC dI a ac n  s10 hq sz) (cwV 0 hts gi_dm_X16_unlink_2 rfl rfl rfl (by decide +kernel) ⟨Nat.le_of_ble_eq_true rfl, Nat.le_of_ble_eq_true rfl⟩) hPc hDc hKc hS hA hN (va_recv hKc hPc (ci := 17) (q0 := 0) rfl rfl) rfl hl.1 rfl (Nat.le_of_ble_eq_true rfl) dX16_unlink_33 (fun H locs hP1 hD1 hk1 hS => ?_)
      have hP := hP1
      have hD := hD1.weaken (fun k q _ h => hFc q.1 h)
      refine lv_iconst (v := 0) hx hb dX16_unlink_36 (by decide) ?_
      exact K _ _ _ _ _ _ dX16_unlink_37 rfl (Option.some.inj h).symm hP hD hS
    · have h := nd_pos h c8
      refine lv_bipush (v := (-2)) hx hb dX16_unlink_22 (by decide) ?_
      exact K _ _ _ _ _ _ dX16_unlink_24 rfl (Option.some.inj h).symm hP hD hS
  · have h := nd_neg h c4
    refine lv_iload_n hx hb dX16_unlink_10 rfl (lv_at hl 0 rfl) ?_
    exact K _ _ _ _ _ _ dX16_unlink_11 rfl (Option.some.inj h).symm hP hD hS
set_option maxHeartbeats 40000000 in
set_option maxRecDepth 100000 in
theorem dm_X16_unlink (l : Launch) (hlt : l.stackTraces = false) (dC : Nat → ClassId) (dI : Nat → Nat → Nat) (a : Nat → Nat) (ac : Nat → ClassId) (n : Nat) (v0 : Int32) (s0 : St × (St)) {r : Int32 × (St × (St))} (h : df_X16_unlink n v0 s0 = some r) (sz : Nat) : Met l yX16_unlink ow_dm_X16_unlink ({ frames := 3, cells := 0, slots := 0, locals := 70 }) (va_Pc [.ref (a 0), .int v0] (fun U => U.heap.size = sz ∧ va_P (dC, dI) vwCl (dw_X16 a ac s0) U.heap ∧ va_K (dC, dI) vwCl (dk_X16 ac) U ∧ va_D (fun _ => True) (dw_X16 a ac s0) ∧ nv_E (va_A (dw_X16 a ac s0) sz) U)) (va_Qi (fun x _ => x = r.1) (fun (_ : Unit) t => va_P (dC, dI) vwCl (dw_X16 a ac r.2) t.heap ∧ va_K (dC, dI) vwCl (dk_X16 ac) t ∧ va_D (va_A (dw_X16 a ac s0) sz) (dw_X16 a ac r.2)) (va_A (dw_X16 a ac s0) sz)) 0 0 (va_A (dw_X16 a ac s0) sz) := by
  refine Met.ofW (cc := cX16_unlink) (maxL := 4) (ret := (some .int)) (by decide) rfl ?_
  intro p e s m args below meth c s₁ B hml hv
  obtain ⟨rfl, hsz, hP, hK, hD0, hN⟩ := hv
  have hx := B.exec
  have hb := B.bytes
  have hr := B.returns
  have hts := atoms_spec (ws := ow_dm_X16_unlink) B.pre
  have hown : s.vm.findClass RX16 = some m.cls := findClass_of_methodNamed B.named
  have hlocks := B.notSynchronized
  subst hsz
  have hD := hD0.self (sz := s.heap.size)
  generalize hAe : va_A (dw_X16 a ac s0) s.heap.size = A at hD hN ⊢
  have hA : ∀ q : Nat, s.heap.size ≤ q → A q := fun q h => by rw [← hAe]; exact Or.inr h
  have hl := lv_entry ([.ref (a 0), .int v0]) (n := 4) (Nat.le_of_ble_eq_true rfl)
  rw [lg_entry_eq]
  generalize (lg_sl ([.ref (a 0), .int v0]) ++ List.replicate (4 - (lg_sl ([.ref (a 0), .int v0])).length) Slot.unset).toArray = ls at hl ⊢
  have hl : lv_has ls 4 [(0, .ref (a 0)), (1, .int v0)] := hl
  exact db_X16_unlink_0 (dC := dC) (dI := dI) (a := a) (ac := ac) (n := n) (r := r) ⟨hlt, hx, hb, hml, hown, hts, hN, hA, hK⟩ (fun pc v τ H locs ls d z er hP hD hS => by subst er; exact W.zret (v := v) hx hb hr z (fun t ht hW => ⟨⟨v, (), rfl, rfl, by rw [ht]; exact hP, va_K.moved hW.alike hK, hD⟩, hS.F ht⟩) hS.2.2 d) v0 s0 _ _ _ h hP hD va_S.rf (lv_sub hl [0, 1] rfl)
def ow_dm_X16_seek : List Cond := .code yX16_seek cX16_seek 7 (some .int) :: ([.fieldLink RX16 232 "TimeMachineModel$Machine" "p" "I", .methodLink RX16 491 yX16_openingOf, .instanceMethod yX16_openingOf, .selects RX16 yX16_openingOf yX16_openingOf, .initialized RX16, .fieldLink RX16 73 "TimeMachineModel$Machine" "kind" "[I", .fieldLink RX16 100 "TimeMachineModel$Machine" "length" "[I", .fieldLink RX16 76 "TimeMachineModel$Machine" "thing" "[I", .constantLong RX16 514 (512), .fieldLink RX16 79 "TimeMachineModel$Machine" "position" "[I"] ++ (u_ws RX16 TX16 56 ++ (ow_dm_X16_openingOf ++ [])))
theorem gd_dm_X16_seek : ∀ w ∈ ow_dm_X16_seek, (w.onTables && w.keeps) = true ∨ ∃ ty, w = Cond.arrayClass ty := List.forall_mem_cons.mpr ⟨good_of_word rfl, List.forall_mem_append.mpr ⟨fun w h => good_of_word (List.all_eq_true.mp (by decide +kernel) w h), List.forall_mem_append.mpr ⟨gu_X16, List.forall_mem_append.mpr ⟨gd_dm_X16_openingOf, fun _ h => nomatch h⟩⟩⟩⟩
theorem hi_dm_X16_seek_X16 : ∀ w ∈ u_ws RX16 TX16 56, w ∈ ow_dm_X16_seek := fun w h => List.mem_cons_of_mem _ (List.mem_append_right _ (List.mem_append_left _ h))
theorem gi_dm_X16_seek_0 : GoodIn ow_dm_X16_seek (wsV RX16 491 RX16 yX16_openingOf ow_dm_X16_openingOf) := goodIn_app (goodIn_of _ (by decide +kernel)) (fun w h => ⟨List.mem_cons_of_mem _ (List.mem_append_right _ (List.mem_append_right _ (List.mem_append_left _ h))), gd_dm_X16_openingOf w h⟩)
def dj_X16_seek_9 (p : Program) (l : Launch) (e : Env) (s : State) (m : MethodId) (args : Array Value) (below : List Frame) (meth : Method) (c : Code) (Q : State → Prop) (A : Nat → Prop) (dC : Nat → ClassId) (dI : Nat → Nat → Nat) (a : Nat → Nat) (ac : Nat → ClassId) (g : (St × (St)) → Option (Int32 × (St × (St)))) (r : Int32 × (St × (St))) : Prop := ∀ (s0 : St × (St)) (H : Heap) (locs : List Loc) (ls : Array Slot), g s0 = some r → va_P (dC, dI) vwCl (dw_X16 a ac s0) H → va_D A (dw_X16 a ac s0) → va_S A s.heap H locs → lv_has ls 7 [] → W p l e (headSpec ow_dm_X16_seek ({ frames := 1, cells := 0, slots := 0, locals := 22 })).room s m args below meth c H locs 0 0 Q (F0 m 9 ls [])
def dj_X16_seek_40 (p : Program) (l : Launch) (e : Env) (s : State) (m : MethodId) (args : Array Value) (below : List Frame) (meth : Method) (c : Code) (Q : State → Prop) (A : Nat → Prop) (dC : Nat → ClassId) (dI : Nat → Nat → Nat) (a : Nat → Nat) (ac : Nat → ClassId) (g : (St × (St)) → Option (Int32 × (St × (St)))) (r : Int32 × (St × (St))) : Prop := ∀ (s0 : St × (St)) (H : Heap) (locs : List Loc) (ls : Array Slot), g s0 = some r → va_P (dC, dI) vwCl (dw_X16 a ac s0) H → va_D A (dw_X16 a ac s0) → va_S A s.heap H locs → lv_has ls 7 [] → W p l e (headSpec ow_dm_X16_seek ({ frames := 1, cells := 0, slots := 0, locals := 22 })).room s m args below meth c H locs 0 0 Q (F0 m 40 ls [])
def dj_X16_seek_100 (p : Program) (l : Launch) (e : Env) (s : State) (m : MethodId) (args : Array Value) (below : List Frame) (meth : Method) (c : Code) (Q : State → Prop) (A : Nat → Prop) (dC : Nat → ClassId) (dI : Nat → Nat → Nat) (a : Nat → Nat) (ac : Nat → ClassId) (g : (St × (St)) → Option (Int32 × (St × (St)))) (r : Int32 × (St × (St))) : Prop := ∀ (s0 : St × (St)) (H : Heap) (locs : List Loc) (ls : Array Slot), g s0 = some r → va_P (dC, dI) vwCl (dw_X16 a ac s0) H → va_D A (dw_X16 a ac s0) → va_S A s.heap H locs → lv_has ls 7 [] → W p l e (headSpec ow_dm_X16_seek ({ frames := 1, cells := 0, slots := 0, locals := 22 })).room s m args below meth c H locs 0 0 Q (F0 m 100 ls [])
def dj_X16_seek_79 (p : Program) (l : Launch) (e : Env) (s : State) (m : MethodId) (args : Array Value) (below : List Frame) (meth : Method) (c : Code) (Q : State → Prop) (A : Nat → Prop) (dC : Nat → ClassId) (dI : Nat → Nat → Nat) (a : Nat → Nat) (ac : Nat → ClassId) (g : Int32 → Int32 → Int64 → (St × (St)) → Option (Int32 × (St × (St)))) (r : Int32 × (St × (St))) : Prop := ∀ (x2 : Int32) (x4 : Int32) (y0 : Int64) (s0 : St × (St)) (H : Heap) (locs : List Loc) (ls : Array Slot), g x2 x4 y0 s0 = some r → va_P (dC, dI) vwCl (dw_X16 a ac s0) H → va_D A (dw_X16 a ac s0) → va_S A s.heap H locs → lv_has ls 7 [(0, .ref (a 0)), (2, .int x2), (4, .int x4)] → W p l e (headSpec ow_dm_X16_seek ({ frames := 1, cells := 0, slots := 0, locals := 22 })).room s m args below meth c H locs 0 0 Q (F0 m 79 ls [.long y0])
def dj_X16_seek_0 (p : Program) (l : Launch) (e : Env) (s : State) (m : MethodId) (args : Array Value) (below : List Frame) (meth : Method) (c : Code) (Q : State → Prop) (A : Nat → Prop) (dC : Nat → ClassId) (dI : Nat → Nat → Nat) (a : Nat → Nat) (ac : Nat → ClassId) (g : Int32 → Int32 → Int32 → (St × (St)) → Option (Int32 × (St × (St)))) (r : Int32 × (St × (St))) : Prop := ∀ (v0 : Int32) (v1 : Int32) (v2 : Int32) (s0 : St × (St)) (H : Heap) (locs : List Loc) (ls : Array Slot), g v0 v1 v2 s0 = some r → va_P (dC, dI) vwCl (dw_X16 a ac s0) H → va_D A (dw_X16 a ac s0) → va_S A s.heap H locs → lv_has ls 7 [(0, .ref (a 0)), (1, .int v0), (2, .int v1), (3, .int v2)] → W p l e (headSpec ow_dm_X16_seek ({ frames := 1, cells := 0, slots := 0, locals := 22 })).room s m args below meth c H locs 0 0 Q (F0 m 0 ls [])
set_option maxHeartbeats 40000000 in
set_option maxRecDepth 100000 in
theorem db_X16_seek_9 {p : Program} {l : Launch} {e : Env} {s : State} {m : MethodId} {args : Array Value} {below : List Frame} {meth : Method} {c : Code} {Q : State → Prop} {A : Nat → Prop} {dC : Nat → ClassId} {dI : Nat → Nat → Nat} {a : Nat → Nat} {ac : Nat → ClassId} {n : Nat} {r : Int32 × (St × (St))} (C : nd_C p l s m args c A (dC, dI) cX16_seek 7 RX16 ow_dm_X16_seek (dk_X16 ac)) (K : nd_Ki p l e (headSpec ow_dm_X16_seek ({ frames := 1, cells := 0, slots := 0, locals := 22 })).room s m args below meth c Q A (dC, dI) cX16_seek .int (St × (St)) (dw_X16 a ac) r) : dj_X16_seek_9 p l e s m args below meth c Q A dC dI a ac (df_X16_seek_9 n) r := by
  obtain ⟨hlt, hx, hb, hml, hown, hts, hN, hA, hK⟩ := id C
  intro s0 H locs ls h hP hD hS hl
  unfold df_X16_seek_9 at h
  refine lv_bipush (v := (-22)) hx hb dX16_seek_9 (by decide) ?_
  exact K _ _ _ _ _ _ dX16_seek_11 rfl (Option.some.inj h).symm hP hD hS
set_option maxHeartbeats 40000000 in
set_option maxRecDepth 100000 in
theorem db_X16_seek_40 {p : Program} {l : Launch} {e : Env} {s : State} {m : MethodId} {args : Array Value} {below : List Frame} {meth : Method} {c : Code} {Q : State → Prop} {A : Nat → Prop} {dC : Nat → ClassId} {dI : Nat → Nat → Nat} {a : Nat → Nat} {ac : Nat → ClassId} {n : Nat} {r : Int32 × (St × (St))} (C : nd_C p l s m args c A (dC, dI) cX16_seek 7 RX16 ow_dm_X16_seek (dk_X16 ac)) (K : nd_Ki p l e (headSpec ow_dm_X16_seek ({ frames := 1, cells := 0, slots := 0, locals := 22 })).room s m args below meth c Q A (dC, dI) cX16_seek .int (St × (St)) (dw_X16 a ac) r) : dj_X16_seek_40 p l e s m args below meth c Q A dC dI a ac (df_X16_seek_40 n) r := by
  obtain ⟨hlt, hx, hb, hml, hown, hts, hN, hA, hK⟩ := id C
  intro s0 H locs ls h hP hD hS hl
  unfold df_X16_seek_40 at h
  refine lv_iconst (v := (-1)) hx hb dX16_seek_40 (by decide) ?_
  exact K _ _ _ _ _ _ dX16_seek_41 rfl (Option.some.inj h).symm hP hD hS
set_option maxHeartbeats 40000000 in
set_option maxRecDepth 100000 in
theorem db_X16_seek_100 {p : Program} {l : Launch} {e : Env} {s : State} {m : MethodId} {args : Array Value} {below : List Frame} {meth : Method} {c : Code} {Q : State → Prop} {A : Nat → Prop} {dC : Nat → ClassId} {dI : Nat → Nat → Nat} {a : Nat → Nat} {ac : Nat → ClassId} {n : Nat} {r : Int32 × (St × (St))} (C : nd_C p l s m args c A (dC, dI) cX16_seek 7 RX16 ow_dm_X16_seek (dk_X16 ac)) (K : nd_Ki p l e (headSpec ow_dm_X16_seek ({ frames := 1, cells := 0, slots := 0, locals := 22 })).room s m args below meth c Q A (dC, dI) cX16_seek .int (St × (St)) (dw_X16 a ac) r) : dj_X16_seek_100 p l e s m args below meth c Q A dC dI a ac (df_X16_seek_100 n) r := by
  obtain ⟨hlt, hx, hb, hml, hown, hts, hN, hA, hK⟩ := id C
  intro s0 H locs ls h hP hD hS hl
  unfold df_X16_seek_100 at h
  refine lv_iconst (v := (-1)) hx hb dX16_seek_100 (by decide) ?_
  exact K _ _ _ _ _ _ dX16_seek_101 rfl (Option.some.inj h).symm hP hD hS
set_option maxHeartbeats 40000000 in
set_option maxRecDepth 100000 in
theorem db_X16_seek_79 {p : Program} {l : Launch} {e : Env} {s : State} {m : MethodId} {args : Array Value} {below : List Frame} {meth : Method} {c : Code} {Q : State → Prop} {A : Nat → Prop} {dC : Nat → ClassId} {dI : Nat → Nat → Nat} {a : Nat → Nat} {ac : Nat → ClassId} {n : Nat} {r : Int32 × (St × (St))} (C : nd_C p l s m args c A (dC, dI) cX16_seek 7 RX16 ow_dm_X16_seek (dk_X16 ac)) (K : nd_Ki p l e (headSpec ow_dm_X16_seek ({ frames := 1, cells := 0, slots := 0, locals := 22 })).room s m args below meth c Q A (dC, dI) cX16_seek .int (St × (St)) (dw_X16 a ac) r) : dj_X16_seek_79 p l e s m args below meth c Q A dC dI a ac (df_X16_seek_79 n) r := by
  obtain ⟨hlt, hx, hb, hml, hown, hts, hN, hA, hK⟩ := id C
  intro x2 x4 y0 s0 H locs ls h hP hD hS hl
  unfold df_X16_seek_79 at h
  refine lv_iload_n hx hb dX16_seek_79 rfl (lv_at hl 1 rfl) ?_
  refine lv_i2l hx hb dX16_seek_80 rfl ?_
  refine lv_ladd hx hb dX16_seek_81 ?_
  refine lv_topl (fun z13 ez13 => ?_)
  have h := nd_at h ez13
  refine lv_lstore (lv' := [(5, .long z13), (0, .ref (a 0)), (2, .int x2), (4, .int x4)]) hx hb dX16_seek_82 hl (by decide) rfl (fun ls hl => ?_)
  refine lv_lload hx hb dX16_seek_84 (lv_at hl 0 rfl) ?_
  refine lv_lconst (v := 0) hx hb dX16_seek_86 (by decide) ?_
  refine W.lcmp hx hb dX16_seek_87 ?_
  refine lv_if_lt (tgt := 100) hx hb dX16_seek_88 (by decide) (fun c14 => ?_) (fun c14 => ?_)
  · have h := nd_pos h c14
    exact (db_X16_seek_100 C K)  s0 _ _ _ h hP hD hS (lv_sub hl [] rfl)
  · have h := nd_neg h c14
    refine lv_lload hx hb dX16_seek_91 (lv_at hl 0 rfl) ?_
    refine lv_ldc2 hx hb hown (hts (.constantLong RX16 514 (512)) (List.mem_of_getElem? (i := 9) rfl)) dX16_seek_93 ?_
    refine W.lcmp hx hb dX16_seek_96 ?_
    refine lv_if_le (tgt := 102) hx hb dX16_seek_97 (by decide) (fun c15 => ?_) (fun c15 => ?_)
    · have h := nd_pos h c15
      refine lv_aload_n hx hb dX16_seek_102 rfl (lv_at hl 1 rfl) ?_
      refine va_get (D := (dC, dI)) (ci := 17) (v := .ref (a 23)) (C := RX16) (T := TX16) (N := 56) hx hb hts hi_dm_X16_seek_X16 hown hK hP 0 rfl rfl 32 (by decide) (hts (.fieldLink RX16 79 "TimeMachineModel$Machine" "position" "[I") (List.mem_of_getElem? (i := 10) rfl)) (fun _ h9 => h9) rfl dX16_seek_103 ?_
      refine lv_iload hx hb dX16_seek_106 (lv_at hl 3 rfl) ?_
      refine lv_lload hx hb dX16_seek_108 (lv_at hl 0 rfl) ?_
      refine lv_l2i hx hb dX16_seek_110 rfl ?_
      obtain ⟨i16, h⟩ := nd_ck_e h
      refine va_iast (i := x4) (x := (z13.toInt32)) hx hb hK hP hD hS 23 22 rfl rfl i16 dX16_seek_111 (fun H locs hP hD hS => ?_)
      obtain ⟨s17, es17, h⟩ := nd_let_e h
      have hP : va_P (dC, dI) vwCl (dw_X16 a ac s17) H := by rw [es17]; exact hP
      have hD : va_D A (dw_X16 a ac s17) := by rw [es17]; exact hD
      refine lv_aload_n hx hb dX16_seek_112 rfl (lv_at hl 1 rfl) ?_
      refine va_get (D := (dC, dI)) (ci := 17) (v := .ref (a 23)) (C := RX16) (T := TX16) (N := 56) hx hb hts hi_dm_X16_seek_X16 hown hK hP 0 rfl rfl 32 (by decide) (hts (.fieldLink RX16 79 "TimeMachineModel$Machine" "position" "[I") (List.mem_of_getElem? (i := 10) rfl)) (fun _ h9 => h9) rfl dX16_seek_113 ?_
      refine lv_iload hx hb dX16_seek_116 (lv_at hl 3 rfl) ?_
      obtain ⟨i18, h⟩ := nd_ck_e h
      refine va_iald (i := x4) hx hb hK hP 23 22 rfl rfl i18 dX16_seek_118 ?_
      exact K _ _ _ _ _ _ dX16_seek_119 rfl (Option.some.inj h).symm hP hD hS
    · have h := nd_neg h c15
      exact (db_X16_seek_100 C K)  s0 _ _ _ h hP hD hS (lv_sub hl [] rfl)
set_option maxHeartbeats 40000000 in
set_option maxRecDepth 100000 in
theorem db_X16_seek_0 {p : Program} {l : Launch} {e : Env} {s : State} {m : MethodId} {args : Array Value} {below : List Frame} {meth : Method} {c : Code} {Q : State → Prop} {A : Nat → Prop} {dC : Nat → ClassId} {dI : Nat → Nat → Nat} {a : Nat → Nat} {ac : Nat → ClassId} {n : Nat} {r : Int32 × (St × (St))} (C : nd_C p l s m args c A (dC, dI) cX16_seek 7 RX16 ow_dm_X16_seek (dk_X16 ac)) (K : nd_Ki p l e (headSpec ow_dm_X16_seek ({ frames := 1, cells := 0, slots := 0, locals := 22 })).room s m args below meth c Q A (dC, dI) cX16_seek .int (St × (St)) (dw_X16 a ac) r) : dj_X16_seek_0 p l e s m args below meth c Q A dC dI a ac (df_X16_seek_0 n) r := by
  obtain ⟨hlt, hx, hb, hml, hown, hts, hN, hA, hK⟩ := id C
  intro v0 v1 v2 s0 H locs ls h hP hD hS hl
  unfold df_X16_seek_0 at h
  refine lv_iload_n hx hb dX16_seek_0 rfl (lv_at hl 3 rfl) ?_
  refine lv_if_lt (tgt := 9) hx hb dX16_seek_1 (by decide) (fun c1 => ?_) (fun c1 => ?_)
  · have h := nd_pos h c1
    exact (db_X16_seek_9 C K)  s0 _ _ _ h hP hD hS (lv_sub hl [] rfl)
  · have h := nd_neg h c1
    refine lv_iload_n hx hb dX16_seek_4 rfl (lv_at hl 3 rfl) ?_
    refine lv_iconst (v := 2) hx hb dX16_seek_5 (by decide) ?_
    refine lv_icmp_le (tgt := 12) hx hb dX16_seek_6 (by decide) (fun c2 => ?_) (fun c2 => ?_)
    · have h := nd_pos h c2
      refine lv_aload_n hx hb dX16_seek_12 rfl (lv_at hl 0 rfl) ?_
      refine lv_aload_n hx hb dX16_seek_13 rfl (lv_at hl 0 rfl) ?_
      refine va_get (D := (dC, dI)) (ci := 17) (v := .int (sI s0.1 12)) (C := RX16) (T := TX16) (N := 56) hx hb hts hi_dm_X16_seek_X16 hown hK hP 0 rfl rfl 51 (by decide) (hts (.fieldLink RX16 232 "TimeMachineModel$Machine" "p" "I") (List.mem_of_getElem? (i := 1) rfl)) (fun _ h9 => h9) rfl dX16_seek_14 ?_
      refine lv_iload_n hx hb dX16_seek_17 rfl (lv_at hl 1 rfl) ?_
      obtain ⟨q3, s4, hq, h⟩ := nd_b2_e h
      have hPc := hP
      have hDc := hD
      have hKc := hK
      have hFc := nd_rs hD hS hA
      refine nd_cVi (As := [.int (sI s0.1 12), .int v0]) (rest := []) (q := q3) (w' := dw_X16 a ac s4) ⟨hx, hb, hml, hown, hts⟩ (fun sz => dm_X16_openingOf l hlt dC dI a ac n ((sI s0.1 12)) (v0) s0 hq sz) (cwV 2 hts gi_dm_X16_seek_0 rfl rfl rfl (by decide +kernel) ⟨Nat.le_of_ble_eq_true rfl, Nat.le_of_ble_eq_true rfl⟩) hPc hDc hKc hS hA hN (va_recv hKc hPc (ci := 17) (q0 := 0) rfl rfl) rfl hl.1 rfl (Nat.le_of_ble_eq_true rfl) dX16_seek_18 (fun H locs hP1 hD1 hk1 hS => ?_)
      have hP := hP1
      have hD := hD1.weaken (fun k q _ h => hFc q.1 h)
      refine lv_istore (lv' := [(4, .int q3), (0, .ref (a 0)), (1, .int v0), (2, .int v1), (3, .int v2)]) hx hb dX16_seek_21 hl (by decide) rfl (fun ls hl => ?_)
      refine lv_iload hx hb dX16_seek_23 (lv_at hl 0 rfl) ?_
      refine lv_iconst (v := (-1)) hx hb dX16_seek_25 (by decide) ?_
      refine lv_icmp_eq (tgt := 40) hx hb dX16_seek_26 (by decide) (fun c6 => ?_) (fun c6 => ?_)
      · have h := nd_pos h c6
        exact (db_X16_seek_40 C K)  s4 _ _ _ h hP hD hS (lv_sub hl [] rfl)
      · have h := nd_neg h c6
        refine lv_aload_n hx hb dX16_seek_29 rfl (lv_at hl 1 rfl) ?_
        refine va_get (D := (dC, dI)) (ci := 17) (v := .ref (a 21)) (C := RX16) (T := TX16) (N := 56) hx hb hts hi_dm_X16_seek_X16 hown hK hP 0 rfl rfl 30 (by decide) (hts (.fieldLink RX16 73 "TimeMachineModel$Machine" "kind" "[I") (List.mem_of_getElem? (i := 6) rfl)) (fun _ h9 => h9) rfl dX16_seek_30 ?_
        refine lv_iload hx hb dX16_seek_33 (lv_at hl 0 rfl) ?_
        obtain ⟨i7, h⟩ := nd_ck_e h
        refine va_iald (i := q3) hx hb hK hP 21 20 rfl rfl i7 dX16_seek_35 ?_
        refine lv_iconst (v := 3) hx hb dX16_seek_36 (by decide) ?_
        refine lv_icmp_eq (tgt := 42) hx hb dX16_seek_37 (by decide) (fun c8 => ?_) (fun c8 => ?_)
        · have h := nd_pos h c8
          refine lv_iload_n hx hb dX16_seek_42 rfl (lv_at hl 4 rfl) ?_
          refine lv_if_ne (tgt := 50) hx hb dX16_seek_43 (by decide) (fun c9 => ?_) (fun c9 => ?_)
          · have h := nd_neg h c9
            refine lv_iload_n hx hb dX16_seek_50 rfl (lv_at hl 4 rfl) ?_
            refine lv_iconst (v := 1) hx hb dX16_seek_51 (by decide) ?_
            refine lv_icmp_ne (tgt := 66) hx hb dX16_seek_52 (by decide) (fun c10 => ?_) (fun c10 => ?_)
            · have h := nd_neg h c10
              refine lv_aload_n hx hb dX16_seek_66 rfl (lv_at hl 1 rfl) ?_
              refine va_get (D := (dC, dI)) (ci := 17) (v := .ref (a 30)) (C := RX16) (T := TX16) (N := 56) hx hb hts hi_dm_X16_seek_X16 hown hK hP 0 rfl rfl 39 (by decide) (hts (.fieldLink RX16 100 "TimeMachineModel$Machine" "length" "[I") (List.mem_of_getElem? (i := 7) rfl)) (fun _ h9 => h9) rfl dX16_seek_67 ?_
              refine lv_aload_n hx hb dX16_seek_70 rfl (lv_at hl 1 rfl) ?_
              refine va_get (D := (dC, dI)) (ci := 17) (v := .ref (a 22)) (C := RX16) (T := TX16) (N := 56) hx hb hts hi_dm_X16_seek_X16 hown hK hP 0 rfl rfl 31 (by decide) (hts (.fieldLink RX16 76 "TimeMachineModel$Machine" "thing" "[I") (List.mem_of_getElem? (i := 8) rfl)) (fun _ h9 => h9) rfl dX16_seek_71 ?_
              refine lv_iload hx hb dX16_seek_74 (lv_at hl 0 rfl) ?_
              obtain ⟨i11, h⟩ := nd_ck_e h
              refine va_iald (i := q3) hx hb hK hP 22 21 rfl rfl i11 dX16_seek_76 ?_
              obtain ⟨i12, h⟩ := nd_ck_e h
              refine va_iald (i := (sR s4.1 20 (Int32.toNatClampNeg q3))) hx hb hK hP 30 29 rfl rfl i12 dX16_seek_77 ?_
              refine lv_i2l hx hb dX16_seek_78 rfl ?_
              exact (db_X16_seek_79 C K) (v1) (q3) ((((sR s4.1 28 (Int32.toNatClampNeg (sR s4.1 20 (Int32.toNatClampNeg q3)))) : Int32).toInt64)) s4 _ _ _ h hP hD hS (lv_sub hl [1, 3, 0] rfl)
            · have h := nd_pos h c10
              refine lv_aload_n hx hb dX16_seek_55 rfl (lv_at hl 1 rfl) ?_
              refine va_get (D := (dC, dI)) (ci := 17) (v := .ref (a 23)) (C := RX16) (T := TX16) (N := 56) hx hb hts hi_dm_X16_seek_X16 hown hK hP 0 rfl rfl 32 (by decide) (hts (.fieldLink RX16 79 "TimeMachineModel$Machine" "position" "[I") (List.mem_of_getElem? (i := 10) rfl)) (fun _ h9 => h9) rfl dX16_seek_56 ?_
              refine lv_iload hx hb dX16_seek_59 (lv_at hl 0 rfl) ?_
              obtain ⟨i19, h⟩ := nd_ck_e h
              refine va_iald (i := q3) hx hb hK hP 23 22 rfl rfl i19 dX16_seek_61 ?_
              refine lv_i2l hx hb dX16_seek_62 rfl ?_
              refine lv_goto (tgt := 79) hx hb dX16_seek_63 (by decide) ?_
              exact (db_X16_seek_79 C K) (v1) (q3) ((((sR s4.1 21 (Int32.toNatClampNeg q3)) : Int32).toInt64)) s4 _ _ _ h hP hD hS (lv_sub hl [1, 3, 0] rfl)
          · have h := nd_pos h c9
            refine lv_lconst (v := 0) hx hb dX16_seek_46 (by decide) ?_
            refine lv_goto (tgt := 79) hx hb dX16_seek_47 (by decide) ?_
            exact (db_X16_seek_79 C K) (v1) (q3) (0) s4 _ _ _ h hP hD hS (lv_sub hl [1, 3, 0] rfl)
        · have h := nd_neg h c8
          exact (db_X16_seek_40 C K)  s4 _ _ _ h hP hD hS (lv_sub hl [] rfl)
    · have h := nd_neg h c2
      exact (db_X16_seek_9 C K)  s0 _ _ _ h hP hD hS (lv_sub hl [] rfl)
set_option maxHeartbeats 40000000 in
set_option maxRecDepth 100000 in
theorem dm_X16_seek (l : Launch) (hlt : l.stackTraces = false) (dC : Nat → ClassId) (dI : Nat → Nat → Nat) (a : Nat → Nat) (ac : Nat → ClassId) (n : Nat) (v0 : Int32) (v1 : Int32) (v2 : Int32) (s0 : St × (St)) {r : Int32 × (St × (St))} (h : df_X16_seek n v0 v1 v2 s0 = some r) (sz : Nat) : Met l yX16_seek ow_dm_X16_seek ({ frames := 1, cells := 0, slots := 0, locals := 22 }) (va_Pc [.ref (a 0), .int v0, .int v1, .int v2] (fun U => U.heap.size = sz ∧ va_P (dC, dI) vwCl (dw_X16 a ac s0) U.heap ∧ va_K (dC, dI) vwCl (dk_X16 ac) U ∧ va_D (fun _ => True) (dw_X16 a ac s0) ∧ nv_E (va_A (dw_X16 a ac s0) sz) U)) (va_Qi (fun x _ => x = r.1) (fun (_ : Unit) t => va_P (dC, dI) vwCl (dw_X16 a ac r.2) t.heap ∧ va_K (dC, dI) vwCl (dk_X16 ac) t ∧ va_D (va_A (dw_X16 a ac s0) sz) (dw_X16 a ac r.2)) (va_A (dw_X16 a ac s0) sz)) 0 0 (va_A (dw_X16 a ac s0) sz) := by
  refine Met.ofW (cc := cX16_seek) (maxL := 7) (ret := (some .int)) (by decide) rfl ?_
  intro p e s m args below meth c s₁ B hml hv
  obtain ⟨rfl, hsz, hP, hK, hD0, hN⟩ := hv
  have hx := B.exec
  have hb := B.bytes
  have hr := B.returns
  have hts := atoms_spec (ws := ow_dm_X16_seek) B.pre
  have hown : s.vm.findClass RX16 = some m.cls := findClass_of_methodNamed B.named
  have hlocks := B.notSynchronized
  subst hsz
  have hD := hD0.self (sz := s.heap.size)
  generalize hAe : va_A (dw_X16 a ac s0) s.heap.size = A at hD hN ⊢
  have hA : ∀ q : Nat, s.heap.size ≤ q → A q := fun q h => by rw [← hAe]; exact Or.inr h
  have hl := lv_entry ([.ref (a 0), .int v0, .int v1, .int v2]) (n := 7) (Nat.le_of_ble_eq_true rfl)
  rw [lg_entry_eq]
  generalize (lg_sl ([.ref (a 0), .int v0, .int v1, .int v2]) ++ List.replicate (7 - (lg_sl ([.ref (a 0), .int v0, .int v1, .int v2])).length) Slot.unset).toArray = ls at hl ⊢
  have hl : lv_has ls 7 [(0, .ref (a 0)), (1, .int v0), (2, .int v1), (3, .int v2)] := hl
  exact db_X16_seek_0 (dC := dC) (dI := dI) (a := a) (ac := ac) (n := n) (r := r) ⟨hlt, hx, hb, hml, hown, hts, hN, hA, hK⟩ (fun pc v τ H locs ls d z er hP hD hS => by subst er; exact W.zret (v := v) hx hb hr z (fun t ht hW => ⟨⟨v, (), rfl, rfl, by rw [ht]; exact hP, va_K.moved hW.alike hK, hD⟩, hS.F ht⟩) hS.2.2 d) v0 v1 v2 s0 _ _ _ h hP hD va_S.rf (lv_sub hl [0, 1, 2, 3] rfl)
def ow_dm_X16_rename : List Cond := .code yX16_rename cX16_rename 6 (some .int) :: ([.methodLink RX16 505 yX16_nameAt, .instanceMethod yX16_nameAt, .selects RX16 yX16_nameAt yX16_nameAt, .initialized RX16, .methodLink RX16 508 yX16_named, .instanceMethod yX16_named, .selects RX16 yX16_named yX16_named, .methodLink RX16 511 yX16_entitle, .instanceMethod yX16_entitle, .selects RX16 yX16_entitle yX16_entitle, .methodLink RX16 252 yX16_sweep, .instanceMethod yX16_sweep, .selects RX16 yX16_sweep yX16_sweep, .fieldLink RX16 91 "TimeMachineModel$Machine" "isNamed" "[Z"] ++ (u_ws RX16 TX16 56 ++ (ow_dm_X16_nameAt ++ (ow_dm_X16_named ++ (ow_dm_X16_entitle ++ (ow_dm_X16_sweep ++ []))))))
theorem gd_dm_X16_rename : ∀ w ∈ ow_dm_X16_rename, (w.onTables && w.keeps) = true ∨ ∃ ty, w = Cond.arrayClass ty := List.forall_mem_cons.mpr ⟨good_of_word rfl, List.forall_mem_append.mpr ⟨fun w h => good_of_word (List.all_eq_true.mp (by decide +kernel) w h), List.forall_mem_append.mpr ⟨gu_X16, List.forall_mem_append.mpr ⟨gd_dm_X16_nameAt, List.forall_mem_append.mpr ⟨gd_dm_X16_named, List.forall_mem_append.mpr ⟨gd_dm_X16_entitle, List.forall_mem_append.mpr ⟨gd_dm_X16_sweep, fun _ h => nomatch h⟩⟩⟩⟩⟩⟩⟩
theorem hi_dm_X16_rename_X16 : ∀ w ∈ u_ws RX16 TX16 56, w ∈ ow_dm_X16_rename := fun w h => List.mem_cons_of_mem _ (List.mem_append_right _ (List.mem_append_left _ h))
theorem gi_dm_X16_rename_0 : GoodIn ow_dm_X16_rename (wsV RX16 505 RX16 yX16_nameAt ow_dm_X16_nameAt) := goodIn_app (goodIn_of _ (by decide +kernel)) (fun w h => ⟨List.mem_cons_of_mem _ (List.mem_append_right _ (List.mem_append_right _ (List.mem_append_left _ h))), gd_dm_X16_nameAt w h⟩)
theorem gi_dm_X16_rename_1 : GoodIn ow_dm_X16_rename (wsV RX16 508 RX16 yX16_named ow_dm_X16_named) := goodIn_app (goodIn_of _ (by decide +kernel)) (fun w h => ⟨List.mem_cons_of_mem _ (List.mem_append_right _ (List.mem_append_right _ (List.mem_append_right _ (List.mem_append_left _ h)))), gd_dm_X16_named w h⟩)
theorem gi_dm_X16_rename_2 : GoodIn ow_dm_X16_rename (wsV RX16 511 RX16 yX16_entitle ow_dm_X16_entitle) := goodIn_app (goodIn_of _ (by decide +kernel)) (fun w h => ⟨List.mem_cons_of_mem _ (List.mem_append_right _ (List.mem_append_right _ (List.mem_append_right _ (List.mem_append_right _ (List.mem_append_left _ h))))), gd_dm_X16_entitle w h⟩)
theorem gi_dm_X16_rename_3 : GoodIn ow_dm_X16_rename (wsV RX16 252 RX16 yX16_sweep ow_dm_X16_sweep) := goodIn_app (goodIn_of _ (by decide +kernel)) (fun w h => ⟨List.mem_cons_of_mem _ (List.mem_append_right _ (List.mem_append_right _ (List.mem_append_right _ (List.mem_append_right _ (List.mem_append_right _ (List.mem_append_left _ h)))))), gd_dm_X16_sweep w h⟩)
def dj_X16_rename_66 (p : Program) (l : Launch) (e : Env) (s : State) (m : MethodId) (args : Array Value) (below : List Frame) (meth : Method) (c : Code) (Q : State → Prop) (A : Nat → Prop) (dC : Nat → ClassId) (dI : Nat → Nat → Nat) (a : Nat → Nat) (ac : Nat → ClassId) (g : Int32 → (St × (St)) → Option (Int32 × (St × (St)))) (r : Int32 × (St × (St))) : Prop := ∀ (x4 : Int32) (s0 : St × (St)) (H : Heap) (locs : List Loc) (ls : Array Slot), g x4 s0 = some r → va_P (dC, dI) vwCl (dw_X16 a ac s0) H → va_D A (dw_X16 a ac s0) → va_S A s.heap H locs → lv_has ls 6 [(0, .ref (a 0)), (4, .int x4)] → W p l e (headSpec ow_dm_X16_rename ({ frames := 3, cells := 0, slots := 0, locals := 70 })).room s m args below meth c H locs 0 0 Q (F0 m 66 ls [])
def dj_X16_rename_0 (p : Program) (l : Launch) (e : Env) (s : State) (m : MethodId) (args : Array Value) (below : List Frame) (meth : Method) (c : Code) (Q : State → Prop) (A : Nat → Prop) (dC : Nat → ClassId) (dI : Nat → Nat → Nat) (a : Nat → Nat) (ac : Nat → ClassId) (g : Int32 → Int32 → (St × (St)) → Option (Int32 × (St × (St)))) (r : Int32 × (St × (St))) : Prop := ∀ (v0 : Int32) (v1 : Int32) (s0 : St × (St)) (H : Heap) (locs : List Loc) (ls : Array Slot), g v0 v1 s0 = some r → va_P (dC, dI) vwCl (dw_X16 a ac s0) H → va_D A (dw_X16 a ac s0) → va_S A s.heap H locs → lv_has ls 6 [(0, .ref (a 0)), (1, .int v0), (2, .int v1)] → W p l e (headSpec ow_dm_X16_rename ({ frames := 3, cells := 0, slots := 0, locals := 70 })).room s m args below meth c H locs 0 0 Q (F0 m 0 ls [])
set_option maxHeartbeats 40000000 in
set_option maxRecDepth 100000 in
theorem db_X16_rename_66 {p : Program} {l : Launch} {e : Env} {s : State} {m : MethodId} {args : Array Value} {below : List Frame} {meth : Method} {c : Code} {Q : State → Prop} {A : Nat → Prop} {dC : Nat → ClassId} {dI : Nat → Nat → Nat} {a : Nat → Nat} {ac : Nat → ClassId} {n : Nat} {r : Int32 × (St × (St))} (C : nd_C p l s m args c A (dC, dI) cX16_rename 6 RX16 ow_dm_X16_rename (dk_X16 ac)) (K : nd_Ki p l e (headSpec ow_dm_X16_rename ({ frames := 3, cells := 0, slots := 0, locals := 70 })).room s m args below meth c Q A (dC, dI) cX16_rename .int (St × (St)) (dw_X16 a ac) r) : dj_X16_rename_66 p l e s m args below meth c Q A dC dI a ac (df_X16_rename_66 n) r := by
  obtain ⟨hlt, hx, hb, hml, hown, hts, hN, hA, hK⟩ := id C
  intro x4 s0 H locs ls h hP hD hS hl
  unfold df_X16_rename_66 at h
  refine lv_aload_n hx hb dX16_rename_66 rfl (lv_at hl 0 rfl) ?_
  refine lv_iload hx hb dX16_rename_67 (lv_at hl 1 rfl) ?_
  obtain ⟨s18, hq, h⟩ := nd_b1_e h
  have hPc := hP
  have hDc := hD
  have hKc := hK
  have hFc := nd_rs hD hS hA
  refine nd_cVv (As := [.int x4]) (rest := []) (w' := dw_X16 a ac s18) ⟨hx, hb, hml, hown, hts⟩ (fun sz => dm_X16_entitle l hlt dC dI a ac n (x4) s0 hq sz) (cwV 1 hts gi_dm_X16_rename_2 rfl rfl rfl (by decide +kernel) ⟨Nat.le_of_ble_eq_true rfl, Nat.le_of_ble_eq_true rfl⟩) hPc hDc hKc hS hA hN (va_recv hKc hPc (ci := 17) (q0 := 0) rfl rfl) rfl hl.1 rfl (Nat.le_of_ble_eq_true rfl) dX16_rename_69 (fun H locs hP1 hD1 hk1 hS => ?_)
  have hP := hP1
  have hD := hD1.weaken (fun k q _ h => hFc q.1 h)
  refine lv_aload_n hx hb dX16_rename_72 rfl (lv_at hl 0 rfl) ?_
  obtain ⟨s21, hq, h⟩ := nd_b1_e h
  have hPc := hP
  have hDc := hD
  have hKc := hK
  have hFc := nd_rs hD hS hA
  refine nd_cVv (As := []) (rest := []) (w' := dw_X16 a ac s21) ⟨hx, hb, hml, hown, hts⟩ (fun sz => dm_X16_sweep l hlt dC dI a ac n  s18 hq sz) (cwV 0 hts gi_dm_X16_rename_3 rfl rfl rfl (by decide +kernel) ⟨Nat.le_of_ble_eq_true rfl, Nat.le_of_ble_eq_true rfl⟩) hPc hDc hKc hS hA hN (va_recv hKc hPc (ci := 17) (q0 := 0) rfl rfl) rfl hl.1 rfl (Nat.le_of_ble_eq_true rfl) dX16_rename_73 (fun H locs hP1 hD1 hk1 hS => ?_)
  have hP := hP1
  have hD := hD1.weaken (fun k q _ h => hFc q.1 h)
  refine lv_iconst (v := 0) hx hb dX16_rename_76 (by decide) ?_
  exact K _ _ _ _ _ _ dX16_rename_77 rfl (Option.some.inj h).symm hP hD hS
set_option maxHeartbeats 40000000 in
set_option maxRecDepth 100000 in
theorem db_X16_rename_0 {p : Program} {l : Launch} {e : Env} {s : State} {m : MethodId} {args : Array Value} {below : List Frame} {meth : Method} {c : Code} {Q : State → Prop} {A : Nat → Prop} {dC : Nat → ClassId} {dI : Nat → Nat → Nat} {a : Nat → Nat} {ac : Nat → ClassId} {n : Nat} {r : Int32 × (St × (St))} (C : nd_C p l s m args c A (dC, dI) cX16_rename 6 RX16 ow_dm_X16_rename (dk_X16 ac)) (K : nd_Ki p l e (headSpec ow_dm_X16_rename ({ frames := 3, cells := 0, slots := 0, locals := 70 })).room s m args below meth c Q A (dC, dI) cX16_rename .int (St × (St)) (dw_X16 a ac) r) : dj_X16_rename_0 p l e s m args below meth c Q A dC dI a ac (df_X16_rename_0 n) r := by
  obtain ⟨hlt, hx, hb, hml, hown, hts, hN, hA, hK⟩ := id C
  intro v0 v1 s0 H locs ls h hP hD hS hl
  unfold df_X16_rename_0 at h
  refine lv_aload_n hx hb dX16_rename_0 rfl (lv_at hl 0 rfl) ?_
  refine lv_iload_n hx hb dX16_rename_1 rfl (lv_at hl 1 rfl) ?_
  obtain ⟨q1, s2, hq, h⟩ := nd_b2_e h
  have hPc := hP
  have hDc := hD
  have hKc := hK
  have hFc := nd_rs hD hS hA
  refine nd_cVi (As := [.int v0]) (rest := []) (q := q1) (w' := dw_X16 a ac s2) ⟨hx, hb, hml, hown, hts⟩ (fun sz => dm_X16_nameAt l hlt dC dI a ac n (v0) s0 hq sz) (cwV 1 hts gi_dm_X16_rename_0 rfl rfl rfl (by decide +kernel) ⟨Nat.le_of_ble_eq_true rfl, Nat.le_of_ble_eq_true rfl⟩) hPc hDc hKc hS hA hN (va_recv hKc hPc (ci := 17) (q0 := 0) rfl rfl) rfl hl.1 rfl (Nat.le_of_ble_eq_true rfl) dX16_rename_2 (fun H locs hP1 hD1 hk1 hS => ?_)
  have hP := hP1
  have hD := hD1.weaken (fun k q _ h => hFc q.1 h)
  refine lv_istore_n (lv' := [(3, .int q1), (0, .ref (a 0)), (1, .int v0), (2, .int v1)]) hx hb dX16_rename_5 rfl hl (by decide) rfl (fun ls hl => ?_)
  refine lv_iload_n hx hb dX16_rename_6 rfl (lv_at hl 0 rfl) ?_
  refine lv_if_ge (tgt := 12) hx hb dX16_rename_7 (by decide) (fun c4 => ?_) (fun c4 => ?_)
  · have h := nd_pos h c4
    refine lv_aload_n hx hb dX16_rename_12 rfl (lv_at hl 1 rfl) ?_
    obtain ⟨q5, s6, hq, h⟩ := nd_b2_e h
    have hPc := hP
    have hDc := hD
    have hKc := hK
    have hFc := nd_rs hD hS hA
    refine nd_cVi (As := []) (rest := []) (q := q5) (w' := dw_X16 a ac s6) ⟨hx, hb, hml, hown, hts⟩ (fun sz => dm_X16_named l hlt dC dI a ac n  s2 hq sz) (cwV 0 hts gi_dm_X16_rename_1 rfl rfl rfl (by decide +kernel) ⟨Nat.le_of_ble_eq_true rfl, Nat.le_of_ble_eq_true rfl⟩) hPc hDc hKc hS hA hN (va_recv hKc hPc (ci := 17) (q0 := 0) rfl rfl) rfl hl.1 rfl (Nat.le_of_ble_eq_true rfl) dX16_rename_13 (fun H locs hP1 hD1 hk1 hS => ?_)
    have hP := hP1
    have hD := hD1.weaken (fun k q _ h => hFc q.1 h)
    refine lv_istore (lv' := [(4, .int q5), (3, .int q1), (0, .ref (a 0)), (1, .int v0), (2, .int v1)]) hx hb dX16_rename_16 hl (by decide) rfl (fun ls hl => ?_)
    refine lv_aload_n hx hb dX16_rename_18 rfl (lv_at hl 2 rfl) ?_
    refine lv_iload_n hx hb dX16_rename_19 rfl (lv_at hl 4 rfl) ?_
    obtain ⟨q8, s9, hq, h⟩ := nd_b2_e h
    have hPc := hP
    have hDc := hD
    have hKc := hK
    have hFc := nd_rs hD hS hA
    refine nd_cVi (As := [.int v1]) (rest := []) (q := q8) (w' := dw_X16 a ac s9) ⟨hx, hb, hml, hown, hts⟩ (fun sz => dm_X16_nameAt l hlt dC dI a ac n (v1) s6 hq sz) (cwV 1 hts gi_dm_X16_rename_0 rfl rfl rfl (by decide +kernel) ⟨Nat.le_of_ble_eq_true rfl, Nat.le_of_ble_eq_true rfl⟩) hPc hDc hKc hS hA hN (va_recv hKc hPc (ci := 17) (q0 := 0) rfl rfl) rfl hl.1 rfl (Nat.le_of_ble_eq_true rfl) dX16_rename_20 (fun H locs hP1 hD1 hk1 hS => ?_)
    have hP := hP1
    have hD := hD1.weaken (fun k q _ h => hFc q.1 h)
    refine lv_istore_n (lv' := [(3, .int q8), (4, .int q5), (0, .ref (a 0)), (1, .int v0), (2, .int v1)]) hx hb dX16_rename_23 rfl hl (by decide) rfl (fun ls hl => ?_)
    refine lv_iload_n hx hb dX16_rename_24 rfl (lv_at hl 0 rfl) ?_
    refine lv_if_ge (tgt := 30) hx hb dX16_rename_25 (by decide) (fun c11 => ?_) (fun c11 => ?_)
    · have h := nd_pos h c11
      refine lv_iload hx hb dX16_rename_30 (lv_at hl 1 rfl) ?_
      refine lv_iconst (v := (-1)) hx hb dX16_rename_32 (by decide) ?_
      refine lv_icmp_ne (tgt := 39) hx hb dX16_rename_33 (by decide) (fun c12 => ?_) (fun c12 => ?_)
      · have h := nd_neg h c12
        refine lv_aload_n hx hb dX16_rename_39 rfl (lv_at hl 2 rfl) ?_
        obtain ⟨q13, s14, hq, h⟩ := nd_b2_e h
        have hPc := hP
        have hDc := hD
        have hKc := hK
        have hFc := nd_rs hD hS hA
        refine nd_cVi (As := []) (rest := []) (q := q13) (w' := dw_X16 a ac s14) ⟨hx, hb, hml, hown, hts⟩ (fun sz => dm_X16_named l hlt dC dI a ac n  s9 hq sz) (cwV 0 hts gi_dm_X16_rename_1 rfl rfl rfl (by decide +kernel) ⟨Nat.le_of_ble_eq_true rfl, Nat.le_of_ble_eq_true rfl⟩) hPc hDc hKc hS hA hN (va_recv hKc hPc (ci := 17) (q0 := 0) rfl rfl) rfl hl.1 rfl (Nat.le_of_ble_eq_true rfl) dX16_rename_40 (fun H locs hP1 hD1 hk1 hS => ?_)
        have hP := hP1
        have hD := hD1.weaken (fun k q _ h => hFc q.1 h)
        refine lv_istore (lv' := [(5, .int q13), (3, .int q8), (4, .int q5), (0, .ref (a 0)), (1, .int v0), (2, .int v1)]) hx hb dX16_rename_43 hl (by decide) rfl (fun ls hl => ?_)
        refine lv_iload hx hb dX16_rename_45 (lv_at hl 0 rfl) ?_
        refine lv_iconst (v := (-1)) hx hb dX16_rename_47 (by decide) ?_
        refine lv_icmp_eq (tgt := 66) hx hb dX16_rename_48 (by decide) (fun c16 => ?_) (fun c16 => ?_)
        · have h := nd_pos h c16
          exact (db_X16_rename_66 C K) (q5) s14 _ _ _ h hP hD hS (lv_sub hl [3, 2] rfl)
        · have h := nd_neg h c16
          refine lv_iload hx hb dX16_rename_51 (lv_at hl 0 rfl) ?_
          refine lv_iload hx hb dX16_rename_53 (lv_at hl 2 rfl) ?_
          refine lv_icmp_eq (tgt := 66) hx hb dX16_rename_55 (by decide) (fun c23 => ?_) (fun c23 => ?_)
          · have h := nd_pos h c23
            exact (db_X16_rename_66 C K) (q5) s14 _ _ _ h hP hD hS (lv_sub hl [3, 2] rfl)
          · have h := nd_neg h c23
            refine lv_aload_n hx hb dX16_rename_58 rfl (lv_at hl 3 rfl) ?_
            refine va_get (D := (dC, dI)) (ci := 17) (v := .ref (a 27)) (C := RX16) (T := TX16) (N := 56) hx hb hts hi_dm_X16_rename_X16 hown hK hP 0 rfl rfl 36 (by decide) (hts (.fieldLink RX16 91 "TimeMachineModel$Machine" "isNamed" "[Z") (List.mem_of_getElem? (i := 14) rfl)) (fun _ h9 => h9) rfl dX16_rename_59 ?_
            refine lv_iload hx hb dX16_rename_62 (lv_at hl 0 rfl) ?_
            refine lv_iconst (v := 0) hx hb dX16_rename_64 (by decide) ?_
            obtain ⟨i24, h⟩ := nd_ck_e h
            refine va_zast (i := q13) (x := 0) hx hb hK hP hD hS 27 26 rfl rfl i24 dX16_rename_65 (fun H locs hP hD hS => ?_)
            obtain ⟨s25, es25, h⟩ := nd_let_e h
            have hP : va_P (dC, dI) vwCl (dw_X16 a ac s25) H := by rw [es25]; exact hP
            have hD : va_D A (dw_X16 a ac s25) := by rw [es25]; exact hD
            exact (db_X16_rename_66 C K) (q5) s25 _ _ _ h hP hD hS (lv_sub hl [3, 2] rfl)
      · have h := nd_pos h c12
        refine lv_bipush (v := (-2)) hx hb dX16_rename_36 (by decide) ?_
        exact K _ _ _ _ _ _ dX16_rename_38 rfl (Option.some.inj h).symm hP hD hS
    · have h := nd_neg h c11
      refine lv_iload_n hx hb dX16_rename_28 rfl (lv_at hl 0 rfl) ?_
      exact K _ _ _ _ _ _ dX16_rename_29 rfl (Option.some.inj h).symm hP hD hS
  · have h := nd_neg h c4
    refine lv_iload_n hx hb dX16_rename_10 rfl (lv_at hl 0 rfl) ?_
    exact K _ _ _ _ _ _ dX16_rename_11 rfl (Option.some.inj h).symm hP hD hS
set_option maxHeartbeats 40000000 in
set_option maxRecDepth 100000 in
theorem dm_X16_rename (l : Launch) (hlt : l.stackTraces = false) (dC : Nat → ClassId) (dI : Nat → Nat → Nat) (a : Nat → Nat) (ac : Nat → ClassId) (n : Nat) (v0 : Int32) (v1 : Int32) (s0 : St × (St)) {r : Int32 × (St × (St))} (h : df_X16_rename n v0 v1 s0 = some r) (sz : Nat) : Met l yX16_rename ow_dm_X16_rename ({ frames := 3, cells := 0, slots := 0, locals := 70 }) (va_Pc [.ref (a 0), .int v0, .int v1] (fun U => U.heap.size = sz ∧ va_P (dC, dI) vwCl (dw_X16 a ac s0) U.heap ∧ va_K (dC, dI) vwCl (dk_X16 ac) U ∧ va_D (fun _ => True) (dw_X16 a ac s0) ∧ nv_E (va_A (dw_X16 a ac s0) sz) U)) (va_Qi (fun x _ => x = r.1) (fun (_ : Unit) t => va_P (dC, dI) vwCl (dw_X16 a ac r.2) t.heap ∧ va_K (dC, dI) vwCl (dk_X16 ac) t ∧ va_D (va_A (dw_X16 a ac s0) sz) (dw_X16 a ac r.2)) (va_A (dw_X16 a ac s0) sz)) 0 0 (va_A (dw_X16 a ac s0) sz) := by
  refine Met.ofW (cc := cX16_rename) (maxL := 6) (ret := (some .int)) (by decide) rfl ?_
  intro p e s m args below meth c s₁ B hml hv
  obtain ⟨rfl, hsz, hP, hK, hD0, hN⟩ := hv
  have hx := B.exec
  have hb := B.bytes
  have hr := B.returns
  have hts := atoms_spec (ws := ow_dm_X16_rename) B.pre
  have hown : s.vm.findClass RX16 = some m.cls := findClass_of_methodNamed B.named
  have hlocks := B.notSynchronized
  subst hsz
  have hD := hD0.self (sz := s.heap.size)
  generalize hAe : va_A (dw_X16 a ac s0) s.heap.size = A at hD hN ⊢
  have hA : ∀ q : Nat, s.heap.size ≤ q → A q := fun q h => by rw [← hAe]; exact Or.inr h
  have hl := lv_entry ([.ref (a 0), .int v0, .int v1]) (n := 6) (Nat.le_of_ble_eq_true rfl)
  rw [lg_entry_eq]
  generalize (lg_sl ([.ref (a 0), .int v0, .int v1]) ++ List.replicate (6 - (lg_sl ([.ref (a 0), .int v0, .int v1])).length) Slot.unset).toArray = ls at hl ⊢
  have hl : lv_has ls 6 [(0, .ref (a 0)), (1, .int v0), (2, .int v1)] := hl
  exact db_X16_rename_0 (dC := dC) (dI := dI) (a := a) (ac := ac) (n := n) (r := r) ⟨hlt, hx, hb, hml, hown, hts, hN, hA, hK⟩ (fun pc v τ H locs ls d z er hP hD hS => by subst er; exact W.zret (v := v) hx hb hr z (fun t ht hW => ⟨⟨v, (), rfl, rfl, by rw [ht]; exact hP, va_K.moved hW.alike hK, hD⟩, hS.F ht⟩) hS.2.2 d) v0 v1 s0 _ _ _ h hP hD va_S.rf (lv_sub hl [0, 1, 2] rfl)
def ow_dm_X16_grow : List Cond := .code yX16_grow cX16_grow 5 (some .int) :: ([.fieldLink RX16 25 "TimeMachineModel$Machine" "heapBegin" "[I", .fieldLink RX16 232 "TimeMachineModel$Machine" "p" "I", .constant RX16 516 (60416), .fieldLink RX16 28 "TimeMachineModel$Machine" "heapEnd" "[I", .methodLink RX16 211 yX16_leave, .instanceMethod yX16_leave, .selects RX16 yX16_leave yX16_leave, .initialized RX16, .methodLink RX16 187 yX16_newPage, .instanceMethod yX16_newPage, .selects RX16 yX16_newPage yX16_newPage, .methodLink RX16 397 yX16_hasFrames, .instanceMethod yX16_hasFrames, .selects RX16 yX16_hasFrames yX16_hasFrames] ++ (u_ws RX16 TX16 56 ++ (ow_dm_X16_leave ++ (ow_dm_X16_newPage ++ (ow_dm_X16_hasFrames ++ [])))))
theorem gd_dm_X16_grow : ∀ w ∈ ow_dm_X16_grow, (w.onTables && w.keeps) = true ∨ ∃ ty, w = Cond.arrayClass ty := List.forall_mem_cons.mpr ⟨good_of_word rfl, List.forall_mem_append.mpr ⟨fun w h => good_of_word (List.all_eq_true.mp (by decide +kernel) w h), List.forall_mem_append.mpr ⟨gu_X16, List.forall_mem_append.mpr ⟨gd_dm_X16_leave, List.forall_mem_append.mpr ⟨gd_dm_X16_newPage, List.forall_mem_append.mpr ⟨gd_dm_X16_hasFrames, fun _ h => nomatch h⟩⟩⟩⟩⟩⟩
theorem hi_dm_X16_grow_X16 : ∀ w ∈ u_ws RX16 TX16 56, w ∈ ow_dm_X16_grow := fun w h => List.mem_cons_of_mem _ (List.mem_append_right _ (List.mem_append_left _ h))
theorem gi_dm_X16_grow_0 : GoodIn ow_dm_X16_grow (wsV RX16 211 RX16 yX16_leave ow_dm_X16_leave) := goodIn_app (goodIn_of _ (by decide +kernel)) (fun w h => ⟨List.mem_cons_of_mem _ (List.mem_append_right _ (List.mem_append_right _ (List.mem_append_left _ h))), gd_dm_X16_leave w h⟩)
theorem gi_dm_X16_grow_1 : GoodIn ow_dm_X16_grow (wsV RX16 187 RX16 yX16_newPage ow_dm_X16_newPage) := goodIn_app (goodIn_of _ (by decide +kernel)) (fun w h => ⟨List.mem_cons_of_mem _ (List.mem_append_right _ (List.mem_append_right _ (List.mem_append_right _ (List.mem_append_left _ h)))), gd_dm_X16_newPage w h⟩)
theorem gi_dm_X16_grow_2 : GoodIn ow_dm_X16_grow (wsV RX16 397 RX16 yX16_hasFrames ow_dm_X16_hasFrames) := goodIn_app (goodIn_of _ (by decide +kernel)) (fun w h => ⟨List.mem_cons_of_mem _ (List.mem_append_right _ (List.mem_append_right _ (List.mem_append_right _ (List.mem_append_right _ (List.mem_append_left _ h))))), gd_dm_X16_hasFrames w h⟩)
def dj_X16_grow_20 (p : Program) (l : Launch) (e : Env) (s : State) (m : MethodId) (args : Array Value) (below : List Frame) (meth : Method) (c : Code) (Q : State → Prop) (A : Nat → Prop) (dC : Nat → ClassId) (dI : Nat → Nat → Nat) (a : Nat → Nat) (ac : Nat → ClassId) (g : (St × (St)) → Option (Int32 × (St × (St)))) (r : Int32 × (St × (St))) : Prop := ∀ (s0 : St × (St)) (H : Heap) (locs : List Loc) (ls : Array Slot), g s0 = some r → va_P (dC, dI) vwCl (dw_X16 a ac s0) H → va_D A (dw_X16 a ac s0) → va_S A s.heap H locs → lv_has ls 5 [] → W p l e (headSpec ow_dm_X16_grow ({ frames := 2, cells := 0, slots := 0, locals := 46 })).room s m args below meth c H locs 0 0 Q (F0 m 20 ls [])
def dj_X16_grow_98 (p : Program) (l : Launch) (e : Env) (s : State) (m : MethodId) (args : Array Value) (below : List Frame) (meth : Method) (c : Code) (Q : State → Prop) (A : Nat → Prop) (dC : Nat → ClassId) (dI : Nat → Nat → Nat) (a : Nat → Nat) (ac : Nat → ClassId) (g : Int32 → Int32 → Int32 → (St × (St)) → Option (Int32 × (St × (St)))) (r : Int32 × (St × (St))) : Prop := ∀ (x1 : Int32) (x2 : Int32) (x4 : Int32) (s0 : St × (St)) (H : Heap) (locs : List Loc) (ls : Array Slot), g x1 x2 x4 s0 = some r → va_P (dC, dI) vwCl (dw_X16 a ac s0) H → va_D A (dw_X16 a ac s0) → va_S A s.heap H locs → lv_has ls 5 [(0, .ref (a 0)), (1, .int x1), (2, .int x2), (4, .int x4)] → W p l e (headSpec ow_dm_X16_grow ({ frames := 2, cells := 0, slots := 0, locals := 46 })).room s m args below meth c H locs 0 0 Q (F0 m 98 ls [])
def dj_X16_grow_72 (p : Program) (l : Launch) (e : Env) (s : State) (m : MethodId) (args : Array Value) (below : List Frame) (meth : Method) (c : Code) (Q : State → Prop) (A : Nat → Prop) (dC : Nat → ClassId) (dI : Nat → Nat → Nat) (a : Nat → Nat) (ac : Nat → ClassId) (g : Int32 → Int32 → Int32 → Int32 → (St × (St)) → Option (Int32 × (St × (St)))) (r : Int32 × (St × (St))) : Prop := ∀ (x1 : Int32) (x2 : Int32) (x3 : Int32) (x4 : Int32) (s0 : St × (St)) (H : Heap) (locs : List Loc) (ls : Array Slot), g x1 x2 x3 x4 s0 = some r → va_P (dC, dI) vwCl (dw_X16 a ac s0) H → va_D A (dw_X16 a ac s0) → va_S A s.heap H locs → lv_has ls 5 [(0, .ref (a 0)), (1, .int x1), (2, .int x2), (3, .int x3), (4, .int x4)] → W p l e (headSpec ow_dm_X16_grow ({ frames := 2, cells := 0, slots := 0, locals := 46 })).room s m args below meth c H locs 0 0 Q (F0 m 72 ls [])
def dj_X16_grow_69 (p : Program) (l : Launch) (e : Env) (s : State) (m : MethodId) (args : Array Value) (below : List Frame) (meth : Method) (c : Code) (Q : State → Prop) (A : Nat → Prop) (dC : Nat → ClassId) (dI : Nat → Nat → Nat) (a : Nat → Nat) (ac : Nat → ClassId) (g : Int32 → Int32 → Int32 → (St × (St)) → Option (Int32 × (St × (St)))) (r : Int32 × (St × (St))) : Prop := ∀ (x1 : Int32) (x2 : Int32) (x3 : Int32) (s0 : St × (St)) (H : Heap) (locs : List Loc) (ls : Array Slot), g x1 x2 x3 s0 = some r → va_P (dC, dI) vwCl (dw_X16 a ac s0) H → va_D A (dw_X16 a ac s0) → va_S A s.heap H locs → lv_has ls 5 [(0, .ref (a 0)), (1, .int x1), (2, .int x2), (3, .int x3)] → W p l e (headSpec ow_dm_X16_grow ({ frames := 2, cells := 0, slots := 0, locals := 46 })).room s m args below meth c H locs 0 0 Q (F0 m 69 ls [])
def dj_X16_grow_0 (p : Program) (l : Launch) (e : Env) (s : State) (m : MethodId) (args : Array Value) (below : List Frame) (meth : Method) (c : Code) (Q : State → Prop) (A : Nat → Prop) (dC : Nat → ClassId) (dI : Nat → Nat → Nat) (a : Nat → Nat) (ac : Nat → ClassId) (g : Int32 → (St × (St)) → Option (Int32 × (St × (St)))) (r : Int32 × (St × (St))) : Prop := ∀ (v0 : Int32) (s0 : St × (St)) (H : Heap) (locs : List Loc) (ls : Array Slot), g v0 s0 = some r → va_P (dC, dI) vwCl (dw_X16 a ac s0) H → va_D A (dw_X16 a ac s0) → va_S A s.heap H locs → lv_has ls 5 [(0, .ref (a 0)), (1, .int v0)] → W p l e (headSpec ow_dm_X16_grow ({ frames := 2, cells := 0, slots := 0, locals := 46 })).room s m args below meth c H locs 0 0 Q (F0 m 0 ls [])
set_option maxHeartbeats 40000000 in
set_option maxRecDepth 100000 in
theorem db_X16_grow_20 {p : Program} {l : Launch} {e : Env} {s : State} {m : MethodId} {args : Array Value} {below : List Frame} {meth : Method} {c : Code} {Q : State → Prop} {A : Nat → Prop} {dC : Nat → ClassId} {dI : Nat → Nat → Nat} {a : Nat → Nat} {ac : Nat → ClassId} {n : Nat} {r : Int32 × (St × (St))} (C : nd_C p l s m args c A (dC, dI) cX16_grow 5 RX16 ow_dm_X16_grow (dk_X16 ac)) (K : nd_Ki p l e (headSpec ow_dm_X16_grow ({ frames := 2, cells := 0, slots := 0, locals := 46 })).room s m args below meth c Q A (dC, dI) cX16_grow .int (St × (St)) (dw_X16 a ac) r) : dj_X16_grow_20 p l e s m args below meth c Q A dC dI a ac (df_X16_grow_20 n) r := by
  obtain ⟨hlt, hx, hb, hml, hown, hts, hN, hA, hK⟩ := id C
  intro s0 H locs ls h hP hD hS hl
  unfold df_X16_grow_20 at h
  refine lv_bipush (v := (-22)) hx hb dX16_grow_20 (by decide) ?_
  exact K _ _ _ _ _ _ dX16_grow_22 rfl (Option.some.inj h).symm hP hD hS
set_option maxHeartbeats 40000000 in
set_option maxRecDepth 100000 in
theorem dB_X16_grow_98 {p : Program} {l : Launch} {e : Env} {s : State} {m : MethodId} {args : Array Value} {below : List Frame} {meth : Method} {c : Code} {Q : State → Prop} {A : Nat → Prop} {dC : Nat → ClassId} {dI : Nat → Nat → Nat} {a : Nat → Nat} {ac : Nat → ClassId} {n : Nat} {r : Int32 × (St × (St))} (C : nd_C p l s m args c A (dC, dI) cX16_grow 5 RX16 ow_dm_X16_grow (dk_X16 ac)) (K : nd_Ki p l e (headSpec ow_dm_X16_grow ({ frames := 2, cells := 0, slots := 0, locals := 46 })).room s m args below meth c Q A (dC, dI) cX16_grow .int (St × (St)) (dw_X16 a ac) r) {g98 : Int32 → Int32 → Int32 → (St × (St)) → Option (Int32 × (St × (St)))} (J98 : dj_X16_grow_98 p l e s m args below meth c Q A dC dI a ac g98 r) : dj_X16_grow_98 p l e s m args below meth c Q A dC dI a ac (dF_X16_grow_98 n g98) r := by
  obtain ⟨hlt, hx, hb, hml, hown, hts, hN, hA, hK⟩ := id C
  intro x1 x2 x4 s0 H locs ls h hP hD hS hl
  unfold dF_X16_grow_98 at h
  refine lv_iload hx hb dX16_grow_98 (lv_at hl 3 rfl) ?_
  refine lv_iload_n hx hb dX16_grow_100 rfl (lv_at hl 2 rfl) ?_
  refine lv_icmp_ge (tgt := 124) hx hb dX16_grow_101 (by decide) (fun c9 => ?_) (fun c9 => ?_)
  · have h := nd_pos h c9
    refine lv_aload_n hx hb dX16_grow_124 rfl (lv_at hl 0 rfl) ?_
    refine va_get (D := (dC, dI)) (ci := 17) (v := .ref (a 7)) (C := RX16) (T := TX16) (N := 56) hx hb hts hi_dm_X16_grow_X16 hown hK hP 0 rfl rfl 15 (by decide) (hts (.fieldLink RX16 28 "TimeMachineModel$Machine" "heapEnd" "[I") (List.mem_of_getElem? (i := 4) rfl)) (fun _ h9 => h9) rfl dX16_grow_125 ?_
    refine lv_aload_n hx hb dX16_grow_128 rfl (lv_at hl 0 rfl) ?_
    refine va_get (D := (dC, dI)) (ci := 17) (v := .int (sI s0.1 12)) (C := RX16) (T := TX16) (N := 56) hx hb hts hi_dm_X16_grow_X16 hown hK hP 0 rfl rfl 51 (by decide) (hts (.fieldLink RX16 232 "TimeMachineModel$Machine" "p" "I") (List.mem_of_getElem? (i := 2) rfl)) (fun _ h9 => h9) rfl dX16_grow_129 ?_
    obtain ⟨i10, h⟩ := nd_ck_e h
    refine va_iald (i := (sI s0.1 12)) hx hb hK hP 7 6 rfl rfl i10 dX16_grow_132 ?_
    refine lv_topi (fun z11 ez11 => ?_)
    have h := nd_at h ez11
    refine lv_istore (lv' := [(4, .int z11), (0, .ref (a 0)), (1, .int x1), (2, .int x2)]) hx hb dX16_grow_133 hl (by decide) rfl (fun ls hl => ?_)
    refine lv_aload_n hx hb dX16_grow_135 rfl (lv_at hl 1 rfl) ?_
    refine va_get (D := (dC, dI)) (ci := 17) (v := .ref (a 7)) (C := RX16) (T := TX16) (N := 56) hx hb hts hi_dm_X16_grow_X16 hown hK hP 0 rfl rfl 15 (by decide) (hts (.fieldLink RX16 28 "TimeMachineModel$Machine" "heapEnd" "[I") (List.mem_of_getElem? (i := 4) rfl)) (fun _ h9 => h9) rfl dX16_grow_136 ?_
    refine lv_aload_n hx hb dX16_grow_139 rfl (lv_at hl 1 rfl) ?_
    refine va_get (D := (dC, dI)) (ci := 17) (v := .int (sI s0.1 12)) (C := RX16) (T := TX16) (N := 56) hx hb hts hi_dm_X16_grow_X16 hown hK hP 0 rfl rfl 51 (by decide) (hts (.fieldLink RX16 232 "TimeMachineModel$Machine" "p" "I") (List.mem_of_getElem? (i := 2) rfl)) (fun _ h9 => h9) rfl dX16_grow_140 ?_
    refine lv_iload_n hx hb dX16_grow_143 rfl (lv_at hl 2 rfl) ?_
    obtain ⟨i12, h⟩ := nd_ck_e h
    refine va_iast (i := (sI s0.1 12)) (x := x1) hx hb hK hP hD hS 7 6 rfl rfl i12 dX16_grow_144 (fun H locs hP hD hS => ?_)
    obtain ⟨s13, es13, h⟩ := nd_let_e h
    have hP : va_P (dC, dI) vwCl (dw_X16 a ac s13) H := by rw [es13]; exact hP
    have hD : va_D A (dw_X16 a ac s13) := by rw [es13]; exact hD
    refine lv_iload hx hb dX16_grow_145 (lv_at hl 0 rfl) ?_
    exact K _ _ _ _ _ _ dX16_grow_147 rfl (Option.some.inj h).symm hP hD hS
  · have h := nd_neg h c9
    refine lv_aload_n hx hb dX16_grow_104 rfl (lv_at hl 0 rfl) ?_
    refine lv_bipush (v := 64) hx hb dX16_grow_105 (by decide) ?_
    refine lv_aload_n hx hb dX16_grow_107 rfl (lv_at hl 0 rfl) ?_
    refine va_get (D := (dC, dI)) (ci := 17) (v := .int (sI s0.1 12)) (C := RX16) (T := TX16) (N := 56) hx hb hts hi_dm_X16_grow_X16 hown hK hP 0 rfl rfl 51 (by decide) (hts (.fieldLink RX16 232 "TimeMachineModel$Machine" "p" "I") (List.mem_of_getElem? (i := 2) rfl)) (fun _ h9 => h9) rfl dX16_grow_108 ?_
    refine lv_imul hx hb dX16_grow_111 ?_
    refine lv_iload hx hb dX16_grow_112 (lv_at hl 3 rfl) ?_
    refine lv_iadd hx hb dX16_grow_114 ?_
    obtain ⟨s15, hq, h⟩ := nd_b1_e h
    have hPc := hP
    have hDc := hD
    have hKc := hK
    have hFc := nd_rs hD hS hA
    refine nd_cVv (As := [.int ((64 * (sI s0.1 12)) + x4)]) (rest := []) (w' := dw_X16 a ac s15) ⟨hx, hb, hml, hown, hts⟩ (fun sz => dm_X16_leave l hlt dC dI a ac n (((64 * (sI s0.1 12)) + x4)) s0 hq sz) (cwV 1 hts gi_dm_X16_grow_0 rfl rfl rfl (by decide +kernel) ⟨Nat.le_of_ble_eq_true rfl, Nat.le_of_ble_eq_true rfl⟩) hPc hDc hKc hS hA hN (va_recv hKc hPc (ci := 17) (q0 := 0) rfl rfl) rfl hl.1 rfl (Nat.le_of_ble_eq_true rfl) dX16_grow_115 (fun H locs hP1 hD1 hk1 hS => ?_)
    have hP := hP1
    have hD := hD1.weaken (fun k q _ h => hFc q.1 h)
    obtain ⟨z17, ez17, h⟩ := nd_let_e h
    refine lv_iinc (v := z17) (lv' := [(4, .int z17), (0, .ref (a 0)), (1, .int x1), (2, .int x2)]) hx hb dX16_grow_118 hl (k := 3) rfl (by rw [ez17]) (by decide) rfl (fun ls hl => ?_)
    refine lv_goto (tgt := 98) hx hb dX16_grow_121 (by decide) ?_
    exact (J98) (x1) (x2) (z17) s15 _ _ _ h hP hD hS (lv_sub hl [1, 2, 3, 0] rfl)
set_option maxHeartbeats 40000000 in
set_option maxRecDepth 100000 in
theorem db_X16_grow_98 {p : Program} {l : Launch} {e : Env} {s : State} {m : MethodId} {args : Array Value} {below : List Frame} {meth : Method} {c : Code} {Q : State → Prop} {A : Nat → Prop} {dC : Nat → ClassId} {dI : Nat → Nat → Nat} {a : Nat → Nat} {ac : Nat → ClassId} {n : Nat} {r : Int32 × (St × (St))} (C : nd_C p l s m args c A (dC, dI) cX16_grow 5 RX16 ow_dm_X16_grow (dk_X16 ac)) (K : nd_Ki p l e (headSpec ow_dm_X16_grow ({ frames := 2, cells := 0, slots := 0, locals := 46 })).room s m args below meth c Q A (dC, dI) cX16_grow .int (St × (St)) (dw_X16 a ac) r) (k : Nat) : dj_X16_grow_98 p l e s m args below meth c Q A dC dI a ac (df_X16_grow_98 n k) r := by
  induction k with
  | zero => intro x1 x2 x4 s0 H locs ls h; exact nomatch (show (none : Option (Int32 × (St × (St)))) = some r from h)
  | succ k ih => exact dB_X16_grow_98 C K ih
set_option maxHeartbeats 40000000 in
set_option maxRecDepth 100000 in
theorem dB_X16_grow_72 {p : Program} {l : Launch} {e : Env} {s : State} {m : MethodId} {args : Array Value} {below : List Frame} {meth : Method} {c : Code} {Q : State → Prop} {A : Nat → Prop} {dC : Nat → ClassId} {dI : Nat → Nat → Nat} {a : Nat → Nat} {ac : Nat → ClassId} {n : Nat} {r : Int32 × (St × (St))} (C : nd_C p l s m args c A (dC, dI) cX16_grow 5 RX16 ow_dm_X16_grow (dk_X16 ac)) (K : nd_Ki p l e (headSpec ow_dm_X16_grow ({ frames := 2, cells := 0, slots := 0, locals := 46 })).room s m args below meth c Q A (dC, dI) cX16_grow .int (St × (St)) (dw_X16 a ac) r) {g72 : Int32 → Int32 → Int32 → Int32 → (St × (St)) → Option (Int32 × (St × (St)))} (J72 : dj_X16_grow_72 p l e s m args below meth c Q A dC dI a ac g72 r) : dj_X16_grow_72 p l e s m args below meth c Q A dC dI a ac (dF_X16_grow_72 n g72) r := by
  obtain ⟨hlt, hx, hb, hml, hown, hts, hN, hA, hK⟩ := id C
  intro x1 x2 x3 x4 s0 H locs ls h hP hD hS hl
  unfold dF_X16_grow_72 at h
  refine lv_iload hx hb dX16_grow_72 (lv_at hl 4 rfl) ?_
  refine lv_iload_n hx hb dX16_grow_74 rfl (lv_at hl 3 rfl) ?_
  refine lv_icmp_ge (tgt := 95) hx hb dX16_grow_75 (by decide) (fun c8 => ?_) (fun c8 => ?_)
  · have h := nd_pos h c8
    refine lv_iload_n hx hb dX16_grow_95 rfl (lv_at hl 3 rfl) ?_
    refine lv_istore (lv' := [(4, .int x3), (0, .ref (a 0)), (1, .int x1), (2, .int x2), (3, .int x3)]) hx hb dX16_grow_96 hl (by decide) rfl (fun ls hl => ?_)
    exact (db_X16_grow_98 C K n) (x1) (x2) (x3) s0 _ _ _ h hP hD hS (lv_sub hl [1, 2, 3, 0] rfl)
  · have h := nd_neg h c8
    refine lv_aload_n hx hb dX16_grow_78 rfl (lv_at hl 0 rfl) ?_
    refine lv_aload_n hx hb dX16_grow_79 rfl (lv_at hl 0 rfl) ?_
    refine va_get (D := (dC, dI)) (ci := 17) (v := .int (sI s0.1 12)) (C := RX16) (T := TX16) (N := 56) hx hb hts hi_dm_X16_grow_X16 hown hK hP 0 rfl rfl 51 (by decide) (hts (.fieldLink RX16 232 "TimeMachineModel$Machine" "p" "I") (List.mem_of_getElem? (i := 2) rfl)) (fun _ h9 => h9) rfl dX16_grow_80 ?_
    refine lv_iload hx hb dX16_grow_83 (lv_at hl 4 rfl) ?_
    refine lv_iconst (v := 3) hx hb dX16_grow_85 (by decide) ?_
    obtain ⟨s19, hq, h⟩ := nd_b1_e h
    have hPc := hP
    have hDc := hD
    have hKc := hK
    have hFc := nd_rs hD hS hA
    refine nd_cVv (As := [.int (sI s0.1 12), .int x4, .int 3]) (rest := []) (w' := dw_X16 a ac s19) ⟨hx, hb, hml, hown, hts⟩ (fun sz => dm_X16_newPage l hlt dC dI a ac n ((sI s0.1 12)) (x4) (3) s0 hq sz) (cwV 3 hts gi_dm_X16_grow_1 rfl rfl rfl (by decide +kernel) ⟨Nat.le_of_ble_eq_true rfl, Nat.le_of_ble_eq_true rfl⟩) hPc hDc hKc hS hA hN (va_recv hKc hPc (ci := 17) (q0 := 0) rfl rfl) rfl hl.1 rfl (Nat.le_of_ble_eq_true rfl) dX16_grow_86 (fun H locs hP1 hD1 hk1 hS => ?_)
    have hP := hP1
    have hD := hD1.weaken (fun k q _ h => hFc q.1 h)
    obtain ⟨z21, ez21, h⟩ := nd_let_e h
    refine lv_iinc (v := z21) (lv' := [(4, .int z21), (0, .ref (a 0)), (1, .int x1), (2, .int x2), (3, .int x3)]) hx hb dX16_grow_89 hl (k := 4) rfl (by rw [ez21]) (by decide) rfl (fun ls hl => ?_)
    refine lv_goto (tgt := 72) hx hb dX16_grow_92 (by decide) ?_
    exact (J72) (x1) (x2) (x3) (z21) s19 _ _ _ h hP hD hS (lv_sub hl [1, 2, 3, 4, 0] rfl)
set_option maxHeartbeats 40000000 in
set_option maxRecDepth 100000 in
theorem db_X16_grow_72 {p : Program} {l : Launch} {e : Env} {s : State} {m : MethodId} {args : Array Value} {below : List Frame} {meth : Method} {c : Code} {Q : State → Prop} {A : Nat → Prop} {dC : Nat → ClassId} {dI : Nat → Nat → Nat} {a : Nat → Nat} {ac : Nat → ClassId} {n : Nat} {r : Int32 × (St × (St))} (C : nd_C p l s m args c A (dC, dI) cX16_grow 5 RX16 ow_dm_X16_grow (dk_X16 ac)) (K : nd_Ki p l e (headSpec ow_dm_X16_grow ({ frames := 2, cells := 0, slots := 0, locals := 46 })).room s m args below meth c Q A (dC, dI) cX16_grow .int (St × (St)) (dw_X16 a ac) r) (k : Nat) : dj_X16_grow_72 p l e s m args below meth c Q A dC dI a ac (df_X16_grow_72 n k) r := by
  induction k with
  | zero => intro x1 x2 x3 x4 s0 H locs ls h; exact nomatch (show (none : Option (Int32 × (St × (St)))) = some r from h)
  | succ k ih => exact dB_X16_grow_72 C K ih
set_option maxHeartbeats 40000000 in
set_option maxRecDepth 100000 in
theorem db_X16_grow_69 {p : Program} {l : Launch} {e : Env} {s : State} {m : MethodId} {args : Array Value} {below : List Frame} {meth : Method} {c : Code} {Q : State → Prop} {A : Nat → Prop} {dC : Nat → ClassId} {dI : Nat → Nat → Nat} {a : Nat → Nat} {ac : Nat → ClassId} {n : Nat} {r : Int32 × (St × (St))} (C : nd_C p l s m args c A (dC, dI) cX16_grow 5 RX16 ow_dm_X16_grow (dk_X16 ac)) (K : nd_Ki p l e (headSpec ow_dm_X16_grow ({ frames := 2, cells := 0, slots := 0, locals := 46 })).room s m args below meth c Q A (dC, dI) cX16_grow .int (St × (St)) (dw_X16 a ac) r) : dj_X16_grow_69 p l e s m args below meth c Q A dC dI a ac (df_X16_grow_69 n) r := by
  obtain ⟨hlt, hx, hb, hml, hown, hts, hN, hA, hK⟩ := id C
  intro x1 x2 x3 s0 H locs ls h hP hD hS hl
  unfold df_X16_grow_69 at h
  refine lv_iload_n hx hb dX16_grow_69 rfl (lv_at hl 2 rfl) ?_
  refine lv_istore (lv' := [(4, .int x2), (0, .ref (a 0)), (1, .int x1), (2, .int x2), (3, .int x3)]) hx hb dX16_grow_70 hl (by decide) rfl (fun ls hl => ?_)
  exact (db_X16_grow_72 C K n) (x1) (x2) (x3) (x2) s0 _ _ _ h hP hD hS (lv_sub hl [1, 2, 3, 4, 0] rfl)
set_option maxHeartbeats 40000000 in
set_option maxRecDepth 100000 in
theorem db_X16_grow_0 {p : Program} {l : Launch} {e : Env} {s : State} {m : MethodId} {args : Array Value} {below : List Frame} {meth : Method} {c : Code} {Q : State → Prop} {A : Nat → Prop} {dC : Nat → ClassId} {dI : Nat → Nat → Nat} {a : Nat → Nat} {ac : Nat → ClassId} {n : Nat} {r : Int32 × (St × (St))} (C : nd_C p l s m args c A (dC, dI) cX16_grow 5 RX16 ow_dm_X16_grow (dk_X16 ac)) (K : nd_Ki p l e (headSpec ow_dm_X16_grow ({ frames := 2, cells := 0, slots := 0, locals := 46 })).room s m args below meth c Q A (dC, dI) cX16_grow .int (St × (St)) (dw_X16 a ac) r) : dj_X16_grow_0 p l e s m args below meth c Q A dC dI a ac (df_X16_grow_0 n) r := by
  obtain ⟨hlt, hx, hb, hml, hown, hts, hN, hA, hK⟩ := id C
  intro v0 s0 H locs ls h hP hD hS hl
  unfold df_X16_grow_0 at h
  refine lv_iload_n hx hb dX16_grow_0 rfl (lv_at hl 1 rfl) ?_
  refine lv_aload_n hx hb dX16_grow_1 rfl (lv_at hl 0 rfl) ?_
  refine va_get (D := (dC, dI)) (ci := 17) (v := .ref (a 6)) (C := RX16) (T := TX16) (N := 56) hx hb hts hi_dm_X16_grow_X16 hown hK hP 0 rfl rfl 14 (by decide) (hts (.fieldLink RX16 25 "TimeMachineModel$Machine" "heapBegin" "[I") (List.mem_of_getElem? (i := 1) rfl)) (fun _ h9 => h9) rfl dX16_grow_2 ?_
  refine lv_aload_n hx hb dX16_grow_5 rfl (lv_at hl 0 rfl) ?_
  refine va_get (D := (dC, dI)) (ci := 17) (v := .int (sI s0.1 12)) (C := RX16) (T := TX16) (N := 56) hx hb hts hi_dm_X16_grow_X16 hown hK hP 0 rfl rfl 51 (by decide) (hts (.fieldLink RX16 232 "TimeMachineModel$Machine" "p" "I") (List.mem_of_getElem? (i := 2) rfl)) (fun _ h9 => h9) rfl dX16_grow_6 ?_
  obtain ⟨i1, h⟩ := nd_ck_e h
  refine va_iald (i := (sI s0.1 12)) hx hb hK hP 6 5 rfl rfl i1 dX16_grow_9 ?_
  refine lv_icmp_lt (tgt := 20) hx hb dX16_grow_10 (by decide) (fun c2 => ?_) (fun c2 => ?_)
  · have h := nd_pos h c2
    exact (db_X16_grow_20 C K)  s0 _ _ _ h hP hD hS (lv_sub hl [] rfl)
  · have h := nd_neg h c2
    refine lv_iload_n hx hb dX16_grow_13 rfl (lv_at hl 1 rfl) ?_
    refine lv_ldcw hx hb hown (hts (.constant RX16 516 (60416)) (List.mem_of_getElem? (i := 3) rfl)) dX16_grow_14 ?_
    refine lv_icmp_le (tgt := 23) hx hb dX16_grow_17 (by decide) (fun c3 => ?_) (fun c3 => ?_)
    · have h := nd_pos h c3
      refine lv_aload_n hx hb dX16_grow_23 rfl (lv_at hl 0 rfl) ?_
      refine va_get (D := (dC, dI)) (ci := 17) (v := .ref (a 7)) (C := RX16) (T := TX16) (N := 56) hx hb hts hi_dm_X16_grow_X16 hown hK hP 0 rfl rfl 15 (by decide) (hts (.fieldLink RX16 28 "TimeMachineModel$Machine" "heapEnd" "[I") (List.mem_of_getElem? (i := 4) rfl)) (fun _ h9 => h9) rfl dX16_grow_24 ?_
      refine lv_aload_n hx hb dX16_grow_27 rfl (lv_at hl 0 rfl) ?_
      refine va_get (D := (dC, dI)) (ci := 17) (v := .int (sI s0.1 12)) (C := RX16) (T := TX16) (N := 56) hx hb hts hi_dm_X16_grow_X16 hown hK hP 0 rfl rfl 51 (by decide) (hts (.fieldLink RX16 232 "TimeMachineModel$Machine" "p" "I") (List.mem_of_getElem? (i := 2) rfl)) (fun _ h9 => h9) rfl dX16_grow_28 ?_
      obtain ⟨i4, h⟩ := nd_ck_e h
      refine va_iald (i := (sI s0.1 12)) hx hb hK hP 7 6 rfl rfl i4 dX16_grow_31 ?_
      refine lv_sipush (v := 1023) hx hb dX16_grow_32 (by decide) ?_
      refine lv_iadd hx hb dX16_grow_35 ?_
      refine lv_sipush (v := 1024) hx hb dX16_grow_36 (by decide) ?_
      refine lv_idiv hx hb dX16_grow_39 (by decide) ?_
      refine lv_topi (fun z5 ez5 => ?_)
      have h := nd_at h ez5
      refine lv_istore_n (lv' := [(2, .int z5), (0, .ref (a 0)), (1, .int v0)]) hx hb dX16_grow_40 rfl hl (by decide) rfl (fun ls hl => ?_)
      refine lv_iload_n hx hb dX16_grow_41 rfl (lv_at hl 2 rfl) ?_
      refine lv_sipush (v := 1023) hx hb dX16_grow_42 (by decide) ?_
      refine lv_iadd hx hb dX16_grow_45 ?_
      refine lv_sipush (v := 1024) hx hb dX16_grow_46 (by decide) ?_
      refine lv_idiv hx hb dX16_grow_49 (by decide) ?_
      refine lv_topi (fun z6 ez6 => ?_)
      have h := nd_at h ez6
      refine lv_istore_n (lv' := [(3, .int z6), (2, .int z5), (0, .ref (a 0)), (1, .int v0)]) hx hb dX16_grow_50 rfl hl (by decide) rfl (fun ls hl => ?_)
      refine lv_iload_n hx hb dX16_grow_51 rfl (lv_at hl 0 rfl) ?_
      refine lv_iload_n hx hb dX16_grow_52 rfl (lv_at hl 1 rfl) ?_
      refine lv_icmp_le (tgt := 69) hx hb dX16_grow_53 (by decide) (fun c7 => ?_) (fun c7 => ?_)
      · have h := nd_pos h c7
        exact (db_X16_grow_69 C K) (v0) (z5) (z6) s0 _ _ _ h hP hD hS (lv_sub hl [2, 3, 1, 0] rfl)
      · have h := nd_neg h c7
        refine lv_aload_n hx hb dX16_grow_56 rfl (lv_at hl 2 rfl) ?_
        refine lv_iload_n hx hb dX16_grow_57 rfl (lv_at hl 0 rfl) ?_
        refine lv_iload_n hx hb dX16_grow_58 rfl (lv_at hl 1 rfl) ?_
        refine lv_isub hx hb dX16_grow_59 ?_
        obtain ⟨q22, s23, hq, h⟩ := nd_b2_e h
        have hPc := hP
        have hDc := hD
        have hKc := hK
        have hFc := nd_rs hD hS hA
        refine nd_cVi (As := [.int (z6 - z5)]) (rest := []) (q := q22) (w' := dw_X16 a ac s23) ⟨hx, hb, hml, hown, hts⟩ (fun sz => dm_X16_hasFrames l hlt dC dI a ac n ((z6 - z5)) s0 hq sz) (cwV 1 hts gi_dm_X16_grow_2 rfl rfl rfl (by decide +kernel) ⟨Nat.le_of_ble_eq_true rfl, Nat.le_of_ble_eq_true rfl⟩) hPc hDc hKc hS hA hN (va_recv hKc hPc (ci := 17) (q0 := 0) rfl rfl) rfl hl.1 rfl (Nat.le_of_ble_eq_true rfl) dX16_grow_60 (fun H locs hP1 hD1 hk1 hS => ?_)
        have hP := hP1
        have hD := hD1.weaken (fun k q _ h => hFc q.1 h)
        refine lv_if_ne (tgt := 69) hx hb dX16_grow_63 (by decide) (fun c25 => ?_) (fun c25 => ?_)
        · have h := nd_neg h c25
          exact (db_X16_grow_69 C K) (v0) (z5) (z6) s23 _ _ _ h hP hD hS (lv_sub hl [2, 3, 1, 0] rfl)
        · have h := nd_pos h c25
          refine lv_bipush (v := (-4)) hx hb dX16_grow_66 (by decide) ?_
          exact K _ _ _ _ _ _ dX16_grow_68 rfl (Option.some.inj h).symm hP hD hS
    · have h := nd_neg h c3
      exact (db_X16_grow_20 C K)  s0 _ _ _ h hP hD hS (lv_sub hl [] rfl)
set_option maxHeartbeats 40000000 in
set_option maxRecDepth 100000 in
theorem dm_X16_grow (l : Launch) (hlt : l.stackTraces = false) (dC : Nat → ClassId) (dI : Nat → Nat → Nat) (a : Nat → Nat) (ac : Nat → ClassId) (n : Nat) (v0 : Int32) (s0 : St × (St)) {r : Int32 × (St × (St))} (h : df_X16_grow n v0 s0 = some r) (sz : Nat) : Met l yX16_grow ow_dm_X16_grow ({ frames := 2, cells := 0, slots := 0, locals := 46 }) (va_Pc [.ref (a 0), .int v0] (fun U => U.heap.size = sz ∧ va_P (dC, dI) vwCl (dw_X16 a ac s0) U.heap ∧ va_K (dC, dI) vwCl (dk_X16 ac) U ∧ va_D (fun _ => True) (dw_X16 a ac s0) ∧ nv_E (va_A (dw_X16 a ac s0) sz) U)) (va_Qi (fun x _ => x = r.1) (fun (_ : Unit) t => va_P (dC, dI) vwCl (dw_X16 a ac r.2) t.heap ∧ va_K (dC, dI) vwCl (dk_X16 ac) t ∧ va_D (va_A (dw_X16 a ac s0) sz) (dw_X16 a ac r.2)) (va_A (dw_X16 a ac s0) sz)) 0 0 (va_A (dw_X16 a ac s0) sz) := by
  refine Met.ofW (cc := cX16_grow) (maxL := 5) (ret := (some .int)) (by decide) rfl ?_
  intro p e s m args below meth c s₁ B hml hv
  obtain ⟨rfl, hsz, hP, hK, hD0, hN⟩ := hv
  have hx := B.exec
  have hb := B.bytes
  have hr := B.returns
  have hts := atoms_spec (ws := ow_dm_X16_grow) B.pre
  have hown : s.vm.findClass RX16 = some m.cls := findClass_of_methodNamed B.named
  have hlocks := B.notSynchronized
  subst hsz
  have hD := hD0.self (sz := s.heap.size)
  generalize hAe : va_A (dw_X16 a ac s0) s.heap.size = A at hD hN ⊢
  have hA : ∀ q : Nat, s.heap.size ≤ q → A q := fun q h => by rw [← hAe]; exact Or.inr h
  have hl := lv_entry ([.ref (a 0), .int v0]) (n := 5) (Nat.le_of_ble_eq_true rfl)
  rw [lg_entry_eq]
  generalize (lg_sl ([.ref (a 0), .int v0]) ++ List.replicate (5 - (lg_sl ([.ref (a 0), .int v0])).length) Slot.unset).toArray = ls at hl ⊢
  have hl : lv_has ls 5 [(0, .ref (a 0)), (1, .int v0)] := hl
  exact db_X16_grow_0 (dC := dC) (dI := dI) (a := a) (ac := ac) (n := n) (r := r) ⟨hlt, hx, hb, hml, hown, hts, hN, hA, hK⟩ (fun pc v τ H locs ls d z er hP hD hS => by subst er; exact W.zret (v := v) hx hb hr z (fun t ht hW => ⟨⟨v, (), rfl, rfl, by rw [ht]; exact hP, va_K.moved hW.alike hK, hD⟩, hS.F ht⟩) hS.2.2 d) v0 s0 _ _ _ h hP hD va_S.rf (lv_sub hl [0, 1] rfl)
def ow_dm_X16_signal : List Cond := .code yX16_signal cX16_signal 3 (some .int) :: ([.fieldLink RX16 13 "TimeMachineModel$Machine" "state" "[I", .fieldLink RX16 22 "TimeMachineModel$Machine" "pending" "[I"] ++ (u_ws RX16 TX16 56 ++ []))
theorem gd_dm_X16_signal : ∀ w ∈ ow_dm_X16_signal, (w.onTables && w.keeps) = true ∨ ∃ ty, w = Cond.arrayClass ty := List.forall_mem_cons.mpr ⟨good_of_word rfl, List.forall_mem_append.mpr ⟨fun w h => good_of_word (List.all_eq_true.mp (by decide +kernel) w h), List.forall_mem_append.mpr ⟨gu_X16, fun _ h => nomatch h⟩⟩⟩
theorem hi_dm_X16_signal_X16 : ∀ w ∈ u_ws RX16 TX16 56, w ∈ ow_dm_X16_signal := fun w h => List.mem_cons_of_mem _ (List.mem_append_right _ (List.mem_append_left _ h))
def dj_X16_signal_21 (p : Program) (l : Launch) (e : Env) (s : State) (m : MethodId) (args : Array Value) (below : List Frame) (meth : Method) (c : Code) (Q : State → Prop) (A : Nat → Prop) (dC : Nat → ClassId) (dI : Nat → Nat → Nat) (a : Nat → Nat) (ac : Nat → ClassId) (g : (St × (St)) → Option (Int32 × (St × (St)))) (r : Int32 × (St × (St))) : Prop := ∀ (s0 : St × (St)) (H : Heap) (locs : List Loc) (ls : Array Slot), g s0 = some r → va_P (dC, dI) vwCl (dw_X16 a ac s0) H → va_D A (dw_X16 a ac s0) → va_S A s.heap H locs → lv_has ls 3 [] → W p l e (headSpec ow_dm_X16_signal ({ frames := 0, cells := 0, slots := 0, locals := 0 })).room s m args below meth c H locs 0 0 Q (F0 m 21 ls [])
def dj_X16_signal_43 (p : Program) (l : Launch) (e : Env) (s : State) (m : MethodId) (args : Array Value) (below : List Frame) (meth : Method) (c : Code) (Q : State → Prop) (A : Nat → Prop) (dC : Nat → ClassId) (dI : Nat → Nat → Nat) (a : Nat → Nat) (ac : Nat → ClassId) (g : (St × (St)) → Option (Int32 × (St × (St)))) (r : Int32 × (St × (St))) : Prop := ∀ (s0 : St × (St)) (H : Heap) (locs : List Loc) (ls : Array Slot), g s0 = some r → va_P (dC, dI) vwCl (dw_X16 a ac s0) H → va_D A (dw_X16 a ac s0) → va_S A s.heap H locs → lv_has ls 3 [] → W p l e (headSpec ow_dm_X16_signal ({ frames := 0, cells := 0, slots := 0, locals := 0 })).room s m args below meth c H locs 0 0 Q (F0 m 43 ls [])
def dj_X16_signal_0 (p : Program) (l : Launch) (e : Env) (s : State) (m : MethodId) (args : Array Value) (below : List Frame) (meth : Method) (c : Code) (Q : State → Prop) (A : Nat → Prop) (dC : Nat → ClassId) (dI : Nat → Nat → Nat) (a : Nat → Nat) (ac : Nat → ClassId) (g : Int32 → Int32 → (St × (St)) → Option (Int32 × (St × (St)))) (r : Int32 × (St × (St))) : Prop := ∀ (v0 : Int32) (v1 : Int32) (s0 : St × (St)) (H : Heap) (locs : List Loc) (ls : Array Slot), g v0 v1 s0 = some r → va_P (dC, dI) vwCl (dw_X16 a ac s0) H → va_D A (dw_X16 a ac s0) → va_S A s.heap H locs → lv_has ls 3 [(0, .ref (a 0)), (1, .int v0), (2, .int v1)] → W p l e (headSpec ow_dm_X16_signal ({ frames := 0, cells := 0, slots := 0, locals := 0 })).room s m args below meth c H locs 0 0 Q (F0 m 0 ls [])
set_option maxHeartbeats 40000000 in
set_option maxRecDepth 100000 in
theorem db_X16_signal_21 {p : Program} {l : Launch} {e : Env} {s : State} {m : MethodId} {args : Array Value} {below : List Frame} {meth : Method} {c : Code} {Q : State → Prop} {A : Nat → Prop} {dC : Nat → ClassId} {dI : Nat → Nat → Nat} {a : Nat → Nat} {ac : Nat → ClassId} {n : Nat} {r : Int32 × (St × (St))} (C : nd_C p l s m args c A (dC, dI) cX16_signal 3 RX16 ow_dm_X16_signal (dk_X16 ac)) (K : nd_Ki p l e (headSpec ow_dm_X16_signal ({ frames := 0, cells := 0, slots := 0, locals := 0 })).room s m args below meth c Q A (dC, dI) cX16_signal .int (St × (St)) (dw_X16 a ac) r) : dj_X16_signal_21 p l e s m args below meth c Q A dC dI a ac (df_X16_signal_21 n) r := by
  obtain ⟨hlt, hx, hb, hml, hown, hts, hN, hA, hK⟩ := id C
  intro s0 H locs ls h hP hD hS hl
  unfold df_X16_signal_21 at h
  refine lv_bipush (v := (-22)) hx hb dX16_signal_21 (by decide) ?_
  exact K _ _ _ _ _ _ dX16_signal_23 rfl (Option.some.inj h).symm hP hD hS
set_option maxHeartbeats 40000000 in
set_option maxRecDepth 100000 in
theorem db_X16_signal_43 {p : Program} {l : Launch} {e : Env} {s : State} {m : MethodId} {args : Array Value} {below : List Frame} {meth : Method} {c : Code} {Q : State → Prop} {A : Nat → Prop} {dC : Nat → ClassId} {dI : Nat → Nat → Nat} {a : Nat → Nat} {ac : Nat → ClassId} {n : Nat} {r : Int32 × (St × (St))} (C : nd_C p l s m args c A (dC, dI) cX16_signal 3 RX16 ow_dm_X16_signal (dk_X16 ac)) (K : nd_Ki p l e (headSpec ow_dm_X16_signal ({ frames := 0, cells := 0, slots := 0, locals := 0 })).room s m args below meth c Q A (dC, dI) cX16_signal .int (St × (St)) (dw_X16 a ac) r) : dj_X16_signal_43 p l e s m args below meth c Q A dC dI a ac (df_X16_signal_43 n) r := by
  obtain ⟨hlt, hx, hb, hml, hown, hts, hN, hA, hK⟩ := id C
  intro s0 H locs ls h hP hD hS hl
  unfold df_X16_signal_43 at h
  refine lv_bipush (v := (-10)) hx hb dX16_signal_43 (by decide) ?_
  exact K _ _ _ _ _ _ dX16_signal_45 rfl (Option.some.inj h).symm hP hD hS
set_option maxHeartbeats 40000000 in
set_option maxRecDepth 100000 in
theorem db_X16_signal_0 {p : Program} {l : Launch} {e : Env} {s : State} {m : MethodId} {args : Array Value} {below : List Frame} {meth : Method} {c : Code} {Q : State → Prop} {A : Nat → Prop} {dC : Nat → ClassId} {dI : Nat → Nat → Nat} {a : Nat → Nat} {ac : Nat → ClassId} {n : Nat} {r : Int32 × (St × (St))} (C : nd_C p l s m args c A (dC, dI) cX16_signal 3 RX16 ow_dm_X16_signal (dk_X16 ac)) (K : nd_Ki p l e (headSpec ow_dm_X16_signal ({ frames := 0, cells := 0, slots := 0, locals := 0 })).room s m args below meth c Q A (dC, dI) cX16_signal .int (St × (St)) (dw_X16 a ac) r) : dj_X16_signal_0 p l e s m args below meth c Q A dC dI a ac (df_X16_signal_0 n) r := by
  obtain ⟨hlt, hx, hb, hml, hown, hts, hN, hA, hK⟩ := id C
  intro v0 v1 s0 H locs ls h hP hD hS hl
  unfold df_X16_signal_0 at h
  refine lv_iload_n hx hb dX16_signal_0 rfl (lv_at hl 1 rfl) ?_
  refine lv_if_lt (tgt := 21) hx hb dX16_signal_1 (by decide) (fun c1 => ?_) (fun c1 => ?_)
  · have h := nd_pos h c1
    exact (db_X16_signal_21 C K)  s0 _ _ _ h hP hD hS (lv_sub hl [] rfl)
  · have h := nd_neg h c1
    refine lv_iload_n hx hb dX16_signal_4 rfl (lv_at hl 1 rfl) ?_
    refine lv_bipush (v := 15) hx hb dX16_signal_5 (by decide) ?_
    refine lv_icmp_gt (tgt := 21) hx hb dX16_signal_7 (by decide) (fun c2 => ?_) (fun c2 => ?_)
    · have h := nd_pos h c2
      exact (db_X16_signal_21 C K)  s0 _ _ _ h hP hD hS (lv_sub hl [] rfl)
    · have h := nd_neg h c2
      refine lv_iload_n hx hb dX16_signal_10 rfl (lv_at hl 2 rfl) ?_
      refine lv_iconst (v := 1) hx hb dX16_signal_11 (by decide) ?_
      refine lv_icmp_lt (tgt := 21) hx hb dX16_signal_12 (by decide) (fun c3 => ?_) (fun c3 => ?_)
      · have h := nd_pos h c3
        exact (db_X16_signal_21 C K)  s0 _ _ _ h hP hD hS (lv_sub hl [] rfl)
      · have h := nd_neg h c3
        refine lv_iload_n hx hb dX16_signal_15 rfl (lv_at hl 2 rfl) ?_
        refine lv_bipush (v := 15) hx hb dX16_signal_16 (by decide) ?_
        refine lv_icmp_le (tgt := 24) hx hb dX16_signal_18 (by decide) (fun c4 => ?_) (fun c4 => ?_)
        · have h := nd_pos h c4
          refine lv_aload_n hx hb dX16_signal_24 rfl (lv_at hl 0 rfl) ?_
          refine va_get (D := (dC, dI)) (ci := 17) (v := .ref (a 2)) (C := RX16) (T := TX16) (N := 56) hx hb hts hi_dm_X16_signal_X16 hown hK hP 0 rfl rfl 10 (by decide) (hts (.fieldLink RX16 13 "TimeMachineModel$Machine" "state" "[I") (List.mem_of_getElem? (i := 1) rfl)) (fun _ h9 => h9) rfl dX16_signal_25 ?_
          refine lv_iload_n hx hb dX16_signal_28 rfl (lv_at hl 1 rfl) ?_
          obtain ⟨i5, h⟩ := nd_ck_e h
          refine va_iald (i := v0) hx hb hK hP 2 1 rfl rfl i5 dX16_signal_29 ?_
          refine lv_if_eq (tgt := 43) hx hb dX16_signal_30 (by decide) (fun c6 => ?_) (fun c6 => ?_)
          · have h := nd_pos h c6
            exact (db_X16_signal_43 C K)  s0 _ _ _ h hP hD hS (lv_sub hl [] rfl)
          · have h := nd_neg h c6
            refine lv_aload_n hx hb dX16_signal_33 rfl (lv_at hl 0 rfl) ?_
            refine va_get (D := (dC, dI)) (ci := 17) (v := .ref (a 2)) (C := RX16) (T := TX16) (N := 56) hx hb hts hi_dm_X16_signal_X16 hown hK hP 0 rfl rfl 10 (by decide) (hts (.fieldLink RX16 13 "TimeMachineModel$Machine" "state" "[I") (List.mem_of_getElem? (i := 1) rfl)) (fun _ h9 => h9) rfl dX16_signal_34 ?_
            refine lv_iload_n hx hb dX16_signal_37 rfl (lv_at hl 1 rfl) ?_
            obtain ⟨i7, h⟩ := nd_ck_e h
            refine va_iald (i := v0) hx hb hK hP 2 1 rfl rfl i7 dX16_signal_38 ?_
            refine lv_iconst (v := 3) hx hb dX16_signal_39 (by decide) ?_
            refine lv_icmp_ne (tgt := 46) hx hb dX16_signal_40 (by decide) (fun c8 => ?_) (fun c8 => ?_)
            · have h := nd_neg h c8
              refine lv_aload_n hx hb dX16_signal_46 rfl (lv_at hl 0 rfl) ?_
              refine va_get (D := (dC, dI)) (ci := 17) (v := .ref (a 5)) (C := RX16) (T := TX16) (N := 56) hx hb hts hi_dm_X16_signal_X16 hown hK hP 0 rfl rfl 13 (by decide) (hts (.fieldLink RX16 22 "TimeMachineModel$Machine" "pending" "[I") (List.mem_of_getElem? (i := 2) rfl)) (fun _ h9 => h9) rfl dX16_signal_47 ?_
              refine lv_iload_n hx hb dX16_signal_50 rfl (lv_at hl 1 rfl) ?_
              refine lv_dup2_11 hx hb dX16_signal_51 rfl rfl ?_
              obtain ⟨i9, h⟩ := nd_ck_e h
              refine va_iald (i := v0) hx hb hK hP 5 4 rfl rfl i9 dX16_signal_52 ?_
              refine lv_iconst (v := 1) hx hb dX16_signal_53 (by decide) ?_
              refine lv_iload_n hx hb dX16_signal_54 rfl (lv_at hl 2 rfl) ?_
              refine lv_ishl hx hb dX16_signal_55 ?_
              refine lv_ior hx hb dX16_signal_56 ?_
              obtain ⟨i10, h⟩ := nd_ck_e h
              refine va_iast (i := v0) (x := ((sR s0.1 4 (Int32.toNatClampNeg v0)) ||| ((1 : Int32) <<< ((v1 : Int32) &&& 31)))) hx hb hK hP hD hS 5 4 rfl rfl i10 dX16_signal_57 (fun H locs hP hD hS => ?_)
              obtain ⟨s11, es11, h⟩ := nd_let_e h
              have hP : va_P (dC, dI) vwCl (dw_X16 a ac s11) H := by rw [es11]; exact hP
              have hD : va_D A (dw_X16 a ac s11) := by rw [es11]; exact hD
              refine lv_iconst (v := 0) hx hb dX16_signal_58 (by decide) ?_
              exact K _ _ _ _ _ _ dX16_signal_59 rfl (Option.some.inj h).symm hP hD hS
            · have h := nd_pos h c8
              exact (db_X16_signal_43 C K)  s0 _ _ _ h hP hD hS (lv_sub hl [] rfl)
        · have h := nd_neg h c4
          exact (db_X16_signal_21 C K)  s0 _ _ _ h hP hD hS (lv_sub hl [] rfl)
set_option maxHeartbeats 40000000 in
set_option maxRecDepth 100000 in
theorem dm_X16_signal (l : Launch) (hlt : l.stackTraces = false) (dC : Nat → ClassId) (dI : Nat → Nat → Nat) (a : Nat → Nat) (ac : Nat → ClassId) (n : Nat) (v0 : Int32) (v1 : Int32) (s0 : St × (St)) {r : Int32 × (St × (St))} (h : df_X16_signal n v0 v1 s0 = some r) (sz : Nat) : Met l yX16_signal ow_dm_X16_signal ({ frames := 0, cells := 0, slots := 0, locals := 0 }) (va_Pc [.ref (a 0), .int v0, .int v1] (fun U => U.heap.size = sz ∧ va_P (dC, dI) vwCl (dw_X16 a ac s0) U.heap ∧ va_K (dC, dI) vwCl (dk_X16 ac) U ∧ va_D (fun _ => True) (dw_X16 a ac s0) ∧ nv_E (va_A (dw_X16 a ac s0) sz) U)) (va_Qi (fun x _ => x = r.1) (fun (_ : Unit) t => va_P (dC, dI) vwCl (dw_X16 a ac r.2) t.heap ∧ va_K (dC, dI) vwCl (dk_X16 ac) t ∧ va_D (va_A (dw_X16 a ac s0) sz) (dw_X16 a ac r.2)) (va_A (dw_X16 a ac s0) sz)) 0 0 (va_A (dw_X16 a ac s0) sz) := by
  refine Met.ofW (cc := cX16_signal) (maxL := 3) (ret := (some .int)) (by decide) rfl ?_
  intro p e s m args below meth c s₁ B hml hv
  obtain ⟨rfl, hsz, hP, hK, hD0, hN⟩ := hv
  have hx := B.exec
  have hb := B.bytes
  have hr := B.returns
  have hts := atoms_spec (ws := ow_dm_X16_signal) B.pre
  have hown : s.vm.findClass RX16 = some m.cls := findClass_of_methodNamed B.named
  have hlocks := B.notSynchronized
  subst hsz
  have hD := hD0.self (sz := s.heap.size)
  generalize hAe : va_A (dw_X16 a ac s0) s.heap.size = A at hD hN ⊢
  have hA : ∀ q : Nat, s.heap.size ≤ q → A q := fun q h => by rw [← hAe]; exact Or.inr h
  have hl := lv_entry ([.ref (a 0), .int v0, .int v1]) (n := 3) (Nat.le_of_ble_eq_true rfl)
  rw [lg_entry_eq]
  generalize (lg_sl ([.ref (a 0), .int v0, .int v1]) ++ List.replicate (3 - (lg_sl ([.ref (a 0), .int v0, .int v1])).length) Slot.unset).toArray = ls at hl ⊢
  have hl : lv_has ls 3 [(0, .ref (a 0)), (1, .int v0), (2, .int v1)] := hl
  exact db_X16_signal_0 (dC := dC) (dI := dI) (a := a) (ac := ac) (n := n) (r := r) ⟨hlt, hx, hb, hml, hown, hts, hN, hA, hK⟩ (fun pc v τ H locs ls d z er hP hD hS => by subst er; exact W.zret (v := v) hx hb hr z (fun t ht hW => ⟨⟨v, (), rfl, rfl, by rw [ht]; exact hP, va_K.moved hW.alike hK, hD⟩, hS.F ht⟩) hS.2.2 d) v0 v1 s0 _ _ _ h hP hD va_S.rf (lv_sub hl [0, 1, 2] rfl)
def ow_dm_X16_handle : List Cond := .code yX16_handle cX16_handle 4 (some .int) :: ([.fieldLink RX16 54 "TimeMachineModel$Machine" "handler" "[I", .fieldLink RX16 232 "TimeMachineModel$Machine" "p" "I"] ++ (u_ws RX16 TX16 56 ++ []))
theorem gd_dm_X16_handle : ∀ w ∈ ow_dm_X16_handle, (w.onTables && w.keeps) = true ∨ ∃ ty, w = Cond.arrayClass ty := List.forall_mem_cons.mpr ⟨good_of_word rfl, List.forall_mem_append.mpr ⟨fun w h => good_of_word (List.all_eq_true.mp (by decide +kernel) w h), List.forall_mem_append.mpr ⟨gu_X16, fun _ h => nomatch h⟩⟩⟩
theorem hi_dm_X16_handle_X16 : ∀ w ∈ u_ws RX16 TX16 56, w ∈ ow_dm_X16_handle := fun w h => List.mem_cons_of_mem _ (List.mem_append_right _ (List.mem_append_left _ h))
def dj_X16_handle_17 (p : Program) (l : Launch) (e : Env) (s : State) (m : MethodId) (args : Array Value) (below : List Frame) (meth : Method) (c : Code) (Q : State → Prop) (A : Nat → Prop) (dC : Nat → ClassId) (dI : Nat → Nat → Nat) (a : Nat → Nat) (ac : Nat → ClassId) (g : (St × (St)) → Option (Int32 × (St × (St)))) (r : Int32 × (St × (St))) : Prop := ∀ (s0 : St × (St)) (H : Heap) (locs : List Loc) (ls : Array Slot), g s0 = some r → va_P (dC, dI) vwCl (dw_X16 a ac s0) H → va_D A (dw_X16 a ac s0) → va_S A s.heap H locs → lv_has ls 4 [] → W p l e (headSpec ow_dm_X16_handle ({ frames := 0, cells := 0, slots := 0, locals := 0 })).room s m args below meth c H locs 0 0 Q (F0 m 17 ls [])
def dj_X16_handle_0 (p : Program) (l : Launch) (e : Env) (s : State) (m : MethodId) (args : Array Value) (below : List Frame) (meth : Method) (c : Code) (Q : State → Prop) (A : Nat → Prop) (dC : Nat → ClassId) (dI : Nat → Nat → Nat) (a : Nat → Nat) (ac : Nat → ClassId) (g : Int32 → Int32 → (St × (St)) → Option (Int32 × (St × (St)))) (r : Int32 × (St × (St))) : Prop := ∀ (v0 : Int32) (v1 : Int32) (s0 : St × (St)) (H : Heap) (locs : List Loc) (ls : Array Slot), g v0 v1 s0 = some r → va_P (dC, dI) vwCl (dw_X16 a ac s0) H → va_D A (dw_X16 a ac s0) → va_S A s.heap H locs → lv_has ls 4 [(0, .ref (a 0)), (1, .int v0), (2, .int v1)] → W p l e (headSpec ow_dm_X16_handle ({ frames := 0, cells := 0, slots := 0, locals := 0 })).room s m args below meth c H locs 0 0 Q (F0 m 0 ls [])
set_option maxHeartbeats 40000000 in
set_option maxRecDepth 100000 in
theorem db_X16_handle_17 {p : Program} {l : Launch} {e : Env} {s : State} {m : MethodId} {args : Array Value} {below : List Frame} {meth : Method} {c : Code} {Q : State → Prop} {A : Nat → Prop} {dC : Nat → ClassId} {dI : Nat → Nat → Nat} {a : Nat → Nat} {ac : Nat → ClassId} {n : Nat} {r : Int32 × (St × (St))} (C : nd_C p l s m args c A (dC, dI) cX16_handle 4 RX16 ow_dm_X16_handle (dk_X16 ac)) (K : nd_Ki p l e (headSpec ow_dm_X16_handle ({ frames := 0, cells := 0, slots := 0, locals := 0 })).room s m args below meth c Q A (dC, dI) cX16_handle .int (St × (St)) (dw_X16 a ac) r) : dj_X16_handle_17 p l e s m args below meth c Q A dC dI a ac (df_X16_handle_17 n) r := by
  obtain ⟨hlt, hx, hb, hml, hown, hts, hN, hA, hK⟩ := id C
  intro s0 H locs ls h hP hD hS hl
  unfold df_X16_handle_17 at h
  refine lv_bipush (v := (-22)) hx hb dX16_handle_17 (by decide) ?_
  exact K _ _ _ _ _ _ dX16_handle_19 rfl (Option.some.inj h).symm hP hD hS
set_option maxHeartbeats 40000000 in
set_option maxRecDepth 100000 in
theorem db_X16_handle_0 {p : Program} {l : Launch} {e : Env} {s : State} {m : MethodId} {args : Array Value} {below : List Frame} {meth : Method} {c : Code} {Q : State → Prop} {A : Nat → Prop} {dC : Nat → ClassId} {dI : Nat → Nat → Nat} {a : Nat → Nat} {ac : Nat → ClassId} {n : Nat} {r : Int32 × (St × (St))} (C : nd_C p l s m args c A (dC, dI) cX16_handle 4 RX16 ow_dm_X16_handle (dk_X16 ac)) (K : nd_Ki p l e (headSpec ow_dm_X16_handle ({ frames := 0, cells := 0, slots := 0, locals := 0 })).room s m args below meth c Q A (dC, dI) cX16_handle .int (St × (St)) (dw_X16 a ac) r) : dj_X16_handle_0 p l e s m args below meth c Q A dC dI a ac (df_X16_handle_0 n) r := by
  obtain ⟨hlt, hx, hb, hml, hown, hts, hN, hA, hK⟩ := id C
  intro v0 v1 s0 H locs ls h hP hD hS hl
  unfold df_X16_handle_0 at h
  refine lv_iload_n hx hb dX16_handle_0 rfl (lv_at hl 1 rfl) ?_
  refine lv_iconst (v := 1) hx hb dX16_handle_1 (by decide) ?_
  refine lv_icmp_lt (tgt := 17) hx hb dX16_handle_2 (by decide) (fun c1 => ?_) (fun c1 => ?_)
  · have h := nd_pos h c1
    exact (db_X16_handle_17 C K)  s0 _ _ _ h hP hD hS (lv_sub hl [] rfl)
  · have h := nd_neg h c1
    refine lv_iload_n hx hb dX16_handle_5 rfl (lv_at hl 1 rfl) ?_
    refine lv_bipush (v := 15) hx hb dX16_handle_6 (by decide) ?_
    refine lv_icmp_gt (tgt := 17) hx hb dX16_handle_8 (by decide) (fun c2 => ?_) (fun c2 => ?_)
    · have h := nd_pos h c2
      exact (db_X16_handle_17 C K)  s0 _ _ _ h hP hD hS (lv_sub hl [] rfl)
    · have h := nd_neg h c2
      refine lv_iload_n hx hb dX16_handle_11 rfl (lv_at hl 1 rfl) ?_
      refine lv_bipush (v := 9) hx hb dX16_handle_12 (by decide) ?_
      refine lv_icmp_ne (tgt := 20) hx hb dX16_handle_14 (by decide) (fun c3 => ?_) (fun c3 => ?_)
      · have h := nd_neg h c3
        refine lv_aload_n hx hb dX16_handle_20 rfl (lv_at hl 0 rfl) ?_
        refine va_get (D := (dC, dI)) (ci := 17) (v := .ref (a 15)) (C := RX16) (T := TX16) (N := 56) hx hb hts hi_dm_X16_handle_X16 hown hK hP 0 rfl rfl 23 (by decide) (hts (.fieldLink RX16 54 "TimeMachineModel$Machine" "handler" "[I") (List.mem_of_getElem? (i := 1) rfl)) (fun _ h9 => h9) rfl dX16_handle_21 ?_
        refine lv_bipush (v := 16) hx hb dX16_handle_24 (by decide) ?_
        refine lv_aload_n hx hb dX16_handle_26 rfl (lv_at hl 0 rfl) ?_
        refine va_get (D := (dC, dI)) (ci := 17) (v := .int (sI s0.1 12)) (C := RX16) (T := TX16) (N := 56) hx hb hts hi_dm_X16_handle_X16 hown hK hP 0 rfl rfl 51 (by decide) (hts (.fieldLink RX16 232 "TimeMachineModel$Machine" "p" "I") (List.mem_of_getElem? (i := 2) rfl)) (fun _ h9 => h9) rfl dX16_handle_27 ?_
        refine lv_imul hx hb dX16_handle_30 ?_
        refine lv_iload_n hx hb dX16_handle_31 rfl (lv_at hl 1 rfl) ?_
        refine lv_iadd hx hb dX16_handle_32 ?_
        obtain ⟨i4, h⟩ := nd_ck_e h
        refine va_iald (i := ((16 * (sI s0.1 12)) + v0)) hx hb hK hP 15 14 rfl rfl i4 dX16_handle_33 ?_
        refine lv_topi (fun z5 ez5 => ?_)
        have h := nd_at h ez5
        refine lv_istore_n (lv' := [(3, .int z5), (0, .ref (a 0)), (1, .int v0), (2, .int v1)]) hx hb dX16_handle_34 rfl hl (by decide) rfl (fun ls hl => ?_)
        refine lv_aload_n hx hb dX16_handle_35 rfl (lv_at hl 1 rfl) ?_
        refine va_get (D := (dC, dI)) (ci := 17) (v := .ref (a 15)) (C := RX16) (T := TX16) (N := 56) hx hb hts hi_dm_X16_handle_X16 hown hK hP 0 rfl rfl 23 (by decide) (hts (.fieldLink RX16 54 "TimeMachineModel$Machine" "handler" "[I") (List.mem_of_getElem? (i := 1) rfl)) (fun _ h9 => h9) rfl dX16_handle_36 ?_
        refine lv_bipush (v := 16) hx hb dX16_handle_39 (by decide) ?_
        refine lv_aload_n hx hb dX16_handle_41 rfl (lv_at hl 1 rfl) ?_
        refine va_get (D := (dC, dI)) (ci := 17) (v := .int (sI s0.1 12)) (C := RX16) (T := TX16) (N := 56) hx hb hts hi_dm_X16_handle_X16 hown hK hP 0 rfl rfl 51 (by decide) (hts (.fieldLink RX16 232 "TimeMachineModel$Machine" "p" "I") (List.mem_of_getElem? (i := 2) rfl)) (fun _ h9 => h9) rfl dX16_handle_42 ?_
        refine lv_imul hx hb dX16_handle_45 ?_
        refine lv_iload_n hx hb dX16_handle_46 rfl (lv_at hl 2 rfl) ?_
        refine lv_iadd hx hb dX16_handle_47 ?_
        refine lv_iload_n hx hb dX16_handle_48 rfl (lv_at hl 3 rfl) ?_
        obtain ⟨i6, h⟩ := nd_ck_e h
        refine va_iast (i := ((16 * (sI s0.1 12)) + v0)) (x := v1) hx hb hK hP hD hS 15 14 rfl rfl i6 dX16_handle_49 (fun H locs hP hD hS => ?_)
        obtain ⟨s7, es7, h⟩ := nd_let_e h
        have hP : va_P (dC, dI) vwCl (dw_X16 a ac s7) H := by rw [es7]; exact hP
        have hD : va_D A (dw_X16 a ac s7) := by rw [es7]; exact hD
        refine lv_iload_n hx hb dX16_handle_50 rfl (lv_at hl 0 rfl) ?_
        exact K _ _ _ _ _ _ dX16_handle_51 rfl (Option.some.inj h).symm hP hD hS
      · have h := nd_pos h c3
        exact (db_X16_handle_17 C K)  s0 _ _ _ h hP hD hS (lv_sub hl [] rfl)
set_option maxHeartbeats 40000000 in
set_option maxRecDepth 100000 in
theorem dm_X16_handle (l : Launch) (hlt : l.stackTraces = false) (dC : Nat → ClassId) (dI : Nat → Nat → Nat) (a : Nat → Nat) (ac : Nat → ClassId) (n : Nat) (v0 : Int32) (v1 : Int32) (s0 : St × (St)) {r : Int32 × (St × (St))} (h : df_X16_handle n v0 v1 s0 = some r) (sz : Nat) : Met l yX16_handle ow_dm_X16_handle ({ frames := 0, cells := 0, slots := 0, locals := 0 }) (va_Pc [.ref (a 0), .int v0, .int v1] (fun U => U.heap.size = sz ∧ va_P (dC, dI) vwCl (dw_X16 a ac s0) U.heap ∧ va_K (dC, dI) vwCl (dk_X16 ac) U ∧ va_D (fun _ => True) (dw_X16 a ac s0) ∧ nv_E (va_A (dw_X16 a ac s0) sz) U)) (va_Qi (fun x _ => x = r.1) (fun (_ : Unit) t => va_P (dC, dI) vwCl (dw_X16 a ac r.2) t.heap ∧ va_K (dC, dI) vwCl (dk_X16 ac) t ∧ va_D (va_A (dw_X16 a ac s0) sz) (dw_X16 a ac r.2)) (va_A (dw_X16 a ac s0) sz)) 0 0 (va_A (dw_X16 a ac s0) sz) := by
  refine Met.ofW (cc := cX16_handle) (maxL := 4) (ret := (some .int)) (by decide) rfl ?_
  intro p e s m args below meth c s₁ B hml hv
  obtain ⟨rfl, hsz, hP, hK, hD0, hN⟩ := hv
  have hx := B.exec
  have hb := B.bytes
  have hr := B.returns
  have hts := atoms_spec (ws := ow_dm_X16_handle) B.pre
  have hown : s.vm.findClass RX16 = some m.cls := findClass_of_methodNamed B.named
  have hlocks := B.notSynchronized
  subst hsz
  have hD := hD0.self (sz := s.heap.size)
  generalize hAe : va_A (dw_X16 a ac s0) s.heap.size = A at hD hN ⊢
  have hA : ∀ q : Nat, s.heap.size ≤ q → A q := fun q h => by rw [← hAe]; exact Or.inr h
  have hl := lv_entry ([.ref (a 0), .int v0, .int v1]) (n := 4) (Nat.le_of_ble_eq_true rfl)
  rw [lg_entry_eq]
  generalize (lg_sl ([.ref (a 0), .int v0, .int v1]) ++ List.replicate (4 - (lg_sl ([.ref (a 0), .int v0, .int v1])).length) Slot.unset).toArray = ls at hl ⊢
  have hl : lv_has ls 4 [(0, .ref (a 0)), (1, .int v0), (2, .int v1)] := hl
  exact db_X16_handle_0 (dC := dC) (dI := dI) (a := a) (ac := ac) (n := n) (r := r) ⟨hlt, hx, hb, hml, hown, hts, hN, hA, hK⟩ (fun pc v τ H locs ls d z er hP hD hS => by subst er; exact W.zret (v := v) hx hb hr z (fun t ht hW => ⟨⟨v, (), rfl, rfl, by rw [ht]; exact hP, va_K.moved hW.alike hK, hD⟩, hS.F ht⟩) hS.2.2 d) v0 v1 s0 _ _ _ h hP hD va_S.rf (lv_sub hl [0, 1, 2] rfl)
def ow_dm_X16_back : List Cond := .code yX16_back cX16_back 2 (some .int) :: ([.fieldLink RX16 34 "TimeMachineModel$Machine" "within" "[Z", .fieldLink RX16 232 "TimeMachineModel$Machine" "p" "I", .fieldLink RX16 45 "TimeMachineModel$Machine" "place" "[I", .fieldLink RX16 51 "TimeMachineModel$Machine" "savedPlace" "[I", .methodLink RX16 415 yX16_tell, .instanceMethod yX16_tell, .selects RX16 yX16_tell yX16_tell, .initialized RX16, .fieldLink RX16 42 "TimeMachineModel$Machine" "x" "[I", .fieldLink RX16 48 "TimeMachineModel$Machine" "saved" "[I"] ++ (u_ws RX16 TX16 56 ++ (ow_dm_X16_tell ++ [])))
theorem gd_dm_X16_back : ∀ w ∈ ow_dm_X16_back, (w.onTables && w.keeps) = true ∨ ∃ ty, w = Cond.arrayClass ty := List.forall_mem_cons.mpr ⟨good_of_word rfl, List.forall_mem_append.mpr ⟨fun w h => good_of_word (List.all_eq_true.mp (by decide +kernel) w h), List.forall_mem_append.mpr ⟨gu_X16, List.forall_mem_append.mpr ⟨gd_dm_X16_tell, fun _ h => nomatch h⟩⟩⟩⟩
theorem hi_dm_X16_back_X16 : ∀ w ∈ u_ws RX16 TX16 56, w ∈ ow_dm_X16_back := fun w h => List.mem_cons_of_mem _ (List.mem_append_right _ (List.mem_append_left _ h))
theorem gi_dm_X16_back_0 : GoodIn ow_dm_X16_back (wsV RX16 415 RX16 yX16_tell ow_dm_X16_tell) := goodIn_app (goodIn_of _ (by decide +kernel)) (fun w h => ⟨List.mem_cons_of_mem _ (List.mem_append_right _ (List.mem_append_right _ (List.mem_append_left _ h))), gd_dm_X16_tell w h⟩)
def dj_X16_back_17 (p : Program) (l : Launch) (e : Env) (s : State) (m : MethodId) (args : Array Value) (below : List Frame) (meth : Method) (c : Code) (Q : State → Prop) (A : Nat → Prop) (dC : Nat → ClassId) (dI : Nat → Nat → Nat) (a : Nat → Nat) (ac : Nat → ClassId) (g : Int32 → (St × (St)) → Option (Int32 × (St × (St)))) (r : Int32 × (St × (St))) : Prop := ∀ (x1 : Int32) (s0 : St × (St)) (H : Heap) (locs : List Loc) (ls : Array Slot), g x1 s0 = some r → va_P (dC, dI) vwCl (dw_X16 a ac s0) H → va_D A (dw_X16 a ac s0) → va_S A s.heap H locs → lv_has ls 2 [(0, .ref (a 0)), (1, .int x1)] → W p l e (headSpec ow_dm_X16_back ({ frames := 1, cells := 0, slots := 0, locals := 21 })).room s m args below meth c H locs 0 0 Q (F0 m 17 ls [])
def dj_X16_back_0 (p : Program) (l : Launch) (e : Env) (s : State) (m : MethodId) (args : Array Value) (below : List Frame) (meth : Method) (c : Code) (Q : State → Prop) (A : Nat → Prop) (dC : Nat → ClassId) (dI : Nat → Nat → Nat) (a : Nat → Nat) (ac : Nat → ClassId) (g : (St × (St)) → Option (Int32 × (St × (St)))) (r : Int32 × (St × (St))) : Prop := ∀ (s0 : St × (St)) (H : Heap) (locs : List Loc) (ls : Array Slot), g s0 = some r → va_P (dC, dI) vwCl (dw_X16 a ac s0) H → va_D A (dw_X16 a ac s0) → va_S A s.heap H locs → lv_has ls 2 [(0, .ref (a 0))] → W p l e (headSpec ow_dm_X16_back ({ frames := 1, cells := 0, slots := 0, locals := 21 })).room s m args below meth c H locs 0 0 Q (F0 m 0 ls [])
set_option maxHeartbeats 40000000 in
set_option maxRecDepth 100000 in
theorem dB_X16_back_17 {p : Program} {l : Launch} {e : Env} {s : State} {m : MethodId} {args : Array Value} {below : List Frame} {meth : Method} {c : Code} {Q : State → Prop} {A : Nat → Prop} {dC : Nat → ClassId} {dI : Nat → Nat → Nat} {a : Nat → Nat} {ac : Nat → ClassId} {n : Nat} {r : Int32 × (St × (St))} (C : nd_C p l s m args c A (dC, dI) cX16_back 2 RX16 ow_dm_X16_back (dk_X16 ac)) (K : nd_Ki p l e (headSpec ow_dm_X16_back ({ frames := 1, cells := 0, slots := 0, locals := 21 })).room s m args below meth c Q A (dC, dI) cX16_back .int (St × (St)) (dw_X16 a ac) r) {g17 : Int32 → (St × (St)) → Option (Int32 × (St × (St)))} (J17 : dj_X16_back_17 p l e s m args below meth c Q A dC dI a ac g17 r) : dj_X16_back_17 p l e s m args below meth c Q A dC dI a ac (dF_X16_back_17 n g17) r := by
  obtain ⟨hlt, hx, hb, hml, hown, hts, hN, hA, hK⟩ := id C
  intro x1 s0 H locs ls h hP hD hS hl
  unfold dF_X16_back_17 at h
  refine lv_iload_n hx hb dX16_back_17 rfl (lv_at hl 1 rfl) ?_
  refine lv_bipush (v := 32) hx hb dX16_back_18 (by decide) ?_
  refine lv_icmp_ge (tgt := 57) hx hb dX16_back_20 (by decide) (fun c3 => ?_) (fun c3 => ?_)
  · have h := nd_pos h c3
    refine lv_aload_n hx hb dX16_back_57 rfl (lv_at hl 0 rfl) ?_
    refine va_get (D := (dC, dI)) (ci := 17) (v := .ref (a 12)) (C := RX16) (T := TX16) (N := 56) hx hb hts hi_dm_X16_back_X16 hown hK hP 0 rfl rfl 20 (by decide) (hts (.fieldLink RX16 45 "TimeMachineModel$Machine" "place" "[I") (List.mem_of_getElem? (i := 3) rfl)) (fun _ h9 => h9) rfl dX16_back_58 ?_
    refine lv_aload_n hx hb dX16_back_61 rfl (lv_at hl 0 rfl) ?_
    refine va_get (D := (dC, dI)) (ci := 17) (v := .int (sI s0.1 12)) (C := RX16) (T := TX16) (N := 56) hx hb hts hi_dm_X16_back_X16 hown hK hP 0 rfl rfl 51 (by decide) (hts (.fieldLink RX16 232 "TimeMachineModel$Machine" "p" "I") (List.mem_of_getElem? (i := 2) rfl)) (fun _ h9 => h9) rfl dX16_back_62 ?_
    refine lv_aload_n hx hb dX16_back_65 rfl (lv_at hl 0 rfl) ?_
    refine va_get (D := (dC, dI)) (ci := 17) (v := .ref (a 14)) (C := RX16) (T := TX16) (N := 56) hx hb hts hi_dm_X16_back_X16 hown hK hP 0 rfl rfl 22 (by decide) (hts (.fieldLink RX16 51 "TimeMachineModel$Machine" "savedPlace" "[I") (List.mem_of_getElem? (i := 4) rfl)) (fun _ h9 => h9) rfl dX16_back_66 ?_
    refine lv_aload_n hx hb dX16_back_69 rfl (lv_at hl 0 rfl) ?_
    refine va_get (D := (dC, dI)) (ci := 17) (v := .int (sI s0.1 12)) (C := RX16) (T := TX16) (N := 56) hx hb hts hi_dm_X16_back_X16 hown hK hP 0 rfl rfl 51 (by decide) (hts (.fieldLink RX16 232 "TimeMachineModel$Machine" "p" "I") (List.mem_of_getElem? (i := 2) rfl)) (fun _ h9 => h9) rfl dX16_back_70 ?_
    obtain ⟨i4, h⟩ := nd_ck_e h
    refine va_iald (i := (sI s0.1 12)) hx hb hK hP 14 13 rfl rfl i4 dX16_back_73 ?_
    obtain ⟨i5, h⟩ := nd_ck_e h
    refine va_iast (i := (sI s0.1 12)) (x := (sR s0.1 12 (Int32.toNatClampNeg (sI s0.1 12)))) hx hb hK hP hD hS 12 11 rfl rfl i5 dX16_back_74 (fun H locs hP hD hS => ?_)
    obtain ⟨s6, es6, h⟩ := nd_let_e h
    have hP : va_P (dC, dI) vwCl (dw_X16 a ac s6) H := by rw [es6]; exact hP
    have hD : va_D A (dw_X16 a ac s6) := by rw [es6]; exact hD
    refine lv_aload_n hx hb dX16_back_75 rfl (lv_at hl 0 rfl) ?_
    refine va_get (D := (dC, dI)) (ci := 17) (v := .ref (a 9)) (C := RX16) (T := TX16) (N := 56) hx hb hts hi_dm_X16_back_X16 hown hK hP 0 rfl rfl 17 (by decide) (hts (.fieldLink RX16 34 "TimeMachineModel$Machine" "within" "[Z") (List.mem_of_getElem? (i := 1) rfl)) (fun _ h9 => h9) rfl dX16_back_76 ?_
    refine lv_aload_n hx hb dX16_back_79 rfl (lv_at hl 0 rfl) ?_
    refine va_get (D := (dC, dI)) (ci := 17) (v := .int (sI s6.1 12)) (C := RX16) (T := TX16) (N := 56) hx hb hts hi_dm_X16_back_X16 hown hK hP 0 rfl rfl 51 (by decide) (hts (.fieldLink RX16 232 "TimeMachineModel$Machine" "p" "I") (List.mem_of_getElem? (i := 2) rfl)) (fun _ h9 => h9) rfl dX16_back_80 ?_
    refine lv_iconst (v := 0) hx hb dX16_back_83 (by decide) ?_
    obtain ⟨i7, h⟩ := nd_ck_e h
    refine va_zast (i := (sI s6.1 12)) (x := 0) hx hb hK hP hD hS 9 8 rfl rfl i7 dX16_back_84 (fun H locs hP hD hS => ?_)
    obtain ⟨s8, es8, h⟩ := nd_let_e h
    have hP : va_P (dC, dI) vwCl (dw_X16 a ac s8) H := by rw [es8]; exact hP
    have hD : va_D A (dw_X16 a ac s8) := by rw [es8]; exact hD
    refine lv_aload_n hx hb dX16_back_85 rfl (lv_at hl 0 rfl) ?_
    refine lv_iconst (v := 2) hx hb dX16_back_86 (by decide) ?_
    obtain ⟨q9, s10, hq, h⟩ := nd_b2_e h
    have hPc := hP
    have hDc := hD
    have hKc := hK
    have hFc := nd_rs hD hS hA
    refine nd_cVi (As := [.int 2]) (rest := []) (q := q9) (w' := dw_X16 a ac s10) ⟨hx, hb, hml, hown, hts⟩ (fun sz => dm_X16_tell l hlt dC dI a ac n (2) s8 hq sz) (cwV 1 hts gi_dm_X16_back_0 rfl rfl rfl (by decide +kernel) ⟨Nat.le_of_ble_eq_true rfl, Nat.le_of_ble_eq_true rfl⟩) hPc hDc hKc hS hA hN (va_recv hKc hPc (ci := 17) (q0 := 0) rfl rfl) rfl hl.1 rfl (Nat.le_of_ble_eq_true rfl) dX16_back_87 (fun H locs hP1 hD1 hk1 hS => ?_)
    have hP := hP1
    have hD := hD1.weaken (fun k q _ h => hFc q.1 h)
    exact K _ _ _ _ _ _ dX16_back_90 rfl (Option.some.inj h).symm hP hD hS
  · have h := nd_neg h c3
    refine lv_aload_n hx hb dX16_back_23 rfl (lv_at hl 0 rfl) ?_
    refine va_get (D := (dC, dI)) (ci := 17) (v := .ref (a 11)) (C := RX16) (T := TX16) (N := 56) hx hb hts hi_dm_X16_back_X16 hown hK hP 0 rfl rfl 19 (by decide) (hts (.fieldLink RX16 42 "TimeMachineModel$Machine" "x" "[I") (List.mem_of_getElem? (i := 9) rfl)) (fun _ h9 => h9) rfl dX16_back_24 ?_
    refine lv_bipush (v := 32) hx hb dX16_back_27 (by decide) ?_
    refine lv_aload_n hx hb dX16_back_29 rfl (lv_at hl 0 rfl) ?_
    refine va_get (D := (dC, dI)) (ci := 17) (v := .int (sI s0.1 12)) (C := RX16) (T := TX16) (N := 56) hx hb hts hi_dm_X16_back_X16 hown hK hP 0 rfl rfl 51 (by decide) (hts (.fieldLink RX16 232 "TimeMachineModel$Machine" "p" "I") (List.mem_of_getElem? (i := 2) rfl)) (fun _ h9 => h9) rfl dX16_back_30 ?_
    refine lv_imul hx hb dX16_back_33 ?_
    refine lv_iload_n hx hb dX16_back_34 rfl (lv_at hl 1 rfl) ?_
    refine lv_iadd hx hb dX16_back_35 ?_
    refine lv_aload_n hx hb dX16_back_36 rfl (lv_at hl 0 rfl) ?_
    refine va_get (D := (dC, dI)) (ci := 17) (v := .ref (a 13)) (C := RX16) (T := TX16) (N := 56) hx hb hts hi_dm_X16_back_X16 hown hK hP 0 rfl rfl 21 (by decide) (hts (.fieldLink RX16 48 "TimeMachineModel$Machine" "saved" "[I") (List.mem_of_getElem? (i := 10) rfl)) (fun _ h9 => h9) rfl dX16_back_37 ?_
    refine lv_bipush (v := 32) hx hb dX16_back_40 (by decide) ?_
    refine lv_aload_n hx hb dX16_back_42 rfl (lv_at hl 0 rfl) ?_
    refine va_get (D := (dC, dI)) (ci := 17) (v := .int (sI s0.1 12)) (C := RX16) (T := TX16) (N := 56) hx hb hts hi_dm_X16_back_X16 hown hK hP 0 rfl rfl 51 (by decide) (hts (.fieldLink RX16 232 "TimeMachineModel$Machine" "p" "I") (List.mem_of_getElem? (i := 2) rfl)) (fun _ h9 => h9) rfl dX16_back_43 ?_
    refine lv_imul hx hb dX16_back_46 ?_
    refine lv_iload_n hx hb dX16_back_47 rfl (lv_at hl 1 rfl) ?_
    refine lv_iadd hx hb dX16_back_48 ?_
    obtain ⟨i12, h⟩ := nd_ck_e h
    refine va_iald (i := ((32 * (sI s0.1 12)) + x1)) hx hb hK hP 13 12 rfl rfl i12 dX16_back_49 ?_
    obtain ⟨i13, h⟩ := nd_ck_e h
    refine va_iast (i := ((32 * (sI s0.1 12)) + x1)) (x := (sR s0.1 11 (Int32.toNatClampNeg ((32 * (sI s0.1 12)) + x1)))) hx hb hK hP hD hS 11 10 rfl rfl i13 dX16_back_50 (fun H locs hP hD hS => ?_)
    obtain ⟨s14, es14, h⟩ := nd_let_e h
    have hP : va_P (dC, dI) vwCl (dw_X16 a ac s14) H := by rw [es14]; exact hP
    have hD : va_D A (dw_X16 a ac s14) := by rw [es14]; exact hD
    obtain ⟨z15, ez15, h⟩ := nd_let_e h
    refine lv_iinc (v := z15) (lv' := [(1, .int z15), (0, .ref (a 0))]) hx hb dX16_back_51 hl (k := 1) rfl (by rw [ez15]) (by decide) rfl (fun ls hl => ?_)
    refine lv_goto (tgt := 17) hx hb dX16_back_54 (by decide) ?_
    exact (J17) (z15) s14 _ _ _ h hP hD hS (lv_sub hl [1, 0] rfl)
set_option maxHeartbeats 40000000 in
set_option maxRecDepth 100000 in
theorem db_X16_back_17 {p : Program} {l : Launch} {e : Env} {s : State} {m : MethodId} {args : Array Value} {below : List Frame} {meth : Method} {c : Code} {Q : State → Prop} {A : Nat → Prop} {dC : Nat → ClassId} {dI : Nat → Nat → Nat} {a : Nat → Nat} {ac : Nat → ClassId} {n : Nat} {r : Int32 × (St × (St))} (C : nd_C p l s m args c A (dC, dI) cX16_back 2 RX16 ow_dm_X16_back (dk_X16 ac)) (K : nd_Ki p l e (headSpec ow_dm_X16_back ({ frames := 1, cells := 0, slots := 0, locals := 21 })).room s m args below meth c Q A (dC, dI) cX16_back .int (St × (St)) (dw_X16 a ac) r) (k : Nat) : dj_X16_back_17 p l e s m args below meth c Q A dC dI a ac (df_X16_back_17 n k) r := by
  induction k with
  | zero => intro x1 s0 H locs ls h; exact nomatch (show (none : Option (Int32 × (St × (St)))) = some r from h)
  | succ k ih => exact dB_X16_back_17 C K ih
set_option maxHeartbeats 40000000 in
set_option maxRecDepth 100000 in
theorem db_X16_back_0 {p : Program} {l : Launch} {e : Env} {s : State} {m : MethodId} {args : Array Value} {below : List Frame} {meth : Method} {c : Code} {Q : State → Prop} {A : Nat → Prop} {dC : Nat → ClassId} {dI : Nat → Nat → Nat} {a : Nat → Nat} {ac : Nat → ClassId} {n : Nat} {r : Int32 × (St × (St))} (C : nd_C p l s m args c A (dC, dI) cX16_back 2 RX16 ow_dm_X16_back (dk_X16 ac)) (K : nd_Ki p l e (headSpec ow_dm_X16_back ({ frames := 1, cells := 0, slots := 0, locals := 21 })).room s m args below meth c Q A (dC, dI) cX16_back .int (St × (St)) (dw_X16 a ac) r) : dj_X16_back_0 p l e s m args below meth c Q A dC dI a ac (df_X16_back_0 n) r := by
  obtain ⟨hlt, hx, hb, hml, hown, hts, hN, hA, hK⟩ := id C
  intro s0 H locs ls h hP hD hS hl
  unfold df_X16_back_0 at h
  refine lv_aload_n hx hb dX16_back_0 rfl (lv_at hl 0 rfl) ?_
  refine va_get (D := (dC, dI)) (ci := 17) (v := .ref (a 9)) (C := RX16) (T := TX16) (N := 56) hx hb hts hi_dm_X16_back_X16 hown hK hP 0 rfl rfl 17 (by decide) (hts (.fieldLink RX16 34 "TimeMachineModel$Machine" "within" "[Z") (List.mem_of_getElem? (i := 1) rfl)) (fun _ h9 => h9) rfl dX16_back_1 ?_
  refine lv_aload_n hx hb dX16_back_4 rfl (lv_at hl 0 rfl) ?_
  refine va_get (D := (dC, dI)) (ci := 17) (v := .int (sI s0.1 12)) (C := RX16) (T := TX16) (N := 56) hx hb hts hi_dm_X16_back_X16 hown hK hP 0 rfl rfl 51 (by decide) (hts (.fieldLink RX16 232 "TimeMachineModel$Machine" "p" "I") (List.mem_of_getElem? (i := 2) rfl)) (fun _ h9 => h9) rfl dX16_back_5 ?_
  obtain ⟨i1, h⟩ := nd_ck_e h
  refine va_zald (i := (sI s0.1 12)) hx hb hK hP 9 8 rfl rfl i1 dX16_back_8 ?_
  refine lv_if_ne (tgt := 15) hx hb dX16_back_9 (by decide) (fun c2 => ?_) (fun c2 => ?_)
  · have h := nd_neg h c2
    refine lv_iconst (v := 0) hx hb dX16_back_15 (by decide) ?_
    refine lv_istore_n (lv' := [(1, .int 0), (0, .ref (a 0))]) hx hb dX16_back_16 rfl hl (by decide) rfl (fun ls hl => ?_)
    exact (db_X16_back_17 C K n) (0) s0 _ _ _ h hP hD hS (lv_sub hl [1, 0] rfl)
  · have h := nd_pos h c2
    refine lv_bipush (v := (-22)) hx hb dX16_back_12 (by decide) ?_
    exact K _ _ _ _ _ _ dX16_back_14 rfl (Option.some.inj h).symm hP hD hS
set_option maxHeartbeats 40000000 in
set_option maxRecDepth 100000 in
theorem dm_X16_back (l : Launch) (hlt : l.stackTraces = false) (dC : Nat → ClassId) (dI : Nat → Nat → Nat) (a : Nat → Nat) (ac : Nat → ClassId) (n : Nat) (s0 : St × (St)) {r : Int32 × (St × (St))} (h : df_X16_back n s0 = some r) (sz : Nat) : Met l yX16_back ow_dm_X16_back ({ frames := 1, cells := 0, slots := 0, locals := 21 }) (va_Pc [.ref (a 0)] (fun U => U.heap.size = sz ∧ va_P (dC, dI) vwCl (dw_X16 a ac s0) U.heap ∧ va_K (dC, dI) vwCl (dk_X16 ac) U ∧ va_D (fun _ => True) (dw_X16 a ac s0) ∧ nv_E (va_A (dw_X16 a ac s0) sz) U)) (va_Qi (fun x _ => x = r.1) (fun (_ : Unit) t => va_P (dC, dI) vwCl (dw_X16 a ac r.2) t.heap ∧ va_K (dC, dI) vwCl (dk_X16 ac) t ∧ va_D (va_A (dw_X16 a ac s0) sz) (dw_X16 a ac r.2)) (va_A (dw_X16 a ac s0) sz)) 0 0 (va_A (dw_X16 a ac s0) sz) := by
  refine Met.ofW (cc := cX16_back) (maxL := 2) (ret := (some .int)) (by decide) rfl ?_
  intro p e s m args below meth c s₁ B hml hv
  obtain ⟨rfl, hsz, hP, hK, hD0, hN⟩ := hv
  have hx := B.exec
  have hb := B.bytes
  have hr := B.returns
  have hts := atoms_spec (ws := ow_dm_X16_back) B.pre
  have hown : s.vm.findClass RX16 = some m.cls := findClass_of_methodNamed B.named
  have hlocks := B.notSynchronized
  subst hsz
  have hD := hD0.self (sz := s.heap.size)
  generalize hAe : va_A (dw_X16 a ac s0) s.heap.size = A at hD hN ⊢
  have hA : ∀ q : Nat, s.heap.size ≤ q → A q := fun q h => by rw [← hAe]; exact Or.inr h
  have hl := lv_entry ([.ref (a 0)]) (n := 2) (Nat.le_of_ble_eq_true rfl)
  rw [lg_entry_eq]
  generalize (lg_sl ([.ref (a 0)]) ++ List.replicate (2 - (lg_sl ([.ref (a 0)])).length) Slot.unset).toArray = ls at hl ⊢
  have hl : lv_has ls 2 [(0, .ref (a 0))] := hl
  exact db_X16_back_0 (dC := dC) (dI := dI) (a := a) (ac := ac) (n := n) (r := r) ⟨hlt, hx, hb, hml, hown, hts, hN, hA, hK⟩ (fun pc v τ H locs ls d z er hP hD hS => by subst er; exact W.zret (v := v) hx hb hr z (fun t ht hW => ⟨⟨v, (), rfl, rfl, by rw [ht]; exact hP, va_K.moved hW.alike hK, hD⟩, hS.F ht⟩) hS.2.2 d) s0 _ _ _ h hP hD va_S.rf (lv_sub hl [0] rfl)
