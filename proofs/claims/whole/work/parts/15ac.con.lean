def ow_dm_X16_leaveAll : List Cond := .code yX16_leaveAll cX16_leaveAll 3 none :: ([.methodLink RX16 211 yX16_leave, .instanceMethod yX16_leave, .selects RX16 yX16_leave yX16_leave, .initialized RX16] ++ (ow_dm_X16_leave ++ []))
theorem gd_dm_X16_leaveAll : ∀ w ∈ ow_dm_X16_leaveAll, (w.onTables && w.keeps) = true ∨ ∃ ty, w = Cond.arrayClass ty := List.forall_mem_cons.mpr ⟨good_of_word rfl, List.forall_mem_append.mpr ⟨fun w h => good_of_word (List.all_eq_true.mp (by decide +kernel) w h), List.forall_mem_append.mpr ⟨gd_dm_X16_leave, fun _ h => nomatch h⟩⟩⟩
theorem gi_dm_X16_leaveAll_0 : GoodIn ow_dm_X16_leaveAll (wsV RX16 211 RX16 yX16_leave ow_dm_X16_leave) := goodIn_app (goodIn_of _ (by decide +kernel)) (fun w h => ⟨List.mem_cons_of_mem _ (List.mem_append_right _ (List.mem_append_left _ h)), gd_dm_X16_leave w h⟩)
def dj_X16_leaveAll_2 (p : Program) (l : Launch) (e : Env) (s : State) (m : MethodId) (args : Array Value) (below : List Frame) (meth : Method) (c : Code) (Q : State → Prop) (A : Nat → Prop) (dC : Nat → ClassId) (dI : Nat → Nat → Nat) (a : Nat → Nat) (ac : Nat → ClassId) (g : Int32 → Int32 → (St × (St)) → Option (St × (St))) (r : St × (St)) : Prop := ∀ (x1 : Int32) (x2 : Int32) (s0 : St × (St)) (H : Heap) (locs : List Loc) (ls : Array Slot), g x1 x2 s0 = some r → va_P (dC, dI) vwCl (dw_X16 a ac s0) H → va_D A (dw_X16 a ac s0) → va_S A s.heap H locs → lv_has ls 3 [(0, .ref (a 0)), (1, .int x1), (2, .int x2)] → W p l e (headSpec ow_dm_X16_leaveAll ({ frames := 1, cells := 0, slots := 0, locals := 22 })).room s m args below meth c H locs 0 0 Q (F0 m 2 ls [])
def dj_X16_leaveAll_0 (p : Program) (l : Launch) (e : Env) (s : State) (m : MethodId) (args : Array Value) (below : List Frame) (meth : Method) (c : Code) (Q : State → Prop) (A : Nat → Prop) (dC : Nat → ClassId) (dI : Nat → Nat → Nat) (a : Nat → Nat) (ac : Nat → ClassId) (g : Int32 → (St × (St)) → Option (St × (St))) (r : St × (St)) : Prop := ∀ (v0 : Int32) (s0 : St × (St)) (H : Heap) (locs : List Loc) (ls : Array Slot), g v0 s0 = some r → va_P (dC, dI) vwCl (dw_X16 a ac s0) H → va_D A (dw_X16 a ac s0) → va_S A s.heap H locs → lv_has ls 3 [(0, .ref (a 0)), (1, .int v0)] → W p l e (headSpec ow_dm_X16_leaveAll ({ frames := 1, cells := 0, slots := 0, locals := 22 })).room s m args below meth c H locs 0 0 Q (F0 m 0 ls [])
set_option maxHeartbeats 40000000 in
set_option maxRecDepth 100000 in
theorem dB_X16_leaveAll_2 {p : Program} {l : Launch} {e : Env} {s : State} {m : MethodId} {args : Array Value} {below : List Frame} {meth : Method} {c : Code} {Q : State → Prop} {A : Nat → Prop} {dC : Nat → ClassId} {dI : Nat → Nat → Nat} {a : Nat → Nat} {ac : Nat → ClassId} {n : Nat} {r : St × (St)} (C : nd_C p l s m args c A (dC, dI) cX16_leaveAll 3 RX16 ow_dm_X16_leaveAll (dk_X16 ac)) (K : nd_Kv p l e (headSpec ow_dm_X16_leaveAll ({ frames := 1, cells := 0, slots := 0, locals := 22 })).room s m args below meth c Q A (dC, dI) cX16_leaveAll (St × (St)) (dw_X16 a ac) r) {g2 : Int32 → Int32 → (St × (St)) → Option (St × (St))} (J2 : dj_X16_leaveAll_2 p l e s m args below meth c Q A dC dI a ac g2 r) : dj_X16_leaveAll_2 p l e s m args below meth c Q A dC dI a ac (dF_X16_leaveAll_2 n g2) r := by
  obtain ⟨hlt, hx, hb, hml, hown, hts, hN, hA, hK⟩ := id C
  intro x1 x2 s0 H locs ls h hP hD hS hl
  unfold dF_X16_leaveAll_2 at h
  refine lv_iload_n hx hb dX16_leaveAll_2 rfl (lv_at hl 2 rfl) ?_
  refine lv_bipush (v := 64) hx hb dX16_leaveAll_3 (by decide) ?_
  refine lv_icmp_ge (tgt := 24) hx hb dX16_leaveAll_5 (by decide) (fun c1 => ?_) (fun c1 => ?_)
  · have h := nd_pos h c1
    exact K _ _ _ _ _ dX16_leaveAll_24 (Option.some.inj h).symm hP hD hS
  · have h := nd_neg h c1
    refine lv_aload_n hx hb dX16_leaveAll_8 rfl (lv_at hl 0 rfl) ?_
    refine lv_bipush (v := 64) hx hb dX16_leaveAll_9 (by decide) ?_
    refine lv_iload_n hx hb dX16_leaveAll_11 rfl (lv_at hl 1 rfl) ?_
    refine lv_imul hx hb dX16_leaveAll_12 ?_
    refine lv_iload_n hx hb dX16_leaveAll_13 rfl (lv_at hl 2 rfl) ?_
    refine lv_iadd hx hb dX16_leaveAll_14 ?_
    obtain ⟨s3, hq, h⟩ := nd_b1_e h
    have hPc := hP
    have hDc := hD
    have hKc := hK
    have hFc := nd_rs hD hS hA
    refine nd_cVv (As := [.int ((64 * x1) + x2)]) (rest := []) (w' := dw_X16 a ac s3) ⟨hx, hb, hml, hown, hts⟩ (fun sz => dm_X16_leave l hlt dC dI a ac n (((64 * x1) + x2)) s0 hq sz) (cwV 1 hts gi_dm_X16_leaveAll_0 rfl rfl rfl (by decide +kernel) ⟨Nat.le_of_ble_eq_true rfl, Nat.le_of_ble_eq_true rfl⟩) hPc hDc hKc hS hA hN (va_recv hKc hPc (ci := 17) (q0 := 0) rfl rfl) rfl hl.1 rfl (Nat.le_of_ble_eq_true rfl) dX16_leaveAll_15 (fun H locs hP1 hD1 hk1 hS => ?_)
    have hP := hP1
    have hD := hD1.weaken (fun k q _ h => hFc q.1 h)
    obtain ⟨z5, ez5, h⟩ := nd_let_e h
    refine lv_iinc (v := z5) (lv' := [(2, .int z5), (0, .ref (a 0)), (1, .int x1)]) hx hb dX16_leaveAll_18 hl (k := 2) rfl (by rw [ez5]) (by decide) rfl (fun ls hl => ?_)
    refine lv_goto (tgt := 2) hx hb dX16_leaveAll_21 (by decide) ?_
    exact (J2) (x1) (z5) s3 _ _ _ h hP hD hS (lv_sub hl [1, 2, 0] rfl)
set_option maxHeartbeats 40000000 in
set_option maxRecDepth 100000 in
theorem db_X16_leaveAll_2 {p : Program} {l : Launch} {e : Env} {s : State} {m : MethodId} {args : Array Value} {below : List Frame} {meth : Method} {c : Code} {Q : State → Prop} {A : Nat → Prop} {dC : Nat → ClassId} {dI : Nat → Nat → Nat} {a : Nat → Nat} {ac : Nat → ClassId} {n : Nat} {r : St × (St)} (C : nd_C p l s m args c A (dC, dI) cX16_leaveAll 3 RX16 ow_dm_X16_leaveAll (dk_X16 ac)) (K : nd_Kv p l e (headSpec ow_dm_X16_leaveAll ({ frames := 1, cells := 0, slots := 0, locals := 22 })).room s m args below meth c Q A (dC, dI) cX16_leaveAll (St × (St)) (dw_X16 a ac) r) (k : Nat) : dj_X16_leaveAll_2 p l e s m args below meth c Q A dC dI a ac (df_X16_leaveAll_2 n k) r := by
  induction k with
  | zero => intro x1 x2 s0 H locs ls h; exact nomatch (show (none : Option (St × (St))) = some r from h)
  | succ k ih => exact dB_X16_leaveAll_2 C K ih
set_option maxHeartbeats 40000000 in
set_option maxRecDepth 100000 in
theorem db_X16_leaveAll_0 {p : Program} {l : Launch} {e : Env} {s : State} {m : MethodId} {args : Array Value} {below : List Frame} {meth : Method} {c : Code} {Q : State → Prop} {A : Nat → Prop} {dC : Nat → ClassId} {dI : Nat → Nat → Nat} {a : Nat → Nat} {ac : Nat → ClassId} {n : Nat} {r : St × (St)} (C : nd_C p l s m args c A (dC, dI) cX16_leaveAll 3 RX16 ow_dm_X16_leaveAll (dk_X16 ac)) (K : nd_Kv p l e (headSpec ow_dm_X16_leaveAll ({ frames := 1, cells := 0, slots := 0, locals := 22 })).room s m args below meth c Q A (dC, dI) cX16_leaveAll (St × (St)) (dw_X16 a ac) r) : dj_X16_leaveAll_0 p l e s m args below meth c Q A dC dI a ac (df_X16_leaveAll_0 n) r := by
  obtain ⟨hlt, hx, hb, hml, hown, hts, hN, hA, hK⟩ := id C
  intro v0 s0 H locs ls h hP hD hS hl
  unfold df_X16_leaveAll_0 at h
  refine lv_iconst (v := 0) hx hb dX16_leaveAll_0 (by decide) ?_
  refine lv_istore_n (lv' := [(2, .int 0), (0, .ref (a 0)), (1, .int v0)]) hx hb dX16_leaveAll_1 rfl hl (by decide) rfl (fun ls hl => ?_)
  exact (db_X16_leaveAll_2 C K n) (v0) (0) s0 _ _ _ h hP hD hS (lv_sub hl [1, 2, 0] rfl)
set_option maxHeartbeats 40000000 in
set_option maxRecDepth 100000 in
theorem dm_X16_leaveAll (l : Launch) (hlt : l.stackTraces = false) (dC : Nat → ClassId) (dI : Nat → Nat → Nat) (a : Nat → Nat) (ac : Nat → ClassId) (n : Nat) (v0 : Int32) (s0 : St × (St)) {r : St × (St)} (h : df_X16_leaveAll n v0 s0 = some r) (sz : Nat) : Met l yX16_leaveAll ow_dm_X16_leaveAll ({ frames := 1, cells := 0, slots := 0, locals := 22 }) (va_Pc [.ref (a 0), .int v0] (fun U => U.heap.size = sz ∧ va_P (dC, dI) vwCl (dw_X16 a ac s0) U.heap ∧ va_K (dC, dI) vwCl (dk_X16 ac) U ∧ va_D (fun _ => True) (dw_X16 a ac s0) ∧ nv_E (va_A (dw_X16 a ac s0) sz) U)) (va_Qv (fun _ => True) (fun (_ : Unit) t => va_P (dC, dI) vwCl (dw_X16 a ac r) t.heap ∧ va_K (dC, dI) vwCl (dk_X16 ac) t ∧ va_D (va_A (dw_X16 a ac s0) sz) (dw_X16 a ac r)) (va_A (dw_X16 a ac s0) sz)) 0 0 (va_A (dw_X16 a ac s0) sz) := by
  refine Met.ofW (cc := cX16_leaveAll) (maxL := 3) (ret := none) (by decide) rfl ?_
  intro p e s m args below meth c s₁ B hml hv
  obtain ⟨rfl, hsz, hP, hK, hD0, hN⟩ := hv
  have hx := B.exec
  have hb := B.bytes
  have hr := B.returns
  have hts := atoms_spec (ws := ow_dm_X16_leaveAll) B.pre
  have hown : s.vm.findClass RX16 = some m.cls := findClass_of_methodNamed B.named
  have hlocks := B.notSynchronized
  subst hsz
  have hD := hD0.self (sz := s.heap.size)
  generalize hAe : va_A (dw_X16 a ac s0) s.heap.size = A at hD hN ⊢
  have hA : ∀ q : Nat, s.heap.size ≤ q → A q := fun q h => by rw [← hAe]; exact Or.inr h
  have hl := lv_entry ([.ref (a 0), .int v0]) (n := 3) (Nat.le_of_ble_eq_true rfl)
  rw [lg_entry_eq]
  generalize (lg_sl ([.ref (a 0), .int v0]) ++ List.replicate (3 - (lg_sl ([.ref (a 0), .int v0])).length) Slot.unset).toArray = ls at hl ⊢
  have hl : lv_has ls 3 [(0, .ref (a 0)), (1, .int v0)] := hl
  exact db_X16_leaveAll_0 (dC := dC) (dI := dI) (a := a) (ac := ac) (n := n) (r := r) ⟨hlt, hx, hb, hml, hown, hts, hN, hA, hK⟩ (fun pc τ H locs ls d er hP hD hS => by subst er; exact W.vret hx hb hr (fun t ht hW => ⟨⟨(), rfl, trivial, by rw [ht]; exact hP, va_K.moved hW.alike hK, hD⟩, hS.F ht⟩) hS.2.2 d) v0 s0 _ _ _ h hP hD va_S.rf (lv_sub hl [0, 1] rfl)
def ow_dm_X16_isThere : List Cond := .code yX16_isThere cX16_isThere 3 (some .boolean) :: ([.constant RX16 186 (65536), .fieldLink RX16 64 "TimeMachineModel$Machine" "frame" "[I"] ++ (u_ws RX16 TX16 56 ++ []))
theorem gd_dm_X16_isThere : ∀ w ∈ ow_dm_X16_isThere, (w.onTables && w.keeps) = true ∨ ∃ ty, w = Cond.arrayClass ty := List.forall_mem_cons.mpr ⟨good_of_word rfl, List.forall_mem_append.mpr ⟨fun w h => good_of_word (List.all_eq_true.mp (by decide +kernel) w h), List.forall_mem_append.mpr ⟨gu_X16, fun _ h => nomatch h⟩⟩⟩
theorem hi_dm_X16_isThere_X16 : ∀ w ∈ u_ws RX16 TX16 56, w ∈ ow_dm_X16_isThere := fun w h => List.mem_cons_of_mem _ (List.mem_append_right _ (List.mem_append_left _ h))
def dj_X16_isThere_34 (p : Program) (l : Launch) (e : Env) (s : State) (m : MethodId) (args : Array Value) (below : List Frame) (meth : Method) (c : Code) (Q : State → Prop) (A : Nat → Prop) (dC : Nat → ClassId) (dI : Nat → Nat → Nat) (a : Nat → Nat) (ac : Nat → ClassId) (g : Int32 → (St × (St)) → Option (Int32 × (St × (St)))) (r : Int32 × (St × (St))) : Prop := ∀ (y0 : Int32) (s0 : St × (St)) (H : Heap) (locs : List Loc) (ls : Array Slot), g y0 s0 = some r → va_P (dC, dI) vwCl (dw_X16 a ac s0) H → va_D A (dw_X16 a ac s0) → va_S A s.heap H locs → lv_has ls 3 [] → W p l e (headSpec ow_dm_X16_isThere ({ frames := 0, cells := 0, slots := 0, locals := 0 })).room s m args below meth c H locs 0 0 Q (F0 m 34 ls [.int y0])
def dj_X16_isThere_33 (p : Program) (l : Launch) (e : Env) (s : State) (m : MethodId) (args : Array Value) (below : List Frame) (meth : Method) (c : Code) (Q : State → Prop) (A : Nat → Prop) (dC : Nat → ClassId) (dI : Nat → Nat → Nat) (a : Nat → Nat) (ac : Nat → ClassId) (g : (St × (St)) → Option (Int32 × (St × (St)))) (r : Int32 × (St × (St))) : Prop := ∀ (s0 : St × (St)) (H : Heap) (locs : List Loc) (ls : Array Slot), g s0 = some r → va_P (dC, dI) vwCl (dw_X16 a ac s0) H → va_D A (dw_X16 a ac s0) → va_S A s.heap H locs → lv_has ls 3 [] → W p l e (headSpec ow_dm_X16_isThere ({ frames := 0, cells := 0, slots := 0, locals := 0 })).room s m args below meth c H locs 0 0 Q (F0 m 33 ls [])
def dj_X16_isThere_0 (p : Program) (l : Launch) (e : Env) (s : State) (m : MethodId) (args : Array Value) (below : List Frame) (meth : Method) (c : Code) (Q : State → Prop) (A : Nat → Prop) (dC : Nat → ClassId) (dI : Nat → Nat → Nat) (a : Nat → Nat) (ac : Nat → ClassId) (g : Int32 → Int32 → (St × (St)) → Option (Int32 × (St × (St)))) (r : Int32 × (St × (St))) : Prop := ∀ (v0 : Int32) (v1 : Int32) (s0 : St × (St)) (H : Heap) (locs : List Loc) (ls : Array Slot), g v0 v1 s0 = some r → va_P (dC, dI) vwCl (dw_X16 a ac s0) H → va_D A (dw_X16 a ac s0) → va_S A s.heap H locs → lv_has ls 3 [(0, .ref (a 0)), (1, .int v0), (2, .int v1)] → W p l e (headSpec ow_dm_X16_isThere ({ frames := 0, cells := 0, slots := 0, locals := 0 })).room s m args below meth c H locs 0 0 Q (F0 m 0 ls [])
set_option maxHeartbeats 40000000 in
set_option maxRecDepth 100000 in
theorem db_X16_isThere_34 {p : Program} {l : Launch} {e : Env} {s : State} {m : MethodId} {args : Array Value} {below : List Frame} {meth : Method} {c : Code} {Q : State → Prop} {A : Nat → Prop} {dC : Nat → ClassId} {dI : Nat → Nat → Nat} {a : Nat → Nat} {ac : Nat → ClassId} {n : Nat} {r : Int32 × (St × (St))} (C : nd_C p l s m args c A (dC, dI) cX16_isThere 3 RX16 ow_dm_X16_isThere (dk_X16 ac)) (K : nd_Ki p l e (headSpec ow_dm_X16_isThere ({ frames := 0, cells := 0, slots := 0, locals := 0 })).room s m args below meth c Q A (dC, dI) cX16_isThere .boolean (St × (St)) (dw_X16 a ac) r) : dj_X16_isThere_34 p l e s m args below meth c Q A dC dI a ac (df_X16_isThere_34 n) r := by
  obtain ⟨hlt, hx, hb, hml, hown, hts, hN, hA, hK⟩ := id C
  intro y0 s0 H locs ls h hP hD hS hl
  unfold df_X16_isThere_34 at h
  obtain ⟨n2, h⟩ := nd_z_e ⟨_, rfl⟩ h
  exact K _ _ _ _ _ _ dX16_isThere_34 n2 (Option.some.inj h).symm hP hD hS
set_option maxHeartbeats 40000000 in
set_option maxRecDepth 100000 in
theorem db_X16_isThere_33 {p : Program} {l : Launch} {e : Env} {s : State} {m : MethodId} {args : Array Value} {below : List Frame} {meth : Method} {c : Code} {Q : State → Prop} {A : Nat → Prop} {dC : Nat → ClassId} {dI : Nat → Nat → Nat} {a : Nat → Nat} {ac : Nat → ClassId} {n : Nat} {r : Int32 × (St × (St))} (C : nd_C p l s m args c A (dC, dI) cX16_isThere 3 RX16 ow_dm_X16_isThere (dk_X16 ac)) (K : nd_Ki p l e (headSpec ow_dm_X16_isThere ({ frames := 0, cells := 0, slots := 0, locals := 0 })).room s m args below meth c Q A (dC, dI) cX16_isThere .boolean (St × (St)) (dw_X16 a ac) r) : dj_X16_isThere_33 p l e s m args below meth c Q A dC dI a ac (df_X16_isThere_33 n) r := by
  obtain ⟨hlt, hx, hb, hml, hown, hts, hN, hA, hK⟩ := id C
  intro s0 H locs ls h hP hD hS hl
  unfold df_X16_isThere_33 at h
  refine lv_iconst (v := 0) hx hb dX16_isThere_33 (by decide) ?_
  exact (db_X16_isThere_34 C K) (0) s0 _ _ _ h hP hD hS (lv_sub hl [] rfl)
set_option maxHeartbeats 40000000 in
set_option maxRecDepth 100000 in
theorem db_X16_isThere_0 {p : Program} {l : Launch} {e : Env} {s : State} {m : MethodId} {args : Array Value} {below : List Frame} {meth : Method} {c : Code} {Q : State → Prop} {A : Nat → Prop} {dC : Nat → ClassId} {dI : Nat → Nat → Nat} {a : Nat → Nat} {ac : Nat → ClassId} {n : Nat} {r : Int32 × (St × (St))} (C : nd_C p l s m args c A (dC, dI) cX16_isThere 3 RX16 ow_dm_X16_isThere (dk_X16 ac)) (K : nd_Ki p l e (headSpec ow_dm_X16_isThere ({ frames := 0, cells := 0, slots := 0, locals := 0 })).room s m args below meth c Q A (dC, dI) cX16_isThere .boolean (St × (St)) (dw_X16 a ac) r) : dj_X16_isThere_0 p l e s m args below meth c Q A dC dI a ac (df_X16_isThere_0 n) r := by
  obtain ⟨hlt, hx, hb, hml, hown, hts, hN, hA, hK⟩ := id C
  intro v0 v1 s0 H locs ls h hP hD hS hl
  unfold df_X16_isThere_0 at h
  refine lv_iload_n hx hb dX16_isThere_0 rfl (lv_at hl 2 rfl) ?_
  refine lv_if_lt (tgt := 33) hx hb dX16_isThere_1 (by decide) (fun c1 => ?_) (fun c1 => ?_)
  · have h := nd_pos h c1
    exact (db_X16_isThere_33 C K)  s0 _ _ _ h hP hD hS (lv_sub hl [] rfl)
  · have h := nd_neg h c1
    refine lv_iload_n hx hb dX16_isThere_4 rfl (lv_at hl 2 rfl) ?_
    refine lv_ldc hx hb hown (hts (.constant RX16 186 (65536)) (List.mem_of_getElem? (i := 1) rfl)) dX16_isThere_5 ?_
    refine lv_icmp_ge (tgt := 33) hx hb dX16_isThere_7 (by decide) (fun c3 => ?_) (fun c3 => ?_)
    · have h := nd_pos h c3
      exact (db_X16_isThere_33 C K)  s0 _ _ _ h hP hD hS (lv_sub hl [] rfl)
    · have h := nd_neg h c3
      refine lv_aload_n hx hb dX16_isThere_10 rfl (lv_at hl 0 rfl) ?_
      refine va_get (D := (dC, dI)) (ci := 17) (v := .ref (a 18)) (C := RX16) (T := TX16) (N := 56) hx hb hts hi_dm_X16_isThere_X16 hown hK hP 0 rfl rfl 26 (by decide) (hts (.fieldLink RX16 64 "TimeMachineModel$Machine" "frame" "[I") (List.mem_of_getElem? (i := 2) rfl)) (fun _ h9 => h9) rfl dX16_isThere_11 ?_
      refine lv_bipush (v := 64) hx hb dX16_isThere_14 (by decide) ?_
      refine lv_iload_n hx hb dX16_isThere_16 rfl (lv_at hl 1 rfl) ?_
      refine lv_imul hx hb dX16_isThere_17 ?_
      refine lv_iload_n hx hb dX16_isThere_18 rfl (lv_at hl 2 rfl) ?_
      refine lv_sipush (v := 1024) hx hb dX16_isThere_19 (by decide) ?_
      refine lv_idiv hx hb dX16_isThere_22 (by decide) ?_
      refine lv_iadd hx hb dX16_isThere_23 ?_
      obtain ⟨i4, h⟩ := nd_ck_e h
      refine va_iald (i := ((64 * v0) + ((v1 : Int32) / 1024))) hx hb hK hP 18 17 rfl rfl i4 dX16_isThere_24 ?_
      refine lv_iconst (v := (-1)) hx hb dX16_isThere_25 (by decide) ?_
      refine lv_icmp_eq (tgt := 33) hx hb dX16_isThere_26 (by decide) (fun c5 => ?_) (fun c5 => ?_)
      · have h := nd_pos h c5
        exact (db_X16_isThere_33 C K)  s0 _ _ _ h hP hD hS (lv_sub hl [] rfl)
      · have h := nd_neg h c5
        refine lv_iconst (v := 1) hx hb dX16_isThere_29 (by decide) ?_
        refine lv_goto (tgt := 34) hx hb dX16_isThere_30 (by decide) ?_
        exact (db_X16_isThere_34 C K) (1) s0 _ _ _ h hP hD hS (lv_sub hl [] rfl)
set_option maxHeartbeats 40000000 in
set_option maxRecDepth 100000 in
theorem dm_X16_isThere (l : Launch) (hlt : l.stackTraces = false) (dC : Nat → ClassId) (dI : Nat → Nat → Nat) (a : Nat → Nat) (ac : Nat → ClassId) (n : Nat) (v0 : Int32) (v1 : Int32) (s0 : St × (St)) {r : Int32 × (St × (St))} (h : df_X16_isThere n v0 v1 s0 = some r) (sz : Nat) : Met l yX16_isThere ow_dm_X16_isThere ({ frames := 0, cells := 0, slots := 0, locals := 0 }) (va_Pc [.ref (a 0), .int v0, .int v1] (fun U => U.heap.size = sz ∧ va_P (dC, dI) vwCl (dw_X16 a ac s0) U.heap ∧ va_K (dC, dI) vwCl (dk_X16 ac) U ∧ va_D (fun _ => True) (dw_X16 a ac s0) ∧ nv_E (va_A (dw_X16 a ac s0) sz) U)) (va_Qi (fun x _ => x = r.1) (fun (_ : Unit) t => va_P (dC, dI) vwCl (dw_X16 a ac r.2) t.heap ∧ va_K (dC, dI) vwCl (dk_X16 ac) t ∧ va_D (va_A (dw_X16 a ac s0) sz) (dw_X16 a ac r.2)) (va_A (dw_X16 a ac s0) sz)) 0 0 (va_A (dw_X16 a ac s0) sz) := by
  refine Met.ofW (cc := cX16_isThere) (maxL := 3) (ret := (some .boolean)) (by decide) rfl ?_
  intro p e s m args below meth c s₁ B hml hv
  obtain ⟨rfl, hsz, hP, hK, hD0, hN⟩ := hv
  have hx := B.exec
  have hb := B.bytes
  have hr := B.returns
  have hts := atoms_spec (ws := ow_dm_X16_isThere) B.pre
  have hown : s.vm.findClass RX16 = some m.cls := findClass_of_methodNamed B.named
  have hlocks := B.notSynchronized
  subst hsz
  have hD := hD0.self (sz := s.heap.size)
  generalize hAe : va_A (dw_X16 a ac s0) s.heap.size = A at hD hN ⊢
  have hA : ∀ q : Nat, s.heap.size ≤ q → A q := fun q h => by rw [← hAe]; exact Or.inr h
  have hl := lv_entry ([.ref (a 0), .int v0, .int v1]) (n := 3) (Nat.le_of_ble_eq_true rfl)
  rw [lg_entry_eq]
  generalize (lg_sl ([.ref (a 0), .int v0, .int v1]) ++ List.replicate (3 - (lg_sl ([.ref (a 0), .int v0, .int v1])).length) Slot.unset).toArray = ls at hl ⊢
  have hl : lv_has ls 3 [(0, .ref (a 0)), (1, .int v0), (2, .int v1)] := hl
  exact db_X16_isThere_0 (dC := dC) (dI := dI) (a := a) (ac := ac) (n := n) (r := r) ⟨hlt, hx, hb, hml, hown, hts, hN, hA, hK⟩ (fun pc v τ H locs ls d z er hP hD hS => by subst er; exact W.zret (v := v) hx hb hr z (fun t ht hW => ⟨⟨v, (), rfl, rfl, by rw [ht]; exact hP, va_K.moved hW.alike hK, hD⟩, hS.F ht⟩) hS.2.2 d) v0 v1 s0 _ _ _ h hP hD va_S.rf (lv_sub hl [0, 1, 2] rfl)
def ow_dm_X16_may : List Cond := .code yX16_may cX16_may 4 (some .boolean) :: ([.methodLink RX16 214 yX16_isThere, .instanceMethod yX16_isThere, .selects RX16 yX16_isThere yX16_isThere, .initialized RX16, .fieldLink RX16 67 "TimeMachineModel$Machine" "rights" "[I"] ++ (u_ws RX16 TX16 56 ++ (ow_dm_X16_isThere ++ [])))
theorem gd_dm_X16_may : ∀ w ∈ ow_dm_X16_may, (w.onTables && w.keeps) = true ∨ ∃ ty, w = Cond.arrayClass ty := List.forall_mem_cons.mpr ⟨good_of_word rfl, List.forall_mem_append.mpr ⟨fun w h => good_of_word (List.all_eq_true.mp (by decide +kernel) w h), List.forall_mem_append.mpr ⟨gu_X16, List.forall_mem_append.mpr ⟨gd_dm_X16_isThere, fun _ h => nomatch h⟩⟩⟩⟩
theorem hi_dm_X16_may_X16 : ∀ w ∈ u_ws RX16 TX16 56, w ∈ ow_dm_X16_may := fun w h => List.mem_cons_of_mem _ (List.mem_append_right _ (List.mem_append_left _ h))
theorem gi_dm_X16_may_0 : GoodIn ow_dm_X16_may (wsV RX16 214 RX16 yX16_isThere ow_dm_X16_isThere) := goodIn_app (goodIn_of _ (by decide +kernel)) (fun w h => ⟨List.mem_cons_of_mem _ (List.mem_append_right _ (List.mem_append_right _ (List.mem_append_left _ h))), gd_dm_X16_isThere w h⟩)
def dj_X16_may_34 (p : Program) (l : Launch) (e : Env) (s : State) (m : MethodId) (args : Array Value) (below : List Frame) (meth : Method) (c : Code) (Q : State → Prop) (A : Nat → Prop) (dC : Nat → ClassId) (dI : Nat → Nat → Nat) (a : Nat → Nat) (ac : Nat → ClassId) (g : Int32 → (St × (St)) → Option (Int32 × (St × (St)))) (r : Int32 × (St × (St))) : Prop := ∀ (y0 : Int32) (s0 : St × (St)) (H : Heap) (locs : List Loc) (ls : Array Slot), g y0 s0 = some r → va_P (dC, dI) vwCl (dw_X16 a ac s0) H → va_D A (dw_X16 a ac s0) → va_S A s.heap H locs → lv_has ls 4 [] → W p l e (headSpec ow_dm_X16_may ({ frames := 1, cells := 0, slots := 0, locals := 22 })).room s m args below meth c H locs 0 0 Q (F0 m 34 ls [.int y0])
def dj_X16_may_33 (p : Program) (l : Launch) (e : Env) (s : State) (m : MethodId) (args : Array Value) (below : List Frame) (meth : Method) (c : Code) (Q : State → Prop) (A : Nat → Prop) (dC : Nat → ClassId) (dI : Nat → Nat → Nat) (a : Nat → Nat) (ac : Nat → ClassId) (g : (St × (St)) → Option (Int32 × (St × (St)))) (r : Int32 × (St × (St))) : Prop := ∀ (s0 : St × (St)) (H : Heap) (locs : List Loc) (ls : Array Slot), g s0 = some r → va_P (dC, dI) vwCl (dw_X16 a ac s0) H → va_D A (dw_X16 a ac s0) → va_S A s.heap H locs → lv_has ls 4 [] → W p l e (headSpec ow_dm_X16_may ({ frames := 1, cells := 0, slots := 0, locals := 22 })).room s m args below meth c H locs 0 0 Q (F0 m 33 ls [])
def dj_X16_may_0 (p : Program) (l : Launch) (e : Env) (s : State) (m : MethodId) (args : Array Value) (below : List Frame) (meth : Method) (c : Code) (Q : State → Prop) (A : Nat → Prop) (dC : Nat → ClassId) (dI : Nat → Nat → Nat) (a : Nat → Nat) (ac : Nat → ClassId) (g : Int32 → Int32 → Int32 → (St × (St)) → Option (Int32 × (St × (St)))) (r : Int32 × (St × (St))) : Prop := ∀ (v0 : Int32) (v1 : Int32) (v2 : Int32) (s0 : St × (St)) (H : Heap) (locs : List Loc) (ls : Array Slot), g v0 v1 v2 s0 = some r → va_P (dC, dI) vwCl (dw_X16 a ac s0) H → va_D A (dw_X16 a ac s0) → va_S A s.heap H locs → lv_has ls 4 [(0, .ref (a 0)), (1, .int v0), (2, .int v1), (3, .int v2)] → W p l e (headSpec ow_dm_X16_may ({ frames := 1, cells := 0, slots := 0, locals := 22 })).room s m args below meth c H locs 0 0 Q (F0 m 0 ls [])
set_option maxHeartbeats 40000000 in
set_option maxRecDepth 100000 in
theorem db_X16_may_34 {p : Program} {l : Launch} {e : Env} {s : State} {m : MethodId} {args : Array Value} {below : List Frame} {meth : Method} {c : Code} {Q : State → Prop} {A : Nat → Prop} {dC : Nat → ClassId} {dI : Nat → Nat → Nat} {a : Nat → Nat} {ac : Nat → ClassId} {n : Nat} {r : Int32 × (St × (St))} (C : nd_C p l s m args c A (dC, dI) cX16_may 4 RX16 ow_dm_X16_may (dk_X16 ac)) (K : nd_Ki p l e (headSpec ow_dm_X16_may ({ frames := 1, cells := 0, slots := 0, locals := 22 })).room s m args below meth c Q A (dC, dI) cX16_may .boolean (St × (St)) (dw_X16 a ac) r) : dj_X16_may_34 p l e s m args below meth c Q A dC dI a ac (df_X16_may_34 n) r := by
  obtain ⟨hlt, hx, hb, hml, hown, hts, hN, hA, hK⟩ := id C
  intro y0 s0 H locs ls h hP hD hS hl
  unfold df_X16_may_34 at h
  obtain ⟨n5, h⟩ := nd_z_e ⟨_, rfl⟩ h
  exact K _ _ _ _ _ _ dX16_may_34 n5 (Option.some.inj h).symm hP hD hS
set_option maxHeartbeats 40000000 in
set_option maxRecDepth 100000 in
theorem db_X16_may_33 {p : Program} {l : Launch} {e : Env} {s : State} {m : MethodId} {args : Array Value} {below : List Frame} {meth : Method} {c : Code} {Q : State → Prop} {A : Nat → Prop} {dC : Nat → ClassId} {dI : Nat → Nat → Nat} {a : Nat → Nat} {ac : Nat → ClassId} {n : Nat} {r : Int32 × (St × (St))} (C : nd_C p l s m args c A (dC, dI) cX16_may 4 RX16 ow_dm_X16_may (dk_X16 ac)) (K : nd_Ki p l e (headSpec ow_dm_X16_may ({ frames := 1, cells := 0, slots := 0, locals := 22 })).room s m args below meth c Q A (dC, dI) cX16_may .boolean (St × (St)) (dw_X16 a ac) r) : dj_X16_may_33 p l e s m args below meth c Q A dC dI a ac (df_X16_may_33 n) r := by
  obtain ⟨hlt, hx, hb, hml, hown, hts, hN, hA, hK⟩ := id C
  intro s0 H locs ls h hP hD hS hl
  unfold df_X16_may_33 at h
  refine lv_iconst (v := 0) hx hb dX16_may_33 (by decide) ?_
  exact (db_X16_may_34 C K) (0) s0 _ _ _ h hP hD hS (lv_sub hl [] rfl)
set_option maxHeartbeats 40000000 in
set_option maxRecDepth 100000 in
theorem db_X16_may_0 {p : Program} {l : Launch} {e : Env} {s : State} {m : MethodId} {args : Array Value} {below : List Frame} {meth : Method} {c : Code} {Q : State → Prop} {A : Nat → Prop} {dC : Nat → ClassId} {dI : Nat → Nat → Nat} {a : Nat → Nat} {ac : Nat → ClassId} {n : Nat} {r : Int32 × (St × (St))} (C : nd_C p l s m args c A (dC, dI) cX16_may 4 RX16 ow_dm_X16_may (dk_X16 ac)) (K : nd_Ki p l e (headSpec ow_dm_X16_may ({ frames := 1, cells := 0, slots := 0, locals := 22 })).room s m args below meth c Q A (dC, dI) cX16_may .boolean (St × (St)) (dw_X16 a ac) r) : dj_X16_may_0 p l e s m args below meth c Q A dC dI a ac (df_X16_may_0 n) r := by
  obtain ⟨hlt, hx, hb, hml, hown, hts, hN, hA, hK⟩ := id C
  intro v0 v1 v2 s0 H locs ls h hP hD hS hl
  unfold df_X16_may_0 at h
  refine lv_aload_n hx hb dX16_may_0 rfl (lv_at hl 0 rfl) ?_
  refine lv_iload_n hx hb dX16_may_1 rfl (lv_at hl 1 rfl) ?_
  refine lv_iload_n hx hb dX16_may_2 rfl (lv_at hl 2 rfl) ?_
  obtain ⟨q1, s2, hq, h⟩ := nd_b2_e h
  have hPc := hP
  have hDc := hD
  have hKc := hK
  have hFc := nd_rs hD hS hA
  refine nd_cVi (As := [.int v0, .int v1]) (rest := []) (q := q1) (w' := dw_X16 a ac s2) ⟨hx, hb, hml, hown, hts⟩ (fun sz => dm_X16_isThere l hlt dC dI a ac n (v0) (v1) s0 hq sz) (cwV 2 hts gi_dm_X16_may_0 rfl rfl rfl (by decide +kernel) ⟨Nat.le_of_ble_eq_true rfl, Nat.le_of_ble_eq_true rfl⟩) hPc hDc hKc hS hA hN (va_recv hKc hPc (ci := 17) (q0 := 0) rfl rfl) rfl hl.1 rfl (Nat.le_of_ble_eq_true rfl) dX16_may_3 (fun H locs hP1 hD1 hk1 hS => ?_)
  have hP := hP1
  have hD := hD1.weaken (fun k q _ h => hFc q.1 h)
  refine lv_if_eq (tgt := 33) hx hb dX16_may_6 (by decide) (fun c4 => ?_) (fun c4 => ?_)
  · have h := nd_pos h c4
    exact (db_X16_may_33 C K)  s2 _ _ _ h hP hD hS (lv_sub hl [] rfl)
  · have h := nd_neg h c4
    refine lv_aload_n hx hb dX16_may_9 rfl (lv_at hl 0 rfl) ?_
    refine va_get (D := (dC, dI)) (ci := 17) (v := .ref (a 19)) (C := RX16) (T := TX16) (N := 56) hx hb hts hi_dm_X16_may_X16 hown hK hP 0 rfl rfl 27 (by decide) (hts (.fieldLink RX16 67 "TimeMachineModel$Machine" "rights" "[I") (List.mem_of_getElem? (i := 5) rfl)) (fun _ h9 => h9) rfl dX16_may_10 ?_
    refine lv_bipush (v := 64) hx hb dX16_may_13 (by decide) ?_
    refine lv_iload_n hx hb dX16_may_15 rfl (lv_at hl 1 rfl) ?_
    refine lv_imul hx hb dX16_may_16 ?_
    refine lv_iload_n hx hb dX16_may_17 rfl (lv_at hl 2 rfl) ?_
    refine lv_sipush (v := 1024) hx hb dX16_may_18 (by decide) ?_
    refine lv_idiv hx hb dX16_may_21 (by decide) ?_
    refine lv_iadd hx hb dX16_may_22 ?_
    obtain ⟨i6, h⟩ := nd_ck_e h
    refine va_iald (i := ((64 * v0) + ((v1 : Int32) / 1024))) hx hb hK hP 19 18 rfl rfl i6 dX16_may_23 ?_
    refine lv_iload_n hx hb dX16_may_24 rfl (lv_at hl 3 rfl) ?_
    refine lv_iand hx hb dX16_may_25 ?_
    refine lv_if_le (tgt := 33) hx hb dX16_may_26 (by decide) (fun c7 => ?_) (fun c7 => ?_)
    · have h := nd_pos h c7
      exact (db_X16_may_33 C K)  s2 _ _ _ h hP hD hS (lv_sub hl [] rfl)
    · have h := nd_neg h c7
      refine lv_iconst (v := 1) hx hb dX16_may_29 (by decide) ?_
      refine lv_goto (tgt := 34) hx hb dX16_may_30 (by decide) ?_
      exact (db_X16_may_34 C K) (1) s2 _ _ _ h hP hD hS (lv_sub hl [] rfl)
set_option maxHeartbeats 40000000 in
set_option maxRecDepth 100000 in
theorem dm_X16_may (l : Launch) (hlt : l.stackTraces = false) (dC : Nat → ClassId) (dI : Nat → Nat → Nat) (a : Nat → Nat) (ac : Nat → ClassId) (n : Nat) (v0 : Int32) (v1 : Int32) (v2 : Int32) (s0 : St × (St)) {r : Int32 × (St × (St))} (h : df_X16_may n v0 v1 v2 s0 = some r) (sz : Nat) : Met l yX16_may ow_dm_X16_may ({ frames := 1, cells := 0, slots := 0, locals := 22 }) (va_Pc [.ref (a 0), .int v0, .int v1, .int v2] (fun U => U.heap.size = sz ∧ va_P (dC, dI) vwCl (dw_X16 a ac s0) U.heap ∧ va_K (dC, dI) vwCl (dk_X16 ac) U ∧ va_D (fun _ => True) (dw_X16 a ac s0) ∧ nv_E (va_A (dw_X16 a ac s0) sz) U)) (va_Qi (fun x _ => x = r.1) (fun (_ : Unit) t => va_P (dC, dI) vwCl (dw_X16 a ac r.2) t.heap ∧ va_K (dC, dI) vwCl (dk_X16 ac) t ∧ va_D (va_A (dw_X16 a ac s0) sz) (dw_X16 a ac r.2)) (va_A (dw_X16 a ac s0) sz)) 0 0 (va_A (dw_X16 a ac s0) sz) := by
  refine Met.ofW (cc := cX16_may) (maxL := 4) (ret := (some .boolean)) (by decide) rfl ?_
  intro p e s m args below meth c s₁ B hml hv
  obtain ⟨rfl, hsz, hP, hK, hD0, hN⟩ := hv
  have hx := B.exec
  have hb := B.bytes
  have hr := B.returns
  have hts := atoms_spec (ws := ow_dm_X16_may) B.pre
  have hown : s.vm.findClass RX16 = some m.cls := findClass_of_methodNamed B.named
  have hlocks := B.notSynchronized
  subst hsz
  have hD := hD0.self (sz := s.heap.size)
  generalize hAe : va_A (dw_X16 a ac s0) s.heap.size = A at hD hN ⊢
  have hA : ∀ q : Nat, s.heap.size ≤ q → A q := fun q h => by rw [← hAe]; exact Or.inr h
  have hl := lv_entry ([.ref (a 0), .int v0, .int v1, .int v2]) (n := 4) (Nat.le_of_ble_eq_true rfl)
  rw [lg_entry_eq]
  generalize (lg_sl ([.ref (a 0), .int v0, .int v1, .int v2]) ++ List.replicate (4 - (lg_sl ([.ref (a 0), .int v0, .int v1, .int v2])).length) Slot.unset).toArray = ls at hl ⊢
  have hl : lv_has ls 4 [(0, .ref (a 0)), (1, .int v0), (2, .int v1), (3, .int v2)] := hl
  exact db_X16_may_0 (dC := dC) (dI := dI) (a := a) (ac := ac) (n := n) (r := r) ⟨hlt, hx, hb, hml, hown, hts, hN, hA, hK⟩ (fun pc v τ H locs ls d z er hP hD hS => by subst er; exact W.zret (v := v) hx hb hr z (fun t ht hW => ⟨⟨v, (), rfl, rfl, by rw [ht]; exact hP, va_K.moved hW.alike hK, hD⟩, hS.F ht⟩) hS.2.2 d) v0 v1 v2 s0 _ _ _ h hP hD va_S.rf (lv_sub hl [0, 1, 2, 3] rfl)
def ow_dm_X16_mayAll : List Cond := .code yX16_mayAll cX16_mayAll 7 (some .boolean) :: ([.methodLink RX16 218 yX16_may, .instanceMethod yX16_may, .selects RX16 yX16_may yX16_may, .initialized RX16] ++ (ow_dm_X16_may ++ []))
theorem gd_dm_X16_mayAll : ∀ w ∈ ow_dm_X16_mayAll, (w.onTables && w.keeps) = true ∨ ∃ ty, w = Cond.arrayClass ty := List.forall_mem_cons.mpr ⟨good_of_word rfl, List.forall_mem_append.mpr ⟨fun w h => good_of_word (List.all_eq_true.mp (by decide +kernel) w h), List.forall_mem_append.mpr ⟨gd_dm_X16_may, fun _ h => nomatch h⟩⟩⟩
theorem gi_dm_X16_mayAll_0 : GoodIn ow_dm_X16_mayAll (wsV RX16 218 RX16 yX16_may ow_dm_X16_may) := goodIn_app (goodIn_of _ (by decide +kernel)) (fun w h => ⟨List.mem_cons_of_mem _ (List.mem_append_right _ (List.mem_append_left _ h)), gd_dm_X16_may w h⟩)
def dj_X16_mayAll_36 (p : Program) (l : Launch) (e : Env) (s : State) (m : MethodId) (args : Array Value) (below : List Frame) (meth : Method) (c : Code) (Q : State → Prop) (A : Nat → Prop) (dC : Nat → ClassId) (dI : Nat → Nat → Nat) (a : Nat → Nat) (ac : Nat → ClassId) (g : Int32 → (St × (St)) → Option (Int32 × (St × (St)))) (r : Int32 × (St × (St))) : Prop := ∀ (x5 : Int32) (s0 : St × (St)) (H : Heap) (locs : List Loc) (ls : Array Slot), g x5 s0 = some r → va_P (dC, dI) vwCl (dw_X16 a ac s0) H → va_D A (dw_X16 a ac s0) → va_S A s.heap H locs → lv_has ls 7 [(5, .int x5)] → W p l e (headSpec ow_dm_X16_mayAll ({ frames := 2, cells := 0, slots := 0, locals := 45 })).room s m args below meth c H locs 0 0 Q (F0 m 36 ls [])
def dj_X16_mayAll_6 (p : Program) (l : Launch) (e : Env) (s : State) (m : MethodId) (args : Array Value) (below : List Frame) (meth : Method) (c : Code) (Q : State → Prop) (A : Nat → Prop) (dC : Nat → ClassId) (dI : Nat → Nat → Nat) (a : Nat → Nat) (ac : Nat → ClassId) (g : Int32 → Int32 → Int32 → Int32 → Int32 → Int32 → (St × (St)) → Option (Int32 × (St × (St)))) (r : Int32 × (St × (St))) : Prop := ∀ (x1 : Int32) (x2 : Int32) (x3 : Int32) (x4 : Int32) (x5 : Int32) (x6 : Int32) (s0 : St × (St)) (H : Heap) (locs : List Loc) (ls : Array Slot), g x1 x2 x3 x4 x5 x6 s0 = some r → va_P (dC, dI) vwCl (dw_X16 a ac s0) H → va_D A (dw_X16 a ac s0) → va_S A s.heap H locs → lv_has ls 7 [(0, .ref (a 0)), (1, .int x1), (2, .int x2), (3, .int x3), (4, .int x4), (5, .int x5), (6, .int x6)] → W p l e (headSpec ow_dm_X16_mayAll ({ frames := 2, cells := 0, slots := 0, locals := 45 })).room s m args below meth c H locs 0 0 Q (F0 m 6 ls [])
def dj_X16_mayAll_0 (p : Program) (l : Launch) (e : Env) (s : State) (m : MethodId) (args : Array Value) (below : List Frame) (meth : Method) (c : Code) (Q : State → Prop) (A : Nat → Prop) (dC : Nat → ClassId) (dI : Nat → Nat → Nat) (a : Nat → Nat) (ac : Nat → ClassId) (g : Int32 → Int32 → Int32 → Int32 → (St × (St)) → Option (Int32 × (St × (St)))) (r : Int32 × (St × (St))) : Prop := ∀ (v0 : Int32) (v1 : Int32) (v2 : Int32) (v3 : Int32) (s0 : St × (St)) (H : Heap) (locs : List Loc) (ls : Array Slot), g v0 v1 v2 v3 s0 = some r → va_P (dC, dI) vwCl (dw_X16 a ac s0) H → va_D A (dw_X16 a ac s0) → va_S A s.heap H locs → lv_has ls 7 [(0, .ref (a 0)), (1, .int v0), (2, .int v1), (3, .int v2), (4, .int v3)] → W p l e (headSpec ow_dm_X16_mayAll ({ frames := 2, cells := 0, slots := 0, locals := 45 })).room s m args below meth c H locs 0 0 Q (F0 m 0 ls [])
set_option maxHeartbeats 40000000 in
set_option maxRecDepth 100000 in
theorem db_X16_mayAll_36 {p : Program} {l : Launch} {e : Env} {s : State} {m : MethodId} {args : Array Value} {below : List Frame} {meth : Method} {c : Code} {Q : State → Prop} {A : Nat → Prop} {dC : Nat → ClassId} {dI : Nat → Nat → Nat} {a : Nat → Nat} {ac : Nat → ClassId} {n : Nat} {r : Int32 × (St × (St))} (C : nd_C p l s m args c A (dC, dI) cX16_mayAll 7 RX16 ow_dm_X16_mayAll (dk_X16 ac)) (K : nd_Ki p l e (headSpec ow_dm_X16_mayAll ({ frames := 2, cells := 0, slots := 0, locals := 45 })).room s m args below meth c Q A (dC, dI) cX16_mayAll .boolean (St × (St)) (dw_X16 a ac) r) : dj_X16_mayAll_36 p l e s m args below meth c Q A dC dI a ac (df_X16_mayAll_36 n) r := by
  obtain ⟨hlt, hx, hb, hml, hown, hts, hN, hA, hK⟩ := id C
  intro x5 s0 H locs ls h hP hD hS hl
  unfold df_X16_mayAll_36 at h
  refine lv_iload hx hb dX16_mayAll_36 (lv_at hl 0 rfl) ?_
  obtain ⟨n2, h⟩ := nd_z_e ⟨_, rfl⟩ h
  exact K _ _ _ _ _ _ dX16_mayAll_38 n2 (Option.some.inj h).symm hP hD hS
set_option maxHeartbeats 40000000 in
set_option maxRecDepth 100000 in
theorem dB_X16_mayAll_6 {p : Program} {l : Launch} {e : Env} {s : State} {m : MethodId} {args : Array Value} {below : List Frame} {meth : Method} {c : Code} {Q : State → Prop} {A : Nat → Prop} {dC : Nat → ClassId} {dI : Nat → Nat → Nat} {a : Nat → Nat} {ac : Nat → ClassId} {n : Nat} {r : Int32 × (St × (St))} (C : nd_C p l s m args c A (dC, dI) cX16_mayAll 7 RX16 ow_dm_X16_mayAll (dk_X16 ac)) (K : nd_Ki p l e (headSpec ow_dm_X16_mayAll ({ frames := 2, cells := 0, slots := 0, locals := 45 })).room s m args below meth c Q A (dC, dI) cX16_mayAll .boolean (St × (St)) (dw_X16 a ac) r) {g6 : Int32 → Int32 → Int32 → Int32 → Int32 → Int32 → (St × (St)) → Option (Int32 × (St × (St)))} (J6 : dj_X16_mayAll_6 p l e s m args below meth c Q A dC dI a ac g6 r) : dj_X16_mayAll_6 p l e s m args below meth c Q A dC dI a ac (dF_X16_mayAll_6 n g6) r := by
  obtain ⟨hlt, hx, hb, hml, hown, hts, hN, hA, hK⟩ := id C
  intro x1 x2 x3 x4 x5 x6 s0 H locs ls h hP hD hS hl
  unfold dF_X16_mayAll_6 at h
  refine lv_iload hx hb dX16_mayAll_6 (lv_at hl 6 rfl) ?_
  refine lv_iload_n hx hb dX16_mayAll_8 rfl (lv_at hl 3 rfl) ?_
  refine lv_icmp_ge (tgt := 36) hx hb dX16_mayAll_9 (by decide) (fun c1 => ?_) (fun c1 => ?_)
  · have h := nd_pos h c1
    exact (db_X16_mayAll_36 C K) (x5) s0 _ _ _ h hP hD hS (lv_sub hl [5] rfl)
  · have h := nd_neg h c1
    refine lv_iload hx hb dX16_mayAll_12 (lv_at hl 5 rfl) ?_
    refine lv_if_eq (tgt := 36) hx hb dX16_mayAll_14 (by decide) (fun c3 => ?_) (fun c3 => ?_)
    · have h := nd_pos h c3
      exact (db_X16_mayAll_36 C K) (x5) s0 _ _ _ h hP hD hS (lv_sub hl [5] rfl)
    · have h := nd_neg h c3
      refine lv_aload_n hx hb dX16_mayAll_17 rfl (lv_at hl 0 rfl) ?_
      refine lv_iload_n hx hb dX16_mayAll_18 rfl (lv_at hl 1 rfl) ?_
      refine lv_iload_n hx hb dX16_mayAll_19 rfl (lv_at hl 2 rfl) ?_
      refine lv_iload hx hb dX16_mayAll_20 (lv_at hl 6 rfl) ?_
      refine lv_iadd hx hb dX16_mayAll_22 ?_
      refine lv_iload hx hb dX16_mayAll_23 (lv_at hl 4 rfl) ?_
      obtain ⟨q4, s5, hq, h⟩ := nd_b2_e h
      have hPc := hP
      have hDc := hD
      have hKc := hK
      have hFc := nd_rs hD hS hA
      refine nd_cVi (As := [.int x1, .int (x2 + x6), .int x4]) (rest := []) (q := q4) (w' := dw_X16 a ac s5) ⟨hx, hb, hml, hown, hts⟩ (fun sz => dm_X16_may l hlt dC dI a ac n (x1) ((x2 + x6)) (x4) s0 hq sz) (cwV 3 hts gi_dm_X16_mayAll_0 rfl rfl rfl (by decide +kernel) ⟨Nat.le_of_ble_eq_true rfl, Nat.le_of_ble_eq_true rfl⟩) hPc hDc hKc hS hA hN (va_recv hKc hPc (ci := 17) (q0 := 0) rfl rfl) rfl hl.1 rfl (Nat.le_of_ble_eq_true rfl) dX16_mayAll_25 (fun H locs hP1 hD1 hk1 hS => ?_)
      have hP := hP1
      have hD := hD1.weaken (fun k q _ h => hFc q.1 h)
      refine lv_istore (lv' := [(5, .int q4), (0, .ref (a 0)), (1, .int x1), (2, .int x2), (3, .int x3), (4, .int x4), (6, .int x6)]) hx hb dX16_mayAll_28 hl (by decide) rfl (fun ls hl => ?_)
      obtain ⟨z7, ez7, h⟩ := nd_let_e h
      refine lv_iinc (v := z7) (lv' := [(6, .int z7), (5, .int q4), (0, .ref (a 0)), (1, .int x1), (2, .int x2), (3, .int x3), (4, .int x4)]) hx hb dX16_mayAll_30 hl (k := 6) rfl (by rw [ez7]) (by decide) rfl (fun ls hl => ?_)
      refine lv_goto (tgt := 6) hx hb dX16_mayAll_33 (by decide) ?_
      exact (J6) (x1) (x2) (x3) (x4) (q4) (z7) s5 _ _ _ h hP hD hS (lv_sub hl [2, 3, 4, 5, 6, 1, 0] rfl)
set_option maxHeartbeats 40000000 in
set_option maxRecDepth 100000 in
theorem db_X16_mayAll_6 {p : Program} {l : Launch} {e : Env} {s : State} {m : MethodId} {args : Array Value} {below : List Frame} {meth : Method} {c : Code} {Q : State → Prop} {A : Nat → Prop} {dC : Nat → ClassId} {dI : Nat → Nat → Nat} {a : Nat → Nat} {ac : Nat → ClassId} {n : Nat} {r : Int32 × (St × (St))} (C : nd_C p l s m args c A (dC, dI) cX16_mayAll 7 RX16 ow_dm_X16_mayAll (dk_X16 ac)) (K : nd_Ki p l e (headSpec ow_dm_X16_mayAll ({ frames := 2, cells := 0, slots := 0, locals := 45 })).room s m args below meth c Q A (dC, dI) cX16_mayAll .boolean (St × (St)) (dw_X16 a ac) r) (k : Nat) : dj_X16_mayAll_6 p l e s m args below meth c Q A dC dI a ac (df_X16_mayAll_6 n k) r := by
  induction k with
  | zero => intro x1 x2 x3 x4 x5 x6 s0 H locs ls h; exact nomatch (show (none : Option (Int32 × (St × (St)))) = some r from h)
  | succ k ih => exact dB_X16_mayAll_6 C K ih
set_option maxHeartbeats 40000000 in
set_option maxRecDepth 100000 in
theorem db_X16_mayAll_0 {p : Program} {l : Launch} {e : Env} {s : State} {m : MethodId} {args : Array Value} {below : List Frame} {meth : Method} {c : Code} {Q : State → Prop} {A : Nat → Prop} {dC : Nat → ClassId} {dI : Nat → Nat → Nat} {a : Nat → Nat} {ac : Nat → ClassId} {n : Nat} {r : Int32 × (St × (St))} (C : nd_C p l s m args c A (dC, dI) cX16_mayAll 7 RX16 ow_dm_X16_mayAll (dk_X16 ac)) (K : nd_Ki p l e (headSpec ow_dm_X16_mayAll ({ frames := 2, cells := 0, slots := 0, locals := 45 })).room s m args below meth c Q A (dC, dI) cX16_mayAll .boolean (St × (St)) (dw_X16 a ac) r) : dj_X16_mayAll_0 p l e s m args below meth c Q A dC dI a ac (df_X16_mayAll_0 n) r := by
  obtain ⟨hlt, hx, hb, hml, hown, hts, hN, hA, hK⟩ := id C
  intro v0 v1 v2 v3 s0 H locs ls h hP hD hS hl
  unfold df_X16_mayAll_0 at h
  refine lv_iconst (v := 1) hx hb dX16_mayAll_0 (by decide) ?_
  refine lv_istore (lv' := [(5, .int 1), (0, .ref (a 0)), (1, .int v0), (2, .int v1), (3, .int v2), (4, .int v3)]) hx hb dX16_mayAll_1 hl (by decide) rfl (fun ls hl => ?_)
  refine lv_iconst (v := 0) hx hb dX16_mayAll_3 (by decide) ?_
  refine lv_istore (lv' := [(6, .int 0), (5, .int 1), (0, .ref (a 0)), (1, .int v0), (2, .int v1), (3, .int v2), (4, .int v3)]) hx hb dX16_mayAll_4 hl (by decide) rfl (fun ls hl => ?_)
  exact (db_X16_mayAll_6 C K n) (v0) (v1) (v2) (v3) (1) (0) s0 _ _ _ h hP hD hS (lv_sub hl [2, 3, 4, 5, 6, 1, 0] rfl)
set_option maxHeartbeats 40000000 in
set_option maxRecDepth 100000 in
theorem dm_X16_mayAll (l : Launch) (hlt : l.stackTraces = false) (dC : Nat → ClassId) (dI : Nat → Nat → Nat) (a : Nat → Nat) (ac : Nat → ClassId) (n : Nat) (v0 : Int32) (v1 : Int32) (v2 : Int32) (v3 : Int32) (s0 : St × (St)) {r : Int32 × (St × (St))} (h : df_X16_mayAll n v0 v1 v2 v3 s0 = some r) (sz : Nat) : Met l yX16_mayAll ow_dm_X16_mayAll ({ frames := 2, cells := 0, slots := 0, locals := 45 }) (va_Pc [.ref (a 0), .int v0, .int v1, .int v2, .int v3] (fun U => U.heap.size = sz ∧ va_P (dC, dI) vwCl (dw_X16 a ac s0) U.heap ∧ va_K (dC, dI) vwCl (dk_X16 ac) U ∧ va_D (fun _ => True) (dw_X16 a ac s0) ∧ nv_E (va_A (dw_X16 a ac s0) sz) U)) (va_Qi (fun x _ => x = r.1) (fun (_ : Unit) t => va_P (dC, dI) vwCl (dw_X16 a ac r.2) t.heap ∧ va_K (dC, dI) vwCl (dk_X16 ac) t ∧ va_D (va_A (dw_X16 a ac s0) sz) (dw_X16 a ac r.2)) (va_A (dw_X16 a ac s0) sz)) 0 0 (va_A (dw_X16 a ac s0) sz) := by
  refine Met.ofW (cc := cX16_mayAll) (maxL := 7) (ret := (some .boolean)) (by decide) rfl ?_
  intro p e s m args below meth c s₁ B hml hv
  obtain ⟨rfl, hsz, hP, hK, hD0, hN⟩ := hv
  have hx := B.exec
  have hb := B.bytes
  have hr := B.returns
  have hts := atoms_spec (ws := ow_dm_X16_mayAll) B.pre
  have hown : s.vm.findClass RX16 = some m.cls := findClass_of_methodNamed B.named
  have hlocks := B.notSynchronized
  subst hsz
  have hD := hD0.self (sz := s.heap.size)
  generalize hAe : va_A (dw_X16 a ac s0) s.heap.size = A at hD hN ⊢
  have hA : ∀ q : Nat, s.heap.size ≤ q → A q := fun q h => by rw [← hAe]; exact Or.inr h
  have hl := lv_entry ([.ref (a 0), .int v0, .int v1, .int v2, .int v3]) (n := 7) (Nat.le_of_ble_eq_true rfl)
  rw [lg_entry_eq]
  generalize (lg_sl ([.ref (a 0), .int v0, .int v1, .int v2, .int v3]) ++ List.replicate (7 - (lg_sl ([.ref (a 0), .int v0, .int v1, .int v2, .int v3])).length) Slot.unset).toArray = ls at hl ⊢
  have hl : lv_has ls 7 [(0, .ref (a 0)), (1, .int v0), (2, .int v1), (3, .int v2), (4, .int v3)] := hl
  exact db_X16_mayAll_0 (dC := dC) (dI := dI) (a := a) (ac := ac) (n := n) (r := r) ⟨hlt, hx, hb, hml, hown, hts, hN, hA, hK⟩ (fun pc v τ H locs ls d z er hP hD hS => by subst er; exact W.zret (v := v) hx hb hr z (fun t ht hW => ⟨⟨v, (), rfl, rfl, by rw [ht]; exact hP, va_K.moved hW.alike hK, hD⟩, hS.F ht⟩) hS.2.2 d) v0 v1 v2 v3 s0 _ _ _ h hP hD va_S.rf (lv_sub hl [0, 1, 2, 3, 4] rfl)
def ow_dm_X16_wanted : List Cond := .code yX16_wanted cX16_wanted 8 (some .int) :: ([.fieldLink RX16 70 "TimeMachineModel$Machine" "holders" "[I", .fieldLink RX16 64 "TimeMachineModel$Machine" "frame" "[I"] ++ (u_ws RX16 TX16 56 ++ []))
theorem gd_dm_X16_wanted : ∀ w ∈ ow_dm_X16_wanted, (w.onTables && w.keeps) = true ∨ ∃ ty, w = Cond.arrayClass ty := List.forall_mem_cons.mpr ⟨good_of_word rfl, List.forall_mem_append.mpr ⟨fun w h => good_of_word (List.all_eq_true.mp (by decide +kernel) w h), List.forall_mem_append.mpr ⟨gu_X16, fun _ h => nomatch h⟩⟩⟩
theorem hi_dm_X16_wanted_X16 : ∀ w ∈ u_ws RX16 TX16 56, w ∈ ow_dm_X16_wanted := fun w h => List.mem_cons_of_mem _ (List.mem_append_right _ (List.mem_append_left _ h))
def dj_X16_wanted_80 (p : Program) (l : Launch) (e : Env) (s : State) (m : MethodId) (args : Array Value) (below : List Frame) (meth : Method) (c : Code) (Q : State → Prop) (A : Nat → Prop) (dC : Nat → ClassId) (dI : Nat → Nat → Nat) (a : Nat → Nat) (ac : Nat → ClassId) (g : Int32 → Int32 → Int32 → Int32 → Int32 → (St × (St)) → Option (Int32 × (St × (St)))) (r : Int32 × (St × (St))) : Prop := ∀ (x1 : Int32) (x2 : Int32) (x3 : Int32) (x5 : Int32) (y0 : Int32) (s0 : St × (St)) (H : Heap) (locs : List Loc) (ls : Array Slot), g x1 x2 x3 x5 y0 s0 = some r → va_P (dC, dI) vwCl (dw_X16 a ac s0) H → va_D A (dw_X16 a ac s0) → va_S A s.heap H locs → lv_has ls 8 [(0, .ref (a 0)), (1, .int x1), (2, .int x2), (3, .int x3), (5, .int x5)] → W p l e (headSpec ow_dm_X16_wanted ({ frames := 0, cells := 0, slots := 0, locals := 0 })).room s m args below meth c H locs 0 0 Q (F0 m 80 ls [.int y0])
def dj_X16_wanted_78 (p : Program) (l : Launch) (e : Env) (s : State) (m : MethodId) (args : Array Value) (below : List Frame) (meth : Method) (c : Code) (Q : State → Prop) (A : Nat → Prop) (dC : Nat → ClassId) (dI : Nat → Nat → Nat) (a : Nat → Nat) (ac : Nat → ClassId) (g : Int32 → Int32 → Int32 → Int32 → Int32 → (St × (St)) → Option (Int32 × (St × (St)))) (r : Int32 × (St × (St))) : Prop := ∀ (x1 : Int32) (x2 : Int32) (x3 : Int32) (x4 : Int32) (x5 : Int32) (s0 : St × (St)) (H : Heap) (locs : List Loc) (ls : Array Slot), g x1 x2 x3 x4 x5 s0 = some r → va_P (dC, dI) vwCl (dw_X16 a ac s0) H → va_D A (dw_X16 a ac s0) → va_S A s.heap H locs → lv_has ls 8 [(0, .ref (a 0)), (1, .int x1), (2, .int x2), (3, .int x3), (4, .int x4), (5, .int x5)] → W p l e (headSpec ow_dm_X16_wanted ({ frames := 0, cells := 0, slots := 0, locals := 0 })).room s m args below meth c H locs 0 0 Q (F0 m 78 ls [])
def dj_X16_wanted_48 (p : Program) (l : Launch) (e : Env) (s : State) (m : MethodId) (args : Array Value) (below : List Frame) (meth : Method) (c : Code) (Q : State → Prop) (A : Nat → Prop) (dC : Nat → ClassId) (dI : Nat → Nat → Nat) (a : Nat → Nat) (ac : Nat → ClassId) (g : Int32 → Int32 → Int32 → Int32 → Int32 → Int32 → Int32 → (St × (St)) → Option (Int32 × (St × (St)))) (r : Int32 × (St × (St))) : Prop := ∀ (x1 : Int32) (x2 : Int32) (x3 : Int32) (x4 : Int32) (x5 : Int32) (x6 : Int32) (y0 : Int32) (s0 : St × (St)) (H : Heap) (locs : List Loc) (ls : Array Slot), g x1 x2 x3 x4 x5 x6 y0 s0 = some r → va_P (dC, dI) vwCl (dw_X16 a ac s0) H → va_D A (dw_X16 a ac s0) → va_S A s.heap H locs → lv_has ls 8 [(0, .ref (a 0)), (1, .int x1), (2, .int x2), (3, .int x3), (4, .int x4), (5, .int x5), (6, .int x6)] → W p l e (headSpec ow_dm_X16_wanted ({ frames := 0, cells := 0, slots := 0, locals := 0 })).room s m args below meth c H locs 0 0 Q (F0 m 48 ls [.int y0])
def dj_X16_wanted_43 (p : Program) (l : Launch) (e : Env) (s : State) (m : MethodId) (args : Array Value) (below : List Frame) (meth : Method) (c : Code) (Q : State → Prop) (A : Nat → Prop) (dC : Nat → ClassId) (dI : Nat → Nat → Nat) (a : Nat → Nat) (ac : Nat → ClassId) (g : Int32 → Int32 → Int32 → Int32 → Int32 → Int32 → (St × (St)) → Option (Int32 × (St × (St)))) (r : Int32 × (St × (St))) : Prop := ∀ (x1 : Int32) (x2 : Int32) (x3 : Int32) (x4 : Int32) (x5 : Int32) (x6 : Int32) (s0 : St × (St)) (H : Heap) (locs : List Loc) (ls : Array Slot), g x1 x2 x3 x4 x5 x6 s0 = some r → va_P (dC, dI) vwCl (dw_X16 a ac s0) H → va_D A (dw_X16 a ac s0) → va_S A s.heap H locs → lv_has ls 8 [(0, .ref (a 0)), (1, .int x1), (2, .int x2), (3, .int x3), (4, .int x4), (5, .int x5), (6, .int x6)] → W p l e (headSpec ow_dm_X16_wanted ({ frames := 0, cells := 0, slots := 0, locals := 0 })).room s m args below meth c H locs 0 0 Q (F0 m 43 ls [])
def dj_X16_wanted_6 (p : Program) (l : Launch) (e : Env) (s : State) (m : MethodId) (args : Array Value) (below : List Frame) (meth : Method) (c : Code) (Q : State → Prop) (A : Nat → Prop) (dC : Nat → ClassId) (dI : Nat → Nat → Nat) (a : Nat → Nat) (ac : Nat → ClassId) (g : Int32 → Int32 → Int32 → Int32 → Int32 → (St × (St)) → Option (Int32 × (St × (St)))) (r : Int32 × (St × (St))) : Prop := ∀ (x1 : Int32) (x2 : Int32) (x3 : Int32) (x4 : Int32) (x5 : Int32) (s0 : St × (St)) (H : Heap) (locs : List Loc) (ls : Array Slot), g x1 x2 x3 x4 x5 s0 = some r → va_P (dC, dI) vwCl (dw_X16 a ac s0) H → va_D A (dw_X16 a ac s0) → va_S A s.heap H locs → lv_has ls 8 [(0, .ref (a 0)), (1, .int x1), (2, .int x2), (3, .int x3), (4, .int x4), (5, .int x5)] → W p l e (headSpec ow_dm_X16_wanted ({ frames := 0, cells := 0, slots := 0, locals := 0 })).room s m args below meth c H locs 0 0 Q (F0 m 6 ls [])
def dj_X16_wanted_0 (p : Program) (l : Launch) (e : Env) (s : State) (m : MethodId) (args : Array Value) (below : List Frame) (meth : Method) (c : Code) (Q : State → Prop) (A : Nat → Prop) (dC : Nat → ClassId) (dI : Nat → Nat → Nat) (a : Nat → Nat) (ac : Nat → ClassId) (g : Int32 → Int32 → Int32 → (St × (St)) → Option (Int32 × (St × (St)))) (r : Int32 × (St × (St))) : Prop := ∀ (v0 : Int32) (v1 : Int32) (v2 : Int32) (s0 : St × (St)) (H : Heap) (locs : List Loc) (ls : Array Slot), g v0 v1 v2 s0 = some r → va_P (dC, dI) vwCl (dw_X16 a ac s0) H → va_D A (dw_X16 a ac s0) → va_S A s.heap H locs → lv_has ls 8 [(0, .ref (a 0)), (1, .int v0), (2, .int v1), (3, .int v2)] → W p l e (headSpec ow_dm_X16_wanted ({ frames := 0, cells := 0, slots := 0, locals := 0 })).room s m args below meth c H locs 0 0 Q (F0 m 0 ls [])
set_option maxHeartbeats 40000000 in
set_option maxRecDepth 100000 in
theorem db_X16_wanted_80 {p : Program} {l : Launch} {e : Env} {s : State} {m : MethodId} {args : Array Value} {below : List Frame} {meth : Method} {c : Code} {Q : State → Prop} {A : Nat → Prop} {dC : Nat → ClassId} {dI : Nat → Nat → Nat} {a : Nat → Nat} {ac : Nat → ClassId} {n : Nat} {r : Int32 × (St × (St))} (C : nd_C p l s m args c A (dC, dI) cX16_wanted 8 RX16 ow_dm_X16_wanted (dk_X16 ac)) (K : nd_Ki p l e (headSpec ow_dm_X16_wanted ({ frames := 0, cells := 0, slots := 0, locals := 0 })).room s m args below meth c Q A (dC, dI) cX16_wanted .int (St × (St)) (dw_X16 a ac) r) {g6 : Int32 → Int32 → Int32 → Int32 → Int32 → (St × (St)) → Option (Int32 × (St × (St)))} (J6 : dj_X16_wanted_6 p l e s m args below meth c Q A dC dI a ac g6 r) : dj_X16_wanted_80 p l e s m args below meth c Q A dC dI a ac (df_X16_wanted_80 n g6) r := by
  obtain ⟨hlt, hx, hb, hml, hown, hts, hN, hA, hK⟩ := id C
  intro x1 x2 x3 x5 y0 s0 H locs ls h hP hD hS hl
  unfold df_X16_wanted_80 at h
  refine lv_istore (lv' := [(4, .int y0), (0, .ref (a 0)), (1, .int x1), (2, .int x2), (3, .int x3), (5, .int x5)]) hx hb dX16_wanted_80 hl (by decide) rfl (fun ls hl => ?_)
  obtain ⟨z5, ez5, h⟩ := nd_let_e h
  refine lv_iinc (v := z5) (lv' := [(5, .int z5), (4, .int y0), (0, .ref (a 0)), (1, .int x1), (2, .int x2), (3, .int x3)]) hx hb dX16_wanted_82 hl (k := 5) rfl (by rw [ez5]) (by decide) rfl (fun ls hl => ?_)
  refine lv_goto (tgt := 6) hx hb dX16_wanted_85 (by decide) ?_
  exact (J6) (x1) (x2) (x3) (y0) (z5) s0 _ _ _ h hP hD hS (lv_sub hl [2, 3, 4, 5, 1, 0] rfl)
set_option maxHeartbeats 40000000 in
set_option maxRecDepth 100000 in
theorem db_X16_wanted_78 {p : Program} {l : Launch} {e : Env} {s : State} {m : MethodId} {args : Array Value} {below : List Frame} {meth : Method} {c : Code} {Q : State → Prop} {A : Nat → Prop} {dC : Nat → ClassId} {dI : Nat → Nat → Nat} {a : Nat → Nat} {ac : Nat → ClassId} {n : Nat} {r : Int32 × (St × (St))} (C : nd_C p l s m args c A (dC, dI) cX16_wanted 8 RX16 ow_dm_X16_wanted (dk_X16 ac)) (K : nd_Ki p l e (headSpec ow_dm_X16_wanted ({ frames := 0, cells := 0, slots := 0, locals := 0 })).room s m args below meth c Q A (dC, dI) cX16_wanted .int (St × (St)) (dw_X16 a ac) r) {g6 : Int32 → Int32 → Int32 → Int32 → Int32 → (St × (St)) → Option (Int32 × (St × (St)))} (J6 : dj_X16_wanted_6 p l e s m args below meth c Q A dC dI a ac g6 r) : dj_X16_wanted_78 p l e s m args below meth c Q A dC dI a ac (df_X16_wanted_78 n g6) r := by
  obtain ⟨hlt, hx, hb, hml, hown, hts, hN, hA, hK⟩ := id C
  intro x1 x2 x3 x4 x5 s0 H locs ls h hP hD hS hl
  unfold df_X16_wanted_78 at h
  refine lv_iload hx hb dX16_wanted_78 (lv_at hl 4 rfl) ?_
  exact (db_X16_wanted_80 C K J6) (x1) (x2) (x3) (x5) (x4) s0 _ _ _ h hP hD hS (lv_sub hl [0, 1, 2, 3, 5] rfl)
set_option maxHeartbeats 40000000 in
set_option maxRecDepth 100000 in
theorem db_X16_wanted_48 {p : Program} {l : Launch} {e : Env} {s : State} {m : MethodId} {args : Array Value} {below : List Frame} {meth : Method} {c : Code} {Q : State → Prop} {A : Nat → Prop} {dC : Nat → ClassId} {dI : Nat → Nat → Nat} {a : Nat → Nat} {ac : Nat → ClassId} {n : Nat} {r : Int32 × (St × (St))} (C : nd_C p l s m args c A (dC, dI) cX16_wanted 8 RX16 ow_dm_X16_wanted (dk_X16 ac)) (K : nd_Ki p l e (headSpec ow_dm_X16_wanted ({ frames := 0, cells := 0, slots := 0, locals := 0 })).room s m args below meth c Q A (dC, dI) cX16_wanted .int (St × (St)) (dw_X16 a ac) r) {g6 : Int32 → Int32 → Int32 → Int32 → Int32 → (St × (St)) → Option (Int32 × (St × (St)))} (J6 : dj_X16_wanted_6 p l e s m args below meth c Q A dC dI a ac g6 r) : dj_X16_wanted_48 p l e s m args below meth c Q A dC dI a ac (df_X16_wanted_48 n g6) r := by
  obtain ⟨hlt, hx, hb, hml, hown, hts, hN, hA, hK⟩ := id C
  intro x1 x2 x3 x4 x5 x6 y0 s0 H locs ls h hP hD hS hl
  unfold df_X16_wanted_48 at h
  refine lv_istore (lv' := [(7, .int y0), (0, .ref (a 0)), (1, .int x1), (2, .int x2), (3, .int x3), (4, .int x4), (5, .int x5), (6, .int x6)]) hx hb dX16_wanted_48 hl (by decide) rfl (fun ls hl => ?_)
  refine lv_iload hx hb dX16_wanted_50 (lv_at hl 0 rfl) ?_
  refine lv_if_eq (tgt := 78) hx hb dX16_wanted_52 (by decide) (fun c4 => ?_) (fun c4 => ?_)
  · have h := nd_pos h c4
    exact (db_X16_wanted_78 C K J6) (x1) (x2) (x3) (x4) (x5) s0 _ _ _ h hP hD hS (lv_sub hl [1, 2, 3, 4, 5, 6] rfl)
  · have h := nd_neg h c4
    refine lv_aload_n hx hb dX16_wanted_55 rfl (lv_at hl 1 rfl) ?_
    refine va_get (D := (dC, dI)) (ci := 17) (v := .ref (a 20)) (C := RX16) (T := TX16) (N := 56) hx hb hts hi_dm_X16_wanted_X16 hown hK hP 0 rfl rfl 28 (by decide) (hts (.fieldLink RX16 70 "TimeMachineModel$Machine" "holders" "[I") (List.mem_of_getElem? (i := 1) rfl)) (fun _ h9 => h9) rfl dX16_wanted_56 ?_
    refine lv_aload_n hx hb dX16_wanted_59 rfl (lv_at hl 1 rfl) ?_
    refine va_get (D := (dC, dI)) (ci := 17) (v := .ref (a 18)) (C := RX16) (T := TX16) (N := 56) hx hb hts hi_dm_X16_wanted_X16 hown hK hP 0 rfl rfl 26 (by decide) (hts (.fieldLink RX16 64 "TimeMachineModel$Machine" "frame" "[I") (List.mem_of_getElem? (i := 2) rfl)) (fun _ h9 => h9) rfl dX16_wanted_60 ?_
    refine lv_iload hx hb dX16_wanted_63 (lv_at hl 7 rfl) ?_
    obtain ⟨i6, h⟩ := nd_ck_e h
    refine va_iald (i := x6) hx hb hK hP 18 17 rfl rfl i6 dX16_wanted_65 ?_
    obtain ⟨i7, h⟩ := nd_ck_e h
    refine va_iald (i := (sR s0.1 16 (Int32.toNatClampNeg x6))) hx hb hK hP 20 19 rfl rfl i7 dX16_wanted_66 ?_
    refine lv_iconst (v := 1) hx hb dX16_wanted_67 (by decide) ?_
    refine lv_icmp_le (tgt := 78) hx hb dX16_wanted_68 (by decide) (fun c8 => ?_) (fun c8 => ?_)
    · have h := nd_pos h c8
      exact (db_X16_wanted_78 C K J6) (x1) (x2) (x3) (x4) (x5) s0 _ _ _ h hP hD hS (lv_sub hl [1, 2, 3, 4, 5, 6] rfl)
    · have h := nd_neg h c8
      refine lv_iload hx hb dX16_wanted_71 (lv_at hl 5 rfl) ?_
      refine lv_iconst (v := 1) hx hb dX16_wanted_73 (by decide) ?_
      refine lv_iadd hx hb dX16_wanted_74 ?_
      refine lv_goto (tgt := 80) hx hb dX16_wanted_75 (by decide) ?_
      exact (db_X16_wanted_80 C K J6) (x1) (x2) (x3) (x5) ((x4 + 1)) s0 _ _ _ h hP hD hS (lv_sub hl [1, 2, 3, 4, 6] rfl)
set_option maxHeartbeats 40000000 in
set_option maxRecDepth 100000 in
theorem db_X16_wanted_43 {p : Program} {l : Launch} {e : Env} {s : State} {m : MethodId} {args : Array Value} {below : List Frame} {meth : Method} {c : Code} {Q : State → Prop} {A : Nat → Prop} {dC : Nat → ClassId} {dI : Nat → Nat → Nat} {a : Nat → Nat} {ac : Nat → ClassId} {n : Nat} {r : Int32 × (St × (St))} (C : nd_C p l s m args c A (dC, dI) cX16_wanted 8 RX16 ow_dm_X16_wanted (dk_X16 ac)) (K : nd_Ki p l e (headSpec ow_dm_X16_wanted ({ frames := 0, cells := 0, slots := 0, locals := 0 })).room s m args below meth c Q A (dC, dI) cX16_wanted .int (St × (St)) (dw_X16 a ac) r) {g6 : Int32 → Int32 → Int32 → Int32 → Int32 → (St × (St)) → Option (Int32 × (St × (St)))} (J6 : dj_X16_wanted_6 p l e s m args below meth c Q A dC dI a ac g6 r) : dj_X16_wanted_43 p l e s m args below meth c Q A dC dI a ac (df_X16_wanted_43 n g6) r := by
  obtain ⟨hlt, hx, hb, hml, hown, hts, hN, hA, hK⟩ := id C
  intro x1 x2 x3 x4 x5 x6 s0 H locs ls h hP hD hS hl
  unfold df_X16_wanted_43 at h
  refine lv_iconst (v := 1) hx hb dX16_wanted_43 (by decide) ?_
  refine lv_goto (tgt := 48) hx hb dX16_wanted_44 (by decide) ?_
  exact (db_X16_wanted_48 C K J6) (x1) (x2) (x3) (x4) (x5) (x6) (1) s0 _ _ _ h hP hD hS (lv_sub hl [0, 1, 2, 3, 4, 5, 6] rfl)
set_option maxHeartbeats 40000000 in
set_option maxRecDepth 100000 in
theorem dB_X16_wanted_6 {p : Program} {l : Launch} {e : Env} {s : State} {m : MethodId} {args : Array Value} {below : List Frame} {meth : Method} {c : Code} {Q : State → Prop} {A : Nat → Prop} {dC : Nat → ClassId} {dI : Nat → Nat → Nat} {a : Nat → Nat} {ac : Nat → ClassId} {n : Nat} {r : Int32 × (St × (St))} (C : nd_C p l s m args c A (dC, dI) cX16_wanted 8 RX16 ow_dm_X16_wanted (dk_X16 ac)) (K : nd_Ki p l e (headSpec ow_dm_X16_wanted ({ frames := 0, cells := 0, slots := 0, locals := 0 })).room s m args below meth c Q A (dC, dI) cX16_wanted .int (St × (St)) (dw_X16 a ac) r) {g6 : Int32 → Int32 → Int32 → Int32 → Int32 → (St × (St)) → Option (Int32 × (St × (St)))} (J6 : dj_X16_wanted_6 p l e s m args below meth c Q A dC dI a ac g6 r) : dj_X16_wanted_6 p l e s m args below meth c Q A dC dI a ac (dF_X16_wanted_6 n g6) r := by
  obtain ⟨hlt, hx, hb, hml, hown, hts, hN, hA, hK⟩ := id C
  intro x1 x2 x3 x4 x5 s0 H locs ls h hP hD hS hl
  unfold dF_X16_wanted_6 at h
  refine lv_iload hx hb dX16_wanted_6 (lv_at hl 5 rfl) ?_
  refine lv_iload_n hx hb dX16_wanted_8 rfl (lv_at hl 3 rfl) ?_
  refine lv_icmp_ge (tgt := 88) hx hb dX16_wanted_9 (by decide) (fun c1 => ?_) (fun c1 => ?_)
  · have h := nd_pos h c1
    refine lv_iload hx hb dX16_wanted_88 (lv_at hl 4 rfl) ?_
    exact K _ _ _ _ _ _ dX16_wanted_90 rfl (Option.some.inj h).symm hP hD hS
  · have h := nd_neg h c1
    refine lv_bipush (v := 64) hx hb dX16_wanted_12 (by decide) ?_
    refine lv_iload_n hx hb dX16_wanted_14 rfl (lv_at hl 1 rfl) ?_
    refine lv_imul hx hb dX16_wanted_15 ?_
    refine lv_iload_n hx hb dX16_wanted_16 rfl (lv_at hl 2 rfl) ?_
    refine lv_iload hx hb dX16_wanted_17 (lv_at hl 5 rfl) ?_
    refine lv_iadd hx hb dX16_wanted_19 ?_
    refine lv_sipush (v := 1024) hx hb dX16_wanted_20 (by decide) ?_
    refine lv_idiv hx hb dX16_wanted_23 (by decide) ?_
    refine lv_iadd hx hb dX16_wanted_24 ?_
    refine lv_topi (fun z2 ez2 => ?_)
    have h := nd_at h ez2
    refine lv_istore (lv' := [(6, .int z2), (0, .ref (a 0)), (1, .int x1), (2, .int x2), (3, .int x3), (4, .int x4), (5, .int x5)]) hx hb dX16_wanted_25 hl (by decide) rfl (fun ls hl => ?_)
    refine lv_iload hx hb dX16_wanted_27 (lv_at hl 6 rfl) ?_
    refine lv_if_eq (tgt := 43) hx hb dX16_wanted_29 (by decide) (fun c3 => ?_) (fun c3 => ?_)
    · have h := nd_pos h c3
      exact (db_X16_wanted_43 C K J6) (x1) (x2) (x3) (x4) (x5) (z2) s0 _ _ _ h hP hD hS (lv_sub hl [1, 2, 3, 4, 5, 6, 0] rfl)
    · have h := nd_neg h c3
      refine lv_iload_n hx hb dX16_wanted_32 rfl (lv_at hl 3 rfl) ?_
      refine lv_iload hx hb dX16_wanted_33 (lv_at hl 6 rfl) ?_
      refine lv_iadd hx hb dX16_wanted_35 ?_
      refine lv_sipush (v := 1024) hx hb dX16_wanted_36 (by decide) ?_
      refine lv_irem hx hb dX16_wanted_39 (by decide) ?_
      refine lv_if_ne (tgt := 47) hx hb dX16_wanted_40 (by decide) (fun c9 => ?_) (fun c9 => ?_)
      · have h := nd_neg h c9
        refine lv_iconst (v := 0) hx hb dX16_wanted_47 (by decide) ?_
        exact (db_X16_wanted_48 C K J6) (x1) (x2) (x3) (x4) (x5) (z2) (0) s0 _ _ _ h hP hD hS (lv_sub hl [1, 2, 3, 4, 5, 6, 0] rfl)
      · have h := nd_pos h c9
        exact (db_X16_wanted_43 C K J6) (x1) (x2) (x3) (x4) (x5) (z2) s0 _ _ _ h hP hD hS (lv_sub hl [1, 2, 3, 4, 5, 6, 0] rfl)
set_option maxHeartbeats 40000000 in
set_option maxRecDepth 100000 in
theorem db_X16_wanted_6 {p : Program} {l : Launch} {e : Env} {s : State} {m : MethodId} {args : Array Value} {below : List Frame} {meth : Method} {c : Code} {Q : State → Prop} {A : Nat → Prop} {dC : Nat → ClassId} {dI : Nat → Nat → Nat} {a : Nat → Nat} {ac : Nat → ClassId} {n : Nat} {r : Int32 × (St × (St))} (C : nd_C p l s m args c A (dC, dI) cX16_wanted 8 RX16 ow_dm_X16_wanted (dk_X16 ac)) (K : nd_Ki p l e (headSpec ow_dm_X16_wanted ({ frames := 0, cells := 0, slots := 0, locals := 0 })).room s m args below meth c Q A (dC, dI) cX16_wanted .int (St × (St)) (dw_X16 a ac) r) (k : Nat) : dj_X16_wanted_6 p l e s m args below meth c Q A dC dI a ac (df_X16_wanted_6 n k) r := by
  induction k with
  | zero => intro x1 x2 x3 x4 x5 s0 H locs ls h; exact nomatch (show (none : Option (Int32 × (St × (St)))) = some r from h)
  | succ k ih => exact dB_X16_wanted_6 C K ih
set_option maxHeartbeats 40000000 in
set_option maxRecDepth 100000 in
theorem db_X16_wanted_0 {p : Program} {l : Launch} {e : Env} {s : State} {m : MethodId} {args : Array Value} {below : List Frame} {meth : Method} {c : Code} {Q : State → Prop} {A : Nat → Prop} {dC : Nat → ClassId} {dI : Nat → Nat → Nat} {a : Nat → Nat} {ac : Nat → ClassId} {n : Nat} {r : Int32 × (St × (St))} (C : nd_C p l s m args c A (dC, dI) cX16_wanted 8 RX16 ow_dm_X16_wanted (dk_X16 ac)) (K : nd_Ki p l e (headSpec ow_dm_X16_wanted ({ frames := 0, cells := 0, slots := 0, locals := 0 })).room s m args below meth c Q A (dC, dI) cX16_wanted .int (St × (St)) (dw_X16 a ac) r) : dj_X16_wanted_0 p l e s m args below meth c Q A dC dI a ac (df_X16_wanted_0 n) r := by
  obtain ⟨hlt, hx, hb, hml, hown, hts, hN, hA, hK⟩ := id C
  intro v0 v1 v2 s0 H locs ls h hP hD hS hl
  unfold df_X16_wanted_0 at h
  refine lv_iconst (v := 0) hx hb dX16_wanted_0 (by decide) ?_
  refine lv_istore (lv' := [(4, .int 0), (0, .ref (a 0)), (1, .int v0), (2, .int v1), (3, .int v2)]) hx hb dX16_wanted_1 hl (by decide) rfl (fun ls hl => ?_)
  refine lv_iconst (v := 0) hx hb dX16_wanted_3 (by decide) ?_
  refine lv_istore (lv' := [(5, .int 0), (4, .int 0), (0, .ref (a 0)), (1, .int v0), (2, .int v1), (3, .int v2)]) hx hb dX16_wanted_4 hl (by decide) rfl (fun ls hl => ?_)
  exact (db_X16_wanted_6 C K n) (v0) (v1) (v2) (0) (0) s0 _ _ _ h hP hD hS (lv_sub hl [2, 3, 4, 5, 1, 0] rfl)
set_option maxHeartbeats 40000000 in
set_option maxRecDepth 100000 in
theorem dm_X16_wanted (l : Launch) (hlt : l.stackTraces = false) (dC : Nat → ClassId) (dI : Nat → Nat → Nat) (a : Nat → Nat) (ac : Nat → ClassId) (n : Nat) (v0 : Int32) (v1 : Int32) (v2 : Int32) (s0 : St × (St)) {r : Int32 × (St × (St))} (h : df_X16_wanted n v0 v1 v2 s0 = some r) (sz : Nat) : Met l yX16_wanted ow_dm_X16_wanted ({ frames := 0, cells := 0, slots := 0, locals := 0 }) (va_Pc [.ref (a 0), .int v0, .int v1, .int v2] (fun U => U.heap.size = sz ∧ va_P (dC, dI) vwCl (dw_X16 a ac s0) U.heap ∧ va_K (dC, dI) vwCl (dk_X16 ac) U ∧ va_D (fun _ => True) (dw_X16 a ac s0) ∧ nv_E (va_A (dw_X16 a ac s0) sz) U)) (va_Qi (fun x _ => x = r.1) (fun (_ : Unit) t => va_P (dC, dI) vwCl (dw_X16 a ac r.2) t.heap ∧ va_K (dC, dI) vwCl (dk_X16 ac) t ∧ va_D (va_A (dw_X16 a ac s0) sz) (dw_X16 a ac r.2)) (va_A (dw_X16 a ac s0) sz)) 0 0 (va_A (dw_X16 a ac s0) sz) := by
  refine Met.ofW (cc := cX16_wanted) (maxL := 8) (ret := (some .int)) (by decide) rfl ?_
  intro p e s m args below meth c s₁ B hml hv
  obtain ⟨rfl, hsz, hP, hK, hD0, hN⟩ := hv
  have hx := B.exec
  have hb := B.bytes
  have hr := B.returns
  have hts := atoms_spec (ws := ow_dm_X16_wanted) B.pre
  have hown : s.vm.findClass RX16 = some m.cls := findClass_of_methodNamed B.named
  have hlocks := B.notSynchronized
  subst hsz
  have hD := hD0.self (sz := s.heap.size)
  generalize hAe : va_A (dw_X16 a ac s0) s.heap.size = A at hD hN ⊢
  have hA : ∀ q : Nat, s.heap.size ≤ q → A q := fun q h => by rw [← hAe]; exact Or.inr h
  have hl := lv_entry ([.ref (a 0), .int v0, .int v1, .int v2]) (n := 8) (Nat.le_of_ble_eq_true rfl)
  rw [lg_entry_eq]
  generalize (lg_sl ([.ref (a 0), .int v0, .int v1, .int v2]) ++ List.replicate (8 - (lg_sl ([.ref (a 0), .int v0, .int v1, .int v2])).length) Slot.unset).toArray = ls at hl ⊢
  have hl : lv_has ls 8 [(0, .ref (a 0)), (1, .int v0), (2, .int v1), (3, .int v2)] := hl
  exact db_X16_wanted_0 (dC := dC) (dI := dI) (a := a) (ac := ac) (n := n) (r := r) ⟨hlt, hx, hb, hml, hown, hts, hN, hA, hK⟩ (fun pc v τ H locs ls d z er hP hD hS => by subst er; exact W.zret (v := v) hx hb hr z (fun t ht hW => ⟨⟨v, (), rfl, rfl, by rw [ht]; exact hP, va_K.moved hW.alike hK, hD⟩, hS.F ht⟩) hS.2.2 d) v0 v1 v2 s0 _ _ _ h hP hD va_S.rf (lv_sub hl [0, 1, 2, 3] rfl)
def ow_dm_X16_hasFrames : List Cond := .code yX16_hasFrames cX16_hasFrames 2 (some .boolean) :: ([.fieldLink RX16 129 "TimeMachineModel$Machine" "used" "I"] ++ (u_ws RX16 TX16 56 ++ []))
theorem gd_dm_X16_hasFrames : ∀ w ∈ ow_dm_X16_hasFrames, (w.onTables && w.keeps) = true ∨ ∃ ty, w = Cond.arrayClass ty := List.forall_mem_cons.mpr ⟨good_of_word rfl, List.forall_mem_append.mpr ⟨fun w h => good_of_word (List.all_eq_true.mp (by decide +kernel) w h), List.forall_mem_append.mpr ⟨gu_X16, fun _ h => nomatch h⟩⟩⟩
theorem hi_dm_X16_hasFrames_X16 : ∀ w ∈ u_ws RX16 TX16 56, w ∈ ow_dm_X16_hasFrames := fun w h => List.mem_cons_of_mem _ (List.mem_append_right _ (List.mem_append_left _ h))
def dj_X16_hasFrames_17 (p : Program) (l : Launch) (e : Env) (s : State) (m : MethodId) (args : Array Value) (below : List Frame) (meth : Method) (c : Code) (Q : State → Prop) (A : Nat → Prop) (dC : Nat → ClassId) (dI : Nat → Nat → Nat) (a : Nat → Nat) (ac : Nat → ClassId) (g : Int32 → (St × (St)) → Option (Int32 × (St × (St)))) (r : Int32 × (St × (St))) : Prop := ∀ (y0 : Int32) (s0 : St × (St)) (H : Heap) (locs : List Loc) (ls : Array Slot), g y0 s0 = some r → va_P (dC, dI) vwCl (dw_X16 a ac s0) H → va_D A (dw_X16 a ac s0) → va_S A s.heap H locs → lv_has ls 2 [] → W p l e (headSpec ow_dm_X16_hasFrames ({ frames := 0, cells := 0, slots := 0, locals := 0 })).room s m args below meth c H locs 0 0 Q (F0 m 17 ls [.int y0])
def dj_X16_hasFrames_0 (p : Program) (l : Launch) (e : Env) (s : State) (m : MethodId) (args : Array Value) (below : List Frame) (meth : Method) (c : Code) (Q : State → Prop) (A : Nat → Prop) (dC : Nat → ClassId) (dI : Nat → Nat → Nat) (a : Nat → Nat) (ac : Nat → ClassId) (g : Int32 → (St × (St)) → Option (Int32 × (St × (St)))) (r : Int32 × (St × (St))) : Prop := ∀ (v0 : Int32) (s0 : St × (St)) (H : Heap) (locs : List Loc) (ls : Array Slot), g v0 s0 = some r → va_P (dC, dI) vwCl (dw_X16 a ac s0) H → va_D A (dw_X16 a ac s0) → va_S A s.heap H locs → lv_has ls 2 [(0, .ref (a 0)), (1, .int v0)] → W p l e (headSpec ow_dm_X16_hasFrames ({ frames := 0, cells := 0, slots := 0, locals := 0 })).room s m args below meth c H locs 0 0 Q (F0 m 0 ls [])
set_option maxHeartbeats 40000000 in
set_option maxRecDepth 100000 in
theorem db_X16_hasFrames_17 {p : Program} {l : Launch} {e : Env} {s : State} {m : MethodId} {args : Array Value} {below : List Frame} {meth : Method} {c : Code} {Q : State → Prop} {A : Nat → Prop} {dC : Nat → ClassId} {dI : Nat → Nat → Nat} {a : Nat → Nat} {ac : Nat → ClassId} {n : Nat} {r : Int32 × (St × (St))} (C : nd_C p l s m args c A (dC, dI) cX16_hasFrames 2 RX16 ow_dm_X16_hasFrames (dk_X16 ac)) (K : nd_Ki p l e (headSpec ow_dm_X16_hasFrames ({ frames := 0, cells := 0, slots := 0, locals := 0 })).room s m args below meth c Q A (dC, dI) cX16_hasFrames .boolean (St × (St)) (dw_X16 a ac) r) : dj_X16_hasFrames_17 p l e s m args below meth c Q A dC dI a ac (df_X16_hasFrames_17 n) r := by
  obtain ⟨hlt, hx, hb, hml, hown, hts, hN, hA, hK⟩ := id C
  intro y0 s0 H locs ls h hP hD hS hl
  unfold df_X16_hasFrames_17 at h
  obtain ⟨n2, h⟩ := nd_z_e ⟨_, rfl⟩ h
  exact K _ _ _ _ _ _ dX16_hasFrames_17 n2 (Option.some.inj h).symm hP hD hS
set_option maxHeartbeats 40000000 in
set_option maxRecDepth 100000 in
theorem db_X16_hasFrames_0 {p : Program} {l : Launch} {e : Env} {s : State} {m : MethodId} {args : Array Value} {below : List Frame} {meth : Method} {c : Code} {Q : State → Prop} {A : Nat → Prop} {dC : Nat → ClassId} {dI : Nat → Nat → Nat} {a : Nat → Nat} {ac : Nat → ClassId} {n : Nat} {r : Int32 × (St × (St))} (C : nd_C p l s m args c A (dC, dI) cX16_hasFrames 2 RX16 ow_dm_X16_hasFrames (dk_X16 ac)) (K : nd_Ki p l e (headSpec ow_dm_X16_hasFrames ({ frames := 0, cells := 0, slots := 0, locals := 0 })).room s m args below meth c Q A (dC, dI) cX16_hasFrames .boolean (St × (St)) (dw_X16 a ac) r) : dj_X16_hasFrames_0 p l e s m args below meth c Q A dC dI a ac (df_X16_hasFrames_0 n) r := by
  obtain ⟨hlt, hx, hb, hml, hown, hts, hN, hA, hK⟩ := id C
  intro v0 s0 H locs ls h hP hD hS hl
  unfold df_X16_hasFrames_0 at h
  refine lv_aload_n hx hb dX16_hasFrames_0 rfl (lv_at hl 0 rfl) ?_
  refine va_get (D := (dC, dI)) (ci := 17) (v := .int (sI s0.1 6)) (C := RX16) (T := TX16) (N := 56) hx hb hts hi_dm_X16_hasFrames_X16 hown hK hP 0 rfl rfl 29 (by decide) (hts (.fieldLink RX16 129 "TimeMachineModel$Machine" "used" "I") (List.mem_of_getElem? (i := 1) rfl)) (fun _ h9 => h9) rfl dX16_hasFrames_1 ?_
  refine lv_iload_n hx hb dX16_hasFrames_4 rfl (lv_at hl 1 rfl) ?_
  refine lv_iadd hx hb dX16_hasFrames_5 ?_
  refine lv_sipush (v := 256) hx hb dX16_hasFrames_6 (by decide) ?_
  refine lv_icmp_gt (tgt := 16) hx hb dX16_hasFrames_9 (by decide) (fun c1 => ?_) (fun c1 => ?_)
  · have h := nd_pos h c1
    refine lv_iconst (v := 0) hx hb dX16_hasFrames_16 (by decide) ?_
    exact (db_X16_hasFrames_17 C K) (0) s0 _ _ _ h hP hD hS (lv_sub hl [] rfl)
  · have h := nd_neg h c1
    refine lv_iconst (v := 1) hx hb dX16_hasFrames_12 (by decide) ?_
    refine lv_goto (tgt := 17) hx hb dX16_hasFrames_13 (by decide) ?_
    exact (db_X16_hasFrames_17 C K) (1) s0 _ _ _ h hP hD hS (lv_sub hl [] rfl)
set_option maxHeartbeats 40000000 in
set_option maxRecDepth 100000 in
theorem dm_X16_hasFrames (l : Launch) (hlt : l.stackTraces = false) (dC : Nat → ClassId) (dI : Nat → Nat → Nat) (a : Nat → Nat) (ac : Nat → ClassId) (n : Nat) (v0 : Int32) (s0 : St × (St)) {r : Int32 × (St × (St))} (h : df_X16_hasFrames n v0 s0 = some r) (sz : Nat) : Met l yX16_hasFrames ow_dm_X16_hasFrames ({ frames := 0, cells := 0, slots := 0, locals := 0 }) (va_Pc [.ref (a 0), .int v0] (fun U => U.heap.size = sz ∧ va_P (dC, dI) vwCl (dw_X16 a ac s0) U.heap ∧ va_K (dC, dI) vwCl (dk_X16 ac) U ∧ va_D (fun _ => True) (dw_X16 a ac s0) ∧ nv_E (va_A (dw_X16 a ac s0) sz) U)) (va_Qi (fun x _ => x = r.1) (fun (_ : Unit) t => va_P (dC, dI) vwCl (dw_X16 a ac r.2) t.heap ∧ va_K (dC, dI) vwCl (dk_X16 ac) t ∧ va_D (va_A (dw_X16 a ac s0) sz) (dw_X16 a ac r.2)) (va_A (dw_X16 a ac s0) sz)) 0 0 (va_A (dw_X16 a ac s0) sz) := by
  refine Met.ofW (cc := cX16_hasFrames) (maxL := 2) (ret := (some .boolean)) (by decide) rfl ?_
  intro p e s m args below meth c s₁ B hml hv
  obtain ⟨rfl, hsz, hP, hK, hD0, hN⟩ := hv
  have hx := B.exec
  have hb := B.bytes
  have hr := B.returns
  have hts := atoms_spec (ws := ow_dm_X16_hasFrames) B.pre
  have hown : s.vm.findClass RX16 = some m.cls := findClass_of_methodNamed B.named
  have hlocks := B.notSynchronized
  subst hsz
  have hD := hD0.self (sz := s.heap.size)
  generalize hAe : va_A (dw_X16 a ac s0) s.heap.size = A at hD hN ⊢
  have hA : ∀ q : Nat, s.heap.size ≤ q → A q := fun q h => by rw [← hAe]; exact Or.inr h
  have hl := lv_entry ([.ref (a 0), .int v0]) (n := 2) (Nat.le_of_ble_eq_true rfl)
  rw [lg_entry_eq]
  generalize (lg_sl ([.ref (a 0), .int v0]) ++ List.replicate (2 - (lg_sl ([.ref (a 0), .int v0])).length) Slot.unset).toArray = ls at hl ⊢
  have hl : lv_has ls 2 [(0, .ref (a 0)), (1, .int v0)] := hl
  exact db_X16_hasFrames_0 (dC := dC) (dI := dI) (a := a) (ac := ac) (n := n) (r := r) ⟨hlt, hx, hb, hml, hown, hts, hN, hA, hK⟩ (fun pc v τ H locs ls d z er hP hD hS => by subst er; exact W.zret (v := v) hx hb hr z (fun t ht hW => ⟨⟨v, (), rfl, rfl, by rw [ht]; exact hP, va_K.moved hW.alike hK, hD⟩, hS.F ht⟩) hS.2.2 d) v0 s0 _ _ _ h hP hD va_S.rf (lv_sub hl [0, 1] rfl)
def ow_dm_X16_write : List Cond := .code yX16_write cX16_write 5 none :: ([.fieldLink RX16 70 "TimeMachineModel$Machine" "holders" "[I", .fieldLink RX16 64 "TimeMachineModel$Machine" "frame" "[I", .constant RX16 186 (65536), .methodLink RX16 201 yX16_put, .instanceMethod yX16_put, .selects RX16 yX16_put yX16_put, .initialized RX16, .fieldLink RX16 135 "TimeMachineModel$Machine" "reserved" "I", .fieldLink RX16 222 "TimeMachineModel$Machine" "wrote" "Z", .fieldLink RX16 157 "TimeMachineModel$Machine" "watched" "I", .fieldLink RX16 226 "TimeMachineModel$Machine" "watchedAt" "I", .methodLink RX16 211 yX16_leave, .instanceMethod yX16_leave, .selects RX16 yX16_leave yX16_leave, .methodLink RX16 204 yX16_freeFrame, .instanceMethod yX16_freeFrame, .selects RX16 yX16_freeFrame yX16_freeFrame, .methodLink RX16 208 yX16_stand, .instanceMethod yX16_stand, .selects RX16 yX16_stand yX16_stand] ++ (u_ws RX16 TX16 56 ++ (ow_dm_X16_put ++ (ow_dm_X16_leave ++ (ow_dm_X16_freeFrame ++ (ow_dm_X16_stand ++ []))))))
theorem gd_dm_X16_write : ∀ w ∈ ow_dm_X16_write, (w.onTables && w.keeps) = true ∨ ∃ ty, w = Cond.arrayClass ty := List.forall_mem_cons.mpr ⟨good_of_word rfl, List.forall_mem_append.mpr ⟨fun w h => good_of_word (List.all_eq_true.mp (by decide +kernel) w h), List.forall_mem_append.mpr ⟨gu_X16, List.forall_mem_append.mpr ⟨gd_dm_X16_put, List.forall_mem_append.mpr ⟨gd_dm_X16_leave, List.forall_mem_append.mpr ⟨gd_dm_X16_freeFrame, List.forall_mem_append.mpr ⟨gd_dm_X16_stand, fun _ h => nomatch h⟩⟩⟩⟩⟩⟩⟩
theorem hi_dm_X16_write_X16 : ∀ w ∈ u_ws RX16 TX16 56, w ∈ ow_dm_X16_write := fun w h => List.mem_cons_of_mem _ (List.mem_append_right _ (List.mem_append_left _ h))
theorem gi_dm_X16_write_0 : GoodIn ow_dm_X16_write (wsV RX16 201 RX16 yX16_put ow_dm_X16_put) := goodIn_app (goodIn_of _ (by decide +kernel)) (fun w h => ⟨List.mem_cons_of_mem _ (List.mem_append_right _ (List.mem_append_right _ (List.mem_append_left _ h))), gd_dm_X16_put w h⟩)
theorem gi_dm_X16_write_1 : GoodIn ow_dm_X16_write (wsV RX16 211 RX16 yX16_leave ow_dm_X16_leave) := goodIn_app (goodIn_of _ (by decide +kernel)) (fun w h => ⟨List.mem_cons_of_mem _ (List.mem_append_right _ (List.mem_append_right _ (List.mem_append_right _ (List.mem_append_left _ h)))), gd_dm_X16_leave w h⟩)
theorem gi_dm_X16_write_2 : GoodIn ow_dm_X16_write (wsV RX16 204 RX16 yX16_freeFrame ow_dm_X16_freeFrame) := goodIn_app (goodIn_of _ (by decide +kernel)) (fun w h => ⟨List.mem_cons_of_mem _ (List.mem_append_right _ (List.mem_append_right _ (List.mem_append_right _ (List.mem_append_right _ (List.mem_append_left _ h))))), gd_dm_X16_freeFrame w h⟩)
theorem gi_dm_X16_write_3 : GoodIn ow_dm_X16_write (wsV RX16 208 RX16 yX16_stand ow_dm_X16_stand) := goodIn_app (goodIn_of _ (by decide +kernel)) (fun w h => ⟨List.mem_cons_of_mem _ (List.mem_append_right _ (List.mem_append_right _ (List.mem_append_right _ (List.mem_append_right _ (List.mem_append_right _ (List.mem_append_left _ h)))))), gd_dm_X16_stand w h⟩)
def dj_X16_write_109 (p : Program) (l : Launch) (e : Env) (s : State) (m : MethodId) (args : Array Value) (below : List Frame) (meth : Method) (c : Code) (Q : State → Prop) (A : Nat → Prop) (dC : Nat → ClassId) (dI : Nat → Nat → Nat) (a : Nat → Nat) (ac : Nat → ClassId) (g : Int32 → (St × (St)) → Option (St × (St))) (r : St × (St)) : Prop := ∀ (y1 : Int32) (s0 : St × (St)) (H : Heap) (locs : List Loc) (ls : Array Slot), g y1 s0 = some r → va_P (dC, dI) vwCl (dw_X16 a ac s0) H → va_D A (dw_X16 a ac s0) → va_S A s.heap H locs → lv_has ls 5 [] → W p l e (headSpec ow_dm_X16_write ({ frames := 1, cells := 0, slots := 0, locals := 22 })).room s m args below meth c H locs 0 0 Q (F0 m 109 ls [.int y1, .ref (a 0)])
def dj_X16_write_104 (p : Program) (l : Launch) (e : Env) (s : State) (m : MethodId) (args : Array Value) (below : List Frame) (meth : Method) (c : Code) (Q : State → Prop) (A : Nat → Prop) (dC : Nat → ClassId) (dI : Nat → Nat → Nat) (a : Nat → Nat) (ac : Nat → ClassId) (g : (St × (St)) → Option (St × (St))) (r : St × (St)) : Prop := ∀ (s0 : St × (St)) (H : Heap) (locs : List Loc) (ls : Array Slot), g s0 = some r → va_P (dC, dI) vwCl (dw_X16 a ac s0) H → va_D A (dw_X16 a ac s0) → va_S A s.heap H locs → lv_has ls 5 [] → W p l e (headSpec ow_dm_X16_write ({ frames := 1, cells := 0, slots := 0, locals := 22 })).room s m args below meth c H locs 0 0 Q (F0 m 104 ls [.ref (a 0)])
def dj_X16_write_108 (p : Program) (l : Launch) (e : Env) (s : State) (m : MethodId) (args : Array Value) (below : List Frame) (meth : Method) (c : Code) (Q : State → Prop) (A : Nat → Prop) (dC : Nat → ClassId) (dI : Nat → Nat → Nat) (a : Nat → Nat) (ac : Nat → ClassId) (g : (St × (St)) → Option (St × (St))) (r : St × (St)) : Prop := ∀ (s0 : St × (St)) (H : Heap) (locs : List Loc) (ls : Array Slot), g s0 = some r → va_P (dC, dI) vwCl (dw_X16 a ac s0) H → va_D A (dw_X16 a ac s0) → va_S A s.heap H locs → lv_has ls 5 [] → W p l e (headSpec ow_dm_X16_write ({ frames := 1, cells := 0, slots := 0, locals := 22 })).room s m args below meth c H locs 0 0 Q (F0 m 108 ls [.ref (a 0)])
def dj_X16_write_80 (p : Program) (l : Launch) (e : Env) (s : State) (m : MethodId) (args : Array Value) (below : List Frame) (meth : Method) (c : Code) (Q : State → Prop) (A : Nat → Prop) (dC : Nat → ClassId) (dI : Nat → Nat → Nat) (a : Nat → Nat) (ac : Nat → ClassId) (g : Int32 → Int32 → (St × (St)) → Option (St × (St))) (r : St × (St)) : Prop := ∀ (x1 : Int32) (x2 : Int32) (s0 : St × (St)) (H : Heap) (locs : List Loc) (ls : Array Slot), g x1 x2 s0 = some r → va_P (dC, dI) vwCl (dw_X16 a ac s0) H → va_D A (dw_X16 a ac s0) → va_S A s.heap H locs → lv_has ls 5 [(0, .ref (a 0)), (1, .int x1), (2, .int x2)] → W p l e (headSpec ow_dm_X16_write ({ frames := 1, cells := 0, slots := 0, locals := 22 })).room s m args below meth c H locs 0 0 Q (F0 m 80 ls [])
def dj_X16_write_44 (p : Program) (l : Launch) (e : Env) (s : State) (m : MethodId) (args : Array Value) (below : List Frame) (meth : Method) (c : Code) (Q : State → Prop) (A : Nat → Prop) (dC : Nat → ClassId) (dI : Nat → Nat → Nat) (a : Nat → Nat) (ac : Nat → ClassId) (g : Int32 → Int32 → Int32 → (St × (St)) → Option (St × (St))) (r : St × (St)) : Prop := ∀ (x1 : Int32) (x2 : Int32) (x3 : Int32) (s0 : St × (St)) (H : Heap) (locs : List Loc) (ls : Array Slot), g x1 x2 x3 s0 = some r → va_P (dC, dI) vwCl (dw_X16 a ac s0) H → va_D A (dw_X16 a ac s0) → va_S A s.heap H locs → lv_has ls 5 [(0, .ref (a 0)), (1, .int x1), (2, .int x2), (3, .int x3)] → W p l e (headSpec ow_dm_X16_write ({ frames := 1, cells := 0, slots := 0, locals := 22 })).room s m args below meth c H locs 0 0 Q (F0 m 44 ls [])
def dj_X16_write_0 (p : Program) (l : Launch) (e : Env) (s : State) (m : MethodId) (args : Array Value) (below : List Frame) (meth : Method) (c : Code) (Q : State → Prop) (A : Nat → Prop) (dC : Nat → ClassId) (dI : Nat → Nat → Nat) (a : Nat → Nat) (ac : Nat → ClassId) (g : Int32 → Int32 → Int32 → (St × (St)) → Option (St × (St))) (r : St × (St)) : Prop := ∀ (v0 : Int32) (v1 : Int32) (v2 : Int32) (s0 : St × (St)) (H : Heap) (locs : List Loc) (ls : Array Slot), g v0 v1 v2 s0 = some r → va_P (dC, dI) vwCl (dw_X16 a ac s0) H → va_D A (dw_X16 a ac s0) → va_S A s.heap H locs → lv_has ls 5 [(0, .ref (a 0)), (1, .int v0), (2, .int v1), (3, .int v2)] → W p l e (headSpec ow_dm_X16_write ({ frames := 1, cells := 0, slots := 0, locals := 22 })).room s m args below meth c H locs 0 0 Q (F0 m 0 ls [])
set_option maxHeartbeats 40000000 in
set_option maxRecDepth 100000 in
theorem db_X16_write_109 {p : Program} {l : Launch} {e : Env} {s : State} {m : MethodId} {args : Array Value} {below : List Frame} {meth : Method} {c : Code} {Q : State → Prop} {A : Nat → Prop} {dC : Nat → ClassId} {dI : Nat → Nat → Nat} {a : Nat → Nat} {ac : Nat → ClassId} {n : Nat} {r : St × (St)} (C : nd_C p l s m args c A (dC, dI) cX16_write 5 RX16 ow_dm_X16_write (dk_X16 ac)) (K : nd_Kv p l e (headSpec ow_dm_X16_write ({ frames := 1, cells := 0, slots := 0, locals := 22 })).room s m args below meth c Q A (dC, dI) cX16_write (St × (St)) (dw_X16 a ac) r) : dj_X16_write_109 p l e s m args below meth c Q A dC dI a ac (df_X16_write_109 n) r := by
  obtain ⟨hlt, hx, hb, hml, hown, hts, hN, hA, hK⟩ := id C
  intro y1 s0 H locs ls h hP hD hS hl
  unfold df_X16_write_109 at h
  obtain ⟨n10, h⟩ := nd_f_e h
  obtain ⟨n11, h⟩ := nd_z_e ⟨_, rfl⟩ h
  refine va_put (D := (dC, dI)) (ci := 17) (v := .int y1) (ty := .boolean) (C := RX16) (T := TX16) (N := 56) hx hb hts hi_dm_X16_write_X16 tyX16 tyX16_ok nmX16 hown hK hP hD hS 0 rfl rfl 55 (by decide) (hts (.fieldLink RX16 222 "TimeMachineModel$Machine" "wrote" "Z") (List.mem_of_getElem? (i := 9) rfl)) (fun _ h9 => h9) rfl (by decide +kernel) n11 n10 (Nat.le_of_ble_eq_true rfl) dX16_write_109 (fun H locs hP hD hS => ?_)
  obtain ⟨s12, es12, h⟩ := nd_let_e h
  have hP : va_P (dC, dI) vwCl (dw_X16 a ac s12) H := by rw [es12]; exact hP
  have hD : va_D A (dw_X16 a ac s12) := by rw [es12]; exact hD
  exact K _ _ _ _ _ dX16_write_112 (Option.some.inj h).symm hP hD hS
set_option maxHeartbeats 40000000 in
set_option maxRecDepth 100000 in
theorem db_X16_write_104 {p : Program} {l : Launch} {e : Env} {s : State} {m : MethodId} {args : Array Value} {below : List Frame} {meth : Method} {c : Code} {Q : State → Prop} {A : Nat → Prop} {dC : Nat → ClassId} {dI : Nat → Nat → Nat} {a : Nat → Nat} {ac : Nat → ClassId} {n : Nat} {r : St × (St)} (C : nd_C p l s m args c A (dC, dI) cX16_write 5 RX16 ow_dm_X16_write (dk_X16 ac)) (K : nd_Kv p l e (headSpec ow_dm_X16_write ({ frames := 1, cells := 0, slots := 0, locals := 22 })).room s m args below meth c Q A (dC, dI) cX16_write (St × (St)) (dw_X16 a ac) r) : dj_X16_write_104 p l e s m args below meth c Q A dC dI a ac (df_X16_write_104 n) r := by
  obtain ⟨hlt, hx, hb, hml, hown, hts, hN, hA, hK⟩ := id C
  intro s0 H locs ls h hP hD hS hl
  unfold df_X16_write_104 at h
  refine lv_iconst (v := 1) hx hb dX16_write_104 (by decide) ?_
  refine lv_goto (tgt := 109) hx hb dX16_write_105 (by decide) ?_
  exact (db_X16_write_109 C K) (1) s0 _ _ _ h hP hD hS (lv_sub hl [] rfl)
set_option maxHeartbeats 40000000 in
set_option maxRecDepth 100000 in
theorem db_X16_write_108 {p : Program} {l : Launch} {e : Env} {s : State} {m : MethodId} {args : Array Value} {below : List Frame} {meth : Method} {c : Code} {Q : State → Prop} {A : Nat → Prop} {dC : Nat → ClassId} {dI : Nat → Nat → Nat} {a : Nat → Nat} {ac : Nat → ClassId} {n : Nat} {r : St × (St)} (C : nd_C p l s m args c A (dC, dI) cX16_write 5 RX16 ow_dm_X16_write (dk_X16 ac)) (K : nd_Kv p l e (headSpec ow_dm_X16_write ({ frames := 1, cells := 0, slots := 0, locals := 22 })).room s m args below meth c Q A (dC, dI) cX16_write (St × (St)) (dw_X16 a ac) r) : dj_X16_write_108 p l e s m args below meth c Q A dC dI a ac (df_X16_write_108 n) r := by
  obtain ⟨hlt, hx, hb, hml, hown, hts, hN, hA, hK⟩ := id C
  intro s0 H locs ls h hP hD hS hl
  unfold df_X16_write_108 at h
  refine lv_iconst (v := 0) hx hb dX16_write_108 (by decide) ?_
  exact (db_X16_write_109 C K) (0) s0 _ _ _ h hP hD hS (lv_sub hl [] rfl)
set_option maxHeartbeats 40000000 in
set_option maxRecDepth 100000 in
theorem db_X16_write_80 {p : Program} {l : Launch} {e : Env} {s : State} {m : MethodId} {args : Array Value} {below : List Frame} {meth : Method} {c : Code} {Q : State → Prop} {A : Nat → Prop} {dC : Nat → ClassId} {dI : Nat → Nat → Nat} {a : Nat → Nat} {ac : Nat → ClassId} {n : Nat} {r : St × (St)} (C : nd_C p l s m args c A (dC, dI) cX16_write 5 RX16 ow_dm_X16_write (dk_X16 ac)) (K : nd_Kv p l e (headSpec ow_dm_X16_write ({ frames := 1, cells := 0, slots := 0, locals := 22 })).room s m args below meth c Q A (dC, dI) cX16_write (St × (St)) (dw_X16 a ac) r) : dj_X16_write_80 p l e s m args below meth c Q A dC dI a ac (df_X16_write_80 n) r := by
  obtain ⟨hlt, hx, hb, hml, hown, hts, hN, hA, hK⟩ := id C
  intro x1 x2 s0 H locs ls h hP hD hS hl
  unfold df_X16_write_80 at h
  refine lv_aload_n hx hb dX16_write_80 rfl (lv_at hl 0 rfl) ?_
  refine lv_aload_n hx hb dX16_write_81 rfl (lv_at hl 0 rfl) ?_
  refine va_get (D := (dC, dI)) (ci := 17) (v := .int (sI s0.1 16)) (C := RX16) (T := TX16) (N := 56) hx hb hts hi_dm_X16_write_X16 hown hK hP 0 rfl rfl 55 (by decide) (hts (.fieldLink RX16 222 "TimeMachineModel$Machine" "wrote" "Z") (List.mem_of_getElem? (i := 9) rfl)) (fun _ h9 => h9) rfl dX16_write_82 ?_
  refine lv_if_ne (tgt := 104) hx hb dX16_write_85 (by decide) (fun c9 => ?_) (fun c9 => ?_)
  · have h := nd_neg h c9
    exact (db_X16_write_104 C K)  s0 _ _ _ h hP hD hS (lv_sub hl [] rfl)
  · have h := nd_pos h c9
    refine lv_iload_n hx hb dX16_write_88 rfl (lv_at hl 1 rfl) ?_
    refine lv_aload_n hx hb dX16_write_89 rfl (lv_at hl 0 rfl) ?_
    refine va_get (D := (dC, dI)) (ci := 17) (v := .int (sI s0.1 14)) (C := RX16) (T := TX16) (N := 56) hx hb hts hi_dm_X16_write_X16 hown hK hP 0 rfl rfl 53 (by decide) (hts (.fieldLink RX16 157 "TimeMachineModel$Machine" "watched" "I") (List.mem_of_getElem? (i := 10) rfl)) (fun _ h9 => h9) rfl dX16_write_90 ?_
    refine lv_icmp_ne (tgt := 108) hx hb dX16_write_93 (by decide) (fun c13 => ?_) (fun c13 => ?_)
    · have h := nd_neg h c13
      exact (db_X16_write_108 C K)  s0 _ _ _ h hP hD hS (lv_sub hl [] rfl)
    · have h := nd_pos h c13
      refine lv_iload_n hx hb dX16_write_96 rfl (lv_at hl 2 rfl) ?_
      refine lv_aload_n hx hb dX16_write_97 rfl (lv_at hl 0 rfl) ?_
      refine va_get (D := (dC, dI)) (ci := 17) (v := .int (sI s0.1 15)) (C := RX16) (T := TX16) (N := 56) hx hb hts hi_dm_X16_write_X16 hown hK hP 0 rfl rfl 54 (by decide) (hts (.fieldLink RX16 226 "TimeMachineModel$Machine" "watchedAt" "I") (List.mem_of_getElem? (i := 11) rfl)) (fun _ h9 => h9) rfl dX16_write_98 ?_
      refine lv_icmp_ne (tgt := 108) hx hb dX16_write_101 (by decide) (fun c14 => ?_) (fun c14 => ?_)
      · have h := nd_neg h c14
        exact (db_X16_write_108 C K)  s0 _ _ _ h hP hD hS (lv_sub hl [] rfl)
      · have h := nd_pos h c14
        exact (db_X16_write_104 C K)  s0 _ _ _ h hP hD hS (lv_sub hl [] rfl)
set_option maxHeartbeats 40000000 in
set_option maxRecDepth 100000 in
theorem db_X16_write_44 {p : Program} {l : Launch} {e : Env} {s : State} {m : MethodId} {args : Array Value} {below : List Frame} {meth : Method} {c : Code} {Q : State → Prop} {A : Nat → Prop} {dC : Nat → ClassId} {dI : Nat → Nat → Nat} {a : Nat → Nat} {ac : Nat → ClassId} {n : Nat} {r : St × (St)} (C : nd_C p l s m args c A (dC, dI) cX16_write 5 RX16 ow_dm_X16_write (dk_X16 ac)) (K : nd_Kv p l e (headSpec ow_dm_X16_write ({ frames := 1, cells := 0, slots := 0, locals := 22 })).room s m args below meth c Q A (dC, dI) cX16_write (St × (St)) (dw_X16 a ac) r) : dj_X16_write_44 p l e s m args below meth c Q A dC dI a ac (df_X16_write_44 n) r := by
  obtain ⟨hlt, hx, hb, hml, hown, hts, hN, hA, hK⟩ := id C
  intro x1 x2 x3 s0 H locs ls h hP hD hS hl
  unfold df_X16_write_44 at h
  refine lv_aload_n hx hb dX16_write_44 rfl (lv_at hl 0 rfl) ?_
  refine lv_ldc hx hb hown (hts (.constant RX16 186 (65536)) (List.mem_of_getElem? (i := 3) rfl)) dX16_write_45 ?_
  refine lv_iload_n hx hb dX16_write_47 rfl (lv_at hl 1 rfl) ?_
  refine lv_imul hx hb dX16_write_48 ?_
  refine lv_iload_n hx hb dX16_write_49 rfl (lv_at hl 2 rfl) ?_
  refine lv_iadd hx hb dX16_write_50 ?_
  refine lv_iload_n hx hb dX16_write_51 rfl (lv_at hl 3 rfl) ?_
  obtain ⟨s6, hq, h⟩ := nd_b1_e h
  have hPc := hP
  have hDc := hD
  have hKc := hK
  have hFc := nd_rs hD hS hA
  refine nd_cVv (As := [.int ((65536 * x1) + x2), .int x3]) (rest := []) (w' := dw_X16 a ac s6) ⟨hx, hb, hml, hown, hts⟩ (fun sz => dm_X16_put l hlt dC dI a ac n (((65536 * x1) + x2)) (x3) s0 hq sz) (cwV 2 hts gi_dm_X16_write_0 rfl rfl rfl (by decide +kernel) ⟨Nat.le_of_ble_eq_true rfl, Nat.le_of_ble_eq_true rfl⟩) hPc hDc hKc hS hA hN (va_recv hKc hPc (ci := 17) (q0 := 0) rfl rfl) rfl hl.1 rfl (Nat.le_of_ble_eq_true rfl) dX16_write_52 (fun H locs hP1 hD1 hk1 hS => ?_)
  have hP := hP1
  have hD := hD1.weaken (fun k q _ h => hFc q.1 h)
  refine lv_aload_n hx hb dX16_write_55 rfl (lv_at hl 0 rfl) ?_
  refine va_get (D := (dC, dI)) (ci := 17) (v := .int (sI s6.1 4)) (C := RX16) (T := TX16) (N := 56) hx hb hts hi_dm_X16_write_X16 hown hK hP 0 rfl rfl 5 (by decide) (hts (.fieldLink RX16 135 "TimeMachineModel$Machine" "reserved" "I") (List.mem_of_getElem? (i := 8) rfl)) (fun _ h9 => h9) rfl dX16_write_56 ?_
  refine lv_iconst (v := (-1)) hx hb dX16_write_59 (by decide) ?_
  refine lv_icmp_eq (tgt := 80) hx hb dX16_write_60 (by decide) (fun c8 => ?_) (fun c8 => ?_)
  · have h := nd_pos h c8
    exact (db_X16_write_80 C K) (x1) (x2) s6 _ _ _ h hP hD hS (lv_sub hl [0, 1, 2] rfl)
  · have h := nd_neg h c8
    refine lv_iload_n hx hb dX16_write_63 rfl (lv_at hl 2 rfl) ?_
    refine lv_iconst (v := 4) hx hb dX16_write_64 (by decide) ?_
    refine lv_idiv hx hb dX16_write_65 (by decide) ?_
    refine lv_aload_n hx hb dX16_write_66 rfl (lv_at hl 0 rfl) ?_
    refine va_get (D := (dC, dI)) (ci := 17) (v := .int (sI s6.1 4)) (C := RX16) (T := TX16) (N := 56) hx hb hts hi_dm_X16_write_X16 hown hK hP 0 rfl rfl 5 (by decide) (hts (.fieldLink RX16 135 "TimeMachineModel$Machine" "reserved" "I") (List.mem_of_getElem? (i := 8) rfl)) (fun _ h9 => h9) rfl dX16_write_67 ?_
    refine lv_iconst (v := 4) hx hb dX16_write_70 (by decide) ?_
    refine lv_idiv hx hb dX16_write_71 (by decide) ?_
    refine lv_icmp_ne (tgt := 80) hx hb dX16_write_72 (by decide) (fun c15 => ?_) (fun c15 => ?_)
    · have h := nd_neg h c15
      exact (db_X16_write_80 C K) (x1) (x2) s6 _ _ _ h hP hD hS (lv_sub hl [0, 1, 2] rfl)
    · have h := nd_pos h c15
      refine lv_aload_n hx hb dX16_write_75 rfl (lv_at hl 0 rfl) ?_
      refine lv_iconst (v := (-1)) hx hb dX16_write_76 (by decide) ?_
      refine va_put (D := (dC, dI)) (ci := 17) (v := .int (-1)) (ty := .int) (C := RX16) (T := TX16) (N := 56) hx hb hts hi_dm_X16_write_X16 tyX16 tyX16_ok nmX16 hown hK hP hD hS 0 rfl rfl 5 (by decide) (hts (.fieldLink RX16 135 "TimeMachineModel$Machine" "reserved" "I") (List.mem_of_getElem? (i := 8) rfl)) (fun _ h9 => h9) rfl (by decide +kernel) rfl rfl (Nat.le_of_ble_eq_true rfl) dX16_write_77 (fun H locs hP hD hS => ?_)
      obtain ⟨s16, es16, h⟩ := nd_let_e h
      have hP : va_P (dC, dI) vwCl (dw_X16 a ac s16) H := by rw [es16]; exact hP
      have hD : va_D A (dw_X16 a ac s16) := by rw [es16]; exact hD
      exact (db_X16_write_80 C K) (x1) (x2) s16 _ _ _ h hP hD hS (lv_sub hl [0, 1, 2] rfl)
set_option maxHeartbeats 40000000 in
set_option maxRecDepth 100000 in
theorem db_X16_write_0 {p : Program} {l : Launch} {e : Env} {s : State} {m : MethodId} {args : Array Value} {below : List Frame} {meth : Method} {c : Code} {Q : State → Prop} {A : Nat → Prop} {dC : Nat → ClassId} {dI : Nat → Nat → Nat} {a : Nat → Nat} {ac : Nat → ClassId} {n : Nat} {r : St × (St)} (C : nd_C p l s m args c A (dC, dI) cX16_write 5 RX16 ow_dm_X16_write (dk_X16 ac)) (K : nd_Kv p l e (headSpec ow_dm_X16_write ({ frames := 1, cells := 0, slots := 0, locals := 22 })).room s m args below meth c Q A (dC, dI) cX16_write (St × (St)) (dw_X16 a ac) r) : dj_X16_write_0 p l e s m args below meth c Q A dC dI a ac (df_X16_write_0 n) r := by
  obtain ⟨hlt, hx, hb, hml, hown, hts, hN, hA, hK⟩ := id C
  intro v0 v1 v2 s0 H locs ls h hP hD hS hl
  unfold df_X16_write_0 at h
  refine lv_bipush (v := 64) hx hb dX16_write_0 (by decide) ?_
  refine lv_iload_n hx hb dX16_write_2 rfl (lv_at hl 1 rfl) ?_
  refine lv_imul hx hb dX16_write_3 ?_
  refine lv_iload_n hx hb dX16_write_4 rfl (lv_at hl 2 rfl) ?_
  refine lv_sipush (v := 1024) hx hb dX16_write_5 (by decide) ?_
  refine lv_idiv hx hb dX16_write_8 (by decide) ?_
  refine lv_iadd hx hb dX16_write_9 ?_
  refine lv_topi (fun z1 ez1 => ?_)
  have h := nd_at h ez1
  refine lv_istore (lv' := [(4, .int z1), (0, .ref (a 0)), (1, .int v0), (2, .int v1), (3, .int v2)]) hx hb dX16_write_10 hl (by decide) rfl (fun ls hl => ?_)
  refine lv_aload_n hx hb dX16_write_12 rfl (lv_at hl 1 rfl) ?_
  refine va_get (D := (dC, dI)) (ci := 17) (v := .ref (a 20)) (C := RX16) (T := TX16) (N := 56) hx hb hts hi_dm_X16_write_X16 hown hK hP 0 rfl rfl 28 (by decide) (hts (.fieldLink RX16 70 "TimeMachineModel$Machine" "holders" "[I") (List.mem_of_getElem? (i := 1) rfl)) (fun _ h9 => h9) rfl dX16_write_13 ?_
  refine lv_aload_n hx hb dX16_write_16 rfl (lv_at hl 1 rfl) ?_
  refine va_get (D := (dC, dI)) (ci := 17) (v := .ref (a 18)) (C := RX16) (T := TX16) (N := 56) hx hb hts hi_dm_X16_write_X16 hown hK hP 0 rfl rfl 26 (by decide) (hts (.fieldLink RX16 64 "TimeMachineModel$Machine" "frame" "[I") (List.mem_of_getElem? (i := 2) rfl)) (fun _ h9 => h9) rfl dX16_write_17 ?_
  refine lv_iload hx hb dX16_write_20 (lv_at hl 0 rfl) ?_
  obtain ⟨i2, h⟩ := nd_ck_e h
  refine va_iald (i := z1) hx hb hK hP 18 17 rfl rfl i2 dX16_write_22 ?_
  obtain ⟨i3, h⟩ := nd_ck_e h
  refine va_iald (i := (sR s0.1 16 (Int32.toNatClampNeg z1))) hx hb hK hP 20 19 rfl rfl i3 dX16_write_23 ?_
  refine lv_iconst (v := 1) hx hb dX16_write_24 (by decide) ?_
  refine lv_icmp_le (tgt := 44) hx hb dX16_write_25 (by decide) (fun c4 => ?_) (fun c4 => ?_)
  · have h := nd_pos h c4
    exact (db_X16_write_44 C K) (v0) (v1) (v2) s0 _ _ _ h hP hD hS (lv_sub hl [1, 2, 3, 4] rfl)
  · have h := nd_neg h c4
    refine lv_aload_n hx hb dX16_write_28 rfl (lv_at hl 1 rfl) ?_
    refine lv_iload hx hb dX16_write_29 (lv_at hl 0 rfl) ?_
    obtain ⟨s18, hq, h⟩ := nd_b1_e h
    have hPc := hP
    have hDc := hD
    have hKc := hK
    have hFc := nd_rs hD hS hA
    refine nd_cVv (As := [.int z1]) (rest := []) (w' := dw_X16 a ac s18) ⟨hx, hb, hml, hown, hts⟩ (fun sz => dm_X16_leave l hlt dC dI a ac n (z1) s0 hq sz) (cwV 1 hts gi_dm_X16_write_1 rfl rfl rfl (by decide +kernel) ⟨Nat.le_of_ble_eq_true rfl, Nat.le_of_ble_eq_true rfl⟩) hPc hDc hKc hS hA hN (va_recv hKc hPc (ci := 17) (q0 := 0) rfl rfl) rfl hl.1 rfl (Nat.le_of_ble_eq_true rfl) dX16_write_31 (fun H locs hP1 hD1 hk1 hS => ?_)
    have hP := hP1
    have hD := hD1.weaken (fun k q _ h => hFc q.1 h)
    refine lv_aload_n hx hb dX16_write_34 rfl (lv_at hl 1 rfl) ?_
    refine lv_iload hx hb dX16_write_35 (lv_at hl 0 rfl) ?_
    refine lv_aload_n hx hb dX16_write_37 rfl (lv_at hl 1 rfl) ?_
    obtain ⟨q20, s21, hq, h⟩ := nd_b2_e h
    have hPc := hP
    have hDc := hD
    have hKc := hK
    have hFc := nd_rs hD hS hA
    refine nd_cVi (As := []) (rest := [.int z1, .ref (a 0)]) (q := q20) (w' := dw_X16 a ac s21) ⟨hx, hb, hml, hown, hts⟩ (fun sz => dm_X16_freeFrame l hlt dC dI a ac n  s18 hq sz) (cwV 0 hts gi_dm_X16_write_2 rfl rfl rfl (by decide +kernel) ⟨Nat.le_of_ble_eq_true rfl, Nat.le_of_ble_eq_true rfl⟩) hPc hDc hKc hS hA hN (va_recv hKc hPc (ci := 17) (q0 := 0) rfl rfl) rfl hl.1 rfl (Nat.le_of_ble_eq_true rfl) dX16_write_38 (fun H locs hP1 hD1 hk1 hS => ?_)
    have hP := hP1
    have hD := hD1.weaken (fun k q _ h => hFc q.1 h)
    obtain ⟨s24, hq, h⟩ := nd_b1_e h
    have hPc := hP
    have hDc := hD
    have hKc := hK
    have hFc := nd_rs hD hS hA
    refine nd_cVv (As := [.int z1, .int q20]) (rest := []) (w' := dw_X16 a ac s24) ⟨hx, hb, hml, hown, hts⟩ (fun sz => dm_X16_stand l hlt dC dI a ac n (z1) (q20) s21 hq sz) (cwV 2 hts gi_dm_X16_write_3 rfl rfl rfl (by decide +kernel) ⟨Nat.le_of_ble_eq_true rfl, Nat.le_of_ble_eq_true rfl⟩) hPc hDc hKc hS hA hN (va_recv hKc hPc (ci := 17) (q0 := 0) rfl rfl) rfl hl.1 rfl (Nat.le_of_ble_eq_true rfl) dX16_write_41 (fun H locs hP1 hD1 hk1 hS => ?_)
    have hP := hP1
    have hD := hD1.weaken (fun k q _ h => hFc q.1 h)
    exact (db_X16_write_44 C K) (v0) (v1) (v2) s24 _ _ _ h hP hD hS (lv_sub hl [1, 2, 3, 4] rfl)
set_option maxHeartbeats 40000000 in
set_option maxRecDepth 100000 in
theorem dm_X16_write (l : Launch) (hlt : l.stackTraces = false) (dC : Nat → ClassId) (dI : Nat → Nat → Nat) (a : Nat → Nat) (ac : Nat → ClassId) (n : Nat) (v0 : Int32) (v1 : Int32) (v2 : Int32) (s0 : St × (St)) {r : St × (St)} (h : df_X16_write n v0 v1 v2 s0 = some r) (sz : Nat) : Met l yX16_write ow_dm_X16_write ({ frames := 1, cells := 0, slots := 0, locals := 22 }) (va_Pc [.ref (a 0), .int v0, .int v1, .int v2] (fun U => U.heap.size = sz ∧ va_P (dC, dI) vwCl (dw_X16 a ac s0) U.heap ∧ va_K (dC, dI) vwCl (dk_X16 ac) U ∧ va_D (fun _ => True) (dw_X16 a ac s0) ∧ nv_E (va_A (dw_X16 a ac s0) sz) U)) (va_Qv (fun _ => True) (fun (_ : Unit) t => va_P (dC, dI) vwCl (dw_X16 a ac r) t.heap ∧ va_K (dC, dI) vwCl (dk_X16 ac) t ∧ va_D (va_A (dw_X16 a ac s0) sz) (dw_X16 a ac r)) (va_A (dw_X16 a ac s0) sz)) 0 0 (va_A (dw_X16 a ac s0) sz) := by
  refine Met.ofW (cc := cX16_write) (maxL := 5) (ret := none) (by decide) rfl ?_
  intro p e s m args below meth c s₁ B hml hv
  obtain ⟨rfl, hsz, hP, hK, hD0, hN⟩ := hv
  have hx := B.exec
  have hb := B.bytes
  have hr := B.returns
  have hts := atoms_spec (ws := ow_dm_X16_write) B.pre
  have hown : s.vm.findClass RX16 = some m.cls := findClass_of_methodNamed B.named
  have hlocks := B.notSynchronized
  subst hsz
  have hD := hD0.self (sz := s.heap.size)
  generalize hAe : va_A (dw_X16 a ac s0) s.heap.size = A at hD hN ⊢
  have hA : ∀ q : Nat, s.heap.size ≤ q → A q := fun q h => by rw [← hAe]; exact Or.inr h
  have hl := lv_entry ([.ref (a 0), .int v0, .int v1, .int v2]) (n := 5) (Nat.le_of_ble_eq_true rfl)
  rw [lg_entry_eq]
  generalize (lg_sl ([.ref (a 0), .int v0, .int v1, .int v2]) ++ List.replicate (5 - (lg_sl ([.ref (a 0), .int v0, .int v1, .int v2])).length) Slot.unset).toArray = ls at hl ⊢
  have hl : lv_has ls 5 [(0, .ref (a 0)), (1, .int v0), (2, .int v1), (3, .int v2)] := hl
  exact db_X16_write_0 (dC := dC) (dI := dI) (a := a) (ac := ac) (n := n) (r := r) ⟨hlt, hx, hb, hml, hown, hts, hN, hA, hK⟩ (fun pc τ H locs ls d er hP hD hS => by subst er; exact W.vret hx hb hr (fun t ht hW => ⟨⟨(), rfl, trivial, by rw [ht]; exact hP, va_K.moved hW.alike hK, hD⟩, hS.F ht⟩) hS.2.2 d) v0 v1 v2 s0 _ _ _ h hP hD va_S.rf (lv_sub hl [0, 1, 2, 3] rfl)
def ow_dm_X16_get : List Cond := .code yX16_get cX16_get 2 (some .int) :: ([.fieldLink RX16 61 "TimeMachineModel$Machine" "bytes" "[I"] ++ (u_ws RX16 TX16 56 ++ []))
theorem gd_dm_X16_get : ∀ w ∈ ow_dm_X16_get, (w.onTables && w.keeps) = true ∨ ∃ ty, w = Cond.arrayClass ty := List.forall_mem_cons.mpr ⟨good_of_word rfl, List.forall_mem_append.mpr ⟨fun w h => good_of_word (List.all_eq_true.mp (by decide +kernel) w h), List.forall_mem_append.mpr ⟨gu_X16, fun _ h => nomatch h⟩⟩⟩
theorem hi_dm_X16_get_X16 : ∀ w ∈ u_ws RX16 TX16 56, w ∈ ow_dm_X16_get := fun w h => List.mem_cons_of_mem _ (List.mem_append_right _ (List.mem_append_left _ h))
def dj_X16_get_0 (p : Program) (l : Launch) (e : Env) (s : State) (m : MethodId) (args : Array Value) (below : List Frame) (meth : Method) (c : Code) (Q : State → Prop) (A : Nat → Prop) (dC : Nat → ClassId) (dI : Nat → Nat → Nat) (a : Nat → Nat) (ac : Nat → ClassId) (g : Int32 → (St × (St)) → Option (Int32 × (St × (St)))) (r : Int32 × (St × (St))) : Prop := ∀ (v0 : Int32) (s0 : St × (St)) (H : Heap) (locs : List Loc) (ls : Array Slot), g v0 s0 = some r → va_P (dC, dI) vwCl (dw_X16 a ac s0) H → va_D A (dw_X16 a ac s0) → va_S A s.heap H locs → lv_has ls 2 [(0, .ref (a 0)), (1, .int v0)] → W p l e (headSpec ow_dm_X16_get ({ frames := 0, cells := 0, slots := 0, locals := 0 })).room s m args below meth c H locs 0 0 Q (F0 m 0 ls [])
set_option maxHeartbeats 40000000 in
set_option maxRecDepth 100000 in
theorem db_X16_get_0 {p : Program} {l : Launch} {e : Env} {s : State} {m : MethodId} {args : Array Value} {below : List Frame} {meth : Method} {c : Code} {Q : State → Prop} {A : Nat → Prop} {dC : Nat → ClassId} {dI : Nat → Nat → Nat} {a : Nat → Nat} {ac : Nat → ClassId} {n : Nat} {r : Int32 × (St × (St))} (C : nd_C p l s m args c A (dC, dI) cX16_get 2 RX16 ow_dm_X16_get (dk_X16 ac)) (K : nd_Ki p l e (headSpec ow_dm_X16_get ({ frames := 0, cells := 0, slots := 0, locals := 0 })).room s m args below meth c Q A (dC, dI) cX16_get .int (St × (St)) (dw_X16 a ac) r) : dj_X16_get_0 p l e s m args below meth c Q A dC dI a ac (df_X16_get_0 n) r := by
  obtain ⟨hlt, hx, hb, hml, hown, hts, hN, hA, hK⟩ := id C
  intro v0 s0 H locs ls h hP hD hS hl
  unfold df_X16_get_0 at h
  refine lv_aload_n hx hb dX16_get_0 rfl (lv_at hl 0 rfl) ?_
  refine va_get (D := (dC, dI)) (ci := 17) (v := .ref (a 17)) (C := RX16) (T := TX16) (N := 56) hx hb hts hi_dm_X16_get_X16 hown hK hP 0 rfl rfl 25 (by decide) (hts (.fieldLink RX16 61 "TimeMachineModel$Machine" "bytes" "[I") (List.mem_of_getElem? (i := 1) rfl)) (fun _ h9 => h9) rfl dX16_get_1 ?_
  refine lv_iload_n hx hb dX16_get_4 rfl (lv_at hl 1 rfl) ?_
  refine lv_iconst (v := 2) hx hb dX16_get_5 (by decide) ?_
  refine lv_ishr hx hb dX16_get_6 ?_
  obtain ⟨i1, h⟩ := nd_ck_e h
  refine va_iald (i := ((v0 : Int32) >>> ((2 : Int32) &&& 31))) hx hb hK hP 17 16 rfl rfl i1 dX16_get_7 ?_
  refine lv_bipush (v := 8) hx hb dX16_get_8 (by decide) ?_
  refine lv_iload_n hx hb dX16_get_10 rfl (lv_at hl 1 rfl) ?_
  refine lv_iconst (v := 3) hx hb dX16_get_11 (by decide) ?_
  refine lv_iand hx hb dX16_get_12 ?_
  refine lv_imul hx hb dX16_get_13 ?_
  refine lv_iushr hx hb dX16_get_14 rfl ?_
  refine lv_sipush (v := 255) hx hb dX16_get_15 (by decide) ?_
  refine lv_iand hx hb dX16_get_18 ?_
  exact K _ _ _ _ _ _ dX16_get_19 rfl (Option.some.inj h).symm hP hD hS
set_option maxHeartbeats 40000000 in
set_option maxRecDepth 100000 in
theorem dm_X16_get (l : Launch) (hlt : l.stackTraces = false) (dC : Nat → ClassId) (dI : Nat → Nat → Nat) (a : Nat → Nat) (ac : Nat → ClassId) (n : Nat) (v0 : Int32) (s0 : St × (St)) {r : Int32 × (St × (St))} (h : df_X16_get n v0 s0 = some r) (sz : Nat) : Met l yX16_get ow_dm_X16_get ({ frames := 0, cells := 0, slots := 0, locals := 0 }) (va_Pc [.ref (a 0), .int v0] (fun U => U.heap.size = sz ∧ va_P (dC, dI) vwCl (dw_X16 a ac s0) U.heap ∧ va_K (dC, dI) vwCl (dk_X16 ac) U ∧ va_D (fun _ => True) (dw_X16 a ac s0) ∧ nv_E (va_A (dw_X16 a ac s0) sz) U)) (va_Qi (fun x _ => x = r.1) (fun (_ : Unit) t => va_P (dC, dI) vwCl (dw_X16 a ac r.2) t.heap ∧ va_K (dC, dI) vwCl (dk_X16 ac) t ∧ va_D (va_A (dw_X16 a ac s0) sz) (dw_X16 a ac r.2)) (va_A (dw_X16 a ac s0) sz)) 0 0 (va_A (dw_X16 a ac s0) sz) := by
  refine Met.ofW (cc := cX16_get) (maxL := 2) (ret := (some .int)) (by decide) rfl ?_
  intro p e s m args below meth c s₁ B hml hv
  obtain ⟨rfl, hsz, hP, hK, hD0, hN⟩ := hv
  have hx := B.exec
  have hb := B.bytes
  have hr := B.returns
  have hts := atoms_spec (ws := ow_dm_X16_get) B.pre
  have hown : s.vm.findClass RX16 = some m.cls := findClass_of_methodNamed B.named
  have hlocks := B.notSynchronized
  subst hsz
  have hD := hD0.self (sz := s.heap.size)
  generalize hAe : va_A (dw_X16 a ac s0) s.heap.size = A at hD hN ⊢
  have hA : ∀ q : Nat, s.heap.size ≤ q → A q := fun q h => by rw [← hAe]; exact Or.inr h
  have hl := lv_entry ([.ref (a 0), .int v0]) (n := 2) (Nat.le_of_ble_eq_true rfl)
  rw [lg_entry_eq]
  generalize (lg_sl ([.ref (a 0), .int v0]) ++ List.replicate (2 - (lg_sl ([.ref (a 0), .int v0])).length) Slot.unset).toArray = ls at hl ⊢
  have hl : lv_has ls 2 [(0, .ref (a 0)), (1, .int v0)] := hl
  exact db_X16_get_0 (dC := dC) (dI := dI) (a := a) (ac := ac) (n := n) (r := r) ⟨hlt, hx, hb, hml, hown, hts, hN, hA, hK⟩ (fun pc v τ H locs ls d z er hP hD hS => by subst er; exact W.zret (v := v) hx hb hr z (fun t ht hW => ⟨⟨v, (), rfl, rfl, by rw [ht]; exact hP, va_K.moved hW.alike hK, hD⟩, hS.F ht⟩) hS.2.2 d) v0 s0 _ _ _ h hP hD va_S.rf (lv_sub hl [0, 1] rfl)
def ow_dm_X16_peek : List Cond := .code yX16_peek cX16_peek 3 (some .int) :: ([.methodLink RX16 214 yX16_isThere, .instanceMethod yX16_isThere, .selects RX16 yX16_isThere yX16_isThere, .initialized RX16, .constant RX16 186 (65536), .methodLink RX16 229 yX16_get, .instanceMethod yX16_get, .selects RX16 yX16_get yX16_get] ++ (ow_dm_X16_isThere ++ (ow_dm_X16_get ++ [])))
theorem gd_dm_X16_peek : ∀ w ∈ ow_dm_X16_peek, (w.onTables && w.keeps) = true ∨ ∃ ty, w = Cond.arrayClass ty := List.forall_mem_cons.mpr ⟨good_of_word rfl, List.forall_mem_append.mpr ⟨fun w h => good_of_word (List.all_eq_true.mp (by decide +kernel) w h), List.forall_mem_append.mpr ⟨gd_dm_X16_isThere, List.forall_mem_append.mpr ⟨gd_dm_X16_get, fun _ h => nomatch h⟩⟩⟩⟩
theorem gi_dm_X16_peek_0 : GoodIn ow_dm_X16_peek (wsV RX16 214 RX16 yX16_isThere ow_dm_X16_isThere) := goodIn_app (goodIn_of _ (by decide +kernel)) (fun w h => ⟨List.mem_cons_of_mem _ (List.mem_append_right _ (List.mem_append_left _ h)), gd_dm_X16_isThere w h⟩)
theorem gi_dm_X16_peek_1 : GoodIn ow_dm_X16_peek (wsV RX16 229 RX16 yX16_get ow_dm_X16_get) := goodIn_app (goodIn_of _ (by decide +kernel)) (fun w h => ⟨List.mem_cons_of_mem _ (List.mem_append_right _ (List.mem_append_right _ (List.mem_append_left _ h))), gd_dm_X16_get w h⟩)
def dj_X16_peek_23 (p : Program) (l : Launch) (e : Env) (s : State) (m : MethodId) (args : Array Value) (below : List Frame) (meth : Method) (c : Code) (Q : State → Prop) (A : Nat → Prop) (dC : Nat → ClassId) (dI : Nat → Nat → Nat) (a : Nat → Nat) (ac : Nat → ClassId) (g : Int32 → (St × (St)) → Option (Int32 × (St × (St)))) (r : Int32 × (St × (St))) : Prop := ∀ (y0 : Int32) (s0 : St × (St)) (H : Heap) (locs : List Loc) (ls : Array Slot), g y0 s0 = some r → va_P (dC, dI) vwCl (dw_X16 a ac s0) H → va_D A (dw_X16 a ac s0) → va_S A s.heap H locs → lv_has ls 3 [] → W p l e (headSpec ow_dm_X16_peek ({ frames := 1, cells := 0, slots := 0, locals := 22 })).room s m args below meth c H locs 0 0 Q (F0 m 23 ls [.int y0])
def dj_X16_peek_0 (p : Program) (l : Launch) (e : Env) (s : State) (m : MethodId) (args : Array Value) (below : List Frame) (meth : Method) (c : Code) (Q : State → Prop) (A : Nat → Prop) (dC : Nat → ClassId) (dI : Nat → Nat → Nat) (a : Nat → Nat) (ac : Nat → ClassId) (g : Int32 → Int32 → (St × (St)) → Option (Int32 × (St × (St)))) (r : Int32 × (St × (St))) : Prop := ∀ (v0 : Int32) (v1 : Int32) (s0 : St × (St)) (H : Heap) (locs : List Loc) (ls : Array Slot), g v0 v1 s0 = some r → va_P (dC, dI) vwCl (dw_X16 a ac s0) H → va_D A (dw_X16 a ac s0) → va_S A s.heap H locs → lv_has ls 3 [(0, .ref (a 0)), (1, .int v0), (2, .int v1)] → W p l e (headSpec ow_dm_X16_peek ({ frames := 1, cells := 0, slots := 0, locals := 22 })).room s m args below meth c H locs 0 0 Q (F0 m 0 ls [])
set_option maxHeartbeats 40000000 in
set_option maxRecDepth 100000 in
theorem db_X16_peek_23 {p : Program} {l : Launch} {e : Env} {s : State} {m : MethodId} {args : Array Value} {below : List Frame} {meth : Method} {c : Code} {Q : State → Prop} {A : Nat → Prop} {dC : Nat → ClassId} {dI : Nat → Nat → Nat} {a : Nat → Nat} {ac : Nat → ClassId} {n : Nat} {r : Int32 × (St × (St))} (C : nd_C p l s m args c A (dC, dI) cX16_peek 3 RX16 ow_dm_X16_peek (dk_X16 ac)) (K : nd_Ki p l e (headSpec ow_dm_X16_peek ({ frames := 1, cells := 0, slots := 0, locals := 22 })).room s m args below meth c Q A (dC, dI) cX16_peek .int (St × (St)) (dw_X16 a ac) r) : dj_X16_peek_23 p l e s m args below meth c Q A dC dI a ac (df_X16_peek_23 n) r := by
  obtain ⟨hlt, hx, hb, hml, hown, hts, hN, hA, hK⟩ := id C
  intro y0 s0 H locs ls h hP hD hS hl
  unfold df_X16_peek_23 at h
  exact K _ _ _ _ _ _ dX16_peek_23 rfl (Option.some.inj h).symm hP hD hS
set_option maxHeartbeats 40000000 in
set_option maxRecDepth 100000 in
theorem db_X16_peek_0 {p : Program} {l : Launch} {e : Env} {s : State} {m : MethodId} {args : Array Value} {below : List Frame} {meth : Method} {c : Code} {Q : State → Prop} {A : Nat → Prop} {dC : Nat → ClassId} {dI : Nat → Nat → Nat} {a : Nat → Nat} {ac : Nat → ClassId} {n : Nat} {r : Int32 × (St × (St))} (C : nd_C p l s m args c A (dC, dI) cX16_peek 3 RX16 ow_dm_X16_peek (dk_X16 ac)) (K : nd_Ki p l e (headSpec ow_dm_X16_peek ({ frames := 1, cells := 0, slots := 0, locals := 22 })).room s m args below meth c Q A (dC, dI) cX16_peek .int (St × (St)) (dw_X16 a ac) r) : dj_X16_peek_0 p l e s m args below meth c Q A dC dI a ac (df_X16_peek_0 n) r := by
  obtain ⟨hlt, hx, hb, hml, hown, hts, hN, hA, hK⟩ := id C
  intro v0 v1 s0 H locs ls h hP hD hS hl
  unfold df_X16_peek_0 at h
  refine lv_aload_n hx hb dX16_peek_0 rfl (lv_at hl 0 rfl) ?_
  refine lv_iload_n hx hb dX16_peek_1 rfl (lv_at hl 1 rfl) ?_
  refine lv_iload_n hx hb dX16_peek_2 rfl (lv_at hl 2 rfl) ?_
  obtain ⟨q1, s2, hq, h⟩ := nd_b2_e h
  have hPc := hP
  have hDc := hD
  have hKc := hK
  have hFc := nd_rs hD hS hA
  refine nd_cVi (As := [.int v0, .int v1]) (rest := []) (q := q1) (w' := dw_X16 a ac s2) ⟨hx, hb, hml, hown, hts⟩ (fun sz => dm_X16_isThere l hlt dC dI a ac n (v0) (v1) s0 hq sz) (cwV 2 hts gi_dm_X16_peek_0 rfl rfl rfl (by decide +kernel) ⟨Nat.le_of_ble_eq_true rfl, Nat.le_of_ble_eq_true rfl⟩) hPc hDc hKc hS hA hN (va_recv hKc hPc (ci := 17) (q0 := 0) rfl rfl) rfl hl.1 rfl (Nat.le_of_ble_eq_true rfl) dX16_peek_3 (fun H locs hP1 hD1 hk1 hS => ?_)
  have hP := hP1
  have hD := hD1.weaken (fun k q _ h => hFc q.1 h)
  refine lv_if_eq (tgt := 22) hx hb dX16_peek_6 (by decide) (fun c4 => ?_) (fun c4 => ?_)
  · have h := nd_pos h c4
    refine lv_iconst (v := (-1)) hx hb dX16_peek_22 (by decide) ?_
    exact (db_X16_peek_23 C K) ((-1)) s2 _ _ _ h hP hD hS (lv_sub hl [] rfl)
  · have h := nd_neg h c4
    refine lv_aload_n hx hb dX16_peek_9 rfl (lv_at hl 0 rfl) ?_
    refine lv_ldc hx hb hown (hts (.constant RX16 186 (65536)) (List.mem_of_getElem? (i := 5) rfl)) dX16_peek_10 ?_
    refine lv_iload_n hx hb dX16_peek_12 rfl (lv_at hl 1 rfl) ?_
    refine lv_imul hx hb dX16_peek_13 ?_
    refine lv_iload_n hx hb dX16_peek_14 rfl (lv_at hl 2 rfl) ?_
    refine lv_iadd hx hb dX16_peek_15 ?_
    obtain ⟨q5, s6, hq, h⟩ := nd_b2_e h
    have hPc := hP
    have hDc := hD
    have hKc := hK
    have hFc := nd_rs hD hS hA
    refine nd_cVi (As := [.int ((65536 * v0) + v1)]) (rest := []) (q := q5) (w' := dw_X16 a ac s6) ⟨hx, hb, hml, hown, hts⟩ (fun sz => dm_X16_get l hlt dC dI a ac n (((65536 * v0) + v1)) s2 hq sz) (cwV 1 hts gi_dm_X16_peek_1 rfl rfl rfl (by decide +kernel) ⟨Nat.le_of_ble_eq_true rfl, Nat.le_of_ble_eq_true rfl⟩) hPc hDc hKc hS hA hN (va_recv hKc hPc (ci := 17) (q0 := 0) rfl rfl) rfl hl.1 rfl (Nat.le_of_ble_eq_true rfl) dX16_peek_16 (fun H locs hP1 hD1 hk1 hS => ?_)
    have hP := hP1
    have hD := hD1.weaken (fun k q _ h => hFc q.1 h)
    refine lv_goto (tgt := 23) hx hb dX16_peek_19 (by decide) ?_
    exact (db_X16_peek_23 C K) (q5) s6 _ _ _ h hP hD hS (lv_sub hl [] rfl)
set_option maxHeartbeats 40000000 in
set_option maxRecDepth 100000 in
theorem dm_X16_peek (l : Launch) (hlt : l.stackTraces = false) (dC : Nat → ClassId) (dI : Nat → Nat → Nat) (a : Nat → Nat) (ac : Nat → ClassId) (n : Nat) (v0 : Int32) (v1 : Int32) (s0 : St × (St)) {r : Int32 × (St × (St))} (h : df_X16_peek n v0 v1 s0 = some r) (sz : Nat) : Met l yX16_peek ow_dm_X16_peek ({ frames := 1, cells := 0, slots := 0, locals := 22 }) (va_Pc [.ref (a 0), .int v0, .int v1] (fun U => U.heap.size = sz ∧ va_P (dC, dI) vwCl (dw_X16 a ac s0) U.heap ∧ va_K (dC, dI) vwCl (dk_X16 ac) U ∧ va_D (fun _ => True) (dw_X16 a ac s0) ∧ nv_E (va_A (dw_X16 a ac s0) sz) U)) (va_Qi (fun x _ => x = r.1) (fun (_ : Unit) t => va_P (dC, dI) vwCl (dw_X16 a ac r.2) t.heap ∧ va_K (dC, dI) vwCl (dk_X16 ac) t ∧ va_D (va_A (dw_X16 a ac s0) sz) (dw_X16 a ac r.2)) (va_A (dw_X16 a ac s0) sz)) 0 0 (va_A (dw_X16 a ac s0) sz) := by
  refine Met.ofW (cc := cX16_peek) (maxL := 3) (ret := (some .int)) (by decide) rfl ?_
  intro p e s m args below meth c s₁ B hml hv
  obtain ⟨rfl, hsz, hP, hK, hD0, hN⟩ := hv
  have hx := B.exec
  have hb := B.bytes
  have hr := B.returns
  have hts := atoms_spec (ws := ow_dm_X16_peek) B.pre
  have hown : s.vm.findClass RX16 = some m.cls := findClass_of_methodNamed B.named
  have hlocks := B.notSynchronized
  subst hsz
  have hD := hD0.self (sz := s.heap.size)
  generalize hAe : va_A (dw_X16 a ac s0) s.heap.size = A at hD hN ⊢
  have hA : ∀ q : Nat, s.heap.size ≤ q → A q := fun q h => by rw [← hAe]; exact Or.inr h
  have hl := lv_entry ([.ref (a 0), .int v0, .int v1]) (n := 3) (Nat.le_of_ble_eq_true rfl)
  rw [lg_entry_eq]
  generalize (lg_sl ([.ref (a 0), .int v0, .int v1]) ++ List.replicate (3 - (lg_sl ([.ref (a 0), .int v0, .int v1])).length) Slot.unset).toArray = ls at hl ⊢
  have hl : lv_has ls 3 [(0, .ref (a 0)), (1, .int v0), (2, .int v1)] := hl
  exact db_X16_peek_0 (dC := dC) (dI := dI) (a := a) (ac := ac) (n := n) (r := r) ⟨hlt, hx, hb, hml, hown, hts, hN, hA, hK⟩ (fun pc v τ H locs ls d z er hP hD hS => by subst er; exact W.zret (v := v) hx hb hr z (fun t ht hW => ⟨⟨v, (), rfl, rfl, by rw [ht]; exact hP, va_K.moved hW.alike hK, hD⟩, hS.F ht⟩) hS.2.2 d) v0 v1 s0 _ _ _ h hP hD va_S.rf (lv_sub hl [0, 1, 2] rfl)
def ow_dm_X16_byteAt : List Cond := .code yX16_byteAt cX16_byteAt 2 (some .int) :: ([.constant RX16 186 (65536), .fieldLink RX16 232 "TimeMachineModel$Machine" "p" "I", .methodLink RX16 229 yX16_get, .instanceMethod yX16_get, .selects RX16 yX16_get yX16_get, .initialized RX16] ++ (u_ws RX16 TX16 56 ++ (ow_dm_X16_get ++ [])))
theorem gd_dm_X16_byteAt : ∀ w ∈ ow_dm_X16_byteAt, (w.onTables && w.keeps) = true ∨ ∃ ty, w = Cond.arrayClass ty := List.forall_mem_cons.mpr ⟨good_of_word rfl, List.forall_mem_append.mpr ⟨fun w h => good_of_word (List.all_eq_true.mp (by decide +kernel) w h), List.forall_mem_append.mpr ⟨gu_X16, List.forall_mem_append.mpr ⟨gd_dm_X16_get, fun _ h => nomatch h⟩⟩⟩⟩
theorem hi_dm_X16_byteAt_X16 : ∀ w ∈ u_ws RX16 TX16 56, w ∈ ow_dm_X16_byteAt := fun w h => List.mem_cons_of_mem _ (List.mem_append_right _ (List.mem_append_left _ h))
theorem gi_dm_X16_byteAt_0 : GoodIn ow_dm_X16_byteAt (wsV RX16 229 RX16 yX16_get ow_dm_X16_get) := goodIn_app (goodIn_of _ (by decide +kernel)) (fun w h => ⟨List.mem_cons_of_mem _ (List.mem_append_right _ (List.mem_append_right _ (List.mem_append_left _ h))), gd_dm_X16_get w h⟩)
def dj_X16_byteAt_0 (p : Program) (l : Launch) (e : Env) (s : State) (m : MethodId) (args : Array Value) (below : List Frame) (meth : Method) (c : Code) (Q : State → Prop) (A : Nat → Prop) (dC : Nat → ClassId) (dI : Nat → Nat → Nat) (a : Nat → Nat) (ac : Nat → ClassId) (g : Int32 → (St × (St)) → Option (Int32 × (St × (St)))) (r : Int32 × (St × (St))) : Prop := ∀ (v0 : Int32) (s0 : St × (St)) (H : Heap) (locs : List Loc) (ls : Array Slot), g v0 s0 = some r → va_P (dC, dI) vwCl (dw_X16 a ac s0) H → va_D A (dw_X16 a ac s0) → va_S A s.heap H locs → lv_has ls 2 [(0, .ref (a 0)), (1, .int v0)] → W p l e (headSpec ow_dm_X16_byteAt ({ frames := 1, cells := 0, slots := 0, locals := 21 })).room s m args below meth c H locs 0 0 Q (F0 m 0 ls [])
set_option maxHeartbeats 40000000 in
set_option maxRecDepth 100000 in
theorem db_X16_byteAt_0 {p : Program} {l : Launch} {e : Env} {s : State} {m : MethodId} {args : Array Value} {below : List Frame} {meth : Method} {c : Code} {Q : State → Prop} {A : Nat → Prop} {dC : Nat → ClassId} {dI : Nat → Nat → Nat} {a : Nat → Nat} {ac : Nat → ClassId} {n : Nat} {r : Int32 × (St × (St))} (C : nd_C p l s m args c A (dC, dI) cX16_byteAt 2 RX16 ow_dm_X16_byteAt (dk_X16 ac)) (K : nd_Ki p l e (headSpec ow_dm_X16_byteAt ({ frames := 1, cells := 0, slots := 0, locals := 21 })).room s m args below meth c Q A (dC, dI) cX16_byteAt .int (St × (St)) (dw_X16 a ac) r) : dj_X16_byteAt_0 p l e s m args below meth c Q A dC dI a ac (df_X16_byteAt_0 n) r := by
  obtain ⟨hlt, hx, hb, hml, hown, hts, hN, hA, hK⟩ := id C
  intro v0 s0 H locs ls h hP hD hS hl
  unfold df_X16_byteAt_0 at h
  refine lv_aload_n hx hb dX16_byteAt_0 rfl (lv_at hl 0 rfl) ?_
  refine lv_ldc hx hb hown (hts (.constant RX16 186 (65536)) (List.mem_of_getElem? (i := 1) rfl)) dX16_byteAt_1 ?_
  refine lv_aload_n hx hb dX16_byteAt_3 rfl (lv_at hl 0 rfl) ?_
  refine va_get (D := (dC, dI)) (ci := 17) (v := .int (sI s0.1 12)) (C := RX16) (T := TX16) (N := 56) hx hb hts hi_dm_X16_byteAt_X16 hown hK hP 0 rfl rfl 51 (by decide) (hts (.fieldLink RX16 232 "TimeMachineModel$Machine" "p" "I") (List.mem_of_getElem? (i := 2) rfl)) (fun _ h9 => h9) rfl dX16_byteAt_4 ?_
  refine lv_imul hx hb dX16_byteAt_7 ?_
  refine lv_iload_n hx hb dX16_byteAt_8 rfl (lv_at hl 1 rfl) ?_
  refine lv_iadd hx hb dX16_byteAt_9 ?_
  obtain ⟨q1, s2, hq, h⟩ := nd_b2_e h
  have hPc := hP
  have hDc := hD
  have hKc := hK
  have hFc := nd_rs hD hS hA
  refine nd_cVi (As := [.int ((65536 * (sI s0.1 12)) + v0)]) (rest := []) (q := q1) (w' := dw_X16 a ac s2) ⟨hx, hb, hml, hown, hts⟩ (fun sz => dm_X16_get l hlt dC dI a ac n (((65536 * (sI s0.1 12)) + v0)) s0 hq sz) (cwV 1 hts gi_dm_X16_byteAt_0 rfl rfl rfl (by decide +kernel) ⟨Nat.le_of_ble_eq_true rfl, Nat.le_of_ble_eq_true rfl⟩) hPc hDc hKc hS hA hN (va_recv hKc hPc (ci := 17) (q0 := 0) rfl rfl) rfl hl.1 rfl (Nat.le_of_ble_eq_true rfl) dX16_byteAt_10 (fun H locs hP1 hD1 hk1 hS => ?_)
  have hP := hP1
  have hD := hD1.weaken (fun k q _ h => hFc q.1 h)
  exact K _ _ _ _ _ _ dX16_byteAt_13 rfl (Option.some.inj h).symm hP hD hS
set_option maxHeartbeats 40000000 in
set_option maxRecDepth 100000 in
theorem dm_X16_byteAt (l : Launch) (hlt : l.stackTraces = false) (dC : Nat → ClassId) (dI : Nat → Nat → Nat) (a : Nat → Nat) (ac : Nat → ClassId) (n : Nat) (v0 : Int32) (s0 : St × (St)) {r : Int32 × (St × (St))} (h : df_X16_byteAt n v0 s0 = some r) (sz : Nat) : Met l yX16_byteAt ow_dm_X16_byteAt ({ frames := 1, cells := 0, slots := 0, locals := 21 }) (va_Pc [.ref (a 0), .int v0] (fun U => U.heap.size = sz ∧ va_P (dC, dI) vwCl (dw_X16 a ac s0) U.heap ∧ va_K (dC, dI) vwCl (dk_X16 ac) U ∧ va_D (fun _ => True) (dw_X16 a ac s0) ∧ nv_E (va_A (dw_X16 a ac s0) sz) U)) (va_Qi (fun x _ => x = r.1) (fun (_ : Unit) t => va_P (dC, dI) vwCl (dw_X16 a ac r.2) t.heap ∧ va_K (dC, dI) vwCl (dk_X16 ac) t ∧ va_D (va_A (dw_X16 a ac s0) sz) (dw_X16 a ac r.2)) (va_A (dw_X16 a ac s0) sz)) 0 0 (va_A (dw_X16 a ac s0) sz) := by
  refine Met.ofW (cc := cX16_byteAt) (maxL := 2) (ret := (some .int)) (by decide) rfl ?_
  intro p e s m args below meth c s₁ B hml hv
  obtain ⟨rfl, hsz, hP, hK, hD0, hN⟩ := hv
  have hx := B.exec
  have hb := B.bytes
  have hr := B.returns
  have hts := atoms_spec (ws := ow_dm_X16_byteAt) B.pre
  have hown : s.vm.findClass RX16 = some m.cls := findClass_of_methodNamed B.named
  have hlocks := B.notSynchronized
  subst hsz
  have hD := hD0.self (sz := s.heap.size)
  generalize hAe : va_A (dw_X16 a ac s0) s.heap.size = A at hD hN ⊢
  have hA : ∀ q : Nat, s.heap.size ≤ q → A q := fun q h => by rw [← hAe]; exact Or.inr h
  have hl := lv_entry ([.ref (a 0), .int v0]) (n := 2) (Nat.le_of_ble_eq_true rfl)
  rw [lg_entry_eq]
  generalize (lg_sl ([.ref (a 0), .int v0]) ++ List.replicate (2 - (lg_sl ([.ref (a 0), .int v0])).length) Slot.unset).toArray = ls at hl ⊢
  have hl : lv_has ls 2 [(0, .ref (a 0)), (1, .int v0)] := hl
  exact db_X16_byteAt_0 (dC := dC) (dI := dI) (a := a) (ac := ac) (n := n) (r := r) ⟨hlt, hx, hb, hml, hown, hts, hN, hA, hK⟩ (fun pc v τ H locs ls d z er hP hD hS => by subst er; exact W.zret (v := v) hx hb hr z (fun t ht hW => ⟨⟨v, (), rfl, rfl, by rw [ht]; exact hP, va_K.moved hW.alike hK, hD⟩, hS.F ht⟩) hS.2.2 d) v0 s0 _ _ _ h hP hD va_S.rf (lv_sub hl [0, 1] rfl)
def ow_dm_X16_half : List Cond := .code yX16_half cX16_half 2 (some .int) :: ([.methodLink RX16 235 yX16_byteAt, .instanceMethod yX16_byteAt, .selects RX16 yX16_byteAt yX16_byteAt, .initialized RX16] ++ (ow_dm_X16_byteAt ++ []))
theorem gd_dm_X16_half : ∀ w ∈ ow_dm_X16_half, (w.onTables && w.keeps) = true ∨ ∃ ty, w = Cond.arrayClass ty := List.forall_mem_cons.mpr ⟨good_of_word rfl, List.forall_mem_append.mpr ⟨fun w h => good_of_word (List.all_eq_true.mp (by decide +kernel) w h), List.forall_mem_append.mpr ⟨gd_dm_X16_byteAt, fun _ h => nomatch h⟩⟩⟩
theorem gi_dm_X16_half_0 : GoodIn ow_dm_X16_half (wsV RX16 235 RX16 yX16_byteAt ow_dm_X16_byteAt) := goodIn_app (goodIn_of _ (by decide +kernel)) (fun w h => ⟨List.mem_cons_of_mem _ (List.mem_append_right _ (List.mem_append_left _ h)), gd_dm_X16_byteAt w h⟩)
def dj_X16_half_0 (p : Program) (l : Launch) (e : Env) (s : State) (m : MethodId) (args : Array Value) (below : List Frame) (meth : Method) (c : Code) (Q : State → Prop) (A : Nat → Prop) (dC : Nat → ClassId) (dI : Nat → Nat → Nat) (a : Nat → Nat) (ac : Nat → ClassId) (g : Int32 → (St × (St)) → Option (Int32 × (St × (St)))) (r : Int32 × (St × (St))) : Prop := ∀ (v0 : Int32) (s0 : St × (St)) (H : Heap) (locs : List Loc) (ls : Array Slot), g v0 s0 = some r → va_P (dC, dI) vwCl (dw_X16 a ac s0) H → va_D A (dw_X16 a ac s0) → va_S A s.heap H locs → lv_has ls 2 [(0, .ref (a 0)), (1, .int v0)] → W p l e (headSpec ow_dm_X16_half ({ frames := 2, cells := 0, slots := 0, locals := 42 })).room s m args below meth c H locs 0 0 Q (F0 m 0 ls [])
set_option maxHeartbeats 40000000 in
set_option maxRecDepth 100000 in
theorem db_X16_half_0 {p : Program} {l : Launch} {e : Env} {s : State} {m : MethodId} {args : Array Value} {below : List Frame} {meth : Method} {c : Code} {Q : State → Prop} {A : Nat → Prop} {dC : Nat → ClassId} {dI : Nat → Nat → Nat} {a : Nat → Nat} {ac : Nat → ClassId} {n : Nat} {r : Int32 × (St × (St))} (C : nd_C p l s m args c A (dC, dI) cX16_half 2 RX16 ow_dm_X16_half (dk_X16 ac)) (K : nd_Ki p l e (headSpec ow_dm_X16_half ({ frames := 2, cells := 0, slots := 0, locals := 42 })).room s m args below meth c Q A (dC, dI) cX16_half .int (St × (St)) (dw_X16 a ac) r) : dj_X16_half_0 p l e s m args below meth c Q A dC dI a ac (df_X16_half_0 n) r := by
  obtain ⟨hlt, hx, hb, hml, hown, hts, hN, hA, hK⟩ := id C
  intro v0 s0 H locs ls h hP hD hS hl
  unfold df_X16_half_0 at h
  refine lv_aload_n hx hb dX16_half_0 rfl (lv_at hl 0 rfl) ?_
  refine lv_iload_n hx hb dX16_half_1 rfl (lv_at hl 1 rfl) ?_
  obtain ⟨q1, s2, hq, h⟩ := nd_b2_e h
  have hPc := hP
  have hDc := hD
  have hKc := hK
  have hFc := nd_rs hD hS hA
  refine nd_cVi (As := [.int v0]) (rest := []) (q := q1) (w' := dw_X16 a ac s2) ⟨hx, hb, hml, hown, hts⟩ (fun sz => dm_X16_byteAt l hlt dC dI a ac n (v0) s0 hq sz) (cwV 1 hts gi_dm_X16_half_0 rfl rfl rfl (by decide +kernel) ⟨Nat.le_of_ble_eq_true rfl, Nat.le_of_ble_eq_true rfl⟩) hPc hDc hKc hS hA hN (va_recv hKc hPc (ci := 17) (q0 := 0) rfl rfl) rfl hl.1 rfl (Nat.le_of_ble_eq_true rfl) dX16_half_2 (fun H locs hP1 hD1 hk1 hS => ?_)
  have hP := hP1
  have hD := hD1.weaken (fun k q _ h => hFc q.1 h)
  refine lv_aload_n hx hb dX16_half_5 rfl (lv_at hl 0 rfl) ?_
  refine lv_iload_n hx hb dX16_half_6 rfl (lv_at hl 1 rfl) ?_
  refine lv_iconst (v := 1) hx hb dX16_half_7 (by decide) ?_
  refine lv_iadd hx hb dX16_half_8 ?_
  obtain ⟨q4, s5, hq, h⟩ := nd_b2_e h
  have hPc := hP
  have hDc := hD
  have hKc := hK
  have hFc := nd_rs hD hS hA
  refine nd_cVi (As := [.int (v0 + 1)]) (rest := [.int q1]) (q := q4) (w' := dw_X16 a ac s5) ⟨hx, hb, hml, hown, hts⟩ (fun sz => dm_X16_byteAt l hlt dC dI a ac n ((v0 + 1)) s2 hq sz) (cwV 1 hts gi_dm_X16_half_0 rfl rfl rfl (by decide +kernel) ⟨Nat.le_of_ble_eq_true rfl, Nat.le_of_ble_eq_true rfl⟩) hPc hDc hKc hS hA hN (va_recv hKc hPc (ci := 17) (q0 := 0) rfl rfl) rfl hl.1 rfl (Nat.le_of_ble_eq_true rfl) dX16_half_9 (fun H locs hP1 hD1 hk1 hS => ?_)
  have hP := hP1
  have hD := hD1.weaken (fun k q _ h => hFc q.1 h)
  refine lv_bipush (v := 8) hx hb dX16_half_12 (by decide) ?_
  refine lv_ishl hx hb dX16_half_14 ?_
  refine lv_ior hx hb dX16_half_15 ?_
  exact K _ _ _ _ _ _ dX16_half_16 rfl (Option.some.inj h).symm hP hD hS
set_option maxHeartbeats 40000000 in
set_option maxRecDepth 100000 in
theorem dm_X16_half (l : Launch) (hlt : l.stackTraces = false) (dC : Nat → ClassId) (dI : Nat → Nat → Nat) (a : Nat → Nat) (ac : Nat → ClassId) (n : Nat) (v0 : Int32) (s0 : St × (St)) {r : Int32 × (St × (St))} (h : df_X16_half n v0 s0 = some r) (sz : Nat) : Met l yX16_half ow_dm_X16_half ({ frames := 2, cells := 0, slots := 0, locals := 42 }) (va_Pc [.ref (a 0), .int v0] (fun U => U.heap.size = sz ∧ va_P (dC, dI) vwCl (dw_X16 a ac s0) U.heap ∧ va_K (dC, dI) vwCl (dk_X16 ac) U ∧ va_D (fun _ => True) (dw_X16 a ac s0) ∧ nv_E (va_A (dw_X16 a ac s0) sz) U)) (va_Qi (fun x _ => x = r.1) (fun (_ : Unit) t => va_P (dC, dI) vwCl (dw_X16 a ac r.2) t.heap ∧ va_K (dC, dI) vwCl (dk_X16 ac) t ∧ va_D (va_A (dw_X16 a ac s0) sz) (dw_X16 a ac r.2)) (va_A (dw_X16 a ac s0) sz)) 0 0 (va_A (dw_X16 a ac s0) sz) := by
  refine Met.ofW (cc := cX16_half) (maxL := 2) (ret := (some .int)) (by decide) rfl ?_
  intro p e s m args below meth c s₁ B hml hv
  obtain ⟨rfl, hsz, hP, hK, hD0, hN⟩ := hv
  have hx := B.exec
  have hb := B.bytes
  have hr := B.returns
  have hts := atoms_spec (ws := ow_dm_X16_half) B.pre
  have hown : s.vm.findClass RX16 = some m.cls := findClass_of_methodNamed B.named
  have hlocks := B.notSynchronized
  subst hsz
  have hD := hD0.self (sz := s.heap.size)
  generalize hAe : va_A (dw_X16 a ac s0) s.heap.size = A at hD hN ⊢
  have hA : ∀ q : Nat, s.heap.size ≤ q → A q := fun q h => by rw [← hAe]; exact Or.inr h
  have hl := lv_entry ([.ref (a 0), .int v0]) (n := 2) (Nat.le_of_ble_eq_true rfl)
  rw [lg_entry_eq]
  generalize (lg_sl ([.ref (a 0), .int v0]) ++ List.replicate (2 - (lg_sl ([.ref (a 0), .int v0])).length) Slot.unset).toArray = ls at hl ⊢
  have hl : lv_has ls 2 [(0, .ref (a 0)), (1, .int v0)] := hl
  exact db_X16_half_0 (dC := dC) (dI := dI) (a := a) (ac := ac) (n := n) (r := r) ⟨hlt, hx, hb, hml, hown, hts, hN, hA, hK⟩ (fun pc v τ H locs ls d z er hP hD hS => by subst er; exact W.zret (v := v) hx hb hr z (fun t ht hW => ⟨⟨v, (), rfl, rfl, by rw [ht]; exact hP, va_K.moved hW.alike hK, hD⟩, hS.F ht⟩) hS.2.2 d) v0 s0 _ _ _ h hP hD va_S.rf (lv_sub hl [0, 1] rfl)
def ow_dm_X16_word : List Cond := .code yX16_word cX16_word 2 (some .int) :: ([.methodLink RX16 237 yX16_half, .instanceMethod yX16_half, .selects RX16 yX16_half yX16_half, .initialized RX16] ++ (ow_dm_X16_half ++ []))
theorem gd_dm_X16_word : ∀ w ∈ ow_dm_X16_word, (w.onTables && w.keeps) = true ∨ ∃ ty, w = Cond.arrayClass ty := List.forall_mem_cons.mpr ⟨good_of_word rfl, List.forall_mem_append.mpr ⟨fun w h => good_of_word (List.all_eq_true.mp (by decide +kernel) w h), List.forall_mem_append.mpr ⟨gd_dm_X16_half, fun _ h => nomatch h⟩⟩⟩
theorem gi_dm_X16_word_0 : GoodIn ow_dm_X16_word (wsV RX16 237 RX16 yX16_half ow_dm_X16_half) := goodIn_app (goodIn_of _ (by decide +kernel)) (fun w h => ⟨List.mem_cons_of_mem _ (List.mem_append_right _ (List.mem_append_left _ h)), gd_dm_X16_half w h⟩)
def dj_X16_word_0 (p : Program) (l : Launch) (e : Env) (s : State) (m : MethodId) (args : Array Value) (below : List Frame) (meth : Method) (c : Code) (Q : State → Prop) (A : Nat → Prop) (dC : Nat → ClassId) (dI : Nat → Nat → Nat) (a : Nat → Nat) (ac : Nat → ClassId) (g : Int32 → (St × (St)) → Option (Int32 × (St × (St)))) (r : Int32 × (St × (St))) : Prop := ∀ (v0 : Int32) (s0 : St × (St)) (H : Heap) (locs : List Loc) (ls : Array Slot), g v0 s0 = some r → va_P (dC, dI) vwCl (dw_X16 a ac s0) H → va_D A (dw_X16 a ac s0) → va_S A s.heap H locs → lv_has ls 2 [(0, .ref (a 0)), (1, .int v0)] → W p l e (headSpec ow_dm_X16_word ({ frames := 3, cells := 0, slots := 0, locals := 63 })).room s m args below meth c H locs 0 0 Q (F0 m 0 ls [])
set_option maxHeartbeats 40000000 in
set_option maxRecDepth 100000 in
theorem db_X16_word_0 {p : Program} {l : Launch} {e : Env} {s : State} {m : MethodId} {args : Array Value} {below : List Frame} {meth : Method} {c : Code} {Q : State → Prop} {A : Nat → Prop} {dC : Nat → ClassId} {dI : Nat → Nat → Nat} {a : Nat → Nat} {ac : Nat → ClassId} {n : Nat} {r : Int32 × (St × (St))} (C : nd_C p l s m args c A (dC, dI) cX16_word 2 RX16 ow_dm_X16_word (dk_X16 ac)) (K : nd_Ki p l e (headSpec ow_dm_X16_word ({ frames := 3, cells := 0, slots := 0, locals := 63 })).room s m args below meth c Q A (dC, dI) cX16_word .int (St × (St)) (dw_X16 a ac) r) : dj_X16_word_0 p l e s m args below meth c Q A dC dI a ac (df_X16_word_0 n) r := by
  obtain ⟨hlt, hx, hb, hml, hown, hts, hN, hA, hK⟩ := id C
  intro v0 s0 H locs ls h hP hD hS hl
  unfold df_X16_word_0 at h
  refine lv_aload_n hx hb dX16_word_0 rfl (lv_at hl 0 rfl) ?_
  refine lv_iload_n hx hb dX16_word_1 rfl (lv_at hl 1 rfl) ?_
  obtain ⟨q1, s2, hq, h⟩ := nd_b2_e h
  have hPc := hP
  have hDc := hD
  have hKc := hK
  have hFc := nd_rs hD hS hA
  refine nd_cVi (As := [.int v0]) (rest := []) (q := q1) (w' := dw_X16 a ac s2) ⟨hx, hb, hml, hown, hts⟩ (fun sz => dm_X16_half l hlt dC dI a ac n (v0) s0 hq sz) (cwV 1 hts gi_dm_X16_word_0 rfl rfl rfl (by decide +kernel) ⟨Nat.le_of_ble_eq_true rfl, Nat.le_of_ble_eq_true rfl⟩) hPc hDc hKc hS hA hN (va_recv hKc hPc (ci := 17) (q0 := 0) rfl rfl) rfl hl.1 rfl (Nat.le_of_ble_eq_true rfl) dX16_word_2 (fun H locs hP1 hD1 hk1 hS => ?_)
  have hP := hP1
  have hD := hD1.weaken (fun k q _ h => hFc q.1 h)
  refine lv_aload_n hx hb dX16_word_5 rfl (lv_at hl 0 rfl) ?_
  refine lv_iload_n hx hb dX16_word_6 rfl (lv_at hl 1 rfl) ?_
  refine lv_iconst (v := 2) hx hb dX16_word_7 (by decide) ?_
  refine lv_iadd hx hb dX16_word_8 ?_
  obtain ⟨q4, s5, hq, h⟩ := nd_b2_e h
  have hPc := hP
  have hDc := hD
  have hKc := hK
  have hFc := nd_rs hD hS hA
  refine nd_cVi (As := [.int (v0 + 2)]) (rest := [.int q1]) (q := q4) (w' := dw_X16 a ac s5) ⟨hx, hb, hml, hown, hts⟩ (fun sz => dm_X16_half l hlt dC dI a ac n ((v0 + 2)) s2 hq sz) (cwV 1 hts gi_dm_X16_word_0 rfl rfl rfl (by decide +kernel) ⟨Nat.le_of_ble_eq_true rfl, Nat.le_of_ble_eq_true rfl⟩) hPc hDc hKc hS hA hN (va_recv hKc hPc (ci := 17) (q0 := 0) rfl rfl) rfl hl.1 rfl (Nat.le_of_ble_eq_true rfl) dX16_word_9 (fun H locs hP1 hD1 hk1 hS => ?_)
  have hP := hP1
  have hD := hD1.weaken (fun k q _ h => hFc q.1 h)
  refine lv_bipush (v := 16) hx hb dX16_word_12 (by decide) ?_
  refine lv_ishl hx hb dX16_word_14 ?_
  refine lv_ior hx hb dX16_word_15 ?_
  exact K _ _ _ _ _ _ dX16_word_16 rfl (Option.some.inj h).symm hP hD hS
set_option maxHeartbeats 40000000 in
set_option maxRecDepth 100000 in
theorem dm_X16_word (l : Launch) (hlt : l.stackTraces = false) (dC : Nat → ClassId) (dI : Nat → Nat → Nat) (a : Nat → Nat) (ac : Nat → ClassId) (n : Nat) (v0 : Int32) (s0 : St × (St)) {r : Int32 × (St × (St))} (h : df_X16_word n v0 s0 = some r) (sz : Nat) : Met l yX16_word ow_dm_X16_word ({ frames := 3, cells := 0, slots := 0, locals := 63 }) (va_Pc [.ref (a 0), .int v0] (fun U => U.heap.size = sz ∧ va_P (dC, dI) vwCl (dw_X16 a ac s0) U.heap ∧ va_K (dC, dI) vwCl (dk_X16 ac) U ∧ va_D (fun _ => True) (dw_X16 a ac s0) ∧ nv_E (va_A (dw_X16 a ac s0) sz) U)) (va_Qi (fun x _ => x = r.1) (fun (_ : Unit) t => va_P (dC, dI) vwCl (dw_X16 a ac r.2) t.heap ∧ va_K (dC, dI) vwCl (dk_X16 ac) t ∧ va_D (va_A (dw_X16 a ac s0) sz) (dw_X16 a ac r.2)) (va_A (dw_X16 a ac s0) sz)) 0 0 (va_A (dw_X16 a ac s0) sz) := by
  refine Met.ofW (cc := cX16_word) (maxL := 2) (ret := (some .int)) (by decide) rfl ?_
  intro p e s m args below meth c s₁ B hml hv
  obtain ⟨rfl, hsz, hP, hK, hD0, hN⟩ := hv
  have hx := B.exec
  have hb := B.bytes
  have hr := B.returns
  have hts := atoms_spec (ws := ow_dm_X16_word) B.pre
  have hown : s.vm.findClass RX16 = some m.cls := findClass_of_methodNamed B.named
  have hlocks := B.notSynchronized
  subst hsz
  have hD := hD0.self (sz := s.heap.size)
  generalize hAe : va_A (dw_X16 a ac s0) s.heap.size = A at hD hN ⊢
  have hA : ∀ q : Nat, s.heap.size ≤ q → A q := fun q h => by rw [← hAe]; exact Or.inr h
  have hl := lv_entry ([.ref (a 0), .int v0]) (n := 2) (Nat.le_of_ble_eq_true rfl)
  rw [lg_entry_eq]
  generalize (lg_sl ([.ref (a 0), .int v0]) ++ List.replicate (2 - (lg_sl ([.ref (a 0), .int v0])).length) Slot.unset).toArray = ls at hl ⊢
  have hl : lv_has ls 2 [(0, .ref (a 0)), (1, .int v0)] := hl
  exact db_X16_word_0 (dC := dC) (dI := dI) (a := a) (ac := ac) (n := n) (r := r) ⟨hlt, hx, hb, hml, hown, hts, hN, hA, hK⟩ (fun pc v τ H locs ls d z er hP hD hS => by subst er; exact W.zret (v := v) hx hb hr z (fun t ht hW => ⟨⟨v, (), rfl, rfl, by rw [ht]; exact hP, va_K.moved hW.alike hK, hD⟩, hS.F ht⟩) hS.2.2 d) v0 s0 _ _ _ h hP hD va_S.rf (lv_sub hl [0, 1] rfl)
def ow_dm_X16_held : List Cond := .code yX16_held cX16_held 4 (some .int) :: ([.fieldLink RX16 57 "TimeMachineModel$Machine" "descriptor" "[I"] ++ (u_ws RX16 TX16 56 ++ []))
theorem gd_dm_X16_held : ∀ w ∈ ow_dm_X16_held, (w.onTables && w.keeps) = true ∨ ∃ ty, w = Cond.arrayClass ty := List.forall_mem_cons.mpr ⟨good_of_word rfl, List.forall_mem_append.mpr ⟨fun w h => good_of_word (List.all_eq_true.mp (by decide +kernel) w h), List.forall_mem_append.mpr ⟨gu_X16, fun _ h => nomatch h⟩⟩⟩
theorem hi_dm_X16_held_X16 : ∀ w ∈ u_ws RX16 TX16 56, w ∈ ow_dm_X16_held := fun w h => List.mem_cons_of_mem _ (List.mem_append_right _ (List.mem_append_left _ h))
def dj_X16_held_28 (p : Program) (l : Launch) (e : Env) (s : State) (m : MethodId) (args : Array Value) (below : List Frame) (meth : Method) (c : Code) (Q : State → Prop) (A : Nat → Prop) (dC : Nat → ClassId) (dI : Nat → Nat → Nat) (a : Nat → Nat) (ac : Nat → ClassId) (g : Int32 → Int32 → Int32 → (St × (St)) → Option (Int32 × (St × (St)))) (r : Int32 × (St × (St))) : Prop := ∀ (x1 : Int32) (x3 : Int32) (y0 : Int32) (s0 : St × (St)) (H : Heap) (locs : List Loc) (ls : Array Slot), g x1 x3 y0 s0 = some r → va_P (dC, dI) vwCl (dw_X16 a ac s0) H → va_D A (dw_X16 a ac s0) → va_S A s.heap H locs → lv_has ls 4 [(0, .ref (a 0)), (1, .int x1), (3, .int x3)] → W p l e (headSpec ow_dm_X16_held ({ frames := 0, cells := 0, slots := 0, locals := 0 })).room s m args below meth c H locs 0 0 Q (F0 m 28 ls [.int y0])
def dj_X16_held_4 (p : Program) (l : Launch) (e : Env) (s : State) (m : MethodId) (args : Array Value) (below : List Frame) (meth : Method) (c : Code) (Q : State → Prop) (A : Nat → Prop) (dC : Nat → ClassId) (dI : Nat → Nat → Nat) (a : Nat → Nat) (ac : Nat → ClassId) (g : Int32 → Int32 → Int32 → (St × (St)) → Option (Int32 × (St × (St)))) (r : Int32 × (St × (St))) : Prop := ∀ (x1 : Int32) (x2 : Int32) (x3 : Int32) (s0 : St × (St)) (H : Heap) (locs : List Loc) (ls : Array Slot), g x1 x2 x3 s0 = some r → va_P (dC, dI) vwCl (dw_X16 a ac s0) H → va_D A (dw_X16 a ac s0) → va_S A s.heap H locs → lv_has ls 4 [(0, .ref (a 0)), (1, .int x1), (2, .int x2), (3, .int x3)] → W p l e (headSpec ow_dm_X16_held ({ frames := 0, cells := 0, slots := 0, locals := 0 })).room s m args below meth c H locs 0 0 Q (F0 m 4 ls [])
def dj_X16_held_0 (p : Program) (l : Launch) (e : Env) (s : State) (m : MethodId) (args : Array Value) (below : List Frame) (meth : Method) (c : Code) (Q : State → Prop) (A : Nat → Prop) (dC : Nat → ClassId) (dI : Nat → Nat → Nat) (a : Nat → Nat) (ac : Nat → ClassId) (g : Int32 → (St × (St)) → Option (Int32 × (St × (St)))) (r : Int32 × (St × (St))) : Prop := ∀ (v0 : Int32) (s0 : St × (St)) (H : Heap) (locs : List Loc) (ls : Array Slot), g v0 s0 = some r → va_P (dC, dI) vwCl (dw_X16 a ac s0) H → va_D A (dw_X16 a ac s0) → va_S A s.heap H locs → lv_has ls 4 [(0, .ref (a 0)), (1, .int v0)] → W p l e (headSpec ow_dm_X16_held ({ frames := 0, cells := 0, slots := 0, locals := 0 })).room s m args below meth c H locs 0 0 Q (F0 m 0 ls [])
set_option maxHeartbeats 40000000 in
set_option maxRecDepth 100000 in
theorem db_X16_held_28 {p : Program} {l : Launch} {e : Env} {s : State} {m : MethodId} {args : Array Value} {below : List Frame} {meth : Method} {c : Code} {Q : State → Prop} {A : Nat → Prop} {dC : Nat → ClassId} {dI : Nat → Nat → Nat} {a : Nat → Nat} {ac : Nat → ClassId} {n : Nat} {r : Int32 × (St × (St))} (C : nd_C p l s m args c A (dC, dI) cX16_held 4 RX16 ow_dm_X16_held (dk_X16 ac)) (K : nd_Ki p l e (headSpec ow_dm_X16_held ({ frames := 0, cells := 0, slots := 0, locals := 0 })).room s m args below meth c Q A (dC, dI) cX16_held .int (St × (St)) (dw_X16 a ac) r) {g4 : Int32 → Int32 → Int32 → (St × (St)) → Option (Int32 × (St × (St)))} (J4 : dj_X16_held_4 p l e s m args below meth c Q A dC dI a ac g4 r) : dj_X16_held_28 p l e s m args below meth c Q A dC dI a ac (df_X16_held_28 n g4) r := by
  obtain ⟨hlt, hx, hb, hml, hown, hts, hN, hA, hK⟩ := id C
  intro x1 x3 y0 s0 H locs ls h hP hD hS hl
  unfold df_X16_held_28 at h
  refine lv_istore_n (lv' := [(2, .int y0), (0, .ref (a 0)), (1, .int x1), (3, .int x3)]) hx hb dX16_held_28 rfl hl (by decide) rfl (fun ls hl => ?_)
  obtain ⟨z4, ez4, h⟩ := nd_let_e h
  refine lv_iinc (v := z4) (lv' := [(3, .int z4), (2, .int y0), (0, .ref (a 0)), (1, .int x1)]) hx hb dX16_held_29 hl (k := 3) rfl (by rw [ez4]) (by decide) rfl (fun ls hl => ?_)
  refine lv_goto (tgt := 4) hx hb dX16_held_32 (by decide) ?_
  exact (J4) (x1) (y0) (z4) s0 _ _ _ h hP hD hS (lv_sub hl [2, 3, 1, 0] rfl)
set_option maxHeartbeats 40000000 in
set_option maxRecDepth 100000 in
theorem dB_X16_held_4 {p : Program} {l : Launch} {e : Env} {s : State} {m : MethodId} {args : Array Value} {below : List Frame} {meth : Method} {c : Code} {Q : State → Prop} {A : Nat → Prop} {dC : Nat → ClassId} {dI : Nat → Nat → Nat} {a : Nat → Nat} {ac : Nat → ClassId} {n : Nat} {r : Int32 × (St × (St))} (C : nd_C p l s m args c A (dC, dI) cX16_held 4 RX16 ow_dm_X16_held (dk_X16 ac)) (K : nd_Ki p l e (headSpec ow_dm_X16_held ({ frames := 0, cells := 0, slots := 0, locals := 0 })).room s m args below meth c Q A (dC, dI) cX16_held .int (St × (St)) (dw_X16 a ac) r) {g4 : Int32 → Int32 → Int32 → (St × (St)) → Option (Int32 × (St × (St)))} (J4 : dj_X16_held_4 p l e s m args below meth c Q A dC dI a ac g4 r) : dj_X16_held_4 p l e s m args below meth c Q A dC dI a ac (dF_X16_held_4 n g4) r := by
  obtain ⟨hlt, hx, hb, hml, hown, hts, hN, hA, hK⟩ := id C
  intro x1 x2 x3 s0 H locs ls h hP hD hS hl
  unfold dF_X16_held_4 at h
  refine lv_iload_n hx hb dX16_held_4 rfl (lv_at hl 3 rfl) ?_
  refine lv_sipush (v := 256) hx hb dX16_held_5 (by decide) ?_
  refine lv_icmp_ge (tgt := 35) hx hb dX16_held_8 (by decide) (fun c1 => ?_) (fun c1 => ?_)
  · have h := nd_pos h c1
    refine lv_iload_n hx hb dX16_held_35 rfl (lv_at hl 2 rfl) ?_
    exact K _ _ _ _ _ _ dX16_held_36 rfl (Option.some.inj h).symm hP hD hS
  · have h := nd_neg h c1
    refine lv_aload_n hx hb dX16_held_11 rfl (lv_at hl 0 rfl) ?_
    refine va_get (D := (dC, dI)) (ci := 17) (v := .ref (a 16)) (C := RX16) (T := TX16) (N := 56) hx hb hts hi_dm_X16_held_X16 hown hK hP 0 rfl rfl 24 (by decide) (hts (.fieldLink RX16 57 "TimeMachineModel$Machine" "descriptor" "[I") (List.mem_of_getElem? (i := 1) rfl)) (fun _ h9 => h9) rfl dX16_held_12 ?_
    refine lv_iload_n hx hb dX16_held_15 rfl (lv_at hl 3 rfl) ?_
    obtain ⟨i2, h⟩ := nd_ck_e h
    refine va_iald (i := x3) hx hb hK hP 16 15 rfl rfl i2 dX16_held_16 ?_
    refine lv_iload_n hx hb dX16_held_17 rfl (lv_at hl 1 rfl) ?_
    refine lv_icmp_ne (tgt := 27) hx hb dX16_held_18 (by decide) (fun c3 => ?_) (fun c3 => ?_)
    · have h := nd_neg h c3
      refine lv_iload_n hx hb dX16_held_27 rfl (lv_at hl 2 rfl) ?_
      exact (db_X16_held_28 C K J4) (x1) (x3) (x2) s0 _ _ _ h hP hD hS (lv_sub hl [0, 1, 3] rfl)
    · have h := nd_pos h c3
      refine lv_iload_n hx hb dX16_held_21 rfl (lv_at hl 2 rfl) ?_
      refine lv_iconst (v := 1) hx hb dX16_held_22 (by decide) ?_
      refine lv_iadd hx hb dX16_held_23 ?_
      refine lv_goto (tgt := 28) hx hb dX16_held_24 (by decide) ?_
      exact (db_X16_held_28 C K J4) (x1) (x3) ((x2 + 1)) s0 _ _ _ h hP hD hS (lv_sub hl [0, 1, 3] rfl)
set_option maxHeartbeats 40000000 in
set_option maxRecDepth 100000 in
theorem db_X16_held_4 {p : Program} {l : Launch} {e : Env} {s : State} {m : MethodId} {args : Array Value} {below : List Frame} {meth : Method} {c : Code} {Q : State → Prop} {A : Nat → Prop} {dC : Nat → ClassId} {dI : Nat → Nat → Nat} {a : Nat → Nat} {ac : Nat → ClassId} {n : Nat} {r : Int32 × (St × (St))} (C : nd_C p l s m args c A (dC, dI) cX16_held 4 RX16 ow_dm_X16_held (dk_X16 ac)) (K : nd_Ki p l e (headSpec ow_dm_X16_held ({ frames := 0, cells := 0, slots := 0, locals := 0 })).room s m args below meth c Q A (dC, dI) cX16_held .int (St × (St)) (dw_X16 a ac) r) (k : Nat) : dj_X16_held_4 p l e s m args below meth c Q A dC dI a ac (df_X16_held_4 n k) r := by
  induction k with
  | zero => intro x1 x2 x3 s0 H locs ls h; exact nomatch (show (none : Option (Int32 × (St × (St)))) = some r from h)
  | succ k ih => exact dB_X16_held_4 C K ih
set_option maxHeartbeats 40000000 in
set_option maxRecDepth 100000 in
theorem db_X16_held_0 {p : Program} {l : Launch} {e : Env} {s : State} {m : MethodId} {args : Array Value} {below : List Frame} {meth : Method} {c : Code} {Q : State → Prop} {A : Nat → Prop} {dC : Nat → ClassId} {dI : Nat → Nat → Nat} {a : Nat → Nat} {ac : Nat → ClassId} {n : Nat} {r : Int32 × (St × (St))} (C : nd_C p l s m args c A (dC, dI) cX16_held 4 RX16 ow_dm_X16_held (dk_X16 ac)) (K : nd_Ki p l e (headSpec ow_dm_X16_held ({ frames := 0, cells := 0, slots := 0, locals := 0 })).room s m args below meth c Q A (dC, dI) cX16_held .int (St × (St)) (dw_X16 a ac) r) : dj_X16_held_0 p l e s m args below meth c Q A dC dI a ac (df_X16_held_0 n) r := by
  obtain ⟨hlt, hx, hb, hml, hown, hts, hN, hA, hK⟩ := id C
  intro v0 s0 H locs ls h hP hD hS hl
  unfold df_X16_held_0 at h
  refine lv_iconst (v := 0) hx hb dX16_held_0 (by decide) ?_
  refine lv_istore_n (lv' := [(2, .int 0), (0, .ref (a 0)), (1, .int v0)]) hx hb dX16_held_1 rfl hl (by decide) rfl (fun ls hl => ?_)
  refine lv_iconst (v := 0) hx hb dX16_held_2 (by decide) ?_
  refine lv_istore_n (lv' := [(3, .int 0), (2, .int 0), (0, .ref (a 0)), (1, .int v0)]) hx hb dX16_held_3 rfl hl (by decide) rfl (fun ls hl => ?_)
  exact (db_X16_held_4 C K n) (v0) (0) (0) s0 _ _ _ h hP hD hS (lv_sub hl [2, 3, 1, 0] rfl)
set_option maxHeartbeats 40000000 in
set_option maxRecDepth 100000 in
theorem dm_X16_held (l : Launch) (hlt : l.stackTraces = false) (dC : Nat → ClassId) (dI : Nat → Nat → Nat) (a : Nat → Nat) (ac : Nat → ClassId) (n : Nat) (v0 : Int32) (s0 : St × (St)) {r : Int32 × (St × (St))} (h : df_X16_held n v0 s0 = some r) (sz : Nat) : Met l yX16_held ow_dm_X16_held ({ frames := 0, cells := 0, slots := 0, locals := 0 }) (va_Pc [.ref (a 0), .int v0] (fun U => U.heap.size = sz ∧ va_P (dC, dI) vwCl (dw_X16 a ac s0) U.heap ∧ va_K (dC, dI) vwCl (dk_X16 ac) U ∧ va_D (fun _ => True) (dw_X16 a ac s0) ∧ nv_E (va_A (dw_X16 a ac s0) sz) U)) (va_Qi (fun x _ => x = r.1) (fun (_ : Unit) t => va_P (dC, dI) vwCl (dw_X16 a ac r.2) t.heap ∧ va_K (dC, dI) vwCl (dk_X16 ac) t ∧ va_D (va_A (dw_X16 a ac s0) sz) (dw_X16 a ac r.2)) (va_A (dw_X16 a ac s0) sz)) 0 0 (va_A (dw_X16 a ac s0) sz) := by
  refine Met.ofW (cc := cX16_held) (maxL := 4) (ret := (some .int)) (by decide) rfl ?_
  intro p e s m args below meth c s₁ B hml hv
  obtain ⟨rfl, hsz, hP, hK, hD0, hN⟩ := hv
  have hx := B.exec
  have hb := B.bytes
  have hr := B.returns
  have hts := atoms_spec (ws := ow_dm_X16_held) B.pre
  have hown : s.vm.findClass RX16 = some m.cls := findClass_of_methodNamed B.named
  have hlocks := B.notSynchronized
  subst hsz
  have hD := hD0.self (sz := s.heap.size)
  generalize hAe : va_A (dw_X16 a ac s0) s.heap.size = A at hD hN ⊢
  have hA : ∀ q : Nat, s.heap.size ≤ q → A q := fun q h => by rw [← hAe]; exact Or.inr h
  have hl := lv_entry ([.ref (a 0), .int v0]) (n := 4) (Nat.le_of_ble_eq_true rfl)
  rw [lg_entry_eq]
  generalize (lg_sl ([.ref (a 0), .int v0]) ++ List.replicate (4 - (lg_sl ([.ref (a 0), .int v0])).length) Slot.unset).toArray = ls at hl ⊢
  have hl : lv_has ls 4 [(0, .ref (a 0)), (1, .int v0)] := hl
  exact db_X16_held_0 (dC := dC) (dI := dI) (a := a) (ac := ac) (n := n) (r := r) ⟨hlt, hx, hb, hml, hown, hts, hN, hA, hK⟩ (fun pc v τ H locs ls d z er hP hD hS => by subst er; exact W.zret (v := v) hx hb hr z (fun t ht hW => ⟨⟨v, (), rfl, rfl, by rw [ht]; exact hP, va_K.moved hW.alike hK, hD⟩, hS.F ht⟩) hS.2.2 d) v0 s0 _ _ _ h hP hD va_S.rf (lv_sub hl [0, 1] rfl)
def ow_dm_X16_sweep : List Cond := .code yX16_sweep cX16_sweep 2 none :: ([.fieldLink RX16 88 "TimeMachineModel$Machine" "isFile" "[Z", .fieldLink RX16 91 "TimeMachineModel$Machine" "isNamed" "[Z", .methodLink RX16 243 yX16_ends, .instanceMethod yX16_ends, .selects RX16 yX16_ends yX16_ends, .initialized RX16, .fieldLink RX16 85 "TimeMachineModel$Machine" "isPipe" "[Z", .fieldLink RX16 73 "TimeMachineModel$Machine" "kind" "[I", .methodLink RX16 240 yX16_held, .instanceMethod yX16_held, .selects RX16 yX16_held yX16_held] ++ (u_ws RX16 TX16 56 ++ (ow_dm_X16_ends ++ (ow_dm_X16_held ++ []))))
theorem gd_dm_X16_sweep : ∀ w ∈ ow_dm_X16_sweep, (w.onTables && w.keeps) = true ∨ ∃ ty, w = Cond.arrayClass ty := List.forall_mem_cons.mpr ⟨good_of_word rfl, List.forall_mem_append.mpr ⟨fun w h => good_of_word (List.all_eq_true.mp (by decide +kernel) w h), List.forall_mem_append.mpr ⟨gu_X16, List.forall_mem_append.mpr ⟨gd_dm_X16_ends, List.forall_mem_append.mpr ⟨gd_dm_X16_held, fun _ h => nomatch h⟩⟩⟩⟩⟩
theorem hi_dm_X16_sweep_X16 : ∀ w ∈ u_ws RX16 TX16 56, w ∈ ow_dm_X16_sweep := fun w h => List.mem_cons_of_mem _ (List.mem_append_right _ (List.mem_append_left _ h))
theorem gi_dm_X16_sweep_0 : GoodIn ow_dm_X16_sweep (wsV RX16 243 RX16 yX16_ends ow_dm_X16_ends) := goodIn_app (goodIn_of _ (by decide +kernel)) (fun w h => ⟨List.mem_cons_of_mem _ (List.mem_append_right _ (List.mem_append_right _ (List.mem_append_left _ h))), gd_dm_X16_ends w h⟩)
theorem gi_dm_X16_sweep_1 : GoodIn ow_dm_X16_sweep (wsV RX16 240 RX16 yX16_held ow_dm_X16_held) := goodIn_app (goodIn_of _ (by decide +kernel)) (fun w h => ⟨List.mem_cons_of_mem _ (List.mem_append_right _ (List.mem_append_right _ (List.mem_append_right _ (List.mem_append_left _ h)))), gd_dm_X16_held w h⟩)
def dj_X16_sweep_142 (p : Program) (l : Launch) (e : Env) (s : State) (m : MethodId) (args : Array Value) (below : List Frame) (meth : Method) (c : Code) (Q : State → Prop) (A : Nat → Prop) (dC : Nat → ClassId) (dI : Nat → Nat → Nat) (a : Nat → Nat) (ac : Nat → ClassId) (g : Int32 → Int32 → Int32 → (St × (St)) → Option (St × (St))) (r : St × (St)) : Prop := ∀ (x1 : Int32) (y1 : Int32) (y2 : Int32) (s0 : St × (St)) (H : Heap) (locs : List Loc) (ls : Array Slot), g x1 y1 y2 s0 = some r → va_P (dC, dI) vwCl (dw_X16 a ac s0) H → va_D A (dw_X16 a ac s0) → va_S A s.heap H locs → lv_has ls 2 [(0, .ref (a 0)), (1, .int x1)] → W p l e (headSpec ow_dm_X16_sweep ({ frames := 1, cells := 0, slots := 0, locals := 24 })).room s m args below meth c H locs 0 0 Q (F0 m 142 ls [.int y2, .int y1, .ref (a 26)])
def dj_X16_sweep_141 (p : Program) (l : Launch) (e : Env) (s : State) (m : MethodId) (args : Array Value) (below : List Frame) (meth : Method) (c : Code) (Q : State → Prop) (A : Nat → Prop) (dC : Nat → ClassId) (dI : Nat → Nat → Nat) (a : Nat → Nat) (ac : Nat → ClassId) (g : Int32 → Int32 → (St × (St)) → Option (St × (St))) (r : St × (St)) : Prop := ∀ (x1 : Int32) (y1 : Int32) (s0 : St × (St)) (H : Heap) (locs : List Loc) (ls : Array Slot), g x1 y1 s0 = some r → va_P (dC, dI) vwCl (dw_X16 a ac s0) H → va_D A (dw_X16 a ac s0) → va_S A s.heap H locs → lv_has ls 2 [(0, .ref (a 0)), (1, .int x1)] → W p l e (headSpec ow_dm_X16_sweep ({ frames := 1, cells := 0, slots := 0, locals := 24 })).room s m args below meth c H locs 0 0 Q (F0 m 141 ls [.int y1, .ref (a 26)])
def dj_X16_sweep_137 (p : Program) (l : Launch) (e : Env) (s : State) (m : MethodId) (args : Array Value) (below : List Frame) (meth : Method) (c : Code) (Q : State → Prop) (A : Nat → Prop) (dC : Nat → ClassId) (dI : Nat → Nat → Nat) (a : Nat → Nat) (ac : Nat → ClassId) (g : Int32 → Int32 → (St × (St)) → Option (St × (St))) (r : St × (St)) : Prop := ∀ (x1 : Int32) (y1 : Int32) (s0 : St × (St)) (H : Heap) (locs : List Loc) (ls : Array Slot), g x1 y1 s0 = some r → va_P (dC, dI) vwCl (dw_X16 a ac s0) H → va_D A (dw_X16 a ac s0) → va_S A s.heap H locs → lv_has ls 2 [(0, .ref (a 0)), (1, .int x1)] → W p l e (headSpec ow_dm_X16_sweep ({ frames := 1, cells := 0, slots := 0, locals := 24 })).room s m args below meth c H locs 0 0 Q (F0 m 137 ls [.int y1, .ref (a 26)])
def dj_X16_sweep_99 (p : Program) (l : Launch) (e : Env) (s : State) (m : MethodId) (args : Array Value) (below : List Frame) (meth : Method) (c : Code) (Q : State → Prop) (A : Nat → Prop) (dC : Nat → ClassId) (dI : Nat → Nat → Nat) (a : Nat → Nat) (ac : Nat → ClassId) (g : Int32 → (St × (St)) → Option (St × (St))) (r : St × (St)) : Prop := ∀ (x1 : Int32) (s0 : St × (St)) (H : Heap) (locs : List Loc) (ls : Array Slot), g x1 s0 = some r → va_P (dC, dI) vwCl (dw_X16 a ac s0) H → va_D A (dw_X16 a ac s0) → va_S A s.heap H locs → lv_has ls 2 [(0, .ref (a 0)), (1, .int x1)] → W p l e (headSpec ow_dm_X16_sweep ({ frames := 1, cells := 0, slots := 0, locals := 24 })).room s m args below meth c H locs 0 0 Q (F0 m 99 ls [])
def dj_X16_sweep_90 (p : Program) (l : Launch) (e : Env) (s : State) (m : MethodId) (args : Array Value) (below : List Frame) (meth : Method) (c : Code) (Q : State → Prop) (A : Nat → Prop) (dC : Nat → ClassId) (dI : Nat → Nat → Nat) (a : Nat → Nat) (ac : Nat → ClassId) (g : Int32 → Int32 → Int32 → (St × (St)) → Option (St × (St))) (r : St × (St)) : Prop := ∀ (x1 : Int32) (y1 : Int32) (y2 : Int32) (s0 : St × (St)) (H : Heap) (locs : List Loc) (ls : Array Slot), g x1 y1 y2 s0 = some r → va_P (dC, dI) vwCl (dw_X16 a ac s0) H → va_D A (dw_X16 a ac s0) → va_S A s.heap H locs → lv_has ls 2 [(0, .ref (a 0)), (1, .int x1)] → W p l e (headSpec ow_dm_X16_sweep ({ frames := 1, cells := 0, slots := 0, locals := 24 })).room s m args below meth c H locs 0 0 Q (F0 m 90 ls [.int y2, .int y1, .ref (a 25)])
def dj_X16_sweep_89 (p : Program) (l : Launch) (e : Env) (s : State) (m : MethodId) (args : Array Value) (below : List Frame) (meth : Method) (c : Code) (Q : State → Prop) (A : Nat → Prop) (dC : Nat → ClassId) (dI : Nat → Nat → Nat) (a : Nat → Nat) (ac : Nat → ClassId) (g : Int32 → Int32 → (St × (St)) → Option (St × (St))) (r : St × (St)) : Prop := ∀ (x1 : Int32) (y1 : Int32) (s0 : St × (St)) (H : Heap) (locs : List Loc) (ls : Array Slot), g x1 y1 s0 = some r → va_P (dC, dI) vwCl (dw_X16 a ac s0) H → va_D A (dw_X16 a ac s0) → va_S A s.heap H locs → lv_has ls 2 [(0, .ref (a 0)), (1, .int x1)] → W p l e (headSpec ow_dm_X16_sweep ({ frames := 1, cells := 0, slots := 0, locals := 24 })).room s m args below meth c H locs 0 0 Q (F0 m 89 ls [.int y1, .ref (a 25)])
def dj_X16_sweep_49 (p : Program) (l : Launch) (e : Env) (s : State) (m : MethodId) (args : Array Value) (below : List Frame) (meth : Method) (c : Code) (Q : State → Prop) (A : Nat → Prop) (dC : Nat → ClassId) (dI : Nat → Nat → Nat) (a : Nat → Nat) (ac : Nat → ClassId) (g : Int32 → (St × (St)) → Option (St × (St))) (r : St × (St)) : Prop := ∀ (x1 : Int32) (s0 : St × (St)) (H : Heap) (locs : List Loc) (ls : Array Slot), g x1 s0 = some r → va_P (dC, dI) vwCl (dw_X16 a ac s0) H → va_D A (dw_X16 a ac s0) → va_S A s.heap H locs → lv_has ls 2 [(0, .ref (a 0)), (1, .int x1)] → W p l e (headSpec ow_dm_X16_sweep ({ frames := 1, cells := 0, slots := 0, locals := 24 })).room s m args below meth c H locs 0 0 Q (F0 m 49 ls [])
def dj_X16_sweep_40 (p : Program) (l : Launch) (e : Env) (s : State) (m : MethodId) (args : Array Value) (below : List Frame) (meth : Method) (c : Code) (Q : State → Prop) (A : Nat → Prop) (dC : Nat → ClassId) (dI : Nat → Nat → Nat) (a : Nat → Nat) (ac : Nat → ClassId) (g : Int32 → Int32 → Int32 → (St × (St)) → Option (St × (St))) (r : St × (St)) : Prop := ∀ (x1 : Int32) (y1 : Int32) (y2 : Int32) (s0 : St × (St)) (H : Heap) (locs : List Loc) (ls : Array Slot), g x1 y1 y2 s0 = some r → va_P (dC, dI) vwCl (dw_X16 a ac s0) H → va_D A (dw_X16 a ac s0) → va_S A s.heap H locs → lv_has ls 2 [(0, .ref (a 0)), (1, .int x1)] → W p l e (headSpec ow_dm_X16_sweep ({ frames := 1, cells := 0, slots := 0, locals := 24 })).room s m args below meth c H locs 0 0 Q (F0 m 40 ls [.int y2, .int y1, .ref (a 21)])
def dj_X16_sweep_39 (p : Program) (l : Launch) (e : Env) (s : State) (m : MethodId) (args : Array Value) (below : List Frame) (meth : Method) (c : Code) (Q : State → Prop) (A : Nat → Prop) (dC : Nat → ClassId) (dI : Nat → Nat → Nat) (a : Nat → Nat) (ac : Nat → ClassId) (g : Int32 → Int32 → (St × (St)) → Option (St × (St))) (r : St × (St)) : Prop := ∀ (x1 : Int32) (y1 : Int32) (s0 : St × (St)) (H : Heap) (locs : List Loc) (ls : Array Slot), g x1 y1 s0 = some r → va_P (dC, dI) vwCl (dw_X16 a ac s0) H → va_D A (dw_X16 a ac s0) → va_S A s.heap H locs → lv_has ls 2 [(0, .ref (a 0)), (1, .int x1)] → W p l e (headSpec ow_dm_X16_sweep ({ frames := 1, cells := 0, slots := 0, locals := 24 })).room s m args below meth c H locs 0 0 Q (F0 m 39 ls [.int y1, .ref (a 21)])
def dj_X16_sweep_2 (p : Program) (l : Launch) (e : Env) (s : State) (m : MethodId) (args : Array Value) (below : List Frame) (meth : Method) (c : Code) (Q : State → Prop) (A : Nat → Prop) (dC : Nat → ClassId) (dI : Nat → Nat → Nat) (a : Nat → Nat) (ac : Nat → ClassId) (g : Int32 → (St × (St)) → Option (St × (St))) (r : St × (St)) : Prop := ∀ (x1 : Int32) (s0 : St × (St)) (H : Heap) (locs : List Loc) (ls : Array Slot), g x1 s0 = some r → va_P (dC, dI) vwCl (dw_X16 a ac s0) H → va_D A (dw_X16 a ac s0) → va_S A s.heap H locs → lv_has ls 2 [(0, .ref (a 0)), (1, .int x1)] → W p l e (headSpec ow_dm_X16_sweep ({ frames := 1, cells := 0, slots := 0, locals := 24 })).room s m args below meth c H locs 0 0 Q (F0 m 2 ls [])
def dj_X16_sweep_0 (p : Program) (l : Launch) (e : Env) (s : State) (m : MethodId) (args : Array Value) (below : List Frame) (meth : Method) (c : Code) (Q : State → Prop) (A : Nat → Prop) (dC : Nat → ClassId) (dI : Nat → Nat → Nat) (a : Nat → Nat) (ac : Nat → ClassId) (g : (St × (St)) → Option (St × (St))) (r : St × (St)) : Prop := ∀ (s0 : St × (St)) (H : Heap) (locs : List Loc) (ls : Array Slot), g s0 = some r → va_P (dC, dI) vwCl (dw_X16 a ac s0) H → va_D A (dw_X16 a ac s0) → va_S A s.heap H locs → lv_has ls 2 [(0, .ref (a 0))] → W p l e (headSpec ow_dm_X16_sweep ({ frames := 1, cells := 0, slots := 0, locals := 24 })).room s m args below meth c H locs 0 0 Q (F0 m 0 ls [])
set_option maxHeartbeats 40000000 in
set_option maxRecDepth 100000 in
theorem db_X16_sweep_142 {p : Program} {l : Launch} {e : Env} {s : State} {m : MethodId} {args : Array Value} {below : List Frame} {meth : Method} {c : Code} {Q : State → Prop} {A : Nat → Prop} {dC : Nat → ClassId} {dI : Nat → Nat → Nat} {a : Nat → Nat} {ac : Nat → ClassId} {n : Nat} {r : St × (St)} (C : nd_C p l s m args c A (dC, dI) cX16_sweep 2 RX16 ow_dm_X16_sweep (dk_X16 ac)) (K : nd_Kv p l e (headSpec ow_dm_X16_sweep ({ frames := 1, cells := 0, slots := 0, locals := 24 })).room s m args below meth c Q A (dC, dI) cX16_sweep (St × (St)) (dw_X16 a ac) r) {g99 : Int32 → (St × (St)) → Option (St × (St))} (J99 : dj_X16_sweep_99 p l e s m args below meth c Q A dC dI a ac g99 r) : dj_X16_sweep_142 p l e s m args below meth c Q A dC dI a ac (df_X16_sweep_142 n g99) r := by
  obtain ⟨hlt, hx, hb, hml, hown, hts, hN, hA, hK⟩ := id C
  intro x1 y1 y2 s0 H locs ls h hP hD hS hl
  unfold df_X16_sweep_142 at h
  obtain ⟨i6, h⟩ := nd_ck_e h
  refine va_zast (i := y1) (x := y2) hx hb hK hP hD hS 26 25 rfl rfl i6 dX16_sweep_142 (fun H locs hP hD hS => ?_)
  obtain ⟨s7, es7, h⟩ := nd_let_e h
  have hP : va_P (dC, dI) vwCl (dw_X16 a ac s7) H := by rw [es7]; exact hP
  have hD : va_D A (dw_X16 a ac s7) := by rw [es7]; exact hD
  obtain ⟨z8, ez8, h⟩ := nd_let_e h
  refine lv_iinc (v := z8) (lv' := [(1, .int z8), (0, .ref (a 0))]) hx hb dX16_sweep_143 hl (k := 1) rfl (by rw [ez8]) (by decide) rfl (fun ls hl => ?_)
  refine lv_goto (tgt := 99) hx hb dX16_sweep_146 (by decide) ?_
  exact (J99) (z8) s7 _ _ _ h hP hD hS (lv_sub hl [1, 0] rfl)
set_option maxHeartbeats 40000000 in
set_option maxRecDepth 100000 in
theorem db_X16_sweep_141 {p : Program} {l : Launch} {e : Env} {s : State} {m : MethodId} {args : Array Value} {below : List Frame} {meth : Method} {c : Code} {Q : State → Prop} {A : Nat → Prop} {dC : Nat → ClassId} {dI : Nat → Nat → Nat} {a : Nat → Nat} {ac : Nat → ClassId} {n : Nat} {r : St × (St)} (C : nd_C p l s m args c A (dC, dI) cX16_sweep 2 RX16 ow_dm_X16_sweep (dk_X16 ac)) (K : nd_Kv p l e (headSpec ow_dm_X16_sweep ({ frames := 1, cells := 0, slots := 0, locals := 24 })).room s m args below meth c Q A (dC, dI) cX16_sweep (St × (St)) (dw_X16 a ac) r) {g99 : Int32 → (St × (St)) → Option (St × (St))} (J99 : dj_X16_sweep_99 p l e s m args below meth c Q A dC dI a ac g99 r) : dj_X16_sweep_141 p l e s m args below meth c Q A dC dI a ac (df_X16_sweep_141 n g99) r := by
  obtain ⟨hlt, hx, hb, hml, hown, hts, hN, hA, hK⟩ := id C
  intro x1 y1 s0 H locs ls h hP hD hS hl
  unfold df_X16_sweep_141 at h
  refine lv_iconst (v := 0) hx hb dX16_sweep_141 (by decide) ?_
  exact (db_X16_sweep_142 C K J99) (x1) (y1) (0) s0 _ _ _ h hP hD hS (lv_sub hl [0, 1] rfl)
set_option maxHeartbeats 40000000 in
set_option maxRecDepth 100000 in
theorem db_X16_sweep_137 {p : Program} {l : Launch} {e : Env} {s : State} {m : MethodId} {args : Array Value} {below : List Frame} {meth : Method} {c : Code} {Q : State → Prop} {A : Nat → Prop} {dC : Nat → ClassId} {dI : Nat → Nat → Nat} {a : Nat → Nat} {ac : Nat → ClassId} {n : Nat} {r : St × (St)} (C : nd_C p l s m args c A (dC, dI) cX16_sweep 2 RX16 ow_dm_X16_sweep (dk_X16 ac)) (K : nd_Kv p l e (headSpec ow_dm_X16_sweep ({ frames := 1, cells := 0, slots := 0, locals := 24 })).room s m args below meth c Q A (dC, dI) cX16_sweep (St × (St)) (dw_X16 a ac) r) {g99 : Int32 → (St × (St)) → Option (St × (St))} (J99 : dj_X16_sweep_99 p l e s m args below meth c Q A dC dI a ac g99 r) : dj_X16_sweep_137 p l e s m args below meth c Q A dC dI a ac (df_X16_sweep_137 n g99) r := by
  obtain ⟨hlt, hx, hb, hml, hown, hts, hN, hA, hK⟩ := id C
  intro x1 y1 s0 H locs ls h hP hD hS hl
  unfold df_X16_sweep_137 at h
  refine lv_iconst (v := 1) hx hb dX16_sweep_137 (by decide) ?_
  refine lv_goto (tgt := 142) hx hb dX16_sweep_138 (by decide) ?_
  exact (db_X16_sweep_142 C K J99) (x1) (y1) (1) s0 _ _ _ h hP hD hS (lv_sub hl [0, 1] rfl)
set_option maxHeartbeats 40000000 in
set_option maxRecDepth 100000 in
theorem dB_X16_sweep_99 {p : Program} {l : Launch} {e : Env} {s : State} {m : MethodId} {args : Array Value} {below : List Frame} {meth : Method} {c : Code} {Q : State → Prop} {A : Nat → Prop} {dC : Nat → ClassId} {dI : Nat → Nat → Nat} {a : Nat → Nat} {ac : Nat → ClassId} {n : Nat} {r : St × (St)} (C : nd_C p l s m args c A (dC, dI) cX16_sweep 2 RX16 ow_dm_X16_sweep (dk_X16 ac)) (K : nd_Kv p l e (headSpec ow_dm_X16_sweep ({ frames := 1, cells := 0, slots := 0, locals := 24 })).room s m args below meth c Q A (dC, dI) cX16_sweep (St × (St)) (dw_X16 a ac) r) {g99 : Int32 → (St × (St)) → Option (St × (St))} (J99 : dj_X16_sweep_99 p l e s m args below meth c Q A dC dI a ac g99 r) : dj_X16_sweep_99 p l e s m args below meth c Q A dC dI a ac (dF_X16_sweep_99 n g99) r := by
  obtain ⟨hlt, hx, hb, hml, hown, hts, hN, hA, hK⟩ := id C
  intro x1 s0 H locs ls h hP hD hS hl
  unfold dF_X16_sweep_99 at h
  refine lv_iload_n hx hb dX16_sweep_99 rfl (lv_at hl 1 rfl) ?_
  refine lv_bipush (v := 16) hx hb dX16_sweep_100 (by decide) ?_
  refine lv_icmp_ge (tgt := 149) hx hb dX16_sweep_102 (by decide) (fun c3 => ?_) (fun c3 => ?_)
  · have h := nd_pos h c3
    exact K _ _ _ _ _ dX16_sweep_149 (Option.some.inj h).symm hP hD hS
  · have h := nd_neg h c3
    refine lv_aload_n hx hb dX16_sweep_105 rfl (lv_at hl 0 rfl) ?_
    refine va_get (D := (dC, dI)) (ci := 17) (v := .ref (a 26)) (C := RX16) (T := TX16) (N := 56) hx hb hts hi_dm_X16_sweep_X16 hown hK hP 0 rfl rfl 35 (by decide) (hts (.fieldLink RX16 88 "TimeMachineModel$Machine" "isFile" "[Z") (List.mem_of_getElem? (i := 1) rfl)) (fun _ h9 => h9) rfl dX16_sweep_106 ?_
    refine lv_iload_n hx hb dX16_sweep_109 rfl (lv_at hl 1 rfl) ?_
    refine lv_aload_n hx hb dX16_sweep_110 rfl (lv_at hl 0 rfl) ?_
    refine va_get (D := (dC, dI)) (ci := 17) (v := .ref (a 26)) (C := RX16) (T := TX16) (N := 56) hx hb hts hi_dm_X16_sweep_X16 hown hK hP 0 rfl rfl 35 (by decide) (hts (.fieldLink RX16 88 "TimeMachineModel$Machine" "isFile" "[Z") (List.mem_of_getElem? (i := 1) rfl)) (fun _ h9 => h9) rfl dX16_sweep_111 ?_
    refine lv_iload_n hx hb dX16_sweep_114 rfl (lv_at hl 1 rfl) ?_
    obtain ⟨i4, h⟩ := nd_ck_e h
    refine va_zald (i := x1) hx hb hK hP 26 25 rfl rfl i4 dX16_sweep_115 ?_
    refine lv_if_eq (tgt := 141) hx hb dX16_sweep_116 (by decide) (fun c5 => ?_) (fun c5 => ?_)
    · have h := nd_pos h c5
      exact (db_X16_sweep_141 C K J99) (x1) (x1) s0 _ _ _ h hP hD hS (lv_sub hl [0, 1] rfl)
    · have h := nd_neg h c5
      refine lv_aload_n hx hb dX16_sweep_119 rfl (lv_at hl 0 rfl) ?_
      refine va_get (D := (dC, dI)) (ci := 17) (v := .ref (a 27)) (C := RX16) (T := TX16) (N := 56) hx hb hts hi_dm_X16_sweep_X16 hown hK hP 0 rfl rfl 36 (by decide) (hts (.fieldLink RX16 91 "TimeMachineModel$Machine" "isNamed" "[Z") (List.mem_of_getElem? (i := 2) rfl)) (fun _ h9 => h9) rfl dX16_sweep_120 ?_
      refine lv_iload_n hx hb dX16_sweep_123 rfl (lv_at hl 1 rfl) ?_
      obtain ⟨i9, h⟩ := nd_ck_e h
      refine va_zald (i := x1) hx hb hK hP 27 26 rfl rfl i9 dX16_sweep_124 ?_
      refine lv_if_ne (tgt := 137) hx hb dX16_sweep_125 (by decide) (fun c10 => ?_) (fun c10 => ?_)
      · have h := nd_neg h c10
        exact (db_X16_sweep_137 C K J99) (x1) (x1) s0 _ _ _ h hP hD hS (lv_sub hl [0, 1] rfl)
      · have h := nd_pos h c10
        refine lv_aload_n hx hb dX16_sweep_128 rfl (lv_at hl 0 rfl) ?_
        refine lv_iconst (v := 3) hx hb dX16_sweep_129 (by decide) ?_
        refine lv_iload_n hx hb dX16_sweep_130 rfl (lv_at hl 1 rfl) ?_
        obtain ⟨q11, s12, hq, h⟩ := nd_b2_e h
        have hPc := hP
        have hDc := hD
        have hKc := hK
        have hFc := nd_rs hD hS hA
        refine nd_cVi (As := [.int 3, .int x1]) (rest := [.int x1, .ref (a 26)]) (q := q11) (w' := dw_X16 a ac s12) ⟨hx, hb, hml, hown, hts⟩ (fun sz => dm_X16_ends l hlt dC dI a ac n (3) (x1) s0 hq sz) (cwV 2 hts gi_dm_X16_sweep_0 rfl rfl rfl (by decide +kernel) ⟨Nat.le_of_ble_eq_true rfl, Nat.le_of_ble_eq_true rfl⟩) hPc hDc hKc hS hA hN (va_recv hKc hPc (ci := 17) (q0 := 0) rfl rfl) rfl hl.1 rfl (Nat.le_of_ble_eq_true rfl) dX16_sweep_131 (fun H locs hP1 hD1 hk1 hS => ?_)
        have hP := hP1
        have hD := hD1.weaken (fun k q _ h => hFc q.1 h)
        refine lv_if_le (tgt := 141) hx hb dX16_sweep_134 (by decide) (fun c14 => ?_) (fun c14 => ?_)
        · have h := nd_pos h c14
          exact (db_X16_sweep_141 C K J99) (x1) (x1) s12 _ _ _ h hP hD hS (lv_sub hl [0, 1] rfl)
        · have h := nd_neg h c14
          exact (db_X16_sweep_137 C K J99) (x1) (x1) s12 _ _ _ h hP hD hS (lv_sub hl [0, 1] rfl)
set_option maxHeartbeats 40000000 in
set_option maxRecDepth 100000 in
theorem db_X16_sweep_99 {p : Program} {l : Launch} {e : Env} {s : State} {m : MethodId} {args : Array Value} {below : List Frame} {meth : Method} {c : Code} {Q : State → Prop} {A : Nat → Prop} {dC : Nat → ClassId} {dI : Nat → Nat → Nat} {a : Nat → Nat} {ac : Nat → ClassId} {n : Nat} {r : St × (St)} (C : nd_C p l s m args c A (dC, dI) cX16_sweep 2 RX16 ow_dm_X16_sweep (dk_X16 ac)) (K : nd_Kv p l e (headSpec ow_dm_X16_sweep ({ frames := 1, cells := 0, slots := 0, locals := 24 })).room s m args below meth c Q A (dC, dI) cX16_sweep (St × (St)) (dw_X16 a ac) r) (k : Nat) : dj_X16_sweep_99 p l e s m args below meth c Q A dC dI a ac (df_X16_sweep_99 n k) r := by
  induction k with
  | zero => intro x1 s0 H locs ls h; exact nomatch (show (none : Option (St × (St))) = some r from h)
  | succ k ih => exact dB_X16_sweep_99 C K ih
set_option maxHeartbeats 40000000 in
set_option maxRecDepth 100000 in
theorem db_X16_sweep_90 {p : Program} {l : Launch} {e : Env} {s : State} {m : MethodId} {args : Array Value} {below : List Frame} {meth : Method} {c : Code} {Q : State → Prop} {A : Nat → Prop} {dC : Nat → ClassId} {dI : Nat → Nat → Nat} {a : Nat → Nat} {ac : Nat → ClassId} {n : Nat} {r : St × (St)} (C : nd_C p l s m args c A (dC, dI) cX16_sweep 2 RX16 ow_dm_X16_sweep (dk_X16 ac)) (K : nd_Kv p l e (headSpec ow_dm_X16_sweep ({ frames := 1, cells := 0, slots := 0, locals := 24 })).room s m args below meth c Q A (dC, dI) cX16_sweep (St × (St)) (dw_X16 a ac) r) {g49 : Int32 → (St × (St)) → Option (St × (St))} (J49 : dj_X16_sweep_49 p l e s m args below meth c Q A dC dI a ac g49 r) : dj_X16_sweep_90 p l e s m args below meth c Q A dC dI a ac (df_X16_sweep_90 n g49) r := by
  obtain ⟨hlt, hx, hb, hml, hown, hts, hN, hA, hK⟩ := id C
  intro x1 y1 y2 s0 H locs ls h hP hD hS hl
  unfold df_X16_sweep_90 at h
  obtain ⟨i17, h⟩ := nd_ck_e h
  refine va_zast (i := y1) (x := y2) hx hb hK hP hD hS 25 24 rfl rfl i17 dX16_sweep_90 (fun H locs hP hD hS => ?_)
  obtain ⟨s18, es18, h⟩ := nd_let_e h
  have hP : va_P (dC, dI) vwCl (dw_X16 a ac s18) H := by rw [es18]; exact hP
  have hD : va_D A (dw_X16 a ac s18) := by rw [es18]; exact hD
  obtain ⟨z19, ez19, h⟩ := nd_let_e h
  refine lv_iinc (v := z19) (lv' := [(1, .int z19), (0, .ref (a 0))]) hx hb dX16_sweep_91 hl (k := 1) rfl (by rw [ez19]) (by decide) rfl (fun ls hl => ?_)
  refine lv_goto (tgt := 49) hx hb dX16_sweep_94 (by decide) ?_
  exact (J49) (z19) s18 _ _ _ h hP hD hS (lv_sub hl [1, 0] rfl)
set_option maxHeartbeats 40000000 in
set_option maxRecDepth 100000 in
theorem db_X16_sweep_89 {p : Program} {l : Launch} {e : Env} {s : State} {m : MethodId} {args : Array Value} {below : List Frame} {meth : Method} {c : Code} {Q : State → Prop} {A : Nat → Prop} {dC : Nat → ClassId} {dI : Nat → Nat → Nat} {a : Nat → Nat} {ac : Nat → ClassId} {n : Nat} {r : St × (St)} (C : nd_C p l s m args c A (dC, dI) cX16_sweep 2 RX16 ow_dm_X16_sweep (dk_X16 ac)) (K : nd_Kv p l e (headSpec ow_dm_X16_sweep ({ frames := 1, cells := 0, slots := 0, locals := 24 })).room s m args below meth c Q A (dC, dI) cX16_sweep (St × (St)) (dw_X16 a ac) r) {g49 : Int32 → (St × (St)) → Option (St × (St))} (J49 : dj_X16_sweep_49 p l e s m args below meth c Q A dC dI a ac g49 r) : dj_X16_sweep_89 p l e s m args below meth c Q A dC dI a ac (df_X16_sweep_89 n g49) r := by
  obtain ⟨hlt, hx, hb, hml, hown, hts, hN, hA, hK⟩ := id C
  intro x1 y1 s0 H locs ls h hP hD hS hl
  unfold df_X16_sweep_89 at h
  refine lv_iconst (v := 0) hx hb dX16_sweep_89 (by decide) ?_
  exact (db_X16_sweep_90 C K J49) (x1) (y1) (0) s0 _ _ _ h hP hD hS (lv_sub hl [0, 1] rfl)
