def ow_dm_X13_charAt : List Cond := .code yX13_charAt cX13_charAt 2 (some .int) :: ([.fieldLink RX13 347 "TimeMachineModel$Assembler" "size" "I", .fieldLink RX13 324 "TimeMachineModel$Assembler" "text" "[C"] ++ (u_ws RX13 TX13 37 ++ []))
theorem gd_dm_X13_charAt : ∀ w ∈ ow_dm_X13_charAt, (w.onTables && w.keeps) = true ∨ ∃ ty, w = Cond.arrayClass ty := List.forall_mem_cons.mpr ⟨good_of_word rfl, List.forall_mem_append.mpr ⟨fun w h => good_of_word (List.all_eq_true.mp (by decide +kernel) w h), List.forall_mem_append.mpr ⟨gu_X13, fun _ h => nomatch h⟩⟩⟩
theorem hi_dm_X13_charAt_X13 : ∀ w ∈ u_ws RX13 TX13 37, w ∈ ow_dm_X13_charAt := fun w h => List.mem_cons_of_mem _ (List.mem_append_right _ (List.mem_append_left _ h))
def dj_X13_charAt_19 (p : Program) (l : Launch) (e : Env) (s : State) (m : MethodId) (args : Array Value) (below : List Frame) (meth : Method) (c : Code) (Q : State → Prop) (A : Nat → Prop) (dC : Nat → ClassId) (dI : Nat → Nat → Nat) (a : Nat → Nat) (ac : Nat → ClassId) (g : Int32 → (St) → Option (Int32 × (St))) (r : Int32 × (St)) : Prop := ∀ (y0 : Int32) (s0 : St) (H : Heap) (locs : List Loc) (ls : Array Slot), g y0 s0 = some r → va_P (dC, dI) vwCl (dw_X13 a ac s0) H → va_D A (dw_X13 a ac s0) → va_S A s.heap H locs → lv_has ls 2 [] → W p l e (headSpec ow_dm_X13_charAt ({ frames := 0, cells := 0, slots := 0, locals := 0 })).room s m args below meth c H locs 0 0 Q (F0 m 19 ls [.int y0])
def dj_X13_charAt_0 (p : Program) (l : Launch) (e : Env) (s : State) (m : MethodId) (args : Array Value) (below : List Frame) (meth : Method) (c : Code) (Q : State → Prop) (A : Nat → Prop) (dC : Nat → ClassId) (dI : Nat → Nat → Nat) (a : Nat → Nat) (ac : Nat → ClassId) (g : Int32 → (St) → Option (Int32 × (St))) (r : Int32 × (St)) : Prop := ∀ (v0 : Int32) (s0 : St) (H : Heap) (locs : List Loc) (ls : Array Slot), g v0 s0 = some r → va_P (dC, dI) vwCl (dw_X13 a ac s0) H → va_D A (dw_X13 a ac s0) → va_S A s.heap H locs → lv_has ls 2 [(0, .ref (a 0)), (1, .int v0)] → W p l e (headSpec ow_dm_X13_charAt ({ frames := 0, cells := 0, slots := 0, locals := 0 })).room s m args below meth c H locs 0 0 Q (F0 m 0 ls [])
set_option maxHeartbeats 40000000 in
set_option maxRecDepth 100000 in
theorem db_X13_charAt_19 {p : Program} {l : Launch} {e : Env} {s : State} {m : MethodId} {args : Array Value} {below : List Frame} {meth : Method} {c : Code} {Q : State → Prop} {A : Nat → Prop} {dC : Nat → ClassId} {dI : Nat → Nat → Nat} {a : Nat → Nat} {ac : Nat → ClassId} {n : Nat} {r : Int32 × (St)} (C : nd_C p l s m args c A (dC, dI) cX13_charAt 2 RX13 ow_dm_X13_charAt (dk_X13 ac)) (K : nd_Ki p l e (headSpec ow_dm_X13_charAt ({ frames := 0, cells := 0, slots := 0, locals := 0 })).room s m args below meth c Q A (dC, dI) cX13_charAt .int (St) (dw_X13 a ac) r) : dj_X13_charAt_19 p l e s m args below meth c Q A dC dI a ac (df_X13_charAt_19 n) r := by
  obtain ⟨hlt, hx, hb, hml, hown, hts, hN, hA, hK⟩ := id C
  intro y0 s0 H locs ls h hP hD hS hl
  unfold df_X13_charAt_19 at h
  exact K _ _ _ _ _ _ dX13_charAt_19 rfl (Option.some.inj h).symm hP hD hS
set_option maxHeartbeats 40000000 in
set_option maxRecDepth 100000 in
theorem db_X13_charAt_0 {p : Program} {l : Launch} {e : Env} {s : State} {m : MethodId} {args : Array Value} {below : List Frame} {meth : Method} {c : Code} {Q : State → Prop} {A : Nat → Prop} {dC : Nat → ClassId} {dI : Nat → Nat → Nat} {a : Nat → Nat} {ac : Nat → ClassId} {n : Nat} {r : Int32 × (St)} (C : nd_C p l s m args c A (dC, dI) cX13_charAt 2 RX13 ow_dm_X13_charAt (dk_X13 ac)) (K : nd_Ki p l e (headSpec ow_dm_X13_charAt ({ frames := 0, cells := 0, slots := 0, locals := 0 })).room s m args below meth c Q A (dC, dI) cX13_charAt .int (St) (dw_X13 a ac) r) : dj_X13_charAt_0 p l e s m args below meth c Q A dC dI a ac (df_X13_charAt_0 n) r := by
  obtain ⟨hlt, hx, hb, hml, hown, hts, hN, hA, hK⟩ := id C
  intro v0 s0 H locs ls h hP hD hS hl
  unfold df_X13_charAt_0 at h
  refine lv_iload_n hx hb dX13_charAt_0 rfl (lv_at hl 1 rfl) ?_
  refine lv_aload_n hx hb dX13_charAt_1 rfl (lv_at hl 0 rfl) ?_
  refine va_get (D := (dC, dI)) (ci := 14) (v := .int (sI s0 0)) (C := RX13) (T := TX13) (N := 37) hx hb hts hi_dm_X13_charAt_X13 hown hK hP 0 rfl rfl 4 (by decide) (hts (.fieldLink RX13 347 "TimeMachineModel$Assembler" "size" "I") (List.mem_of_getElem? (i := 1) rfl)) (fun _ h9 => h9) rfl dX13_charAt_2 ?_
  refine lv_icmp_ge (tgt := 17) hx hb dX13_charAt_5 (by decide) (fun c1 => ?_) (fun c1 => ?_)
  · have h := nd_pos h c1
    refine lv_bipush (v := 10) hx hb dX13_charAt_17 (by decide) ?_
    exact (db_X13_charAt_19 C K) (10) s0 _ _ _ h hP hD hS (lv_sub hl [] rfl)
  · have h := nd_neg h c1
    refine lv_aload_n hx hb dX13_charAt_8 rfl (lv_at hl 0 rfl) ?_
    refine va_get (D := (dC, dI)) (ci := 14) (v := .ref (a 4)) (C := RX13) (T := TX13) (N := 37) hx hb hts hi_dm_X13_charAt_X13 hown hK hP 0 rfl rfl 3 (by decide) (hts (.fieldLink RX13 324 "TimeMachineModel$Assembler" "text" "[C") (List.mem_of_getElem? (i := 2) rfl)) (fun _ h9 => h9) rfl dX13_charAt_9 ?_
    refine lv_iload_n hx hb dX13_charAt_12 rfl (lv_at hl 1 rfl) ?_
    obtain ⟨i2, h⟩ := nd_ck_e h
    refine va_cald (i := v0) hx hb hK hP 4 3 rfl rfl i2 dX13_charAt_13 ?_
    refine lv_goto (tgt := 19) hx hb dX13_charAt_14 (by decide) ?_
    exact (db_X13_charAt_19 C K) ((sR s0 2 (Int32.toNatClampNeg v0))) s0 _ _ _ h hP hD hS (lv_sub hl [] rfl)
set_option maxHeartbeats 40000000 in
set_option maxRecDepth 100000 in
theorem dm_X13_charAt (l : Launch) (hlt : l.stackTraces = false) (dC : Nat → ClassId) (dI : Nat → Nat → Nat) (a : Nat → Nat) (ac : Nat → ClassId) (n : Nat) (v0 : Int32) (s0 : St) {r : Int32 × (St)} (h : df_X13_charAt n v0 s0 = some r) (sz : Nat) : Met l yX13_charAt ow_dm_X13_charAt ({ frames := 0, cells := 0, slots := 0, locals := 0 }) (va_Pc [.ref (a 0), .int v0] (fun U => U.heap.size = sz ∧ va_P (dC, dI) vwCl (dw_X13 a ac s0) U.heap ∧ va_K (dC, dI) vwCl (dk_X13 ac) U ∧ va_D (fun _ => True) (dw_X13 a ac s0) ∧ nv_E (va_A (dw_X13 a ac s0) sz) U)) (va_Qi (fun x _ => x = r.1) (fun (_ : Unit) t => va_P (dC, dI) vwCl (dw_X13 a ac r.2) t.heap ∧ va_K (dC, dI) vwCl (dk_X13 ac) t ∧ va_D (va_A (dw_X13 a ac s0) sz) (dw_X13 a ac r.2)) (va_A (dw_X13 a ac s0) sz)) 0 0 (va_A (dw_X13 a ac s0) sz) := by
  refine Met.ofW (cc := cX13_charAt) (maxL := 2) (ret := (some .int)) (by decide) rfl ?_
  intro p e s m args below meth c s₁ B hml hv
  obtain ⟨rfl, hsz, hP, hK, hD0, hN⟩ := hv
  have hx := B.exec
  have hb := B.bytes
  have hr := B.returns
  have hts := atoms_spec (ws := ow_dm_X13_charAt) B.pre
  have hown : s.vm.findClass RX13 = some m.cls := findClass_of_methodNamed B.named
  have hlocks := B.notSynchronized
  subst hsz
  have hD := hD0.self (sz := s.heap.size)
  generalize hAe : va_A (dw_X13 a ac s0) s.heap.size = A at hD hN ⊢
  have hA : ∀ q : Nat, s.heap.size ≤ q → A q := fun q h => by rw [← hAe]; exact Or.inr h
  have hl := lv_entry ([.ref (a 0), .int v0]) (n := 2) (Nat.le_of_ble_eq_true rfl)
  rw [lg_entry_eq]
  generalize (lg_sl ([.ref (a 0), .int v0]) ++ List.replicate (2 - (lg_sl ([.ref (a 0), .int v0])).length) Slot.unset).toArray = ls at hl ⊢
  have hl : lv_has ls 2 [(0, .ref (a 0)), (1, .int v0)] := hl
  exact db_X13_charAt_0 (dC := dC) (dI := dI) (a := a) (ac := ac) (n := n) (r := r) ⟨hlt, hx, hb, hml, hown, hts, hN, hA, hK⟩ (fun pc v τ H locs ls d z er hP hD hS => by subst er; exact W.zret (v := v) hx hb hr z (fun t ht hW => ⟨⟨v, (), rfl, rfl, by rw [ht]; exact hP, va_K.moved hW.alike hK, hD⟩, hS.F ht⟩) hS.2.2 d) v0 s0 _ _ _ h hP hD va_S.rf (lv_sub hl [0, 1] rfl)
def ow_dm_X13_isDigit : List Cond := .code yX13_isDigit cX13_isDigit 1 (some .boolean) :: ([] ++ [])
theorem gd_dm_X13_isDigit : ∀ w ∈ ow_dm_X13_isDigit, (w.onTables && w.keeps) = true ∨ ∃ ty, w = Cond.arrayClass ty := List.forall_mem_cons.mpr ⟨good_of_word rfl, List.forall_mem_append.mpr ⟨fun w h => good_of_word (List.all_eq_true.mp (by decide +kernel) w h), fun _ h => nomatch h⟩⟩
def dj_X13_isDigit_17 (p : Program) (l : Launch) (e : Env) (s : State) (m : MethodId) (args : Array Value) (below : List Frame) (meth : Method) (c : Code) (Q : State → Prop) (A : Nat → Prop) (dC : Nat → ClassId) (dI : Nat → Nat → Nat) (a : Nat → Nat) (ac : Nat → ClassId) (g : Int32 → (Unit) → Option (Int32 × (Unit))) (r : Int32 × (Unit)) : Prop := ∀ (y0 : Int32) (s0 : Unit) (H : Heap) (locs : List Loc) (ls : Array Slot), g y0 s0 = some r → va_P (dC, dI) vwCl (dw_P a ac s0) H → va_D A (dw_P a ac s0) → va_S A s.heap H locs → lv_has ls 1 [] → W p l e (headSpec ow_dm_X13_isDigit ({ frames := 0, cells := 0, slots := 0, locals := 0 })).room s m args below meth c H locs 0 0 Q (F0 m 17 ls [.int y0])
def dj_X13_isDigit_16 (p : Program) (l : Launch) (e : Env) (s : State) (m : MethodId) (args : Array Value) (below : List Frame) (meth : Method) (c : Code) (Q : State → Prop) (A : Nat → Prop) (dC : Nat → ClassId) (dI : Nat → Nat → Nat) (a : Nat → Nat) (ac : Nat → ClassId) (g : (Unit) → Option (Int32 × (Unit))) (r : Int32 × (Unit)) : Prop := ∀ (s0 : Unit) (H : Heap) (locs : List Loc) (ls : Array Slot), g s0 = some r → va_P (dC, dI) vwCl (dw_P a ac s0) H → va_D A (dw_P a ac s0) → va_S A s.heap H locs → lv_has ls 1 [] → W p l e (headSpec ow_dm_X13_isDigit ({ frames := 0, cells := 0, slots := 0, locals := 0 })).room s m args below meth c H locs 0 0 Q (F0 m 16 ls [])
def dj_X13_isDigit_0 (p : Program) (l : Launch) (e : Env) (s : State) (m : MethodId) (args : Array Value) (below : List Frame) (meth : Method) (c : Code) (Q : State → Prop) (A : Nat → Prop) (dC : Nat → ClassId) (dI : Nat → Nat → Nat) (a : Nat → Nat) (ac : Nat → ClassId) (g : Int32 → (Unit) → Option (Int32 × (Unit))) (r : Int32 × (Unit)) : Prop := ∀ (v0 : Int32) (s0 : Unit) (H : Heap) (locs : List Loc) (ls : Array Slot), g v0 s0 = some r → va_P (dC, dI) vwCl (dw_P a ac s0) H → va_D A (dw_P a ac s0) → va_S A s.heap H locs → lv_has ls 1 [(0, .int v0)] → W p l e (headSpec ow_dm_X13_isDigit ({ frames := 0, cells := 0, slots := 0, locals := 0 })).room s m args below meth c H locs 0 0 Q (F0 m 0 ls [])
set_option maxHeartbeats 40000000 in
set_option maxRecDepth 100000 in
theorem db_X13_isDigit_17 {p : Program} {l : Launch} {e : Env} {s : State} {m : MethodId} {args : Array Value} {below : List Frame} {meth : Method} {c : Code} {Q : State → Prop} {A : Nat → Prop} {dC : Nat → ClassId} {dI : Nat → Nat → Nat} {a : Nat → Nat} {ac : Nat → ClassId} {n : Nat} {r : Int32 × (Unit)} (C : nd_C p l s m args c A (dC, dI) cX13_isDigit 1 RX13 ow_dm_X13_isDigit (dk_P ac)) (K : nd_Ki p l e (headSpec ow_dm_X13_isDigit ({ frames := 0, cells := 0, slots := 0, locals := 0 })).room s m args below meth c Q A (dC, dI) cX13_isDigit .boolean (Unit) (dw_P a ac) r) : dj_X13_isDigit_17 p l e s m args below meth c Q A dC dI a ac (df_X13_isDigit_17 n) r := by
  obtain ⟨hlt, hx, hb, hml, hown, hts, hN, hA, hK⟩ := id C
  intro y0 s0 H locs ls h hP hD hS hl
  unfold df_X13_isDigit_17 at h
  obtain ⟨n2, h⟩ := nd_z_e ⟨_, rfl⟩ h
  exact K _ _ _ _ _ _ dX13_isDigit_17 n2 (Option.some.inj h).symm hP hD hS
set_option maxHeartbeats 40000000 in
set_option maxRecDepth 100000 in
theorem db_X13_isDigit_16 {p : Program} {l : Launch} {e : Env} {s : State} {m : MethodId} {args : Array Value} {below : List Frame} {meth : Method} {c : Code} {Q : State → Prop} {A : Nat → Prop} {dC : Nat → ClassId} {dI : Nat → Nat → Nat} {a : Nat → Nat} {ac : Nat → ClassId} {n : Nat} {r : Int32 × (Unit)} (C : nd_C p l s m args c A (dC, dI) cX13_isDigit 1 RX13 ow_dm_X13_isDigit (dk_P ac)) (K : nd_Ki p l e (headSpec ow_dm_X13_isDigit ({ frames := 0, cells := 0, slots := 0, locals := 0 })).room s m args below meth c Q A (dC, dI) cX13_isDigit .boolean (Unit) (dw_P a ac) r) : dj_X13_isDigit_16 p l e s m args below meth c Q A dC dI a ac (df_X13_isDigit_16 n) r := by
  obtain ⟨hlt, hx, hb, hml, hown, hts, hN, hA, hK⟩ := id C
  intro s0 H locs ls h hP hD hS hl
  unfold df_X13_isDigit_16 at h
  refine lv_iconst (v := 0) hx hb dX13_isDigit_16 (by decide) ?_
  exact (db_X13_isDigit_17 C K) (0) s0 _ _ _ h hP hD hS (lv_sub hl [] rfl)
set_option maxHeartbeats 40000000 in
set_option maxRecDepth 100000 in
theorem db_X13_isDigit_0 {p : Program} {l : Launch} {e : Env} {s : State} {m : MethodId} {args : Array Value} {below : List Frame} {meth : Method} {c : Code} {Q : State → Prop} {A : Nat → Prop} {dC : Nat → ClassId} {dI : Nat → Nat → Nat} {a : Nat → Nat} {ac : Nat → ClassId} {n : Nat} {r : Int32 × (Unit)} (C : nd_C p l s m args c A (dC, dI) cX13_isDigit 1 RX13 ow_dm_X13_isDigit (dk_P ac)) (K : nd_Ki p l e (headSpec ow_dm_X13_isDigit ({ frames := 0, cells := 0, slots := 0, locals := 0 })).room s m args below meth c Q A (dC, dI) cX13_isDigit .boolean (Unit) (dw_P a ac) r) : dj_X13_isDigit_0 p l e s m args below meth c Q A dC dI a ac (df_X13_isDigit_0 n) r := by
  obtain ⟨hlt, hx, hb, hml, hown, hts, hN, hA, hK⟩ := id C
  intro v0 s0 H locs ls h hP hD hS hl
  unfold df_X13_isDigit_0 at h
  refine lv_iload_n hx hb dX13_isDigit_0 rfl (lv_at hl 0 rfl) ?_
  refine lv_bipush (v := 48) hx hb dX13_isDigit_1 (by decide) ?_
  refine lv_icmp_lt (tgt := 16) hx hb dX13_isDigit_3 (by decide) (fun c1 => ?_) (fun c1 => ?_)
  · have h := nd_pos h c1
    exact (db_X13_isDigit_16 C K)  s0 _ _ _ h hP hD hS (lv_sub hl [] rfl)
  · have h := nd_neg h c1
    refine lv_iload_n hx hb dX13_isDigit_6 rfl (lv_at hl 0 rfl) ?_
    refine lv_bipush (v := 57) hx hb dX13_isDigit_7 (by decide) ?_
    refine lv_icmp_gt (tgt := 16) hx hb dX13_isDigit_9 (by decide) (fun c3 => ?_) (fun c3 => ?_)
    · have h := nd_pos h c3
      exact (db_X13_isDigit_16 C K)  s0 _ _ _ h hP hD hS (lv_sub hl [] rfl)
    · have h := nd_neg h c3
      refine lv_iconst (v := 1) hx hb dX13_isDigit_12 (by decide) ?_
      refine lv_goto (tgt := 17) hx hb dX13_isDigit_13 (by decide) ?_
      exact (db_X13_isDigit_17 C K) (1) s0 _ _ _ h hP hD hS (lv_sub hl [] rfl)
set_option maxHeartbeats 40000000 in
set_option maxRecDepth 100000 in
theorem dm_X13_isDigit (l : Launch) (hlt : l.stackTraces = false) (dC : Nat → ClassId) (dI : Nat → Nat → Nat) (a : Nat → Nat) (ac : Nat → ClassId) (n : Nat) (v0 : Int32) (s0 : Unit) {r : Int32 × (Unit)} (h : df_X13_isDigit n v0 s0 = some r) (sz : Nat) : Met l yX13_isDigit ow_dm_X13_isDigit ({ frames := 0, cells := 0, slots := 0, locals := 0 }) (va_Pc [.int v0] (fun U => U.heap.size = sz ∧ va_P (dC, dI) vwCl (dw_P a ac s0) U.heap ∧ va_K (dC, dI) vwCl (dk_P ac) U ∧ va_D (fun _ => True) (dw_P a ac s0) ∧ nv_E (va_A (dw_P a ac s0) sz) U)) (va_Qi (fun x _ => x = r.1) (fun (_ : Unit) t => va_P (dC, dI) vwCl (dw_P a ac r.2) t.heap ∧ va_K (dC, dI) vwCl (dk_P ac) t ∧ va_D (va_A (dw_P a ac s0) sz) (dw_P a ac r.2)) (va_A (dw_P a ac s0) sz)) 0 0 (va_A (dw_P a ac s0) sz) := by
  refine Met.ofW (cc := cX13_isDigit) (maxL := 1) (ret := (some .boolean)) (by decide) rfl ?_
  intro p e s m args below meth c s₁ B hml hv
  obtain ⟨rfl, hsz, hP, hK, hD0, hN⟩ := hv
  have hx := B.exec
  have hb := B.bytes
  have hr := B.returns
  have hts := atoms_spec (ws := ow_dm_X13_isDigit) B.pre
  have hown : s.vm.findClass RX13 = some m.cls := findClass_of_methodNamed B.named
  have hlocks := B.notSynchronized
  subst hsz
  have hD := hD0.self (sz := s.heap.size)
  generalize hAe : va_A (dw_P a ac s0) s.heap.size = A at hD hN ⊢
  have hA : ∀ q : Nat, s.heap.size ≤ q → A q := fun q h => by rw [← hAe]; exact Or.inr h
  have hl := lv_entry ([.int v0]) (n := 1) (Nat.le_of_ble_eq_true rfl)
  rw [lg_entry_eq]
  generalize (lg_sl ([.int v0]) ++ List.replicate (1 - (lg_sl ([.int v0])).length) Slot.unset).toArray = ls at hl ⊢
  have hl : lv_has ls 1 [(0, .int v0)] := hl
  exact db_X13_isDigit_0 (dC := dC) (dI := dI) (a := a) (ac := ac) (n := n) (r := r) ⟨hlt, hx, hb, hml, hown, hts, hN, hA, hK⟩ (fun pc v τ H locs ls d z er hP hD hS => by subst er; exact W.zret (v := v) hx hb hr z (fun t ht hW => ⟨⟨v, (), rfl, rfl, by rw [ht]; exact hP, va_K.moved hW.alike hK, hD⟩, hS.F ht⟩) hS.2.2 d) v0 s0 _ _ _ h hP hD va_S.rf (lv_sub hl [0] rfl)
def ow_dm_X13_isLetter : List Cond := .code yX13_isLetter cX13_isLetter 1 (some .boolean) :: ([] ++ [])
theorem gd_dm_X13_isLetter : ∀ w ∈ ow_dm_X13_isLetter, (w.onTables && w.keeps) = true ∨ ∃ ty, w = Cond.arrayClass ty := List.forall_mem_cons.mpr ⟨good_of_word rfl, List.forall_mem_append.mpr ⟨fun w h => good_of_word (List.all_eq_true.mp (by decide +kernel) w h), fun _ h => nomatch h⟩⟩
def dj_X13_isLetter_29 (p : Program) (l : Launch) (e : Env) (s : State) (m : MethodId) (args : Array Value) (below : List Frame) (meth : Method) (c : Code) (Q : State → Prop) (A : Nat → Prop) (dC : Nat → ClassId) (dI : Nat → Nat → Nat) (a : Nat → Nat) (ac : Nat → ClassId) (g : Int32 → (Unit) → Option (Int32 × (Unit))) (r : Int32 × (Unit)) : Prop := ∀ (y0 : Int32) (s0 : Unit) (H : Heap) (locs : List Loc) (ls : Array Slot), g y0 s0 = some r → va_P (dC, dI) vwCl (dw_P a ac s0) H → va_D A (dw_P a ac s0) → va_S A s.heap H locs → lv_has ls 1 [] → W p l e (headSpec ow_dm_X13_isLetter ({ frames := 0, cells := 0, slots := 0, locals := 0 })).room s m args below meth c H locs 0 0 Q (F0 m 29 ls [.int y0])
def dj_X13_isLetter_28 (p : Program) (l : Launch) (e : Env) (s : State) (m : MethodId) (args : Array Value) (below : List Frame) (meth : Method) (c : Code) (Q : State → Prop) (A : Nat → Prop) (dC : Nat → ClassId) (dI : Nat → Nat → Nat) (a : Nat → Nat) (ac : Nat → ClassId) (g : (Unit) → Option (Int32 × (Unit))) (r : Int32 × (Unit)) : Prop := ∀ (s0 : Unit) (H : Heap) (locs : List Loc) (ls : Array Slot), g s0 = some r → va_P (dC, dI) vwCl (dw_P a ac s0) H → va_D A (dw_P a ac s0) → va_S A s.heap H locs → lv_has ls 1 [] → W p l e (headSpec ow_dm_X13_isLetter ({ frames := 0, cells := 0, slots := 0, locals := 0 })).room s m args below meth c H locs 0 0 Q (F0 m 28 ls [])
def dj_X13_isLetter_24 (p : Program) (l : Launch) (e : Env) (s : State) (m : MethodId) (args : Array Value) (below : List Frame) (meth : Method) (c : Code) (Q : State → Prop) (A : Nat → Prop) (dC : Nat → ClassId) (dI : Nat → Nat → Nat) (a : Nat → Nat) (ac : Nat → ClassId) (g : (Unit) → Option (Int32 × (Unit))) (r : Int32 × (Unit)) : Prop := ∀ (s0 : Unit) (H : Heap) (locs : List Loc) (ls : Array Slot), g s0 = some r → va_P (dC, dI) vwCl (dw_P a ac s0) H → va_D A (dw_P a ac s0) → va_S A s.heap H locs → lv_has ls 1 [] → W p l e (headSpec ow_dm_X13_isLetter ({ frames := 0, cells := 0, slots := 0, locals := 0 })).room s m args below meth c H locs 0 0 Q (F0 m 24 ls [])
def dj_X13_isLetter_12 (p : Program) (l : Launch) (e : Env) (s : State) (m : MethodId) (args : Array Value) (below : List Frame) (meth : Method) (c : Code) (Q : State → Prop) (A : Nat → Prop) (dC : Nat → ClassId) (dI : Nat → Nat → Nat) (a : Nat → Nat) (ac : Nat → ClassId) (g : Int32 → (Unit) → Option (Int32 × (Unit))) (r : Int32 × (Unit)) : Prop := ∀ (x0 : Int32) (s0 : Unit) (H : Heap) (locs : List Loc) (ls : Array Slot), g x0 s0 = some r → va_P (dC, dI) vwCl (dw_P a ac s0) H → va_D A (dw_P a ac s0) → va_S A s.heap H locs → lv_has ls 1 [(0, .int x0)] → W p l e (headSpec ow_dm_X13_isLetter ({ frames := 0, cells := 0, slots := 0, locals := 0 })).room s m args below meth c H locs 0 0 Q (F0 m 12 ls [])
def dj_X13_isLetter_0 (p : Program) (l : Launch) (e : Env) (s : State) (m : MethodId) (args : Array Value) (below : List Frame) (meth : Method) (c : Code) (Q : State → Prop) (A : Nat → Prop) (dC : Nat → ClassId) (dI : Nat → Nat → Nat) (a : Nat → Nat) (ac : Nat → ClassId) (g : Int32 → (Unit) → Option (Int32 × (Unit))) (r : Int32 × (Unit)) : Prop := ∀ (v0 : Int32) (s0 : Unit) (H : Heap) (locs : List Loc) (ls : Array Slot), g v0 s0 = some r → va_P (dC, dI) vwCl (dw_P a ac s0) H → va_D A (dw_P a ac s0) → va_S A s.heap H locs → lv_has ls 1 [(0, .int v0)] → W p l e (headSpec ow_dm_X13_isLetter ({ frames := 0, cells := 0, slots := 0, locals := 0 })).room s m args below meth c H locs 0 0 Q (F0 m 0 ls [])
set_option maxHeartbeats 40000000 in
set_option maxRecDepth 100000 in
theorem db_X13_isLetter_29 {p : Program} {l : Launch} {e : Env} {s : State} {m : MethodId} {args : Array Value} {below : List Frame} {meth : Method} {c : Code} {Q : State → Prop} {A : Nat → Prop} {dC : Nat → ClassId} {dI : Nat → Nat → Nat} {a : Nat → Nat} {ac : Nat → ClassId} {n : Nat} {r : Int32 × (Unit)} (C : nd_C p l s m args c A (dC, dI) cX13_isLetter 1 RX13 ow_dm_X13_isLetter (dk_P ac)) (K : nd_Ki p l e (headSpec ow_dm_X13_isLetter ({ frames := 0, cells := 0, slots := 0, locals := 0 })).room s m args below meth c Q A (dC, dI) cX13_isLetter .boolean (Unit) (dw_P a ac) r) : dj_X13_isLetter_29 p l e s m args below meth c Q A dC dI a ac (df_X13_isLetter_29 n) r := by
  obtain ⟨hlt, hx, hb, hml, hown, hts, hN, hA, hK⟩ := id C
  intro y0 s0 H locs ls h hP hD hS hl
  unfold df_X13_isLetter_29 at h
  obtain ⟨n3, h⟩ := nd_z_e ⟨_, rfl⟩ h
  exact K _ _ _ _ _ _ dX13_isLetter_29 n3 (Option.some.inj h).symm hP hD hS
set_option maxHeartbeats 40000000 in
set_option maxRecDepth 100000 in
theorem db_X13_isLetter_28 {p : Program} {l : Launch} {e : Env} {s : State} {m : MethodId} {args : Array Value} {below : List Frame} {meth : Method} {c : Code} {Q : State → Prop} {A : Nat → Prop} {dC : Nat → ClassId} {dI : Nat → Nat → Nat} {a : Nat → Nat} {ac : Nat → ClassId} {n : Nat} {r : Int32 × (Unit)} (C : nd_C p l s m args c A (dC, dI) cX13_isLetter 1 RX13 ow_dm_X13_isLetter (dk_P ac)) (K : nd_Ki p l e (headSpec ow_dm_X13_isLetter ({ frames := 0, cells := 0, slots := 0, locals := 0 })).room s m args below meth c Q A (dC, dI) cX13_isLetter .boolean (Unit) (dw_P a ac) r) : dj_X13_isLetter_28 p l e s m args below meth c Q A dC dI a ac (df_X13_isLetter_28 n) r := by
  obtain ⟨hlt, hx, hb, hml, hown, hts, hN, hA, hK⟩ := id C
  intro s0 H locs ls h hP hD hS hl
  unfold df_X13_isLetter_28 at h
  refine lv_iconst (v := 0) hx hb dX13_isLetter_28 (by decide) ?_
  exact (db_X13_isLetter_29 C K) (0) s0 _ _ _ h hP hD hS (lv_sub hl [] rfl)
set_option maxHeartbeats 40000000 in
set_option maxRecDepth 100000 in
theorem db_X13_isLetter_24 {p : Program} {l : Launch} {e : Env} {s : State} {m : MethodId} {args : Array Value} {below : List Frame} {meth : Method} {c : Code} {Q : State → Prop} {A : Nat → Prop} {dC : Nat → ClassId} {dI : Nat → Nat → Nat} {a : Nat → Nat} {ac : Nat → ClassId} {n : Nat} {r : Int32 × (Unit)} (C : nd_C p l s m args c A (dC, dI) cX13_isLetter 1 RX13 ow_dm_X13_isLetter (dk_P ac)) (K : nd_Ki p l e (headSpec ow_dm_X13_isLetter ({ frames := 0, cells := 0, slots := 0, locals := 0 })).room s m args below meth c Q A (dC, dI) cX13_isLetter .boolean (Unit) (dw_P a ac) r) : dj_X13_isLetter_24 p l e s m args below meth c Q A dC dI a ac (df_X13_isLetter_24 n) r := by
  obtain ⟨hlt, hx, hb, hml, hown, hts, hN, hA, hK⟩ := id C
  intro s0 H locs ls h hP hD hS hl
  unfold df_X13_isLetter_24 at h
  refine lv_iconst (v := 1) hx hb dX13_isLetter_24 (by decide) ?_
  refine lv_goto (tgt := 29) hx hb dX13_isLetter_25 (by decide) ?_
  exact (db_X13_isLetter_29 C K) (1) s0 _ _ _ h hP hD hS (lv_sub hl [] rfl)
set_option maxHeartbeats 40000000 in
set_option maxRecDepth 100000 in
theorem db_X13_isLetter_12 {p : Program} {l : Launch} {e : Env} {s : State} {m : MethodId} {args : Array Value} {below : List Frame} {meth : Method} {c : Code} {Q : State → Prop} {A : Nat → Prop} {dC : Nat → ClassId} {dI : Nat → Nat → Nat} {a : Nat → Nat} {ac : Nat → ClassId} {n : Nat} {r : Int32 × (Unit)} (C : nd_C p l s m args c A (dC, dI) cX13_isLetter 1 RX13 ow_dm_X13_isLetter (dk_P ac)) (K : nd_Ki p l e (headSpec ow_dm_X13_isLetter ({ frames := 0, cells := 0, slots := 0, locals := 0 })).room s m args below meth c Q A (dC, dI) cX13_isLetter .boolean (Unit) (dw_P a ac) r) : dj_X13_isLetter_12 p l e s m args below meth c Q A dC dI a ac (df_X13_isLetter_12 n) r := by
  obtain ⟨hlt, hx, hb, hml, hown, hts, hN, hA, hK⟩ := id C
  intro x0 s0 H locs ls h hP hD hS hl
  unfold df_X13_isLetter_12 at h
  refine lv_iload_n hx hb dX13_isLetter_12 rfl (lv_at hl 0 rfl) ?_
  refine lv_bipush (v := 65) hx hb dX13_isLetter_13 (by decide) ?_
  refine lv_icmp_lt (tgt := 28) hx hb dX13_isLetter_15 (by decide) (fun c2 => ?_) (fun c2 => ?_)
  · have h := nd_pos h c2
    exact (db_X13_isLetter_28 C K)  s0 _ _ _ h hP hD hS (lv_sub hl [] rfl)
  · have h := nd_neg h c2
    refine lv_iload_n hx hb dX13_isLetter_18 rfl (lv_at hl 0 rfl) ?_
    refine lv_bipush (v := 90) hx hb dX13_isLetter_19 (by decide) ?_
    refine lv_icmp_gt (tgt := 28) hx hb dX13_isLetter_21 (by decide) (fun c4 => ?_) (fun c4 => ?_)
    · have h := nd_pos h c4
      exact (db_X13_isLetter_28 C K)  s0 _ _ _ h hP hD hS (lv_sub hl [] rfl)
    · have h := nd_neg h c4
      exact (db_X13_isLetter_24 C K)  s0 _ _ _ h hP hD hS (lv_sub hl [] rfl)
set_option maxHeartbeats 40000000 in
set_option maxRecDepth 100000 in
theorem db_X13_isLetter_0 {p : Program} {l : Launch} {e : Env} {s : State} {m : MethodId} {args : Array Value} {below : List Frame} {meth : Method} {c : Code} {Q : State → Prop} {A : Nat → Prop} {dC : Nat → ClassId} {dI : Nat → Nat → Nat} {a : Nat → Nat} {ac : Nat → ClassId} {n : Nat} {r : Int32 × (Unit)} (C : nd_C p l s m args c A (dC, dI) cX13_isLetter 1 RX13 ow_dm_X13_isLetter (dk_P ac)) (K : nd_Ki p l e (headSpec ow_dm_X13_isLetter ({ frames := 0, cells := 0, slots := 0, locals := 0 })).room s m args below meth c Q A (dC, dI) cX13_isLetter .boolean (Unit) (dw_P a ac) r) : dj_X13_isLetter_0 p l e s m args below meth c Q A dC dI a ac (df_X13_isLetter_0 n) r := by
  obtain ⟨hlt, hx, hb, hml, hown, hts, hN, hA, hK⟩ := id C
  intro v0 s0 H locs ls h hP hD hS hl
  unfold df_X13_isLetter_0 at h
  refine lv_iload_n hx hb dX13_isLetter_0 rfl (lv_at hl 0 rfl) ?_
  refine lv_bipush (v := 97) hx hb dX13_isLetter_1 (by decide) ?_
  refine lv_icmp_lt (tgt := 12) hx hb dX13_isLetter_3 (by decide) (fun c1 => ?_) (fun c1 => ?_)
  · have h := nd_pos h c1
    exact (db_X13_isLetter_12 C K) (v0) s0 _ _ _ h hP hD hS (lv_sub hl [0] rfl)
  · have h := nd_neg h c1
    refine lv_iload_n hx hb dX13_isLetter_6 rfl (lv_at hl 0 rfl) ?_
    refine lv_bipush (v := 122) hx hb dX13_isLetter_7 (by decide) ?_
    refine lv_icmp_le (tgt := 24) hx hb dX13_isLetter_9 (by decide) (fun c5 => ?_) (fun c5 => ?_)
    · have h := nd_pos h c5
      exact (db_X13_isLetter_24 C K)  s0 _ _ _ h hP hD hS (lv_sub hl [] rfl)
    · have h := nd_neg h c5
      exact (db_X13_isLetter_12 C K) (v0) s0 _ _ _ h hP hD hS (lv_sub hl [0] rfl)
set_option maxHeartbeats 40000000 in
set_option maxRecDepth 100000 in
theorem dm_X13_isLetter (l : Launch) (hlt : l.stackTraces = false) (dC : Nat → ClassId) (dI : Nat → Nat → Nat) (a : Nat → Nat) (ac : Nat → ClassId) (n : Nat) (v0 : Int32) (s0 : Unit) {r : Int32 × (Unit)} (h : df_X13_isLetter n v0 s0 = some r) (sz : Nat) : Met l yX13_isLetter ow_dm_X13_isLetter ({ frames := 0, cells := 0, slots := 0, locals := 0 }) (va_Pc [.int v0] (fun U => U.heap.size = sz ∧ va_P (dC, dI) vwCl (dw_P a ac s0) U.heap ∧ va_K (dC, dI) vwCl (dk_P ac) U ∧ va_D (fun _ => True) (dw_P a ac s0) ∧ nv_E (va_A (dw_P a ac s0) sz) U)) (va_Qi (fun x _ => x = r.1) (fun (_ : Unit) t => va_P (dC, dI) vwCl (dw_P a ac r.2) t.heap ∧ va_K (dC, dI) vwCl (dk_P ac) t ∧ va_D (va_A (dw_P a ac s0) sz) (dw_P a ac r.2)) (va_A (dw_P a ac s0) sz)) 0 0 (va_A (dw_P a ac s0) sz) := by
  refine Met.ofW (cc := cX13_isLetter) (maxL := 1) (ret := (some .boolean)) (by decide) rfl ?_
  intro p e s m args below meth c s₁ B hml hv
  obtain ⟨rfl, hsz, hP, hK, hD0, hN⟩ := hv
  have hx := B.exec
  have hb := B.bytes
  have hr := B.returns
  have hts := atoms_spec (ws := ow_dm_X13_isLetter) B.pre
  have hown : s.vm.findClass RX13 = some m.cls := findClass_of_methodNamed B.named
  have hlocks := B.notSynchronized
  subst hsz
  have hD := hD0.self (sz := s.heap.size)
  generalize hAe : va_A (dw_P a ac s0) s.heap.size = A at hD hN ⊢
  have hA : ∀ q : Nat, s.heap.size ≤ q → A q := fun q h => by rw [← hAe]; exact Or.inr h
  have hl := lv_entry ([.int v0]) (n := 1) (Nat.le_of_ble_eq_true rfl)
  rw [lg_entry_eq]
  generalize (lg_sl ([.int v0]) ++ List.replicate (1 - (lg_sl ([.int v0])).length) Slot.unset).toArray = ls at hl ⊢
  have hl : lv_has ls 1 [(0, .int v0)] := hl
  exact db_X13_isLetter_0 (dC := dC) (dI := dI) (a := a) (ac := ac) (n := n) (r := r) ⟨hlt, hx, hb, hml, hown, hts, hN, hA, hK⟩ (fun pc v τ H locs ls d z er hP hD hS => by subst er; exact W.zret (v := v) hx hb hr z (fun t ht hW => ⟨⟨v, (), rfl, rfl, by rw [ht]; exact hP, va_K.moved hW.alike hK, hD⟩, hS.F ht⟩) hS.2.2 d) v0 s0 _ _ _ h hP hD va_S.rf (lv_sub hl [0] rfl)
def ow_dm_X13_isPlain : List Cond := .code yX13_isPlain cX13_isPlain 1 (some .boolean) :: ([.methodLink RX13 351 yX13_isDigit, .static yX13_isDigit, .initialized RX13, .methodLink RX13 355 yX13_isLetter, .static yX13_isLetter] ++ (ow_dm_X13_isDigit ++ (ow_dm_X13_isLetter ++ [])))
theorem gd_dm_X13_isPlain : ∀ w ∈ ow_dm_X13_isPlain, (w.onTables && w.keeps) = true ∨ ∃ ty, w = Cond.arrayClass ty := List.forall_mem_cons.mpr ⟨good_of_word rfl, List.forall_mem_append.mpr ⟨fun w h => good_of_word (List.all_eq_true.mp (by decide +kernel) w h), List.forall_mem_append.mpr ⟨gd_dm_X13_isDigit, List.forall_mem_append.mpr ⟨gd_dm_X13_isLetter, fun _ h => nomatch h⟩⟩⟩⟩
theorem gi_dm_X13_isPlain_0 : GoodIn ow_dm_X13_isPlain (wsS RX13 351 yX13_isDigit ow_dm_X13_isDigit) := goodIn_app (goodIn_of _ (by decide +kernel)) (fun w h => ⟨List.mem_cons_of_mem _ (List.mem_append_right _ (List.mem_append_left _ h)), gd_dm_X13_isDigit w h⟩)
theorem gi_dm_X13_isPlain_1 : GoodIn ow_dm_X13_isPlain (wsS RX13 355 yX13_isLetter ow_dm_X13_isLetter) := goodIn_app (goodIn_of _ (by decide +kernel)) (fun w h => ⟨List.mem_cons_of_mem _ (List.mem_append_right _ (List.mem_append_right _ (List.mem_append_left _ h))), gd_dm_X13_isLetter w h⟩)
def dj_X13_isPlain_37 (p : Program) (l : Launch) (e : Env) (s : State) (m : MethodId) (args : Array Value) (below : List Frame) (meth : Method) (c : Code) (Q : State → Prop) (A : Nat → Prop) (dC : Nat → ClassId) (dI : Nat → Nat → Nat) (a : Nat → Nat) (ac : Nat → ClassId) (g : Int32 → (Unit) → Option (Int32 × (Unit))) (r : Int32 × (Unit)) : Prop := ∀ (y0 : Int32) (s0 : Unit) (H : Heap) (locs : List Loc) (ls : Array Slot), g y0 s0 = some r → va_P (dC, dI) vwCl (dw_P a ac s0) H → va_D A (dw_P a ac s0) → va_S A s.heap H locs → lv_has ls 1 [] → W p l e (headSpec ow_dm_X13_isPlain ({ frames := 1, cells := 0, slots := 0, locals := 20 })).room s m args below meth c H locs 0 0 Q (F0 m 37 ls [.int y0])
def dj_X13_isPlain_32 (p : Program) (l : Launch) (e : Env) (s : State) (m : MethodId) (args : Array Value) (below : List Frame) (meth : Method) (c : Code) (Q : State → Prop) (A : Nat → Prop) (dC : Nat → ClassId) (dI : Nat → Nat → Nat) (a : Nat → Nat) (ac : Nat → ClassId) (g : (Unit) → Option (Int32 × (Unit))) (r : Int32 × (Unit)) : Prop := ∀ (s0 : Unit) (H : Heap) (locs : List Loc) (ls : Array Slot), g s0 = some r → va_P (dC, dI) vwCl (dw_P a ac s0) H → va_D A (dw_P a ac s0) → va_S A s.heap H locs → lv_has ls 1 [] → W p l e (headSpec ow_dm_X13_isPlain ({ frames := 1, cells := 0, slots := 0, locals := 20 })).room s m args below meth c H locs 0 0 Q (F0 m 32 ls [])
def dj_X13_isPlain_0 (p : Program) (l : Launch) (e : Env) (s : State) (m : MethodId) (args : Array Value) (below : List Frame) (meth : Method) (c : Code) (Q : State → Prop) (A : Nat → Prop) (dC : Nat → ClassId) (dI : Nat → Nat → Nat) (a : Nat → Nat) (ac : Nat → ClassId) (g : Int32 → (Unit) → Option (Int32 × (Unit))) (r : Int32 × (Unit)) : Prop := ∀ (v0 : Int32) (s0 : Unit) (H : Heap) (locs : List Loc) (ls : Array Slot), g v0 s0 = some r → va_P (dC, dI) vwCl (dw_P a ac s0) H → va_D A (dw_P a ac s0) → va_S A s.heap H locs → lv_has ls 1 [(0, .int v0)] → W p l e (headSpec ow_dm_X13_isPlain ({ frames := 1, cells := 0, slots := 0, locals := 20 })).room s m args below meth c H locs 0 0 Q (F0 m 0 ls [])
set_option maxHeartbeats 40000000 in
set_option maxRecDepth 100000 in
theorem db_X13_isPlain_37 {p : Program} {l : Launch} {e : Env} {s : State} {m : MethodId} {args : Array Value} {below : List Frame} {meth : Method} {c : Code} {Q : State → Prop} {A : Nat → Prop} {dC : Nat → ClassId} {dI : Nat → Nat → Nat} {a : Nat → Nat} {ac : Nat → ClassId} {n : Nat} {r : Int32 × (Unit)} (C : nd_C p l s m args c A (dC, dI) cX13_isPlain 1 RX13 ow_dm_X13_isPlain (dk_P ac)) (K : nd_Ki p l e (headSpec ow_dm_X13_isPlain ({ frames := 1, cells := 0, slots := 0, locals := 20 })).room s m args below meth c Q A (dC, dI) cX13_isPlain .boolean (Unit) (dw_P a ac) r) : dj_X13_isPlain_37 p l e s m args below meth c Q A dC dI a ac (df_X13_isPlain_37 n) r := by
  obtain ⟨hlt, hx, hb, hml, hown, hts, hN, hA, hK⟩ := id C
  intro y0 s0 H locs ls h hP hD hS hl
  unfold df_X13_isPlain_37 at h
  obtain ⟨n5, h⟩ := nd_z_e ⟨_, rfl⟩ h
  exact K _ _ _ _ _ _ dX13_isPlain_37 n5 (Option.some.inj h).symm hP hD hS
set_option maxHeartbeats 40000000 in
set_option maxRecDepth 100000 in
theorem db_X13_isPlain_32 {p : Program} {l : Launch} {e : Env} {s : State} {m : MethodId} {args : Array Value} {below : List Frame} {meth : Method} {c : Code} {Q : State → Prop} {A : Nat → Prop} {dC : Nat → ClassId} {dI : Nat → Nat → Nat} {a : Nat → Nat} {ac : Nat → ClassId} {n : Nat} {r : Int32 × (Unit)} (C : nd_C p l s m args c A (dC, dI) cX13_isPlain 1 RX13 ow_dm_X13_isPlain (dk_P ac)) (K : nd_Ki p l e (headSpec ow_dm_X13_isPlain ({ frames := 1, cells := 0, slots := 0, locals := 20 })).room s m args below meth c Q A (dC, dI) cX13_isPlain .boolean (Unit) (dw_P a ac) r) : dj_X13_isPlain_32 p l e s m args below meth c Q A dC dI a ac (df_X13_isPlain_32 n) r := by
  obtain ⟨hlt, hx, hb, hml, hown, hts, hN, hA, hK⟩ := id C
  intro s0 H locs ls h hP hD hS hl
  unfold df_X13_isPlain_32 at h
  refine lv_iconst (v := 1) hx hb dX13_isPlain_32 (by decide) ?_
  refine lv_goto (tgt := 37) hx hb dX13_isPlain_33 (by decide) ?_
  exact (db_X13_isPlain_37 C K) (1) s0 _ _ _ h hP hD hS (lv_sub hl [] rfl)
set_option maxHeartbeats 40000000 in
set_option maxRecDepth 100000 in
theorem db_X13_isPlain_0 {p : Program} {l : Launch} {e : Env} {s : State} {m : MethodId} {args : Array Value} {below : List Frame} {meth : Method} {c : Code} {Q : State → Prop} {A : Nat → Prop} {dC : Nat → ClassId} {dI : Nat → Nat → Nat} {a : Nat → Nat} {ac : Nat → ClassId} {n : Nat} {r : Int32 × (Unit)} (C : nd_C p l s m args c A (dC, dI) cX13_isPlain 1 RX13 ow_dm_X13_isPlain (dk_P ac)) (K : nd_Ki p l e (headSpec ow_dm_X13_isPlain ({ frames := 1, cells := 0, slots := 0, locals := 20 })).room s m args below meth c Q A (dC, dI) cX13_isPlain .boolean (Unit) (dw_P a ac) r) : dj_X13_isPlain_0 p l e s m args below meth c Q A dC dI a ac (df_X13_isPlain_0 n) r := by
  obtain ⟨hlt, hx, hb, hml, hown, hts, hN, hA, hK⟩ := id C
  intro v0 s0 H locs ls h hP hD hS hl
  unfold df_X13_isPlain_0 at h
  refine lv_iload_n hx hb dX13_isPlain_0 rfl (lv_at hl 0 rfl) ?_
  obtain ⟨q1, s2, hq, h⟩ := nd_b2_e h
  have hPc : va_P (dC, dI) vwCl (dw_P a ac ()) H := nd_p0
  have hDc : va_D A (dw_P a ac ()) := nd_d0
  have hKc : va_K (dC, dI) vwCl (dk_P ac) s := nd_y0 hK
  have hFc : ∀ q, va_A (dw_P a ac ()) H.size q → A q := nd_r0 hS hA
  refine nd_cSi (As := [.int v0]) (rest := []) (q := q1) (w' := dw_P a ac s2) ⟨hx, hb, hml, hown, hts⟩ (fun sz => dm_X13_isDigit l hlt dC dI a ac n (v0) () hq sz) (cwS 1 hts gi_dm_X13_isPlain_0 rfl rfl rfl (by decide +kernel) ⟨Nat.le_of_ble_eq_true rfl, Nat.le_of_ble_eq_true rfl⟩) hPc hDc hKc hS hA hN rfl hl.1 rfl (Nat.le_of_ble_eq_true rfl) dX13_isPlain_1 (fun H locs hP1 hD1 hk1 hS => ?_)
  have hP := nd_n0 hP hk1
  refine lv_if_ne (tgt := 32) hx hb dX13_isPlain_4 (by decide) (fun c4 => ?_) (fun c4 => ?_)
  · have h := nd_neg h c4
    exact (db_X13_isPlain_32 C K)  s0 _ _ _ h hP hD hS (lv_sub hl [] rfl)
  · have h := nd_pos h c4
    refine lv_iload_n hx hb dX13_isPlain_7 rfl (lv_at hl 0 rfl) ?_
    obtain ⟨q6, s7, hq, h⟩ := nd_b2_e h
    have hPc : va_P (dC, dI) vwCl (dw_P a ac ()) H := nd_p0
    have hDc : va_D A (dw_P a ac ()) := nd_d0
    have hKc : va_K (dC, dI) vwCl (dk_P ac) s := nd_y0 hK
    have hFc : ∀ q, va_A (dw_P a ac ()) H.size q → A q := nd_r0 hS hA
    refine nd_cSi (As := [.int v0]) (rest := []) (q := q6) (w' := dw_P a ac s7) ⟨hx, hb, hml, hown, hts⟩ (fun sz => dm_X13_isLetter l hlt dC dI a ac n (v0) () hq sz) (cwS 1 hts gi_dm_X13_isPlain_1 rfl rfl rfl (by decide +kernel) ⟨Nat.le_of_ble_eq_true rfl, Nat.le_of_ble_eq_true rfl⟩) hPc hDc hKc hS hA hN rfl hl.1 rfl (Nat.le_of_ble_eq_true rfl) dX13_isPlain_8 (fun H locs hP1 hD1 hk1 hS => ?_)
    have hP := nd_n0 hP hk1
    refine lv_if_ne (tgt := 32) hx hb dX13_isPlain_11 (by decide) (fun c9 => ?_) (fun c9 => ?_)
    · have h := nd_neg h c9
      exact (db_X13_isPlain_32 C K)  s0 _ _ _ h hP hD hS (lv_sub hl [] rfl)
    · have h := nd_pos h c9
      refine lv_iload_n hx hb dX13_isPlain_14 rfl (lv_at hl 0 rfl) ?_
      refine lv_bipush (v := 95) hx hb dX13_isPlain_15 (by decide) ?_
      refine lv_icmp_eq (tgt := 32) hx hb dX13_isPlain_17 (by decide) (fun c10 => ?_) (fun c10 => ?_)
      · have h := nd_pos h c10
        exact (db_X13_isPlain_32 C K)  s0 _ _ _ h hP hD hS (lv_sub hl [] rfl)
      · have h := nd_neg h c10
        refine lv_iload_n hx hb dX13_isPlain_20 rfl (lv_at hl 0 rfl) ?_
        refine lv_bipush (v := 46) hx hb dX13_isPlain_21 (by decide) ?_
        refine lv_icmp_eq (tgt := 32) hx hb dX13_isPlain_23 (by decide) (fun c11 => ?_) (fun c11 => ?_)
        · have h := nd_pos h c11
          exact (db_X13_isPlain_32 C K)  s0 _ _ _ h hP hD hS (lv_sub hl [] rfl)
        · have h := nd_neg h c11
          refine lv_iload_n hx hb dX13_isPlain_26 rfl (lv_at hl 0 rfl) ?_
          refine lv_bipush (v := 36) hx hb dX13_isPlain_27 (by decide) ?_
          refine lv_icmp_ne (tgt := 36) hx hb dX13_isPlain_29 (by decide) (fun c12 => ?_) (fun c12 => ?_)
          · have h := nd_neg h c12
            refine lv_iconst (v := 0) hx hb dX13_isPlain_36 (by decide) ?_
            exact (db_X13_isPlain_37 C K) (0) s0 _ _ _ h hP hD hS (lv_sub hl [] rfl)
          · have h := nd_pos h c12
            exact (db_X13_isPlain_32 C K)  s0 _ _ _ h hP hD hS (lv_sub hl [] rfl)
set_option maxHeartbeats 40000000 in
set_option maxRecDepth 100000 in
theorem dm_X13_isPlain (l : Launch) (hlt : l.stackTraces = false) (dC : Nat → ClassId) (dI : Nat → Nat → Nat) (a : Nat → Nat) (ac : Nat → ClassId) (n : Nat) (v0 : Int32) (s0 : Unit) {r : Int32 × (Unit)} (h : df_X13_isPlain n v0 s0 = some r) (sz : Nat) : Met l yX13_isPlain ow_dm_X13_isPlain ({ frames := 1, cells := 0, slots := 0, locals := 20 }) (va_Pc [.int v0] (fun U => U.heap.size = sz ∧ va_P (dC, dI) vwCl (dw_P a ac s0) U.heap ∧ va_K (dC, dI) vwCl (dk_P ac) U ∧ va_D (fun _ => True) (dw_P a ac s0) ∧ nv_E (va_A (dw_P a ac s0) sz) U)) (va_Qi (fun x _ => x = r.1) (fun (_ : Unit) t => va_P (dC, dI) vwCl (dw_P a ac r.2) t.heap ∧ va_K (dC, dI) vwCl (dk_P ac) t ∧ va_D (va_A (dw_P a ac s0) sz) (dw_P a ac r.2)) (va_A (dw_P a ac s0) sz)) 0 0 (va_A (dw_P a ac s0) sz) := by
  refine Met.ofW (cc := cX13_isPlain) (maxL := 1) (ret := (some .boolean)) (by decide) rfl ?_
  intro p e s m args below meth c s₁ B hml hv
  obtain ⟨rfl, hsz, hP, hK, hD0, hN⟩ := hv
  have hx := B.exec
  have hb := B.bytes
  have hr := B.returns
  have hts := atoms_spec (ws := ow_dm_X13_isPlain) B.pre
  have hown : s.vm.findClass RX13 = some m.cls := findClass_of_methodNamed B.named
  have hlocks := B.notSynchronized
  subst hsz
  have hD := hD0.self (sz := s.heap.size)
  generalize hAe : va_A (dw_P a ac s0) s.heap.size = A at hD hN ⊢
  have hA : ∀ q : Nat, s.heap.size ≤ q → A q := fun q h => by rw [← hAe]; exact Or.inr h
  have hl := lv_entry ([.int v0]) (n := 1) (Nat.le_of_ble_eq_true rfl)
  rw [lg_entry_eq]
  generalize (lg_sl ([.int v0]) ++ List.replicate (1 - (lg_sl ([.int v0])).length) Slot.unset).toArray = ls at hl ⊢
  have hl : lv_has ls 1 [(0, .int v0)] := hl
  exact db_X13_isPlain_0 (dC := dC) (dI := dI) (a := a) (ac := ac) (n := n) (r := r) ⟨hlt, hx, hb, hml, hown, hts, hN, hA, hK⟩ (fun pc v τ H locs ls d z er hP hD hS => by subst er; exact W.zret (v := v) hx hb hr z (fun t ht hW => ⟨⟨v, (), rfl, rfl, by rw [ht]; exact hP, va_K.moved hW.alike hK, hD⟩, hS.F ht⟩) hS.2.2 d) v0 s0 _ _ _ h hP hD va_S.rf (lv_sub hl [0] rfl)
def ow_dm_X13_plain : List Cond := .code yX13_plain cX13_plain 3 (some .int) :: ([.methodLink RX13 358 yX13_charAt, .instanceMethod yX13_charAt, .selects RX13 yX13_charAt yX13_charAt, .initialized RX13, .methodLink RX13 362 yX13_isPlain, .static yX13_isPlain] ++ (ow_dm_X13_charAt ++ (ow_dm_X13_isPlain ++ [])))
theorem gd_dm_X13_plain : ∀ w ∈ ow_dm_X13_plain, (w.onTables && w.keeps) = true ∨ ∃ ty, w = Cond.arrayClass ty := List.forall_mem_cons.mpr ⟨good_of_word rfl, List.forall_mem_append.mpr ⟨fun w h => good_of_word (List.all_eq_true.mp (by decide +kernel) w h), List.forall_mem_append.mpr ⟨gd_dm_X13_charAt, List.forall_mem_append.mpr ⟨gd_dm_X13_isPlain, fun _ h => nomatch h⟩⟩⟩⟩
theorem gi_dm_X13_plain_0 : GoodIn ow_dm_X13_plain (wsV RX13 358 RX13 yX13_charAt ow_dm_X13_charAt) := goodIn_app (goodIn_of _ (by decide +kernel)) (fun w h => ⟨List.mem_cons_of_mem _ (List.mem_append_right _ (List.mem_append_left _ h)), gd_dm_X13_charAt w h⟩)
theorem gi_dm_X13_plain_1 : GoodIn ow_dm_X13_plain (wsS RX13 362 yX13_isPlain ow_dm_X13_isPlain) := goodIn_app (goodIn_of _ (by decide +kernel)) (fun w h => ⟨List.mem_cons_of_mem _ (List.mem_append_right _ (List.mem_append_right _ (List.mem_append_left _ h))), gd_dm_X13_isPlain w h⟩)
def dj_X13_plain_2 (p : Program) (l : Launch) (e : Env) (s : State) (m : MethodId) (args : Array Value) (below : List Frame) (meth : Method) (c : Code) (Q : State → Prop) (A : Nat → Prop) (dC : Nat → ClassId) (dI : Nat → Nat → Nat) (a : Nat → Nat) (ac : Nat → ClassId) (g : Int32 → (St) → Option (Int32 × (St))) (r : Int32 × (St)) : Prop := ∀ (x2 : Int32) (s0 : St) (H : Heap) (locs : List Loc) (ls : Array Slot), g x2 s0 = some r → va_P (dC, dI) vwCl (dw_X13 a ac s0) H → va_D A (dw_X13 a ac s0) → va_S A s.heap H locs → lv_has ls 3 [(0, .ref (a 0)), (2, .int x2)] → W p l e (headSpec ow_dm_X13_plain ({ frames := 2, cells := 0, slots := 0, locals := 40 })).room s m args below meth c H locs 0 0 Q (F0 m 2 ls [])
def dj_X13_plain_0 (p : Program) (l : Launch) (e : Env) (s : State) (m : MethodId) (args : Array Value) (below : List Frame) (meth : Method) (c : Code) (Q : State → Prop) (A : Nat → Prop) (dC : Nat → ClassId) (dI : Nat → Nat → Nat) (a : Nat → Nat) (ac : Nat → ClassId) (g : Int32 → (St) → Option (Int32 × (St))) (r : Int32 × (St)) : Prop := ∀ (v0 : Int32) (s0 : St) (H : Heap) (locs : List Loc) (ls : Array Slot), g v0 s0 = some r → va_P (dC, dI) vwCl (dw_X13 a ac s0) H → va_D A (dw_X13 a ac s0) → va_S A s.heap H locs → lv_has ls 3 [(0, .ref (a 0)), (1, .int v0)] → W p l e (headSpec ow_dm_X13_plain ({ frames := 2, cells := 0, slots := 0, locals := 40 })).room s m args below meth c H locs 0 0 Q (F0 m 0 ls [])
set_option maxHeartbeats 40000000 in
set_option maxRecDepth 100000 in
theorem dB_X13_plain_2 {p : Program} {l : Launch} {e : Env} {s : State} {m : MethodId} {args : Array Value} {below : List Frame} {meth : Method} {c : Code} {Q : State → Prop} {A : Nat → Prop} {dC : Nat → ClassId} {dI : Nat → Nat → Nat} {a : Nat → Nat} {ac : Nat → ClassId} {n : Nat} {r : Int32 × (St)} (C : nd_C p l s m args c A (dC, dI) cX13_plain 3 RX13 ow_dm_X13_plain (dk_X13 ac)) (K : nd_Ki p l e (headSpec ow_dm_X13_plain ({ frames := 2, cells := 0, slots := 0, locals := 40 })).room s m args below meth c Q A (dC, dI) cX13_plain .int (St) (dw_X13 a ac) r) {g2 : Int32 → (St) → Option (Int32 × (St))} (J2 : dj_X13_plain_2 p l e s m args below meth c Q A dC dI a ac g2 r) : dj_X13_plain_2 p l e s m args below meth c Q A dC dI a ac (dF_X13_plain_2 n g2) r := by
  obtain ⟨hlt, hx, hb, hml, hown, hts, hN, hA, hK⟩ := id C
  intro x2 s0 H locs ls h hP hD hS hl
  unfold dF_X13_plain_2 at h
  refine lv_aload_n hx hb dX13_plain_2 rfl (lv_at hl 0 rfl) ?_
  refine lv_iload_n hx hb dX13_plain_3 rfl (lv_at hl 1 rfl) ?_
  obtain ⟨q1, s2, hq, h⟩ := nd_b2_e h
  have hPc := hP
  have hDc := hD
  have hKc := hK
  have hFc := nd_rs hD hS hA
  refine nd_cVi (As := [.int x2]) (rest := []) (q := q1) (w' := dw_X13 a ac s2) ⟨hx, hb, hml, hown, hts⟩ (fun sz => dm_X13_charAt l hlt dC dI a ac n (x2) s0 hq sz) (cwV 1 hts gi_dm_X13_plain_0 rfl rfl rfl (by decide +kernel) ⟨Nat.le_of_ble_eq_true rfl, Nat.le_of_ble_eq_true rfl⟩) hPc hDc hKc hS hA hN (va_recv hKc hPc (ci := 14) (q0 := 0) rfl rfl) rfl hl.1 rfl (Nat.le_of_ble_eq_true rfl) dX13_plain_4 (fun H locs hP1 hD1 hk1 hS => ?_)
  have hP := hP1
  have hD := hD1.weaken (fun k q _ h => hFc q.1 h)
  obtain ⟨q4, s5, hq, h⟩ := nd_b2_e h
  have hPc : va_P (dC, dI) vwCl (dw_P a ac ()) H := nd_p0
  have hDc : va_D A (dw_P a ac ()) := nd_d0
  have hKc : va_K (dC, dI) vwCl (dk_P ac) s := nd_y0 hK
  have hFc : ∀ q, va_A (dw_P a ac ()) H.size q → A q := nd_r0 hS hA
  refine nd_cSi (As := [.int q1]) (rest := []) (q := q4) (w' := dw_P a ac s5) ⟨hx, hb, hml, hown, hts⟩ (fun sz => dm_X13_isPlain l hlt dC dI a ac n (q1) () hq sz) (cwS 1 hts gi_dm_X13_plain_1 rfl rfl rfl (by decide +kernel) ⟨Nat.le_of_ble_eq_true rfl, Nat.le_of_ble_eq_true rfl⟩) hPc hDc hKc hS hA hN rfl hl.1 rfl (Nat.le_of_ble_eq_true rfl) dX13_plain_7 (fun H locs hP1 hD1 hk1 hS => ?_)
  have hP := nd_n0 hP hk1
  refine lv_if_eq (tgt := 19) hx hb dX13_plain_10 (by decide) (fun c7 => ?_) (fun c7 => ?_)
  · have h := nd_pos h c7
    refine lv_iload_n hx hb dX13_plain_19 rfl (lv_at hl 1 rfl) ?_
    exact K _ _ _ _ _ _ dX13_plain_20 rfl (Option.some.inj h).symm hP hD hS
  · have h := nd_neg h c7
    obtain ⟨z8, ez8, h⟩ := nd_let_e h
    refine lv_iinc (v := z8) (lv' := [(2, .int z8), (0, .ref (a 0))]) hx hb dX13_plain_13 hl (k := 1) rfl (by rw [ez8]) (by decide) rfl (fun ls hl => ?_)
    refine lv_goto (tgt := 2) hx hb dX13_plain_16 (by decide) ?_
    exact (J2) (z8) s2 _ _ _ h hP hD hS (lv_sub hl [1, 0] rfl)
set_option maxHeartbeats 40000000 in
set_option maxRecDepth 100000 in
theorem db_X13_plain_2 {p : Program} {l : Launch} {e : Env} {s : State} {m : MethodId} {args : Array Value} {below : List Frame} {meth : Method} {c : Code} {Q : State → Prop} {A : Nat → Prop} {dC : Nat → ClassId} {dI : Nat → Nat → Nat} {a : Nat → Nat} {ac : Nat → ClassId} {n : Nat} {r : Int32 × (St)} (C : nd_C p l s m args c A (dC, dI) cX13_plain 3 RX13 ow_dm_X13_plain (dk_X13 ac)) (K : nd_Ki p l e (headSpec ow_dm_X13_plain ({ frames := 2, cells := 0, slots := 0, locals := 40 })).room s m args below meth c Q A (dC, dI) cX13_plain .int (St) (dw_X13 a ac) r) (k : Nat) : dj_X13_plain_2 p l e s m args below meth c Q A dC dI a ac (df_X13_plain_2 n k) r := by
  induction k with
  | zero => intro x2 s0 H locs ls h; exact nomatch (show (none : Option (Int32 × (St))) = some r from h)
  | succ k ih => exact dB_X13_plain_2 C K ih
set_option maxHeartbeats 40000000 in
set_option maxRecDepth 100000 in
theorem db_X13_plain_0 {p : Program} {l : Launch} {e : Env} {s : State} {m : MethodId} {args : Array Value} {below : List Frame} {meth : Method} {c : Code} {Q : State → Prop} {A : Nat → Prop} {dC : Nat → ClassId} {dI : Nat → Nat → Nat} {a : Nat → Nat} {ac : Nat → ClassId} {n : Nat} {r : Int32 × (St)} (C : nd_C p l s m args c A (dC, dI) cX13_plain 3 RX13 ow_dm_X13_plain (dk_X13 ac)) (K : nd_Ki p l e (headSpec ow_dm_X13_plain ({ frames := 2, cells := 0, slots := 0, locals := 40 })).room s m args below meth c Q A (dC, dI) cX13_plain .int (St) (dw_X13 a ac) r) : dj_X13_plain_0 p l e s m args below meth c Q A dC dI a ac (df_X13_plain_0 n) r := by
  obtain ⟨hlt, hx, hb, hml, hown, hts, hN, hA, hK⟩ := id C
  intro v0 s0 H locs ls h hP hD hS hl
  unfold df_X13_plain_0 at h
  refine lv_iload_n hx hb dX13_plain_0 rfl (lv_at hl 1 rfl) ?_
  refine lv_istore_n (lv' := [(2, .int v0), (0, .ref (a 0)), (1, .int v0)]) hx hb dX13_plain_1 rfl hl (by decide) rfl (fun ls hl => ?_)
  exact (db_X13_plain_2 C K n) (v0) s0 _ _ _ h hP hD hS (lv_sub hl [1, 0] rfl)
set_option maxHeartbeats 40000000 in
set_option maxRecDepth 100000 in
theorem dm_X13_plain (l : Launch) (hlt : l.stackTraces = false) (dC : Nat → ClassId) (dI : Nat → Nat → Nat) (a : Nat → Nat) (ac : Nat → ClassId) (n : Nat) (v0 : Int32) (s0 : St) {r : Int32 × (St)} (h : df_X13_plain n v0 s0 = some r) (sz : Nat) : Met l yX13_plain ow_dm_X13_plain ({ frames := 2, cells := 0, slots := 0, locals := 40 }) (va_Pc [.ref (a 0), .int v0] (fun U => U.heap.size = sz ∧ va_P (dC, dI) vwCl (dw_X13 a ac s0) U.heap ∧ va_K (dC, dI) vwCl (dk_X13 ac) U ∧ va_D (fun _ => True) (dw_X13 a ac s0) ∧ nv_E (va_A (dw_X13 a ac s0) sz) U)) (va_Qi (fun x _ => x = r.1) (fun (_ : Unit) t => va_P (dC, dI) vwCl (dw_X13 a ac r.2) t.heap ∧ va_K (dC, dI) vwCl (dk_X13 ac) t ∧ va_D (va_A (dw_X13 a ac s0) sz) (dw_X13 a ac r.2)) (va_A (dw_X13 a ac s0) sz)) 0 0 (va_A (dw_X13 a ac s0) sz) := by
  refine Met.ofW (cc := cX13_plain) (maxL := 3) (ret := (some .int)) (by decide) rfl ?_
  intro p e s m args below meth c s₁ B hml hv
  obtain ⟨rfl, hsz, hP, hK, hD0, hN⟩ := hv
  have hx := B.exec
  have hb := B.bytes
  have hr := B.returns
  have hts := atoms_spec (ws := ow_dm_X13_plain) B.pre
  have hown : s.vm.findClass RX13 = some m.cls := findClass_of_methodNamed B.named
  have hlocks := B.notSynchronized
  subst hsz
  have hD := hD0.self (sz := s.heap.size)
  generalize hAe : va_A (dw_X13 a ac s0) s.heap.size = A at hD hN ⊢
  have hA : ∀ q : Nat, s.heap.size ≤ q → A q := fun q h => by rw [← hAe]; exact Or.inr h
  have hl := lv_entry ([.ref (a 0), .int v0]) (n := 3) (Nat.le_of_ble_eq_true rfl)
  rw [lg_entry_eq]
  generalize (lg_sl ([.ref (a 0), .int v0]) ++ List.replicate (3 - (lg_sl ([.ref (a 0), .int v0])).length) Slot.unset).toArray = ls at hl ⊢
  have hl : lv_has ls 3 [(0, .ref (a 0)), (1, .int v0)] := hl
  exact db_X13_plain_0 (dC := dC) (dI := dI) (a := a) (ac := ac) (n := n) (r := r) ⟨hlt, hx, hb, hml, hown, hts, hN, hA, hK⟩ (fun pc v τ H locs ls d z er hP hD hS => by subst er; exact W.zret (v := v) hx hb hr z (fun t ht hW => ⟨⟨v, (), rfl, rfl, by rw [ht]; exact hP, va_K.moved hW.alike hK, hD⟩, hS.F ht⟩) hS.2.2 d) v0 s0 _ _ _ h hP hD va_S.rf (lv_sub hl [0, 1] rfl)
def ow_dm_X13_bad : List Cond := .code yX13_bad cX13_bad 1 none :: ([.fieldLink RX13 365 "TimeMachineModel$Assembler" "token" "I", .fieldLink RX13 368 "TimeMachineModel$Assembler" "from" "I", .fieldLink RX13 371 "TimeMachineModel$Assembler" "to" "I"] ++ (u_ws RX13 TX13 37 ++ []))
theorem gd_dm_X13_bad : ∀ w ∈ ow_dm_X13_bad, (w.onTables && w.keeps) = true ∨ ∃ ty, w = Cond.arrayClass ty := List.forall_mem_cons.mpr ⟨good_of_word rfl, List.forall_mem_append.mpr ⟨fun w h => good_of_word (List.all_eq_true.mp (by decide +kernel) w h), List.forall_mem_append.mpr ⟨gu_X13, fun _ h => nomatch h⟩⟩⟩
theorem hi_dm_X13_bad_X13 : ∀ w ∈ u_ws RX13 TX13 37, w ∈ ow_dm_X13_bad := fun w h => List.mem_cons_of_mem _ (List.mem_append_right _ (List.mem_append_left _ h))
def dj_X13_bad_0 (p : Program) (l : Launch) (e : Env) (s : State) (m : MethodId) (args : Array Value) (below : List Frame) (meth : Method) (c : Code) (Q : State → Prop) (A : Nat → Prop) (dC : Nat → ClassId) (dI : Nat → Nat → Nat) (a : Nat → Nat) (ac : Nat → ClassId) (g : (St) → Option (St)) (r : St) : Prop := ∀ (s0 : St) (H : Heap) (locs : List Loc) (ls : Array Slot), g s0 = some r → va_P (dC, dI) vwCl (dw_X13 a ac s0) H → va_D A (dw_X13 a ac s0) → va_S A s.heap H locs → lv_has ls 1 [(0, .ref (a 0))] → W p l e (headSpec ow_dm_X13_bad ({ frames := 0, cells := 0, slots := 0, locals := 0 })).room s m args below meth c H locs 0 0 Q (F0 m 0 ls [])
set_option maxHeartbeats 40000000 in
set_option maxRecDepth 100000 in
theorem db_X13_bad_0 {p : Program} {l : Launch} {e : Env} {s : State} {m : MethodId} {args : Array Value} {below : List Frame} {meth : Method} {c : Code} {Q : State → Prop} {A : Nat → Prop} {dC : Nat → ClassId} {dI : Nat → Nat → Nat} {a : Nat → Nat} {ac : Nat → ClassId} {n : Nat} {r : St} (C : nd_C p l s m args c A (dC, dI) cX13_bad 1 RX13 ow_dm_X13_bad (dk_X13 ac)) (K : nd_Kv p l e (headSpec ow_dm_X13_bad ({ frames := 0, cells := 0, slots := 0, locals := 0 })).room s m args below meth c Q A (dC, dI) cX13_bad (St) (dw_X13 a ac) r) : dj_X13_bad_0 p l e s m args below meth c Q A dC dI a ac (df_X13_bad_0 n) r := by
  obtain ⟨hlt, hx, hb, hml, hown, hts, hN, hA, hK⟩ := id C
  intro s0 H locs ls h hP hD hS hl
  unfold df_X13_bad_0 at h
  refine lv_aload_n hx hb dX13_bad_0 rfl (lv_at hl 0 rfl) ?_
  refine lv_iconst (v := 5) hx hb dX13_bad_1 (by decide) ?_
  refine va_put (D := (dC, dI)) (ci := 14) (v := .int 5) (ty := .int) (C := RX13) (T := TX13) (N := 37) hx hb hts hi_dm_X13_bad_X13 tyX13 tyX13_ok nmX13 hown hK hP hD hS 0 rfl rfl 17 (by decide) (hts (.fieldLink RX13 365 "TimeMachineModel$Assembler" "token" "I") (List.mem_of_getElem? (i := 1) rfl)) (fun _ h9 => h9) rfl (by decide +kernel) rfl rfl (Nat.le_of_ble_eq_true rfl) dX13_bad_2 (fun H locs hP hD hS => ?_)
  obtain ⟨s1, es1, h⟩ := nd_let_e h
  have hP : va_P (dC, dI) vwCl (dw_X13 a ac s1) H := by rw [es1]; exact hP
  have hD : va_D A (dw_X13 a ac s1) := by rw [es1]; exact hD
  refine lv_aload_n hx hb dX13_bad_5 rfl (lv_at hl 0 rfl) ?_
  refine lv_aload_n hx hb dX13_bad_6 rfl (lv_at hl 0 rfl) ?_
  refine va_get (D := (dC, dI)) (ci := 14) (v := .int (sI s1 9)) (C := RX13) (T := TX13) (N := 37) hx hb hts hi_dm_X13_bad_X13 hown hK hP 0 rfl rfl 18 (by decide) (hts (.fieldLink RX13 368 "TimeMachineModel$Assembler" "from" "I") (List.mem_of_getElem? (i := 2) rfl)) (fun _ h9 => h9) rfl dX13_bad_7 ?_
  refine va_put (D := (dC, dI)) (ci := 14) (v := .int (sI s1 9)) (ty := .int) (C := RX13) (T := TX13) (N := 37) hx hb hts hi_dm_X13_bad_X13 tyX13 tyX13_ok nmX13 hown hK hP hD hS 0 rfl rfl 19 (by decide) (hts (.fieldLink RX13 371 "TimeMachineModel$Assembler" "to" "I") (List.mem_of_getElem? (i := 3) rfl)) (fun _ h9 => h9) rfl (by decide +kernel) rfl rfl (Nat.le_of_ble_eq_true rfl) dX13_bad_10 (fun H locs hP hD hS => ?_)
  obtain ⟨s2, es2, h⟩ := nd_let_e h
  have hP : va_P (dC, dI) vwCl (dw_X13 a ac s2) H := by rw [es2]; exact hP
  have hD : va_D A (dw_X13 a ac s2) := by rw [es2]; exact hD
  exact K _ _ _ _ _ dX13_bad_13 (Option.some.inj h).symm hP hD hS
set_option maxHeartbeats 40000000 in
set_option maxRecDepth 100000 in
theorem dm_X13_bad (l : Launch) (hlt : l.stackTraces = false) (dC : Nat → ClassId) (dI : Nat → Nat → Nat) (a : Nat → Nat) (ac : Nat → ClassId) (n : Nat) (s0 : St) {r : St} (h : df_X13_bad n s0 = some r) (sz : Nat) : Met l yX13_bad ow_dm_X13_bad ({ frames := 0, cells := 0, slots := 0, locals := 0 }) (va_Pc [.ref (a 0)] (fun U => U.heap.size = sz ∧ va_P (dC, dI) vwCl (dw_X13 a ac s0) U.heap ∧ va_K (dC, dI) vwCl (dk_X13 ac) U ∧ va_D (fun _ => True) (dw_X13 a ac s0) ∧ nv_E (va_A (dw_X13 a ac s0) sz) U)) (va_Qv (fun _ => True) (fun (_ : Unit) t => va_P (dC, dI) vwCl (dw_X13 a ac r) t.heap ∧ va_K (dC, dI) vwCl (dk_X13 ac) t ∧ va_D (va_A (dw_X13 a ac s0) sz) (dw_X13 a ac r)) (va_A (dw_X13 a ac s0) sz)) 0 0 (va_A (dw_X13 a ac s0) sz) := by
  refine Met.ofW (cc := cX13_bad) (maxL := 1) (ret := none) (by decide) rfl ?_
  intro p e s m args below meth c s₁ B hml hv
  obtain ⟨rfl, hsz, hP, hK, hD0, hN⟩ := hv
  have hx := B.exec
  have hb := B.bytes
  have hr := B.returns
  have hts := atoms_spec (ws := ow_dm_X13_bad) B.pre
  have hown : s.vm.findClass RX13 = some m.cls := findClass_of_methodNamed B.named
  have hlocks := B.notSynchronized
  subst hsz
  have hD := hD0.self (sz := s.heap.size)
  generalize hAe : va_A (dw_X13 a ac s0) s.heap.size = A at hD hN ⊢
  have hA : ∀ q : Nat, s.heap.size ≤ q → A q := fun q h => by rw [← hAe]; exact Or.inr h
  have hl := lv_entry ([.ref (a 0)]) (n := 1) (Nat.le_of_ble_eq_true rfl)
  rw [lg_entry_eq]
  generalize (lg_sl ([.ref (a 0)]) ++ List.replicate (1 - (lg_sl ([.ref (a 0)])).length) Slot.unset).toArray = ls at hl ⊢
  have hl : lv_has ls 1 [(0, .ref (a 0))] := hl
  exact db_X13_bad_0 (dC := dC) (dI := dI) (a := a) (ac := ac) (n := n) (r := r) ⟨hlt, hx, hb, hml, hown, hts, hN, hA, hK⟩ (fun pc τ H locs ls d er hP hD hS => by subst er; exact W.vret hx hb hr (fun t ht hW => ⟨⟨(), rfl, trivial, by rw [ht]; exact hP, va_K.moved hW.alike hK, hD⟩, hS.F ht⟩) hS.2.2 d) s0 _ _ _ h hP hD va_S.rf (lv_sub hl [0] rfl)
def ow_dm_X13_shown : List Cond := .code yX13_shown cX13_shown 5 (some .int) :: ([.methodLink RX13 358 yX13_charAt, .instanceMethod yX13_charAt, .selects RX13 yX13_charAt yX13_charAt, .initialized RX13, .fieldLink RX13 371 "TimeMachineModel$Assembler" "to" "I"] ++ (u_ws RX13 TX13 37 ++ (ow_dm_X13_charAt ++ [])))
theorem gd_dm_X13_shown : ∀ w ∈ ow_dm_X13_shown, (w.onTables && w.keeps) = true ∨ ∃ ty, w = Cond.arrayClass ty := List.forall_mem_cons.mpr ⟨good_of_word rfl, List.forall_mem_append.mpr ⟨fun w h => good_of_word (List.all_eq_true.mp (by decide +kernel) w h), List.forall_mem_append.mpr ⟨gu_X13, List.forall_mem_append.mpr ⟨gd_dm_X13_charAt, fun _ h => nomatch h⟩⟩⟩⟩
theorem hi_dm_X13_shown_X13 : ∀ w ∈ u_ws RX13 TX13 37, w ∈ ow_dm_X13_shown := fun w h => List.mem_cons_of_mem _ (List.mem_append_right _ (List.mem_append_left _ h))
theorem gi_dm_X13_shown_0 : GoodIn ow_dm_X13_shown (wsV RX13 358 RX13 yX13_charAt ow_dm_X13_charAt) := goodIn_app (goodIn_of _ (by decide +kernel)) (fun w h => ⟨List.mem_cons_of_mem _ (List.mem_append_right _ (List.mem_append_right _ (List.mem_append_left _ h))), gd_dm_X13_charAt w h⟩)
def dj_X13_shown_36 (p : Program) (l : Launch) (e : Env) (s : State) (m : MethodId) (args : Array Value) (below : List Frame) (meth : Method) (c : Code) (Q : State → Prop) (A : Nat → Prop) (dC : Nat → ClassId) (dI : Nat → Nat → Nat) (a : Nat → Nat) (ac : Nat → ClassId) (g : (St) → Option (Int32 × (St))) (r : Int32 × (St)) : Prop := ∀ (s0 : St) (H : Heap) (locs : List Loc) (ls : Array Slot), g s0 = some r → va_P (dC, dI) vwCl (dw_X13 a ac s0) H → va_D A (dw_X13 a ac s0) → va_S A s.heap H locs → lv_has ls 5 [] → W p l e (headSpec ow_dm_X13_shown ({ frames := 1, cells := 0, slots := 0, locals := 21 })).room s m args below meth c H locs 0 0 Q (F0 m 36 ls [])
def dj_X13_shown_124 (p : Program) (l : Launch) (e : Env) (s : State) (m : MethodId) (args : Array Value) (below : List Frame) (meth : Method) (c : Code) (Q : State → Prop) (A : Nat → Prop) (dC : Nat → ClassId) (dI : Nat → Nat → Nat) (a : Nat → Nat) (ac : Nat → ClassId) (g : Int32 → (St) → Option (Int32 × (St))) (r : Int32 × (St)) : Prop := ∀ (y0 : Int32) (s0 : St) (H : Heap) (locs : List Loc) (ls : Array Slot), g y0 s0 = some r → va_P (dC, dI) vwCl (dw_X13 a ac s0) H → va_D A (dw_X13 a ac s0) → va_S A s.heap H locs → lv_has ls 5 [] → W p l e (headSpec ow_dm_X13_shown ({ frames := 1, cells := 0, slots := 0, locals := 21 })).room s m args below meth c H locs 0 0 Q (F0 m 124 ls [.int y0])
def dj_X13_shown_118 (p : Program) (l : Launch) (e : Env) (s : State) (m : MethodId) (args : Array Value) (below : List Frame) (meth : Method) (c : Code) (Q : State → Prop) (A : Nat → Prop) (dC : Nat → ClassId) (dI : Nat → Nat → Nat) (a : Nat → Nat) (ac : Nat → ClassId) (g : Int32 → (St) → Option (Int32 × (St))) (r : Int32 × (St)) : Prop := ∀ (x4 : Int32) (s0 : St) (H : Heap) (locs : List Loc) (ls : Array Slot), g x4 s0 = some r → va_P (dC, dI) vwCl (dw_X13 a ac s0) H → va_D A (dw_X13 a ac s0) → va_S A s.heap H locs → lv_has ls 5 [(4, .int x4)] → W p l e (headSpec ow_dm_X13_shown ({ frames := 1, cells := 0, slots := 0, locals := 21 })).room s m args below meth c H locs 0 0 Q (F0 m 118 ls [])
def dj_X13_shown_38 (p : Program) (l : Launch) (e : Env) (s : State) (m : MethodId) (args : Array Value) (below : List Frame) (meth : Method) (c : Code) (Q : State → Prop) (A : Nat → Prop) (dC : Nat → ClassId) (dI : Nat → Nat → Nat) (a : Nat → Nat) (ac : Nat → ClassId) (g : Int32 → Int32 → (St) → Option (Int32 × (St))) (r : Int32 × (St)) : Prop := ∀ (x1 : Int32) (x3 : Int32) (s0 : St) (H : Heap) (locs : List Loc) (ls : Array Slot), g x1 x3 s0 = some r → va_P (dC, dI) vwCl (dw_X13 a ac s0) H → va_D A (dw_X13 a ac s0) → va_S A s.heap H locs → lv_has ls 5 [(0, .ref (a 0)), (1, .int x1), (3, .int x3)] → W p l e (headSpec ow_dm_X13_shown ({ frames := 1, cells := 0, slots := 0, locals := 21 })).room s m args below meth c H locs 0 0 Q (F0 m 38 ls [])
def dj_X13_shown_0 (p : Program) (l : Launch) (e : Env) (s : State) (m : MethodId) (args : Array Value) (below : List Frame) (meth : Method) (c : Code) (Q : State → Prop) (A : Nat → Prop) (dC : Nat → ClassId) (dI : Nat → Nat → Nat) (a : Nat → Nat) (ac : Nat → ClassId) (g : Int32 → Int32 → (St) → Option (Int32 × (St))) (r : Int32 × (St)) : Prop := ∀ (v0 : Int32) (v1 : Int32) (s0 : St) (H : Heap) (locs : List Loc) (ls : Array Slot), g v0 v1 s0 = some r → va_P (dC, dI) vwCl (dw_X13 a ac s0) H → va_D A (dw_X13 a ac s0) → va_S A s.heap H locs → lv_has ls 5 [(0, .ref (a 0)), (1, .int v0), (2, .int v1)] → W p l e (headSpec ow_dm_X13_shown ({ frames := 1, cells := 0, slots := 0, locals := 21 })).room s m args below meth c H locs 0 0 Q (F0 m 0 ls [])
set_option maxHeartbeats 40000000 in
set_option maxRecDepth 100000 in
theorem db_X13_shown_36 {p : Program} {l : Launch} {e : Env} {s : State} {m : MethodId} {args : Array Value} {below : List Frame} {meth : Method} {c : Code} {Q : State → Prop} {A : Nat → Prop} {dC : Nat → ClassId} {dI : Nat → Nat → Nat} {a : Nat → Nat} {ac : Nat → ClassId} {n : Nat} {r : Int32 × (St)} (C : nd_C p l s m args c A (dC, dI) cX13_shown 5 RX13 ow_dm_X13_shown (dk_X13 ac)) (K : nd_Ki p l e (headSpec ow_dm_X13_shown ({ frames := 1, cells := 0, slots := 0, locals := 21 })).room s m args below meth c Q A (dC, dI) cX13_shown .int (St) (dw_X13 a ac) r) : dj_X13_shown_36 p l e s m args below meth c Q A dC dI a ac (df_X13_shown_36 n) r := by
  obtain ⟨hlt, hx, hb, hml, hown, hts, hN, hA, hK⟩ := id C
  intro s0 H locs ls h hP hD hS hl
  unfold df_X13_shown_36 at h
  refine lv_iconst (v := (-1)) hx hb dX13_shown_36 (by decide) ?_
  exact K _ _ _ _ _ _ dX13_shown_37 rfl (Option.some.inj h).symm hP hD hS
set_option maxHeartbeats 40000000 in
set_option maxRecDepth 100000 in
theorem db_X13_shown_124 {p : Program} {l : Launch} {e : Env} {s : State} {m : MethodId} {args : Array Value} {below : List Frame} {meth : Method} {c : Code} {Q : State → Prop} {A : Nat → Prop} {dC : Nat → ClassId} {dI : Nat → Nat → Nat} {a : Nat → Nat} {ac : Nat → ClassId} {n : Nat} {r : Int32 × (St)} (C : nd_C p l s m args c A (dC, dI) cX13_shown 5 RX13 ow_dm_X13_shown (dk_X13 ac)) (K : nd_Ki p l e (headSpec ow_dm_X13_shown ({ frames := 1, cells := 0, slots := 0, locals := 21 })).room s m args below meth c Q A (dC, dI) cX13_shown .int (St) (dw_X13 a ac) r) : dj_X13_shown_124 p l e s m args below meth c Q A dC dI a ac (df_X13_shown_124 n) r := by
  obtain ⟨hlt, hx, hb, hml, hown, hts, hN, hA, hK⟩ := id C
  intro y0 s0 H locs ls h hP hD hS hl
  unfold df_X13_shown_124 at h
  exact K _ _ _ _ _ _ dX13_shown_124 rfl (Option.some.inj h).symm hP hD hS
set_option maxHeartbeats 40000000 in
set_option maxRecDepth 100000 in
theorem db_X13_shown_118 {p : Program} {l : Launch} {e : Env} {s : State} {m : MethodId} {args : Array Value} {below : List Frame} {meth : Method} {c : Code} {Q : State → Prop} {A : Nat → Prop} {dC : Nat → ClassId} {dI : Nat → Nat → Nat} {a : Nat → Nat} {ac : Nat → ClassId} {n : Nat} {r : Int32 × (St)} (C : nd_C p l s m args c A (dC, dI) cX13_shown 5 RX13 ow_dm_X13_shown (dk_X13 ac)) (K : nd_Ki p l e (headSpec ow_dm_X13_shown ({ frames := 1, cells := 0, slots := 0, locals := 21 })).room s m args below meth c Q A (dC, dI) cX13_shown .int (St) (dw_X13 a ac) r) : dj_X13_shown_118 p l e s m args below meth c Q A dC dI a ac (df_X13_shown_118 n) r := by
  obtain ⟨hlt, hx, hb, hml, hown, hts, hN, hA, hK⟩ := id C
  intro x4 s0 H locs ls h hP hD hS hl
  unfold df_X13_shown_118 at h
  refine lv_iload hx hb dX13_shown_118 (lv_at hl 0 rfl) ?_
  refine lv_goto (tgt := 124) hx hb dX13_shown_120 (by decide) ?_
  exact (db_X13_shown_124 C K) (x4) s0 _ _ _ h hP hD hS (lv_sub hl [] rfl)
set_option maxHeartbeats 40000000 in
set_option maxRecDepth 100000 in
theorem db_X13_shown_38 {p : Program} {l : Launch} {e : Env} {s : State} {m : MethodId} {args : Array Value} {below : List Frame} {meth : Method} {c : Code} {Q : State → Prop} {A : Nat → Prop} {dC : Nat → ClassId} {dI : Nat → Nat → Nat} {a : Nat → Nat} {ac : Nat → ClassId} {n : Nat} {r : Int32 × (St)} (C : nd_C p l s m args c A (dC, dI) cX13_shown 5 RX13 ow_dm_X13_shown (dk_X13 ac)) (K : nd_Ki p l e (headSpec ow_dm_X13_shown ({ frames := 1, cells := 0, slots := 0, locals := 21 })).room s m args below meth c Q A (dC, dI) cX13_shown .int (St) (dw_X13 a ac) r) : dj_X13_shown_38 p l e s m args below meth c Q A dC dI a ac (df_X13_shown_38 n) r := by
  obtain ⟨hlt, hx, hb, hml, hown, hts, hN, hA, hK⟩ := id C
  intro x1 x3 s0 H locs ls h hP hD hS hl
  unfold df_X13_shown_38 at h
  refine lv_iload_n hx hb dX13_shown_38 rfl (lv_at hl 2 rfl) ?_
  refine lv_bipush (v := 92) hx hb dX13_shown_39 (by decide) ?_
  refine lv_icmp_eq (tgt := 46) hx hb dX13_shown_41 (by decide) (fun c7 => ?_) (fun c7 => ?_)
  · have h := nd_pos h c7
    refine lv_aload_n hx hb dX13_shown_46 rfl (lv_at hl 0 rfl) ?_
    refine lv_iload_n hx hb dX13_shown_47 rfl (lv_at hl 1 rfl) ?_
    refine lv_iconst (v := 1) hx hb dX13_shown_48 (by decide) ?_
    refine lv_iadd hx hb dX13_shown_49 ?_
    obtain ⟨q8, s9, hq, h⟩ := nd_b2_e h
    have hPc := hP
    have hDc := hD
    have hKc := hK
    have hFc := nd_rs hD hS hA
    refine nd_cVi (As := [.int (x1 + 1)]) (rest := []) (q := q8) (w' := dw_X13 a ac s9) ⟨hx, hb, hml, hown, hts⟩ (fun sz => dm_X13_charAt l hlt dC dI a ac n ((x1 + 1)) s0 hq sz) (cwV 1 hts gi_dm_X13_shown_0 rfl rfl rfl (by decide +kernel) ⟨Nat.le_of_ble_eq_true rfl, Nat.le_of_ble_eq_true rfl⟩) hPc hDc hKc hS hA hN (va_recv hKc hPc (ci := 14) (q0 := 0) rfl rfl) rfl hl.1 rfl (Nat.le_of_ble_eq_true rfl) dX13_shown_50 (fun H locs hP1 hD1 hk1 hS => ?_)
    have hP := hP1
    have hD := hD1.weaken (fun k q _ h => hFc q.1 h)
    refine lv_istore (lv' := [(4, .int q8), (0, .ref (a 0)), (1, .int x1), (3, .int x3)]) hx hb dX13_shown_53 hl (by decide) rfl (fun ls hl => ?_)
    refine lv_aload_n hx hb dX13_shown_55 rfl (lv_at hl 1 rfl) ?_
    refine lv_iload_n hx hb dX13_shown_56 rfl (lv_at hl 2 rfl) ?_
    refine lv_iconst (v := 2) hx hb dX13_shown_57 (by decide) ?_
    refine lv_iadd hx hb dX13_shown_58 ?_
    refine va_put (D := (dC, dI)) (ci := 14) (v := .int (x1 + 2)) (ty := .int) (C := RX13) (T := TX13) (N := 37) hx hb hts hi_dm_X13_shown_X13 tyX13 tyX13_ok nmX13 hown hK hP hD hS 0 rfl rfl 19 (by decide) (hts (.fieldLink RX13 371 "TimeMachineModel$Assembler" "to" "I") (List.mem_of_getElem? (i := 5) rfl)) (fun _ h9 => h9) rfl (by decide +kernel) rfl rfl (Nat.le_of_ble_eq_true rfl) dX13_shown_59 (fun H locs hP hD hS => ?_)
    obtain ⟨s11, es11, h⟩ := nd_let_e h
    have hP : va_P (dC, dI) vwCl (dw_X13 a ac s11) H := by rw [es11]; exact hP
    have hD : va_D A (dw_X13 a ac s11) := by rw [es11]; exact hD
    refine lv_iload hx hb dX13_shown_62 (lv_at hl 0 rfl) ?_
    refine lv_bipush (v := 110) hx hb dX13_shown_64 (by decide) ?_
    refine lv_icmp_ne (tgt := 74) hx hb dX13_shown_66 (by decide) (fun c12 => ?_) (fun c12 => ?_)
    · have h := nd_neg h c12
      refine lv_iload hx hb dX13_shown_74 (lv_at hl 0 rfl) ?_
      refine lv_bipush (v := 116) hx hb dX13_shown_76 (by decide) ?_
      refine lv_icmp_ne (tgt := 86) hx hb dX13_shown_78 (by decide) (fun c13 => ?_) (fun c13 => ?_)
      · have h := nd_neg h c13
        refine lv_iload hx hb dX13_shown_86 (lv_at hl 0 rfl) ?_
        refine lv_bipush (v := 48) hx hb dX13_shown_88 (by decide) ?_
        refine lv_icmp_ne (tgt := 97) hx hb dX13_shown_90 (by decide) (fun c14 => ?_) (fun c14 => ?_)
        · have h := nd_neg h c14
          refine lv_iload hx hb dX13_shown_97 (lv_at hl 0 rfl) ?_
          refine lv_bipush (v := 92) hx hb dX13_shown_99 (by decide) ?_
          refine lv_icmp_eq (tgt := 118) hx hb dX13_shown_101 (by decide) (fun c15 => ?_) (fun c15 => ?_)
          · have h := nd_pos h c15
            exact (db_X13_shown_118 C K) (q8) s11 _ _ _ h hP hD hS (lv_sub hl [0] rfl)
          · have h := nd_neg h c15
            refine lv_iload hx hb dX13_shown_104 (lv_at hl 0 rfl) ?_
            refine lv_bipush (v := 39) hx hb dX13_shown_106 (by decide) ?_
            refine lv_icmp_eq (tgt := 118) hx hb dX13_shown_108 (by decide) (fun c16 => ?_) (fun c16 => ?_)
            · have h := nd_pos h c16
              exact (db_X13_shown_118 C K) (q8) s11 _ _ _ h hP hD hS (lv_sub hl [0] rfl)
            · have h := nd_neg h c16
              refine lv_iload hx hb dX13_shown_111 (lv_at hl 0 rfl) ?_
              refine lv_bipush (v := 34) hx hb dX13_shown_113 (by decide) ?_
              refine lv_icmp_ne (tgt := 123) hx hb dX13_shown_115 (by decide) (fun c17 => ?_) (fun c17 => ?_)
              · have h := nd_neg h c17
                refine lv_iconst (v := (-1)) hx hb dX13_shown_123 (by decide) ?_
                exact (db_X13_shown_124 C K) ((-1)) s11 _ _ _ h hP hD hS (lv_sub hl [] rfl)
              · have h := nd_pos h c17
                exact (db_X13_shown_118 C K) (q8) s11 _ _ _ h hP hD hS (lv_sub hl [0] rfl)
        · have h := nd_pos h c14
          refine lv_iconst (v := 0) hx hb dX13_shown_93 (by decide) ?_
          refine lv_goto (tgt := 124) hx hb dX13_shown_94 (by decide) ?_
          exact (db_X13_shown_124 C K) (0) s11 _ _ _ h hP hD hS (lv_sub hl [] rfl)
      · have h := nd_pos h c13
        refine lv_bipush (v := 9) hx hb dX13_shown_81 (by decide) ?_
        refine lv_goto (tgt := 124) hx hb dX13_shown_83 (by decide) ?_
        exact (db_X13_shown_124 C K) (9) s11 _ _ _ h hP hD hS (lv_sub hl [] rfl)
    · have h := nd_pos h c12
      refine lv_bipush (v := 10) hx hb dX13_shown_69 (by decide) ?_
      refine lv_goto (tgt := 124) hx hb dX13_shown_71 (by decide) ?_
      exact (db_X13_shown_124 C K) (10) s11 _ _ _ h hP hD hS (lv_sub hl [] rfl)
  · have h := nd_neg h c7
    refine lv_iload_n hx hb dX13_shown_44 rfl (lv_at hl 2 rfl) ?_
    exact K _ _ _ _ _ _ dX13_shown_45 rfl (Option.some.inj h).symm hP hD hS
set_option maxHeartbeats 40000000 in
set_option maxRecDepth 100000 in
theorem db_X13_shown_0 {p : Program} {l : Launch} {e : Env} {s : State} {m : MethodId} {args : Array Value} {below : List Frame} {meth : Method} {c : Code} {Q : State → Prop} {A : Nat → Prop} {dC : Nat → ClassId} {dI : Nat → Nat → Nat} {a : Nat → Nat} {ac : Nat → ClassId} {n : Nat} {r : Int32 × (St)} (C : nd_C p l s m args c A (dC, dI) cX13_shown 5 RX13 ow_dm_X13_shown (dk_X13 ac)) (K : nd_Ki p l e (headSpec ow_dm_X13_shown ({ frames := 1, cells := 0, slots := 0, locals := 21 })).room s m args below meth c Q A (dC, dI) cX13_shown .int (St) (dw_X13 a ac) r) : dj_X13_shown_0 p l e s m args below meth c Q A dC dI a ac (df_X13_shown_0 n) r := by
  obtain ⟨hlt, hx, hb, hml, hown, hts, hN, hA, hK⟩ := id C
  intro v0 v1 s0 H locs ls h hP hD hS hl
  unfold df_X13_shown_0 at h
  refine lv_aload_n hx hb dX13_shown_0 rfl (lv_at hl 0 rfl) ?_
  refine lv_iload_n hx hb dX13_shown_1 rfl (lv_at hl 1 rfl) ?_
  obtain ⟨q1, s2, hq, h⟩ := nd_b2_e h
  have hPc := hP
  have hDc := hD
  have hKc := hK
  have hFc := nd_rs hD hS hA
  refine nd_cVi (As := [.int v0]) (rest := []) (q := q1) (w' := dw_X13 a ac s2) ⟨hx, hb, hml, hown, hts⟩ (fun sz => dm_X13_charAt l hlt dC dI a ac n (v0) s0 hq sz) (cwV 1 hts gi_dm_X13_shown_0 rfl rfl rfl (by decide +kernel) ⟨Nat.le_of_ble_eq_true rfl, Nat.le_of_ble_eq_true rfl⟩) hPc hDc hKc hS hA hN (va_recv hKc hPc (ci := 14) (q0 := 0) rfl rfl) rfl hl.1 rfl (Nat.le_of_ble_eq_true rfl) dX13_shown_2 (fun H locs hP1 hD1 hk1 hS => ?_)
  have hP := hP1
  have hD := hD1.weaken (fun k q _ h => hFc q.1 h)
  refine lv_istore_n (lv' := [(3, .int q1), (0, .ref (a 0)), (1, .int v0), (2, .int v1)]) hx hb dX13_shown_5 rfl hl (by decide) rfl (fun ls hl => ?_)
  refine lv_aload_n hx hb dX13_shown_6 rfl (lv_at hl 1 rfl) ?_
  refine lv_iload_n hx hb dX13_shown_7 rfl (lv_at hl 2 rfl) ?_
  refine lv_iconst (v := 1) hx hb dX13_shown_8 (by decide) ?_
  refine lv_iadd hx hb dX13_shown_9 ?_
  refine va_put (D := (dC, dI)) (ci := 14) (v := .int (v0 + 1)) (ty := .int) (C := RX13) (T := TX13) (N := 37) hx hb hts hi_dm_X13_shown_X13 tyX13 tyX13_ok nmX13 hown hK hP hD hS 0 rfl rfl 19 (by decide) (hts (.fieldLink RX13 371 "TimeMachineModel$Assembler" "to" "I") (List.mem_of_getElem? (i := 5) rfl)) (fun _ h9 => h9) rfl (by decide +kernel) rfl rfl (Nat.le_of_ble_eq_true rfl) dX13_shown_10 (fun H locs hP hD hS => ?_)
  obtain ⟨s4, es4, h⟩ := nd_let_e h
  have hP : va_P (dC, dI) vwCl (dw_X13 a ac s4) H := by rw [es4]; exact hP
  have hD : va_D A (dw_X13 a ac s4) := by rw [es4]; exact hD
  refine lv_iload_n hx hb dX13_shown_13 rfl (lv_at hl 0 rfl) ?_
  refine lv_iload_n hx hb dX13_shown_14 rfl (lv_at hl 3 rfl) ?_
  refine lv_icmp_eq (tgt := 36) hx hb dX13_shown_15 (by decide) (fun c5 => ?_) (fun c5 => ?_)
  · have h := nd_pos h c5
    exact (db_X13_shown_36 C K)  s4 _ _ _ h hP hD hS (lv_sub hl [] rfl)
  · have h := nd_neg h c5
    refine lv_iload_n hx hb dX13_shown_18 rfl (lv_at hl 0 rfl) ?_
    refine lv_bipush (v := 9) hx hb dX13_shown_19 (by decide) ?_
    refine lv_icmp_eq (tgt := 38) hx hb dX13_shown_21 (by decide) (fun c6 => ?_) (fun c6 => ?_)
    · have h := nd_pos h c6
      exact (db_X13_shown_38 C K) (v0) (q1) s4 _ _ _ h hP hD hS (lv_sub hl [1, 2, 0] rfl)
    · have h := nd_neg h c6
      refine lv_iload_n hx hb dX13_shown_24 rfl (lv_at hl 0 rfl) ?_
      refine lv_bipush (v := 32) hx hb dX13_shown_25 (by decide) ?_
      refine lv_icmp_lt (tgt := 36) hx hb dX13_shown_27 (by decide) (fun c18 => ?_) (fun c18 => ?_)
      · have h := nd_pos h c18
        exact (db_X13_shown_36 C K)  s4 _ _ _ h hP hD hS (lv_sub hl [] rfl)
      · have h := nd_neg h c18
        refine lv_iload_n hx hb dX13_shown_30 rfl (lv_at hl 0 rfl) ?_
        refine lv_bipush (v := 126) hx hb dX13_shown_31 (by decide) ?_
        refine lv_icmp_le (tgt := 38) hx hb dX13_shown_33 (by decide) (fun c19 => ?_) (fun c19 => ?_)
        · have h := nd_pos h c19
          exact (db_X13_shown_38 C K) (v0) (q1) s4 _ _ _ h hP hD hS (lv_sub hl [1, 2, 0] rfl)
        · have h := nd_neg h c19
          exact (db_X13_shown_36 C K)  s4 _ _ _ h hP hD hS (lv_sub hl [] rfl)
set_option maxHeartbeats 40000000 in
set_option maxRecDepth 100000 in
theorem dm_X13_shown (l : Launch) (hlt : l.stackTraces = false) (dC : Nat → ClassId) (dI : Nat → Nat → Nat) (a : Nat → Nat) (ac : Nat → ClassId) (n : Nat) (v0 : Int32) (v1 : Int32) (s0 : St) {r : Int32 × (St)} (h : df_X13_shown n v0 v1 s0 = some r) (sz : Nat) : Met l yX13_shown ow_dm_X13_shown ({ frames := 1, cells := 0, slots := 0, locals := 21 }) (va_Pc [.ref (a 0), .int v0, .int v1] (fun U => U.heap.size = sz ∧ va_P (dC, dI) vwCl (dw_X13 a ac s0) U.heap ∧ va_K (dC, dI) vwCl (dk_X13 ac) U ∧ va_D (fun _ => True) (dw_X13 a ac s0) ∧ nv_E (va_A (dw_X13 a ac s0) sz) U)) (va_Qi (fun x _ => x = r.1) (fun (_ : Unit) t => va_P (dC, dI) vwCl (dw_X13 a ac r.2) t.heap ∧ va_K (dC, dI) vwCl (dk_X13 ac) t ∧ va_D (va_A (dw_X13 a ac s0) sz) (dw_X13 a ac r.2)) (va_A (dw_X13 a ac s0) sz)) 0 0 (va_A (dw_X13 a ac s0) sz) := by
  refine Met.ofW (cc := cX13_shown) (maxL := 5) (ret := (some .int)) (by decide) rfl ?_
  intro p e s m args below meth c s₁ B hml hv
  obtain ⟨rfl, hsz, hP, hK, hD0, hN⟩ := hv
  have hx := B.exec
  have hb := B.bytes
  have hr := B.returns
  have hts := atoms_spec (ws := ow_dm_X13_shown) B.pre
  have hown : s.vm.findClass RX13 = some m.cls := findClass_of_methodNamed B.named
  have hlocks := B.notSynchronized
  subst hsz
  have hD := hD0.self (sz := s.heap.size)
  generalize hAe : va_A (dw_X13 a ac s0) s.heap.size = A at hD hN ⊢
  have hA : ∀ q : Nat, s.heap.size ≤ q → A q := fun q h => by rw [← hAe]; exact Or.inr h
  have hl := lv_entry ([.ref (a 0), .int v0, .int v1]) (n := 5) (Nat.le_of_ble_eq_true rfl)
  rw [lg_entry_eq]
  generalize (lg_sl ([.ref (a 0), .int v0, .int v1]) ++ List.replicate (5 - (lg_sl ([.ref (a 0), .int v0, .int v1])).length) Slot.unset).toArray = ls at hl ⊢
  have hl : lv_has ls 5 [(0, .ref (a 0)), (1, .int v0), (2, .int v1)] := hl
  exact db_X13_shown_0 (dC := dC) (dI := dI) (a := a) (ac := ac) (n := n) (r := r) ⟨hlt, hx, hb, hml, hown, hts, hN, hA, hK⟩ (fun pc v τ H locs ls d z er hP hD hS => by subst er; exact W.zret (v := v) hx hb hr z (fun t ht hW => ⟨⟨v, (), rfl, rfl, by rw [ht]; exact hP, va_K.moved hW.alike hK, hD⟩, hS.F ht⟩) hS.2.2 d) v0 v1 s0 _ _ _ h hP hD va_S.rf (lv_sub hl [0, 1, 2] rfl)
def ow_dm_X13_quote : List Cond := .code yX13_quote cX13_quote 3 none :: ([.fieldLink RX13 365 "TimeMachineModel$Assembler" "token" "I", .fieldLink RX13 374 "TimeMachineModel$Assembler" "at" "I", .fieldLink RX13 371 "TimeMachineModel$Assembler" "to" "I", .methodLink RX13 383 yX13_bad, .instanceMethod yX13_bad, .selects RX13 yX13_bad yX13_bad, .initialized RX13, .methodLink RX13 358 yX13_charAt, .instanceMethod yX13_charAt, .selects RX13 yX13_charAt yX13_charAt, .methodLink RX13 406 yX13_shown, .instanceMethod yX13_shown, .selects RX13 yX13_shown yX13_shown] ++ (u_ws RX13 TX13 37 ++ (ow_dm_X13_bad ++ (ow_dm_X13_charAt ++ (ow_dm_X13_shown ++ [])))))
theorem gd_dm_X13_quote : ∀ w ∈ ow_dm_X13_quote, (w.onTables && w.keeps) = true ∨ ∃ ty, w = Cond.arrayClass ty := List.forall_mem_cons.mpr ⟨good_of_word rfl, List.forall_mem_append.mpr ⟨fun w h => good_of_word (List.all_eq_true.mp (by decide +kernel) w h), List.forall_mem_append.mpr ⟨gu_X13, List.forall_mem_append.mpr ⟨gd_dm_X13_bad, List.forall_mem_append.mpr ⟨gd_dm_X13_charAt, List.forall_mem_append.mpr ⟨gd_dm_X13_shown, fun _ h => nomatch h⟩⟩⟩⟩⟩⟩
theorem hi_dm_X13_quote_X13 : ∀ w ∈ u_ws RX13 TX13 37, w ∈ ow_dm_X13_quote := fun w h => List.mem_cons_of_mem _ (List.mem_append_right _ (List.mem_append_left _ h))
theorem gi_dm_X13_quote_0 : GoodIn ow_dm_X13_quote (wsV RX13 383 RX13 yX13_bad ow_dm_X13_bad) := goodIn_app (goodIn_of _ (by decide +kernel)) (fun w h => ⟨List.mem_cons_of_mem _ (List.mem_append_right _ (List.mem_append_right _ (List.mem_append_left _ h))), gd_dm_X13_bad w h⟩)
theorem gi_dm_X13_quote_1 : GoodIn ow_dm_X13_quote (wsV RX13 358 RX13 yX13_charAt ow_dm_X13_charAt) := goodIn_app (goodIn_of _ (by decide +kernel)) (fun w h => ⟨List.mem_cons_of_mem _ (List.mem_append_right _ (List.mem_append_right _ (List.mem_append_right _ (List.mem_append_left _ h)))), gd_dm_X13_charAt w h⟩)
theorem gi_dm_X13_quote_2 : GoodIn ow_dm_X13_quote (wsV RX13 406 RX13 yX13_shown ow_dm_X13_shown) := goodIn_app (goodIn_of _ (by decide +kernel)) (fun w h => ⟨List.mem_cons_of_mem _ (List.mem_append_right _ (List.mem_append_right _ (List.mem_append_right _ (List.mem_append_right _ (List.mem_append_left _ h))))), gd_dm_X13_shown w h⟩)
def dj_X13_quote_59 (p : Program) (l : Launch) (e : Env) (s : State) (m : MethodId) (args : Array Value) (below : List Frame) (meth : Method) (c : Code) (Q : State → Prop) (A : Nat → Prop) (dC : Nat → ClassId) (dI : Nat → Nat → Nat) (a : Nat → Nat) (ac : Nat → ClassId) (g : (St) → Option (St)) (r : St) : Prop := ∀ (s0 : St) (H : Heap) (locs : List Loc) (ls : Array Slot), g s0 = some r → va_P (dC, dI) vwCl (dw_X13 a ac s0) H → va_D A (dw_X13 a ac s0) → va_S A s.heap H locs → lv_has ls 3 [] → W p l e (headSpec ow_dm_X13_quote ({ frames := 2, cells := 0, slots := 0, locals := 45 })).room s m args below meth c H locs 0 0 Q (F0 m 59 ls [])
def dj_X13_quote_44 (p : Program) (l : Launch) (e : Env) (s : State) (m : MethodId) (args : Array Value) (below : List Frame) (meth : Method) (c : Code) (Q : State → Prop) (A : Nat → Prop) (dC : Nat → ClassId) (dI : Nat → Nat → Nat) (a : Nat → Nat) (ac : Nat → ClassId) (g : Int32 → Int32 → (St) → Option (St)) (r : St) : Prop := ∀ (x1 : Int32) (x2 : Int32) (s0 : St) (H : Heap) (locs : List Loc) (ls : Array Slot), g x1 x2 s0 = some r → va_P (dC, dI) vwCl (dw_X13 a ac s0) H → va_D A (dw_X13 a ac s0) → va_S A s.heap H locs → lv_has ls 3 [(0, .ref (a 0)), (1, .int x1), (2, .int x2)] → W p l e (headSpec ow_dm_X13_quote ({ frames := 2, cells := 0, slots := 0, locals := 45 })).room s m args below meth c H locs 0 0 Q (F0 m 44 ls [])
def dj_X13_quote_14 (p : Program) (l : Launch) (e : Env) (s : State) (m : MethodId) (args : Array Value) (below : List Frame) (meth : Method) (c : Code) (Q : State → Prop) (A : Nat → Prop) (dC : Nat → ClassId) (dI : Nat → Nat → Nat) (a : Nat → Nat) (ac : Nat → ClassId) (g : Int32 → Int32 → (St) → Option (St)) (r : St) : Prop := ∀ (x1 : Int32) (x2 : Int32) (s0 : St) (H : Heap) (locs : List Loc) (ls : Array Slot), g x1 x2 s0 = some r → va_P (dC, dI) vwCl (dw_X13 a ac s0) H → va_D A (dw_X13 a ac s0) → va_S A s.heap H locs → lv_has ls 3 [(0, .ref (a 0)), (1, .int x1), (2, .int x2)] → W p l e (headSpec ow_dm_X13_quote ({ frames := 2, cells := 0, slots := 0, locals := 45 })).room s m args below meth c H locs 0 0 Q (F0 m 14 ls [])
def dj_X13_quote_0 (p : Program) (l : Launch) (e : Env) (s : State) (m : MethodId) (args : Array Value) (below : List Frame) (meth : Method) (c : Code) (Q : State → Prop) (A : Nat → Prop) (dC : Nat → ClassId) (dI : Nat → Nat → Nat) (a : Nat → Nat) (ac : Nat → ClassId) (g : (St) → Option (St)) (r : St) : Prop := ∀ (s0 : St) (H : Heap) (locs : List Loc) (ls : Array Slot), g s0 = some r → va_P (dC, dI) vwCl (dw_X13 a ac s0) H → va_D A (dw_X13 a ac s0) → va_S A s.heap H locs → lv_has ls 3 [(0, .ref (a 0))] → W p l e (headSpec ow_dm_X13_quote ({ frames := 2, cells := 0, slots := 0, locals := 45 })).room s m args below meth c H locs 0 0 Q (F0 m 0 ls [])
set_option maxHeartbeats 40000000 in
set_option maxRecDepth 100000 in
theorem db_X13_quote_59 {p : Program} {l : Launch} {e : Env} {s : State} {m : MethodId} {args : Array Value} {below : List Frame} {meth : Method} {c : Code} {Q : State → Prop} {A : Nat → Prop} {dC : Nat → ClassId} {dI : Nat → Nat → Nat} {a : Nat → Nat} {ac : Nat → ClassId} {n : Nat} {r : St} (C : nd_C p l s m args c A (dC, dI) cX13_quote 3 RX13 ow_dm_X13_quote (dk_X13 ac)) (K : nd_Kv p l e (headSpec ow_dm_X13_quote ({ frames := 2, cells := 0, slots := 0, locals := 45 })).room s m args below meth c Q A (dC, dI) cX13_quote (St) (dw_X13 a ac) r) : dj_X13_quote_59 p l e s m args below meth c Q A dC dI a ac (df_X13_quote_59 n) r := by
  obtain ⟨hlt, hx, hb, hml, hown, hts, hN, hA, hK⟩ := id C
  intro s0 H locs ls h hP hD hS hl
  unfold df_X13_quote_59 at h
  exact K _ _ _ _ _ dX13_quote_59 (Option.some.inj h).symm hP hD hS
set_option maxHeartbeats 40000000 in
set_option maxRecDepth 100000 in
theorem db_X13_quote_44 {p : Program} {l : Launch} {e : Env} {s : State} {m : MethodId} {args : Array Value} {below : List Frame} {meth : Method} {c : Code} {Q : State → Prop} {A : Nat → Prop} {dC : Nat → ClassId} {dI : Nat → Nat → Nat} {a : Nat → Nat} {ac : Nat → ClassId} {n : Nat} {r : St} (C : nd_C p l s m args c A (dC, dI) cX13_quote 3 RX13 ow_dm_X13_quote (dk_X13 ac)) (K : nd_Kv p l e (headSpec ow_dm_X13_quote ({ frames := 2, cells := 0, slots := 0, locals := 45 })).room s m args below meth c Q A (dC, dI) cX13_quote (St) (dw_X13 a ac) r) : dj_X13_quote_44 p l e s m args below meth c Q A dC dI a ac (df_X13_quote_44 n) r := by
  obtain ⟨hlt, hx, hb, hml, hown, hts, hN, hA, hK⟩ := id C
  intro x1 x2 s0 H locs ls h hP hD hS hl
  unfold df_X13_quote_44 at h
  refine lv_aload_n hx hb dX13_quote_44 rfl (lv_at hl 0 rfl) ?_
  refine lv_iload_n hx hb dX13_quote_45 rfl (lv_at hl 1 rfl) ?_
  refine lv_iconst (v := 1) hx hb dX13_quote_46 (by decide) ?_
  refine lv_iadd hx hb dX13_quote_47 ?_
  refine va_put (D := (dC, dI)) (ci := 14) (v := .int (x1 + 1)) (ty := .int) (C := RX13) (T := TX13) (N := 37) hx hb hts hi_dm_X13_quote_X13 tyX13 tyX13_ok nmX13 hown hK hP hD hS 0 rfl rfl 19 (by decide) (hts (.fieldLink RX13 371 "TimeMachineModel$Assembler" "to" "I") (List.mem_of_getElem? (i := 3) rfl)) (fun _ h9 => h9) rfl (by decide +kernel) rfl rfl (Nat.le_of_ble_eq_true rfl) dX13_quote_48 (fun H locs hP hD hS => ?_)
  obtain ⟨s4, es4, h⟩ := nd_let_e h
  have hP : va_P (dC, dI) vwCl (dw_X13 a ac s4) H := by rw [es4]; exact hP
  have hD : va_D A (dw_X13 a ac s4) := by rw [es4]; exact hD
  refine lv_iload_n hx hb dX13_quote_51 rfl (lv_at hl 2 rfl) ?_
  refine lv_if_ge (tgt := 59) hx hb dX13_quote_52 (by decide) (fun c5 => ?_) (fun c5 => ?_)
  · have h := nd_pos h c5
    exact (db_X13_quote_59 C K)  s4 _ _ _ h hP hD hS (lv_sub hl [] rfl)
  · have h := nd_neg h c5
    refine lv_aload_n hx hb dX13_quote_55 rfl (lv_at hl 0 rfl) ?_
    obtain ⟨s7, hq, h⟩ := nd_b1_e h
    have hPc := hP
    have hDc := hD
    have hKc := hK
    have hFc := nd_rs hD hS hA
    refine nd_cVv (As := []) (rest := []) (w' := dw_X13 a ac s7) ⟨hx, hb, hml, hown, hts⟩ (fun sz => dm_X13_bad l hlt dC dI a ac n  s4 hq sz) (cwV 0 hts gi_dm_X13_quote_0 rfl rfl rfl (by decide +kernel) ⟨Nat.le_of_ble_eq_true rfl, Nat.le_of_ble_eq_true rfl⟩) hPc hDc hKc hS hA hN (va_recv hKc hPc (ci := 14) (q0 := 0) rfl rfl) rfl hl.1 rfl (Nat.le_of_ble_eq_true rfl) dX13_quote_56 (fun H locs hP1 hD1 hk1 hS => ?_)
    have hP := hP1
    have hD := hD1.weaken (fun k q _ h => hFc q.1 h)
    exact (db_X13_quote_59 C K)  s7 _ _ _ h hP hD hS (lv_sub hl [] rfl)
set_option maxHeartbeats 40000000 in
set_option maxRecDepth 100000 in
theorem dB_X13_quote_14 {p : Program} {l : Launch} {e : Env} {s : State} {m : MethodId} {args : Array Value} {below : List Frame} {meth : Method} {c : Code} {Q : State → Prop} {A : Nat → Prop} {dC : Nat → ClassId} {dI : Nat → Nat → Nat} {a : Nat → Nat} {ac : Nat → ClassId} {n : Nat} {r : St} (C : nd_C p l s m args c A (dC, dI) cX13_quote 3 RX13 ow_dm_X13_quote (dk_X13 ac)) (K : nd_Kv p l e (headSpec ow_dm_X13_quote ({ frames := 2, cells := 0, slots := 0, locals := 45 })).room s m args below meth c Q A (dC, dI) cX13_quote (St) (dw_X13 a ac) r) {g14 : Int32 → Int32 → (St) → Option (St)} (J14 : dj_X13_quote_14 p l e s m args below meth c Q A dC dI a ac g14 r) : dj_X13_quote_14 p l e s m args below meth c Q A dC dI a ac (dF_X13_quote_14 n g14) r := by
  obtain ⟨hlt, hx, hb, hml, hown, hts, hN, hA, hK⟩ := id C
  intro x1 x2 s0 H locs ls h hP hD hS hl
  unfold dF_X13_quote_14 at h
  refine lv_iload_n hx hb dX13_quote_14 rfl (lv_at hl 2 rfl) ?_
  refine lv_if_lt (tgt := 44) hx hb dX13_quote_15 (by decide) (fun c3 => ?_) (fun c3 => ?_)
  · have h := nd_pos h c3
    exact (db_X13_quote_44 C K) (x1) (x2) s0 _ _ _ h hP hD hS (lv_sub hl [0, 1, 2] rfl)
  · have h := nd_neg h c3
    refine lv_aload_n hx hb dX13_quote_18 rfl (lv_at hl 0 rfl) ?_
    refine lv_iload_n hx hb dX13_quote_19 rfl (lv_at hl 1 rfl) ?_
    obtain ⟨q9, s10, hq, h⟩ := nd_b2_e h
    have hPc := hP
    have hDc := hD
    have hKc := hK
    have hFc := nd_rs hD hS hA
    refine nd_cVi (As := [.int x1]) (rest := []) (q := q9) (w' := dw_X13 a ac s10) ⟨hx, hb, hml, hown, hts⟩ (fun sz => dm_X13_charAt l hlt dC dI a ac n (x1) s0 hq sz) (cwV 1 hts gi_dm_X13_quote_1 rfl rfl rfl (by decide +kernel) ⟨Nat.le_of_ble_eq_true rfl, Nat.le_of_ble_eq_true rfl⟩) hPc hDc hKc hS hA hN (va_recv hKc hPc (ci := 14) (q0 := 0) rfl rfl) rfl hl.1 rfl (Nat.le_of_ble_eq_true rfl) dX13_quote_20 (fun H locs hP1 hD1 hk1 hS => ?_)
    have hP := hP1
    have hD := hD1.weaken (fun k q _ h => hFc q.1 h)
    refine lv_bipush (v := 34) hx hb dX13_quote_23 (by decide) ?_
    refine lv_icmp_eq (tgt := 44) hx hb dX13_quote_25 (by decide) (fun c12 => ?_) (fun c12 => ?_)
    · have h := nd_pos h c12
      exact (db_X13_quote_44 C K) (x1) (x2) s10 _ _ _ h hP hD hS (lv_sub hl [0, 1, 2] rfl)
    · have h := nd_neg h c12
      refine lv_aload_n hx hb dX13_quote_28 rfl (lv_at hl 0 rfl) ?_
      refine lv_iload_n hx hb dX13_quote_29 rfl (lv_at hl 1 rfl) ?_
      refine lv_bipush (v := 34) hx hb dX13_quote_30 (by decide) ?_
      obtain ⟨q13, s14, hq, h⟩ := nd_b2_e h
      have hPc := hP
      have hDc := hD
      have hKc := hK
      have hFc := nd_rs hD hS hA
      refine nd_cVi (As := [.int x1, .int 34]) (rest := []) (q := q13) (w' := dw_X13 a ac s14) ⟨hx, hb, hml, hown, hts⟩ (fun sz => dm_X13_shown l hlt dC dI a ac n (x1) (34) s10 hq sz) (cwV 2 hts gi_dm_X13_quote_2 rfl rfl rfl (by decide +kernel) ⟨Nat.le_of_ble_eq_true rfl, Nat.le_of_ble_eq_true rfl⟩) hPc hDc hKc hS hA hN (va_recv hKc hPc (ci := 14) (q0 := 0) rfl rfl) rfl hl.1 rfl (Nat.le_of_ble_eq_true rfl) dX13_quote_32 (fun H locs hP1 hD1 hk1 hS => ?_)
      have hP := hP1
      have hD := hD1.weaken (fun k q _ h => hFc q.1 h)
      refine lv_istore_n (lv' := [(2, .int q13), (0, .ref (a 0)), (1, .int x1)]) hx hb dX13_quote_35 rfl hl (by decide) rfl (fun ls hl => ?_)
      refine lv_aload_n hx hb dX13_quote_36 rfl (lv_at hl 1 rfl) ?_
      refine va_get (D := (dC, dI)) (ci := 14) (v := .int (sI s14 10)) (C := RX13) (T := TX13) (N := 37) hx hb hts hi_dm_X13_quote_X13 hown hK hP 0 rfl rfl 19 (by decide) (hts (.fieldLink RX13 371 "TimeMachineModel$Assembler" "to" "I") (List.mem_of_getElem? (i := 3) rfl)) (fun _ h9 => h9) rfl dX13_quote_37 ?_
      refine lv_topi (fun z16 ez16 => ?_)
      have h := nd_at h ez16
      refine lv_istore_n (lv' := [(1, .int z16), (2, .int q13), (0, .ref (a 0))]) hx hb dX13_quote_40 rfl hl (by decide) rfl (fun ls hl => ?_)
      refine lv_goto (tgt := 14) hx hb dX13_quote_41 (by decide) ?_
      exact (J14) (z16) (q13) s14 _ _ _ h hP hD hS (lv_sub hl [2, 0, 1] rfl)
set_option maxHeartbeats 40000000 in
set_option maxRecDepth 100000 in
theorem db_X13_quote_14 {p : Program} {l : Launch} {e : Env} {s : State} {m : MethodId} {args : Array Value} {below : List Frame} {meth : Method} {c : Code} {Q : State → Prop} {A : Nat → Prop} {dC : Nat → ClassId} {dI : Nat → Nat → Nat} {a : Nat → Nat} {ac : Nat → ClassId} {n : Nat} {r : St} (C : nd_C p l s m args c A (dC, dI) cX13_quote 3 RX13 ow_dm_X13_quote (dk_X13 ac)) (K : nd_Kv p l e (headSpec ow_dm_X13_quote ({ frames := 2, cells := 0, slots := 0, locals := 45 })).room s m args below meth c Q A (dC, dI) cX13_quote (St) (dw_X13 a ac) r) (k : Nat) : dj_X13_quote_14 p l e s m args below meth c Q A dC dI a ac (df_X13_quote_14 n k) r := by
  induction k with
  | zero => intro x1 x2 s0 H locs ls h; exact nomatch (show (none : Option (St)) = some r from h)
  | succ k ih => exact dB_X13_quote_14 C K ih
set_option maxHeartbeats 40000000 in
set_option maxRecDepth 100000 in
theorem db_X13_quote_0 {p : Program} {l : Launch} {e : Env} {s : State} {m : MethodId} {args : Array Value} {below : List Frame} {meth : Method} {c : Code} {Q : State → Prop} {A : Nat → Prop} {dC : Nat → ClassId} {dI : Nat → Nat → Nat} {a : Nat → Nat} {ac : Nat → ClassId} {n : Nat} {r : St} (C : nd_C p l s m args c A (dC, dI) cX13_quote 3 RX13 ow_dm_X13_quote (dk_X13 ac)) (K : nd_Kv p l e (headSpec ow_dm_X13_quote ({ frames := 2, cells := 0, slots := 0, locals := 45 })).room s m args below meth c Q A (dC, dI) cX13_quote (St) (dw_X13 a ac) r) : dj_X13_quote_0 p l e s m args below meth c Q A dC dI a ac (df_X13_quote_0 n) r := by
  obtain ⟨hlt, hx, hb, hml, hown, hts, hN, hA, hK⟩ := id C
  intro s0 H locs ls h hP hD hS hl
  unfold df_X13_quote_0 at h
  refine lv_aload_n hx hb dX13_quote_0 rfl (lv_at hl 0 rfl) ?_
  refine lv_iconst (v := 4) hx hb dX13_quote_1 (by decide) ?_
  refine va_put (D := (dC, dI)) (ci := 14) (v := .int 4) (ty := .int) (C := RX13) (T := TX13) (N := 37) hx hb hts hi_dm_X13_quote_X13 tyX13 tyX13_ok nmX13 hown hK hP hD hS 0 rfl rfl 17 (by decide) (hts (.fieldLink RX13 365 "TimeMachineModel$Assembler" "token" "I") (List.mem_of_getElem? (i := 1) rfl)) (fun _ h9 => h9) rfl (by decide +kernel) rfl rfl (Nat.le_of_ble_eq_true rfl) dX13_quote_2 (fun H locs hP hD hS => ?_)
  obtain ⟨s1, es1, h⟩ := nd_let_e h
  have hP : va_P (dC, dI) vwCl (dw_X13 a ac s1) H := by rw [es1]; exact hP
  have hD : va_D A (dw_X13 a ac s1) := by rw [es1]; exact hD
  refine lv_aload_n hx hb dX13_quote_5 rfl (lv_at hl 0 rfl) ?_
  refine va_get (D := (dC, dI)) (ci := 14) (v := .int (sI s1 7)) (C := RX13) (T := TX13) (N := 37) hx hb hts hi_dm_X13_quote_X13 hown hK hP 0 rfl rfl 16 (by decide) (hts (.fieldLink RX13 374 "TimeMachineModel$Assembler" "at" "I") (List.mem_of_getElem? (i := 2) rfl)) (fun _ h9 => h9) rfl dX13_quote_6 ?_
  refine lv_iconst (v := 1) hx hb dX13_quote_9 (by decide) ?_
  refine lv_iadd hx hb dX13_quote_10 ?_
  refine lv_topi (fun z2 ez2 => ?_)
  have h := nd_at h ez2
  refine lv_istore_n (lv' := [(1, .int z2), (0, .ref (a 0))]) hx hb dX13_quote_11 rfl hl (by decide) rfl (fun ls hl => ?_)
  refine lv_iconst (v := 0) hx hb dX13_quote_12 (by decide) ?_
  refine lv_istore_n (lv' := [(2, .int 0), (1, .int z2), (0, .ref (a 0))]) hx hb dX13_quote_13 rfl hl (by decide) rfl (fun ls hl => ?_)
  exact (db_X13_quote_14 C K n) (z2) (0) s1 _ _ _ h hP hD hS (lv_sub hl [2, 1, 0] rfl)
set_option maxHeartbeats 40000000 in
set_option maxRecDepth 100000 in
theorem dm_X13_quote (l : Launch) (hlt : l.stackTraces = false) (dC : Nat → ClassId) (dI : Nat → Nat → Nat) (a : Nat → Nat) (ac : Nat → ClassId) (n : Nat) (s0 : St) {r : St} (h : df_X13_quote n s0 = some r) (sz : Nat) : Met l yX13_quote ow_dm_X13_quote ({ frames := 2, cells := 0, slots := 0, locals := 45 }) (va_Pc [.ref (a 0)] (fun U => U.heap.size = sz ∧ va_P (dC, dI) vwCl (dw_X13 a ac s0) U.heap ∧ va_K (dC, dI) vwCl (dk_X13 ac) U ∧ va_D (fun _ => True) (dw_X13 a ac s0) ∧ nv_E (va_A (dw_X13 a ac s0) sz) U)) (va_Qv (fun _ => True) (fun (_ : Unit) t => va_P (dC, dI) vwCl (dw_X13 a ac r) t.heap ∧ va_K (dC, dI) vwCl (dk_X13 ac) t ∧ va_D (va_A (dw_X13 a ac s0) sz) (dw_X13 a ac r)) (va_A (dw_X13 a ac s0) sz)) 0 0 (va_A (dw_X13 a ac s0) sz) := by
  refine Met.ofW (cc := cX13_quote) (maxL := 3) (ret := none) (by decide) rfl ?_
  intro p e s m args below meth c s₁ B hml hv
  obtain ⟨rfl, hsz, hP, hK, hD0, hN⟩ := hv
  have hx := B.exec
  have hb := B.bytes
  have hr := B.returns
  have hts := atoms_spec (ws := ow_dm_X13_quote) B.pre
  have hown : s.vm.findClass RX13 = some m.cls := findClass_of_methodNamed B.named
  have hlocks := B.notSynchronized
  subst hsz
  have hD := hD0.self (sz := s.heap.size)
  generalize hAe : va_A (dw_X13 a ac s0) s.heap.size = A at hD hN ⊢
  have hA : ∀ q : Nat, s.heap.size ≤ q → A q := fun q h => by rw [← hAe]; exact Or.inr h
  have hl := lv_entry ([.ref (a 0)]) (n := 3) (Nat.le_of_ble_eq_true rfl)
  rw [lg_entry_eq]
  generalize (lg_sl ([.ref (a 0)]) ++ List.replicate (3 - (lg_sl ([.ref (a 0)])).length) Slot.unset).toArray = ls at hl ⊢
  have hl : lv_has ls 3 [(0, .ref (a 0))] := hl
  exact db_X13_quote_0 (dC := dC) (dI := dI) (a := a) (ac := ac) (n := n) (r := r) ⟨hlt, hx, hb, hml, hown, hts, hN, hA, hK⟩ (fun pc τ H locs ls d er hP hD hS => by subst er; exact W.vret hx hb hr (fun t ht hW => ⟨⟨(), rfl, trivial, by rw [ht]; exact hP, va_K.moved hW.alike hK, hD⟩, hS.F ht⟩) hS.2.2 d) s0 _ _ _ h hP hD va_S.rf (lv_sub hl [0] rfl)
def ow_dm_X13_character : List Cond := .code yX13_character cX13_character 2 none :: ([.fieldLink RX13 374 "TimeMachineModel$Assembler" "at" "I", .methodLink RX13 406 yX13_shown, .instanceMethod yX13_shown, .selects RX13 yX13_shown yX13_shown, .initialized RX13, .fieldLink RX13 399 "TimeMachineModel$Assembler" "number" "I", .fieldLink RX13 365 "TimeMachineModel$Assembler" "token" "I", .fieldLink RX13 371 "TimeMachineModel$Assembler" "to" "I", .methodLink RX13 383 yX13_bad, .instanceMethod yX13_bad, .selects RX13 yX13_bad yX13_bad, .methodLink RX13 358 yX13_charAt, .instanceMethod yX13_charAt, .selects RX13 yX13_charAt yX13_charAt, .methodLink RX13 362 yX13_isPlain, .static yX13_isPlain] ++ (u_ws RX13 TX13 37 ++ (ow_dm_X13_shown ++ (ow_dm_X13_bad ++ (ow_dm_X13_charAt ++ (ow_dm_X13_isPlain ++ []))))))
theorem gd_dm_X13_character : ∀ w ∈ ow_dm_X13_character, (w.onTables && w.keeps) = true ∨ ∃ ty, w = Cond.arrayClass ty := List.forall_mem_cons.mpr ⟨good_of_word rfl, List.forall_mem_append.mpr ⟨fun w h => good_of_word (List.all_eq_true.mp (by decide +kernel) w h), List.forall_mem_append.mpr ⟨gu_X13, List.forall_mem_append.mpr ⟨gd_dm_X13_shown, List.forall_mem_append.mpr ⟨gd_dm_X13_bad, List.forall_mem_append.mpr ⟨gd_dm_X13_charAt, List.forall_mem_append.mpr ⟨gd_dm_X13_isPlain, fun _ h => nomatch h⟩⟩⟩⟩⟩⟩⟩
theorem hi_dm_X13_character_X13 : ∀ w ∈ u_ws RX13 TX13 37, w ∈ ow_dm_X13_character := fun w h => List.mem_cons_of_mem _ (List.mem_append_right _ (List.mem_append_left _ h))
theorem gi_dm_X13_character_0 : GoodIn ow_dm_X13_character (wsV RX13 406 RX13 yX13_shown ow_dm_X13_shown) := goodIn_app (goodIn_of _ (by decide +kernel)) (fun w h => ⟨List.mem_cons_of_mem _ (List.mem_append_right _ (List.mem_append_right _ (List.mem_append_left _ h))), gd_dm_X13_shown w h⟩)
theorem gi_dm_X13_character_1 : GoodIn ow_dm_X13_character (wsV RX13 383 RX13 yX13_bad ow_dm_X13_bad) := goodIn_app (goodIn_of _ (by decide +kernel)) (fun w h => ⟨List.mem_cons_of_mem _ (List.mem_append_right _ (List.mem_append_right _ (List.mem_append_right _ (List.mem_append_left _ h)))), gd_dm_X13_bad w h⟩)
theorem gi_dm_X13_character_2 : GoodIn ow_dm_X13_character (wsV RX13 358 RX13 yX13_charAt ow_dm_X13_charAt) := goodIn_app (goodIn_of _ (by decide +kernel)) (fun w h => ⟨List.mem_cons_of_mem _ (List.mem_append_right _ (List.mem_append_right _ (List.mem_append_right _ (List.mem_append_right _ (List.mem_append_left _ h))))), gd_dm_X13_charAt w h⟩)
theorem gi_dm_X13_character_3 : GoodIn ow_dm_X13_character (wsS RX13 362 yX13_isPlain ow_dm_X13_isPlain) := goodIn_app (goodIn_of _ (by decide +kernel)) (fun w h => ⟨List.mem_cons_of_mem _ (List.mem_append_right _ (List.mem_append_right _ (List.mem_append_right _ (List.mem_append_right _ (List.mem_append_right _ (List.mem_append_left _ h)))))), gd_dm_X13_isPlain w h⟩)
def dj_X13_character_79 (p : Program) (l : Launch) (e : Env) (s : State) (m : MethodId) (args : Array Value) (below : List Frame) (meth : Method) (c : Code) (Q : State → Prop) (A : Nat → Prop) (dC : Nat → ClassId) (dI : Nat → Nat → Nat) (a : Nat → Nat) (ac : Nat → ClassId) (g : (St) → Option (St)) (r : St) : Prop := ∀ (s0 : St) (H : Heap) (locs : List Loc) (ls : Array Slot), g s0 = some r → va_P (dC, dI) vwCl (dw_X13 a ac s0) H → va_D A (dw_X13 a ac s0) → va_S A s.heap H locs → lv_has ls 2 [] → W p l e (headSpec ow_dm_X13_character ({ frames := 2, cells := 0, slots := 0, locals := 45 })).room s m args below meth c H locs 0 0 Q (F0 m 79 ls [])
def dj_X13_character_75 (p : Program) (l : Launch) (e : Env) (s : State) (m : MethodId) (args : Array Value) (below : List Frame) (meth : Method) (c : Code) (Q : State → Prop) (A : Nat → Prop) (dC : Nat → ClassId) (dI : Nat → Nat → Nat) (a : Nat → Nat) (ac : Nat → ClassId) (g : (St) → Option (St)) (r : St) : Prop := ∀ (s0 : St) (H : Heap) (locs : List Loc) (ls : Array Slot), g s0 = some r → va_P (dC, dI) vwCl (dw_X13 a ac s0) H → va_D A (dw_X13 a ac s0) → va_S A s.heap H locs → lv_has ls 2 [(0, .ref (a 0))] → W p l e (headSpec ow_dm_X13_character ({ frames := 2, cells := 0, slots := 0, locals := 45 })).room s m args below meth c H locs 0 0 Q (F0 m 75 ls [])
def dj_X13_character_46 (p : Program) (l : Launch) (e : Env) (s : State) (m : MethodId) (args : Array Value) (below : List Frame) (meth : Method) (c : Code) (Q : State → Prop) (A : Nat → Prop) (dC : Nat → ClassId) (dI : Nat → Nat → Nat) (a : Nat → Nat) (ac : Nat → ClassId) (g : Int32 → (St) → Option (St)) (r : St) : Prop := ∀ (y0 : Int32) (s0 : St) (H : Heap) (locs : List Loc) (ls : Array Slot), g y0 s0 = some r → va_P (dC, dI) vwCl (dw_X13 a ac s0) H → va_D A (dw_X13 a ac s0) → va_S A s.heap H locs → lv_has ls 2 [(0, .ref (a 0))] → W p l e (headSpec ow_dm_X13_character ({ frames := 2, cells := 0, slots := 0, locals := 45 })).room s m args below meth c H locs 0 0 Q (F0 m 46 ls [.int y0])
def dj_X13_character_45 (p : Program) (l : Launch) (e : Env) (s : State) (m : MethodId) (args : Array Value) (below : List Frame) (meth : Method) (c : Code) (Q : State → Prop) (A : Nat → Prop) (dC : Nat → ClassId) (dI : Nat → Nat → Nat) (a : Nat → Nat) (ac : Nat → ClassId) (g : (St) → Option (St)) (r : St) : Prop := ∀ (s0 : St) (H : Heap) (locs : List Loc) (ls : Array Slot), g s0 = some r → va_P (dC, dI) vwCl (dw_X13 a ac s0) H → va_D A (dw_X13 a ac s0) → va_S A s.heap H locs → lv_has ls 2 [(0, .ref (a 0))] → W p l e (headSpec ow_dm_X13_character ({ frames := 2, cells := 0, slots := 0, locals := 45 })).room s m args below meth c H locs 0 0 Q (F0 m 45 ls [])
def dj_X13_character_0 (p : Program) (l : Launch) (e : Env) (s : State) (m : MethodId) (args : Array Value) (below : List Frame) (meth : Method) (c : Code) (Q : State → Prop) (A : Nat → Prop) (dC : Nat → ClassId) (dI : Nat → Nat → Nat) (a : Nat → Nat) (ac : Nat → ClassId) (g : (St) → Option (St)) (r : St) : Prop := ∀ (s0 : St) (H : Heap) (locs : List Loc) (ls : Array Slot), g s0 = some r → va_P (dC, dI) vwCl (dw_X13 a ac s0) H → va_D A (dw_X13 a ac s0) → va_S A s.heap H locs → lv_has ls 2 [(0, .ref (a 0))] → W p l e (headSpec ow_dm_X13_character ({ frames := 2, cells := 0, slots := 0, locals := 45 })).room s m args below meth c H locs 0 0 Q (F0 m 0 ls [])
set_option maxHeartbeats 40000000 in
set_option maxRecDepth 100000 in
theorem db_X13_character_79 {p : Program} {l : Launch} {e : Env} {s : State} {m : MethodId} {args : Array Value} {below : List Frame} {meth : Method} {c : Code} {Q : State → Prop} {A : Nat → Prop} {dC : Nat → ClassId} {dI : Nat → Nat → Nat} {a : Nat → Nat} {ac : Nat → ClassId} {n : Nat} {r : St} (C : nd_C p l s m args c A (dC, dI) cX13_character 2 RX13 ow_dm_X13_character (dk_X13 ac)) (K : nd_Kv p l e (headSpec ow_dm_X13_character ({ frames := 2, cells := 0, slots := 0, locals := 45 })).room s m args below meth c Q A (dC, dI) cX13_character (St) (dw_X13 a ac) r) : dj_X13_character_79 p l e s m args below meth c Q A dC dI a ac (df_X13_character_79 n) r := by
  obtain ⟨hlt, hx, hb, hml, hown, hts, hN, hA, hK⟩ := id C
  intro s0 H locs ls h hP hD hS hl
  unfold df_X13_character_79 at h
  exact K _ _ _ _ _ dX13_character_79 (Option.some.inj h).symm hP hD hS
set_option maxHeartbeats 40000000 in
set_option maxRecDepth 100000 in
theorem db_X13_character_75 {p : Program} {l : Launch} {e : Env} {s : State} {m : MethodId} {args : Array Value} {below : List Frame} {meth : Method} {c : Code} {Q : State → Prop} {A : Nat → Prop} {dC : Nat → ClassId} {dI : Nat → Nat → Nat} {a : Nat → Nat} {ac : Nat → ClassId} {n : Nat} {r : St} (C : nd_C p l s m args c A (dC, dI) cX13_character 2 RX13 ow_dm_X13_character (dk_X13 ac)) (K : nd_Kv p l e (headSpec ow_dm_X13_character ({ frames := 2, cells := 0, slots := 0, locals := 45 })).room s m args below meth c Q A (dC, dI) cX13_character (St) (dw_X13 a ac) r) : dj_X13_character_75 p l e s m args below meth c Q A dC dI a ac (df_X13_character_75 n) r := by
  obtain ⟨hlt, hx, hb, hml, hown, hts, hN, hA, hK⟩ := id C
  intro s0 H locs ls h hP hD hS hl
  unfold df_X13_character_75 at h
  refine lv_aload_n hx hb dX13_character_75 rfl (lv_at hl 0 rfl) ?_
  obtain ⟨s10, hq, h⟩ := nd_b1_e h
  have hPc := hP
  have hDc := hD
  have hKc := hK
  have hFc := nd_rs hD hS hA
  refine nd_cVv (As := []) (rest := []) (w' := dw_X13 a ac s10) ⟨hx, hb, hml, hown, hts⟩ (fun sz => dm_X13_bad l hlt dC dI a ac n  s0 hq sz) (cwV 0 hts gi_dm_X13_character_1 rfl rfl rfl (by decide +kernel) ⟨Nat.le_of_ble_eq_true rfl, Nat.le_of_ble_eq_true rfl⟩) hPc hDc hKc hS hA hN (va_recv hKc hPc (ci := 14) (q0 := 0) rfl rfl) rfl hl.1 rfl (Nat.le_of_ble_eq_true rfl) dX13_character_76 (fun H locs hP1 hD1 hk1 hS => ?_)
  have hP := hP1
  have hD := hD1.weaken (fun k q _ h => hFc q.1 h)
  exact (db_X13_character_79 C K)  s10 _ _ _ h hP hD hS (lv_sub hl [] rfl)
set_option maxHeartbeats 40000000 in
set_option maxRecDepth 100000 in
theorem db_X13_character_46 {p : Program} {l : Launch} {e : Env} {s : State} {m : MethodId} {args : Array Value} {below : List Frame} {meth : Method} {c : Code} {Q : State → Prop} {A : Nat → Prop} {dC : Nat → ClassId} {dI : Nat → Nat → Nat} {a : Nat → Nat} {ac : Nat → ClassId} {n : Nat} {r : St} (C : nd_C p l s m args c A (dC, dI) cX13_character 2 RX13 ow_dm_X13_character (dk_X13 ac)) (K : nd_Kv p l e (headSpec ow_dm_X13_character ({ frames := 2, cells := 0, slots := 0, locals := 45 })).room s m args below meth c Q A (dC, dI) cX13_character (St) (dw_X13 a ac) r) : dj_X13_character_46 p l e s m args below meth c Q A dC dI a ac (df_X13_character_46 n) r := by
  obtain ⟨hlt, hx, hb, hml, hown, hts, hN, hA, hK⟩ := id C
  intro y0 s0 H locs ls h hP hD hS hl
  unfold df_X13_character_46 at h
  refine lv_istore_n (lv' := [(1, .int y0), (0, .ref (a 0))]) hx hb dX13_character_46 rfl hl (by decide) rfl (fun ls hl => ?_)
  refine lv_aload_n hx hb dX13_character_47 rfl (lv_at hl 1 rfl) ?_
  refine lv_dup hx hb dX13_character_48 rfl ?_
  refine va_get (D := (dC, dI)) (ci := 14) (v := .int (sI s0 10)) (C := RX13) (T := TX13) (N := 37) hx hb hts hi_dm_X13_character_X13 hown hK hP 0 rfl rfl 19 (by decide) (hts (.fieldLink RX13 371 "TimeMachineModel$Assembler" "to" "I") (List.mem_of_getElem? (i := 8) rfl)) (fun _ h9 => h9) rfl dX13_character_49 ?_
  refine lv_iconst (v := 1) hx hb dX13_character_52 (by decide) ?_
  refine lv_iadd hx hb dX13_character_53 ?_
  refine va_put (D := (dC, dI)) (ci := 14) (v := .int ((sI s0 10) + 1)) (ty := .int) (C := RX13) (T := TX13) (N := 37) hx hb hts hi_dm_X13_character_X13 tyX13 tyX13_ok nmX13 hown hK hP hD hS 0 rfl rfl 19 (by decide) (hts (.fieldLink RX13 371 "TimeMachineModel$Assembler" "to" "I") (List.mem_of_getElem? (i := 8) rfl)) (fun _ h9 => h9) rfl (by decide +kernel) rfl rfl (Nat.le_of_ble_eq_true rfl) dX13_character_54 (fun H locs hP hD hS => ?_)
  obtain ⟨s7, es7, h⟩ := nd_let_e h
  have hP : va_P (dC, dI) vwCl (dw_X13 a ac s7) H := by rw [es7]; exact hP
  have hD : va_D A (dw_X13 a ac s7) := by rw [es7]; exact hD
  refine lv_iload_n hx hb dX13_character_57 rfl (lv_at hl 0 rfl) ?_
  refine lv_if_eq (tgt := 75) hx hb dX13_character_58 (by decide) (fun c8 => ?_) (fun c8 => ?_)
  · have h := nd_pos h c8
    exact (db_X13_character_75 C K)  s7 _ _ _ h hP hD hS (lv_sub hl [1] rfl)
  · have h := nd_neg h c8
    refine lv_aload_n hx hb dX13_character_61 rfl (lv_at hl 1 rfl) ?_
    refine lv_aload_n hx hb dX13_character_62 rfl (lv_at hl 1 rfl) ?_
    refine va_get (D := (dC, dI)) (ci := 14) (v := .int (sI s7 10)) (C := RX13) (T := TX13) (N := 37) hx hb hts hi_dm_X13_character_X13 hown hK hP 0 rfl rfl 19 (by decide) (hts (.fieldLink RX13 371 "TimeMachineModel$Assembler" "to" "I") (List.mem_of_getElem? (i := 8) rfl)) (fun _ h9 => h9) rfl dX13_character_63 ?_
    obtain ⟨q12, s13, hq, h⟩ := nd_b2_e h
    have hPc := hP
    have hDc := hD
    have hKc := hK
    have hFc := nd_rs hD hS hA
    refine nd_cVi (As := [.int (sI s7 10)]) (rest := []) (q := q12) (w' := dw_X13 a ac s13) ⟨hx, hb, hml, hown, hts⟩ (fun sz => dm_X13_charAt l hlt dC dI a ac n ((sI s7 10)) s7 hq sz) (cwV 1 hts gi_dm_X13_character_2 rfl rfl rfl (by decide +kernel) ⟨Nat.le_of_ble_eq_true rfl, Nat.le_of_ble_eq_true rfl⟩) hPc hDc hKc hS hA hN (va_recv hKc hPc (ci := 14) (q0 := 0) rfl rfl) rfl hl.1 rfl (Nat.le_of_ble_eq_true rfl) dX13_character_66 (fun H locs hP1 hD1 hk1 hS => ?_)
    have hP := hP1
    have hD := hD1.weaken (fun k q _ h => hFc q.1 h)
    obtain ⟨q15, s16, hq, h⟩ := nd_b2_e h
    have hPc : va_P (dC, dI) vwCl (dw_P a ac ()) H := nd_p0
    have hDc : va_D A (dw_P a ac ()) := nd_d0
    have hKc : va_K (dC, dI) vwCl (dk_P ac) s := nd_y0 hK
    have hFc : ∀ q, va_A (dw_P a ac ()) H.size q → A q := nd_r0 hS hA
    refine nd_cSi (As := [.int q12]) (rest := []) (q := q15) (w' := dw_P a ac s16) ⟨hx, hb, hml, hown, hts⟩ (fun sz => dm_X13_isPlain l hlt dC dI a ac n (q12) () hq sz) (cwS 1 hts gi_dm_X13_character_3 rfl rfl rfl (by decide +kernel) ⟨Nat.le_of_ble_eq_true rfl, Nat.le_of_ble_eq_true rfl⟩) hPc hDc hKc hS hA hN rfl hl.1 rfl (Nat.le_of_ble_eq_true rfl) dX13_character_69 (fun H locs hP1 hD1 hk1 hS => ?_)
    have hP := nd_n0 hP hk1
    refine lv_if_eq (tgt := 79) hx hb dX13_character_72 (by decide) (fun c18 => ?_) (fun c18 => ?_)
    · have h := nd_pos h c18
      exact (db_X13_character_79 C K)  s13 _ _ _ h hP hD hS (lv_sub hl [] rfl)
    · have h := nd_neg h c18
      exact (db_X13_character_75 C K)  s13 _ _ _ h hP hD hS (lv_sub hl [1] rfl)
set_option maxHeartbeats 40000000 in
set_option maxRecDepth 100000 in
theorem db_X13_character_45 {p : Program} {l : Launch} {e : Env} {s : State} {m : MethodId} {args : Array Value} {below : List Frame} {meth : Method} {c : Code} {Q : State → Prop} {A : Nat → Prop} {dC : Nat → ClassId} {dI : Nat → Nat → Nat} {a : Nat → Nat} {ac : Nat → ClassId} {n : Nat} {r : St} (C : nd_C p l s m args c A (dC, dI) cX13_character 2 RX13 ow_dm_X13_character (dk_X13 ac)) (K : nd_Kv p l e (headSpec ow_dm_X13_character ({ frames := 2, cells := 0, slots := 0, locals := 45 })).room s m args below meth c Q A (dC, dI) cX13_character (St) (dw_X13 a ac) r) : dj_X13_character_45 p l e s m args below meth c Q A dC dI a ac (df_X13_character_45 n) r := by
  obtain ⟨hlt, hx, hb, hml, hown, hts, hN, hA, hK⟩ := id C
  intro s0 H locs ls h hP hD hS hl
  unfold df_X13_character_45 at h
  refine lv_iconst (v := 0) hx hb dX13_character_45 (by decide) ?_
  exact (db_X13_character_46 C K) (0) s0 _ _ _ h hP hD hS (lv_sub hl [0] rfl)
set_option maxHeartbeats 40000000 in
set_option maxRecDepth 100000 in
theorem db_X13_character_0 {p : Program} {l : Launch} {e : Env} {s : State} {m : MethodId} {args : Array Value} {below : List Frame} {meth : Method} {c : Code} {Q : State → Prop} {A : Nat → Prop} {dC : Nat → ClassId} {dI : Nat → Nat → Nat} {a : Nat → Nat} {ac : Nat → ClassId} {n : Nat} {r : St} (C : nd_C p l s m args c A (dC, dI) cX13_character 2 RX13 ow_dm_X13_character (dk_X13 ac)) (K : nd_Kv p l e (headSpec ow_dm_X13_character ({ frames := 2, cells := 0, slots := 0, locals := 45 })).room s m args below meth c Q A (dC, dI) cX13_character (St) (dw_X13 a ac) r) : dj_X13_character_0 p l e s m args below meth c Q A dC dI a ac (df_X13_character_0 n) r := by
  obtain ⟨hlt, hx, hb, hml, hown, hts, hN, hA, hK⟩ := id C
  intro s0 H locs ls h hP hD hS hl
  unfold df_X13_character_0 at h
  refine lv_aload_n hx hb dX13_character_0 rfl (lv_at hl 0 rfl) ?_
  refine lv_aload_n hx hb dX13_character_1 rfl (lv_at hl 0 rfl) ?_
  refine lv_aload_n hx hb dX13_character_2 rfl (lv_at hl 0 rfl) ?_
  refine va_get (D := (dC, dI)) (ci := 14) (v := .int (sI s0 7)) (C := RX13) (T := TX13) (N := 37) hx hb hts hi_dm_X13_character_X13 hown hK hP 0 rfl rfl 16 (by decide) (hts (.fieldLink RX13 374 "TimeMachineModel$Assembler" "at" "I") (List.mem_of_getElem? (i := 1) rfl)) (fun _ h9 => h9) rfl dX13_character_3 ?_
  refine lv_iconst (v := 1) hx hb dX13_character_6 (by decide) ?_
  refine lv_iadd hx hb dX13_character_7 ?_
  refine lv_bipush (v := 39) hx hb dX13_character_8 (by decide) ?_
  obtain ⟨q1, s2, hq, h⟩ := nd_b2_e h
  have hPc := hP
  have hDc := hD
  have hKc := hK
  have hFc := nd_rs hD hS hA
  refine nd_cVi (As := [.int ((sI s0 7) + 1), .int 39]) (rest := [.ref (a 0)]) (q := q1) (w' := dw_X13 a ac s2) ⟨hx, hb, hml, hown, hts⟩ (fun sz => dm_X13_shown l hlt dC dI a ac n (((sI s0 7) + 1)) (39) s0 hq sz) (cwV 2 hts gi_dm_X13_character_0 rfl rfl rfl (by decide +kernel) ⟨Nat.le_of_ble_eq_true rfl, Nat.le_of_ble_eq_true rfl⟩) hPc hDc hKc hS hA hN (va_recv hKc hPc (ci := 14) (q0 := 0) rfl rfl) rfl hl.1 rfl (Nat.le_of_ble_eq_true rfl) dX13_character_10 (fun H locs hP1 hD1 hk1 hS => ?_)
  have hP := hP1
  have hD := hD1.weaken (fun k q _ h => hFc q.1 h)
  refine va_put (D := (dC, dI)) (ci := 14) (v := .int q1) (ty := .int) (C := RX13) (T := TX13) (N := 37) hx hb hts hi_dm_X13_character_X13 tyX13 tyX13_ok nmX13 hown hK hP hD hS 0 rfl rfl 20 (by decide) (hts (.fieldLink RX13 399 "TimeMachineModel$Assembler" "number" "I") (List.mem_of_getElem? (i := 6) rfl)) (fun _ h9 => h9) rfl (by decide +kernel) rfl rfl (Nat.le_of_ble_eq_true rfl) dX13_character_13 (fun H locs hP hD hS => ?_)
  obtain ⟨s4, es4, h⟩ := nd_let_e h
  have hP : va_P (dC, dI) vwCl (dw_X13 a ac s4) H := by rw [es4]; exact hP
  have hD : va_D A (dw_X13 a ac s4) := by rw [es4]; exact hD
  refine lv_aload_n hx hb dX13_character_16 rfl (lv_at hl 0 rfl) ?_
  refine lv_iconst (v := 2) hx hb dX13_character_17 (by decide) ?_
  refine va_put (D := (dC, dI)) (ci := 14) (v := .int 2) (ty := .int) (C := RX13) (T := TX13) (N := 37) hx hb hts hi_dm_X13_character_X13 tyX13 tyX13_ok nmX13 hown hK hP hD hS 0 rfl rfl 17 (by decide) (hts (.fieldLink RX13 365 "TimeMachineModel$Assembler" "token" "I") (List.mem_of_getElem? (i := 7) rfl)) (fun _ h9 => h9) rfl (by decide +kernel) rfl rfl (Nat.le_of_ble_eq_true rfl) dX13_character_18 (fun H locs hP hD hS => ?_)
  obtain ⟨s5, es5, h⟩ := nd_let_e h
  have hP : va_P (dC, dI) vwCl (dw_X13 a ac s5) H := by rw [es5]; exact hP
  have hD : va_D A (dw_X13 a ac s5) := by rw [es5]; exact hD
  refine lv_aload_n hx hb dX13_character_21 rfl (lv_at hl 0 rfl) ?_
  refine va_get (D := (dC, dI)) (ci := 14) (v := .int (sI s5 11)) (C := RX13) (T := TX13) (N := 37) hx hb hts hi_dm_X13_character_X13 hown hK hP 0 rfl rfl 20 (by decide) (hts (.fieldLink RX13 399 "TimeMachineModel$Assembler" "number" "I") (List.mem_of_getElem? (i := 6) rfl)) (fun _ h9 => h9) rfl dX13_character_22 ?_
  refine lv_if_lt (tgt := 45) hx hb dX13_character_25 (by decide) (fun c6 => ?_) (fun c6 => ?_)
  · have h := nd_pos h c6
    exact (db_X13_character_45 C K)  s5 _ _ _ h hP hD hS (lv_sub hl [0] rfl)
  · have h := nd_neg h c6
    refine lv_aload_n hx hb dX13_character_28 rfl (lv_at hl 0 rfl) ?_
    refine lv_aload_n hx hb dX13_character_29 rfl (lv_at hl 0 rfl) ?_
    refine va_get (D := (dC, dI)) (ci := 14) (v := .int (sI s5 10)) (C := RX13) (T := TX13) (N := 37) hx hb hts hi_dm_X13_character_X13 hown hK hP 0 rfl rfl 19 (by decide) (hts (.fieldLink RX13 371 "TimeMachineModel$Assembler" "to" "I") (List.mem_of_getElem? (i := 8) rfl)) (fun _ h9 => h9) rfl dX13_character_30 ?_
    obtain ⟨q19, s20, hq, h⟩ := nd_b2_e h
    have hPc := hP
    have hDc := hD
    have hKc := hK
    have hFc := nd_rs hD hS hA
    refine nd_cVi (As := [.int (sI s5 10)]) (rest := []) (q := q19) (w' := dw_X13 a ac s20) ⟨hx, hb, hml, hown, hts⟩ (fun sz => dm_X13_charAt l hlt dC dI a ac n ((sI s5 10)) s5 hq sz) (cwV 1 hts gi_dm_X13_character_2 rfl rfl rfl (by decide +kernel) ⟨Nat.le_of_ble_eq_true rfl, Nat.le_of_ble_eq_true rfl⟩) hPc hDc hKc hS hA hN (va_recv hKc hPc (ci := 14) (q0 := 0) rfl rfl) rfl hl.1 rfl (Nat.le_of_ble_eq_true rfl) dX13_character_33 (fun H locs hP1 hD1 hk1 hS => ?_)
    have hP := hP1
    have hD := hD1.weaken (fun k q _ h => hFc q.1 h)
    refine lv_bipush (v := 39) hx hb dX13_character_36 (by decide) ?_
    refine lv_icmp_ne (tgt := 45) hx hb dX13_character_38 (by decide) (fun c22 => ?_) (fun c22 => ?_)
    · have h := nd_neg h c22
      exact (db_X13_character_45 C K)  s20 _ _ _ h hP hD hS (lv_sub hl [0] rfl)
    · have h := nd_pos h c22
      refine lv_iconst (v := 1) hx hb dX13_character_41 (by decide) ?_
      refine lv_goto (tgt := 46) hx hb dX13_character_42 (by decide) ?_
      exact (db_X13_character_46 C K) (1) s20 _ _ _ h hP hD hS (lv_sub hl [0] rfl)
set_option maxHeartbeats 40000000 in
set_option maxRecDepth 100000 in
theorem dm_X13_character (l : Launch) (hlt : l.stackTraces = false) (dC : Nat → ClassId) (dI : Nat → Nat → Nat) (a : Nat → Nat) (ac : Nat → ClassId) (n : Nat) (s0 : St) {r : St} (h : df_X13_character n s0 = some r) (sz : Nat) : Met l yX13_character ow_dm_X13_character ({ frames := 2, cells := 0, slots := 0, locals := 45 }) (va_Pc [.ref (a 0)] (fun U => U.heap.size = sz ∧ va_P (dC, dI) vwCl (dw_X13 a ac s0) U.heap ∧ va_K (dC, dI) vwCl (dk_X13 ac) U ∧ va_D (fun _ => True) (dw_X13 a ac s0) ∧ nv_E (va_A (dw_X13 a ac s0) sz) U)) (va_Qv (fun _ => True) (fun (_ : Unit) t => va_P (dC, dI) vwCl (dw_X13 a ac r) t.heap ∧ va_K (dC, dI) vwCl (dk_X13 ac) t ∧ va_D (va_A (dw_X13 a ac s0) sz) (dw_X13 a ac r)) (va_A (dw_X13 a ac s0) sz)) 0 0 (va_A (dw_X13 a ac s0) sz) := by
  refine Met.ofW (cc := cX13_character) (maxL := 2) (ret := none) (by decide) rfl ?_
  intro p e s m args below meth c s₁ B hml hv
  obtain ⟨rfl, hsz, hP, hK, hD0, hN⟩ := hv
  have hx := B.exec
  have hb := B.bytes
  have hr := B.returns
  have hts := atoms_spec (ws := ow_dm_X13_character) B.pre
  have hown : s.vm.findClass RX13 = some m.cls := findClass_of_methodNamed B.named
  have hlocks := B.notSynchronized
  subst hsz
  have hD := hD0.self (sz := s.heap.size)
  generalize hAe : va_A (dw_X13 a ac s0) s.heap.size = A at hD hN ⊢
  have hA : ∀ q : Nat, s.heap.size ≤ q → A q := fun q h => by rw [← hAe]; exact Or.inr h
  have hl := lv_entry ([.ref (a 0)]) (n := 2) (Nat.le_of_ble_eq_true rfl)
  rw [lg_entry_eq]
  generalize (lg_sl ([.ref (a 0)]) ++ List.replicate (2 - (lg_sl ([.ref (a 0)])).length) Slot.unset).toArray = ls at hl ⊢
  have hl : lv_has ls 2 [(0, .ref (a 0))] := hl
  exact db_X13_character_0 (dC := dC) (dI := dI) (a := a) (ac := ac) (n := n) (r := r) ⟨hlt, hx, hb, hml, hown, hts, hN, hA, hK⟩ (fun pc τ H locs ls d er hP hD hS => by subst er; exact W.vret hx hb hr (fun t ht hW => ⟨⟨(), rfl, trivial, by rw [ht]; exact hP, va_K.moved hW.alike hK, hD⟩, hS.F ht⟩) hS.2.2 d) s0 _ _ _ h hP hD va_S.rf (lv_sub hl [0] rfl)
def ow_dm_X13_worth : List Cond := .code yX13_worth cX13_worth 1 (some .int) :: ([.methodLink RX13 351 yX13_isDigit, .static yX13_isDigit, .initialized RX13] ++ (ow_dm_X13_isDigit ++ []))
theorem gd_dm_X13_worth : ∀ w ∈ ow_dm_X13_worth, (w.onTables && w.keeps) = true ∨ ∃ ty, w = Cond.arrayClass ty := List.forall_mem_cons.mpr ⟨good_of_word rfl, List.forall_mem_append.mpr ⟨fun w h => good_of_word (List.all_eq_true.mp (by decide +kernel) w h), List.forall_mem_append.mpr ⟨gd_dm_X13_isDigit, fun _ h => nomatch h⟩⟩⟩
theorem gi_dm_X13_worth_0 : GoodIn ow_dm_X13_worth (wsS RX13 351 yX13_isDigit ow_dm_X13_isDigit) := goodIn_app (goodIn_of _ (by decide +kernel)) (fun w h => ⟨List.mem_cons_of_mem _ (List.mem_append_right _ (List.mem_append_left _ h)), gd_dm_X13_isDigit w h⟩)
def dj_X13_worth_60 (p : Program) (l : Launch) (e : Env) (s : State) (m : MethodId) (args : Array Value) (below : List Frame) (meth : Method) (c : Code) (Q : State → Prop) (A : Nat → Prop) (dC : Nat → ClassId) (dI : Nat → Nat → Nat) (a : Nat → Nat) (ac : Nat → ClassId) (g : Int32 → (Unit) → Option (Int32 × (Unit))) (r : Int32 × (Unit)) : Prop := ∀ (y0 : Int32) (s0 : Unit) (H : Heap) (locs : List Loc) (ls : Array Slot), g y0 s0 = some r → va_P (dC, dI) vwCl (dw_P a ac s0) H → va_D A (dw_P a ac s0) → va_S A s.heap H locs → lv_has ls 1 [] → W p l e (headSpec ow_dm_X13_worth ({ frames := 1, cells := 0, slots := 0, locals := 20 })).room s m args below meth c H locs 0 0 Q (F0 m 60 ls [.int y0])
def dj_X13_worth_58 (p : Program) (l : Launch) (e : Env) (s : State) (m : MethodId) (args : Array Value) (below : List Frame) (meth : Method) (c : Code) (Q : State → Prop) (A : Nat → Prop) (dC : Nat → ClassId) (dI : Nat → Nat → Nat) (a : Nat → Nat) (ac : Nat → ClassId) (g : (Unit) → Option (Int32 × (Unit))) (r : Int32 × (Unit)) : Prop := ∀ (s0 : Unit) (H : Heap) (locs : List Loc) (ls : Array Slot), g s0 = some r → va_P (dC, dI) vwCl (dw_P a ac s0) H → va_D A (dw_P a ac s0) → va_S A s.heap H locs → lv_has ls 1 [] → W p l e (headSpec ow_dm_X13_worth ({ frames := 1, cells := 0, slots := 0, locals := 20 })).room s m args below meth c H locs 0 0 Q (F0 m 58 ls [])
def dj_X13_worth_36 (p : Program) (l : Launch) (e : Env) (s : State) (m : MethodId) (args : Array Value) (below : List Frame) (meth : Method) (c : Code) (Q : State → Prop) (A : Nat → Prop) (dC : Nat → ClassId) (dI : Nat → Nat → Nat) (a : Nat → Nat) (ac : Nat → ClassId) (g : Int32 → (Unit) → Option (Int32 × (Unit))) (r : Int32 × (Unit)) : Prop := ∀ (x0 : Int32) (s0 : Unit) (H : Heap) (locs : List Loc) (ls : Array Slot), g x0 s0 = some r → va_P (dC, dI) vwCl (dw_P a ac s0) H → va_D A (dw_P a ac s0) → va_S A s.heap H locs → lv_has ls 1 [(0, .int x0)] → W p l e (headSpec ow_dm_X13_worth ({ frames := 1, cells := 0, slots := 0, locals := 20 })).room s m args below meth c H locs 0 0 Q (F0 m 36 ls [])
def dj_X13_worth_0 (p : Program) (l : Launch) (e : Env) (s : State) (m : MethodId) (args : Array Value) (below : List Frame) (meth : Method) (c : Code) (Q : State → Prop) (A : Nat → Prop) (dC : Nat → ClassId) (dI : Nat → Nat → Nat) (a : Nat → Nat) (ac : Nat → ClassId) (g : Int32 → (Unit) → Option (Int32 × (Unit))) (r : Int32 × (Unit)) : Prop := ∀ (v0 : Int32) (s0 : Unit) (H : Heap) (locs : List Loc) (ls : Array Slot), g v0 s0 = some r → va_P (dC, dI) vwCl (dw_P a ac s0) H → va_D A (dw_P a ac s0) → va_S A s.heap H locs → lv_has ls 1 [(0, .int v0)] → W p l e (headSpec ow_dm_X13_worth ({ frames := 1, cells := 0, slots := 0, locals := 20 })).room s m args below meth c H locs 0 0 Q (F0 m 0 ls [])
set_option maxHeartbeats 40000000 in
set_option maxRecDepth 100000 in
theorem db_X13_worth_60 {p : Program} {l : Launch} {e : Env} {s : State} {m : MethodId} {args : Array Value} {below : List Frame} {meth : Method} {c : Code} {Q : State → Prop} {A : Nat → Prop} {dC : Nat → ClassId} {dI : Nat → Nat → Nat} {a : Nat → Nat} {ac : Nat → ClassId} {n : Nat} {r : Int32 × (Unit)} (C : nd_C p l s m args c A (dC, dI) cX13_worth 1 RX13 ow_dm_X13_worth (dk_P ac)) (K : nd_Ki p l e (headSpec ow_dm_X13_worth ({ frames := 1, cells := 0, slots := 0, locals := 20 })).room s m args below meth c Q A (dC, dI) cX13_worth .int (Unit) (dw_P a ac) r) : dj_X13_worth_60 p l e s m args below meth c Q A dC dI a ac (df_X13_worth_60 n) r := by
  obtain ⟨hlt, hx, hb, hml, hown, hts, hN, hA, hK⟩ := id C
  intro y0 s0 H locs ls h hP hD hS hl
  unfold df_X13_worth_60 at h
  exact K _ _ _ _ _ _ dX13_worth_60 rfl (Option.some.inj h).symm hP hD hS
set_option maxHeartbeats 40000000 in
set_option maxRecDepth 100000 in
theorem db_X13_worth_58 {p : Program} {l : Launch} {e : Env} {s : State} {m : MethodId} {args : Array Value} {below : List Frame} {meth : Method} {c : Code} {Q : State → Prop} {A : Nat → Prop} {dC : Nat → ClassId} {dI : Nat → Nat → Nat} {a : Nat → Nat} {ac : Nat → ClassId} {n : Nat} {r : Int32 × (Unit)} (C : nd_C p l s m args c A (dC, dI) cX13_worth 1 RX13 ow_dm_X13_worth (dk_P ac)) (K : nd_Ki p l e (headSpec ow_dm_X13_worth ({ frames := 1, cells := 0, slots := 0, locals := 20 })).room s m args below meth c Q A (dC, dI) cX13_worth .int (Unit) (dw_P a ac) r) : dj_X13_worth_58 p l e s m args below meth c Q A dC dI a ac (df_X13_worth_58 n) r := by
  obtain ⟨hlt, hx, hb, hml, hown, hts, hN, hA, hK⟩ := id C
  intro s0 H locs ls h hP hD hS hl
  unfold df_X13_worth_58 at h
  refine lv_bipush (v := 99) hx hb dX13_worth_58 (by decide) ?_
  exact (db_X13_worth_60 C K) (99) s0 _ _ _ h hP hD hS (lv_sub hl [] rfl)
set_option maxHeartbeats 40000000 in
set_option maxRecDepth 100000 in
theorem db_X13_worth_36 {p : Program} {l : Launch} {e : Env} {s : State} {m : MethodId} {args : Array Value} {below : List Frame} {meth : Method} {c : Code} {Q : State → Prop} {A : Nat → Prop} {dC : Nat → ClassId} {dI : Nat → Nat → Nat} {a : Nat → Nat} {ac : Nat → ClassId} {n : Nat} {r : Int32 × (Unit)} (C : nd_C p l s m args c A (dC, dI) cX13_worth 1 RX13 ow_dm_X13_worth (dk_P ac)) (K : nd_Ki p l e (headSpec ow_dm_X13_worth ({ frames := 1, cells := 0, slots := 0, locals := 20 })).room s m args below meth c Q A (dC, dI) cX13_worth .int (Unit) (dw_P a ac) r) : dj_X13_worth_36 p l e s m args below meth c Q A dC dI a ac (df_X13_worth_36 n) r := by
  obtain ⟨hlt, hx, hb, hml, hown, hts, hN, hA, hK⟩ := id C
  intro x0 s0 H locs ls h hP hD hS hl
  unfold df_X13_worth_36 at h
  refine lv_iload_n hx hb dX13_worth_36 rfl (lv_at hl 0 rfl) ?_
  refine lv_bipush (v := 65) hx hb dX13_worth_37 (by decide) ?_
  refine lv_icmp_lt (tgt := 58) hx hb dX13_worth_39 (by decide) (fun c6 => ?_) (fun c6 => ?_)
  · have h := nd_pos h c6
    exact (db_X13_worth_58 C K)  s0 _ _ _ h hP hD hS (lv_sub hl [] rfl)
  · have h := nd_neg h c6
    refine lv_iload_n hx hb dX13_worth_42 rfl (lv_at hl 0 rfl) ?_
    refine lv_bipush (v := 70) hx hb dX13_worth_43 (by decide) ?_
    refine lv_icmp_gt (tgt := 58) hx hb dX13_worth_45 (by decide) (fun c7 => ?_) (fun c7 => ?_)
    · have h := nd_pos h c7
      exact (db_X13_worth_58 C K)  s0 _ _ _ h hP hD hS (lv_sub hl [] rfl)
    · have h := nd_neg h c7
      refine lv_iload_n hx hb dX13_worth_48 rfl (lv_at hl 0 rfl) ?_
      refine lv_bipush (v := 65) hx hb dX13_worth_49 (by decide) ?_
      refine lv_isub hx hb dX13_worth_51 ?_
      refine lv_bipush (v := 10) hx hb dX13_worth_52 (by decide) ?_
      refine lv_iadd hx hb dX13_worth_54 ?_
      refine lv_goto (tgt := 60) hx hb dX13_worth_55 (by decide) ?_
      exact (db_X13_worth_60 C K) (((x0 - 65) + 10)) s0 _ _ _ h hP hD hS (lv_sub hl [] rfl)
set_option maxHeartbeats 40000000 in
set_option maxRecDepth 100000 in
theorem db_X13_worth_0 {p : Program} {l : Launch} {e : Env} {s : State} {m : MethodId} {args : Array Value} {below : List Frame} {meth : Method} {c : Code} {Q : State → Prop} {A : Nat → Prop} {dC : Nat → ClassId} {dI : Nat → Nat → Nat} {a : Nat → Nat} {ac : Nat → ClassId} {n : Nat} {r : Int32 × (Unit)} (C : nd_C p l s m args c A (dC, dI) cX13_worth 1 RX13 ow_dm_X13_worth (dk_P ac)) (K : nd_Ki p l e (headSpec ow_dm_X13_worth ({ frames := 1, cells := 0, slots := 0, locals := 20 })).room s m args below meth c Q A (dC, dI) cX13_worth .int (Unit) (dw_P a ac) r) : dj_X13_worth_0 p l e s m args below meth c Q A dC dI a ac (df_X13_worth_0 n) r := by
  obtain ⟨hlt, hx, hb, hml, hown, hts, hN, hA, hK⟩ := id C
  intro v0 s0 H locs ls h hP hD hS hl
  unfold df_X13_worth_0 at h
  refine lv_iload_n hx hb dX13_worth_0 rfl (lv_at hl 0 rfl) ?_
  obtain ⟨q1, s2, hq, h⟩ := nd_b2_e h
  have hPc : va_P (dC, dI) vwCl (dw_P a ac ()) H := nd_p0
  have hDc : va_D A (dw_P a ac ()) := nd_d0
  have hKc : va_K (dC, dI) vwCl (dk_P ac) s := nd_y0 hK
  have hFc : ∀ q, va_A (dw_P a ac ()) H.size q → A q := nd_r0 hS hA
  refine nd_cSi (As := [.int v0]) (rest := []) (q := q1) (w' := dw_P a ac s2) ⟨hx, hb, hml, hown, hts⟩ (fun sz => dm_X13_isDigit l hlt dC dI a ac n (v0) () hq sz) (cwS 1 hts gi_dm_X13_worth_0 rfl rfl rfl (by decide +kernel) ⟨Nat.le_of_ble_eq_true rfl, Nat.le_of_ble_eq_true rfl⟩) hPc hDc hKc hS hA hN rfl hl.1 rfl (Nat.le_of_ble_eq_true rfl) dX13_worth_1 (fun H locs hP1 hD1 hk1 hS => ?_)
  have hP := nd_n0 hP hk1
  refine lv_if_eq (tgt := 14) hx hb dX13_worth_4 (by decide) (fun c4 => ?_) (fun c4 => ?_)
  · have h := nd_pos h c4
    refine lv_iload_n hx hb dX13_worth_14 rfl (lv_at hl 0 rfl) ?_
    refine lv_bipush (v := 97) hx hb dX13_worth_15 (by decide) ?_
    refine lv_icmp_lt (tgt := 36) hx hb dX13_worth_17 (by decide) (fun c5 => ?_) (fun c5 => ?_)
    · have h := nd_pos h c5
      exact (db_X13_worth_36 C K) (v0) s0 _ _ _ h hP hD hS (lv_sub hl [0] rfl)
    · have h := nd_neg h c5
      refine lv_iload_n hx hb dX13_worth_20 rfl (lv_at hl 0 rfl) ?_
      refine lv_bipush (v := 102) hx hb dX13_worth_21 (by decide) ?_
      refine lv_icmp_gt (tgt := 36) hx hb dX13_worth_23 (by decide) (fun c8 => ?_) (fun c8 => ?_)
      · have h := nd_pos h c8
        exact (db_X13_worth_36 C K) (v0) s0 _ _ _ h hP hD hS (lv_sub hl [0] rfl)
      · have h := nd_neg h c8
        refine lv_iload_n hx hb dX13_worth_26 rfl (lv_at hl 0 rfl) ?_
        refine lv_bipush (v := 97) hx hb dX13_worth_27 (by decide) ?_
        refine lv_isub hx hb dX13_worth_29 ?_
        refine lv_bipush (v := 10) hx hb dX13_worth_30 (by decide) ?_
        refine lv_iadd hx hb dX13_worth_32 ?_
        refine lv_goto (tgt := 60) hx hb dX13_worth_33 (by decide) ?_
        exact (db_X13_worth_60 C K) (((v0 - 97) + 10)) s0 _ _ _ h hP hD hS (lv_sub hl [] rfl)
  · have h := nd_neg h c4
    refine lv_iload_n hx hb dX13_worth_7 rfl (lv_at hl 0 rfl) ?_
    refine lv_bipush (v := 48) hx hb dX13_worth_8 (by decide) ?_
    refine lv_isub hx hb dX13_worth_10 ?_
    refine lv_goto (tgt := 60) hx hb dX13_worth_11 (by decide) ?_
    exact (db_X13_worth_60 C K) ((v0 - 48)) s0 _ _ _ h hP hD hS (lv_sub hl [] rfl)
set_option maxHeartbeats 40000000 in
set_option maxRecDepth 100000 in
theorem dm_X13_worth (l : Launch) (hlt : l.stackTraces = false) (dC : Nat → ClassId) (dI : Nat → Nat → Nat) (a : Nat → Nat) (ac : Nat → ClassId) (n : Nat) (v0 : Int32) (s0 : Unit) {r : Int32 × (Unit)} (h : df_X13_worth n v0 s0 = some r) (sz : Nat) : Met l yX13_worth ow_dm_X13_worth ({ frames := 1, cells := 0, slots := 0, locals := 20 }) (va_Pc [.int v0] (fun U => U.heap.size = sz ∧ va_P (dC, dI) vwCl (dw_P a ac s0) U.heap ∧ va_K (dC, dI) vwCl (dk_P ac) U ∧ va_D (fun _ => True) (dw_P a ac s0) ∧ nv_E (va_A (dw_P a ac s0) sz) U)) (va_Qi (fun x _ => x = r.1) (fun (_ : Unit) t => va_P (dC, dI) vwCl (dw_P a ac r.2) t.heap ∧ va_K (dC, dI) vwCl (dk_P ac) t ∧ va_D (va_A (dw_P a ac s0) sz) (dw_P a ac r.2)) (va_A (dw_P a ac s0) sz)) 0 0 (va_A (dw_P a ac s0) sz) := by
  refine Met.ofW (cc := cX13_worth) (maxL := 1) (ret := (some .int)) (by decide) rfl ?_
  intro p e s m args below meth c s₁ B hml hv
  obtain ⟨rfl, hsz, hP, hK, hD0, hN⟩ := hv
  have hx := B.exec
  have hb := B.bytes
  have hr := B.returns
  have hts := atoms_spec (ws := ow_dm_X13_worth) B.pre
  have hown : s.vm.findClass RX13 = some m.cls := findClass_of_methodNamed B.named
  have hlocks := B.notSynchronized
  subst hsz
  have hD := hD0.self (sz := s.heap.size)
  generalize hAe : va_A (dw_P a ac s0) s.heap.size = A at hD hN ⊢
  have hA : ∀ q : Nat, s.heap.size ≤ q → A q := fun q h => by rw [← hAe]; exact Or.inr h
  have hl := lv_entry ([.int v0]) (n := 1) (Nat.le_of_ble_eq_true rfl)
  rw [lg_entry_eq]
  generalize (lg_sl ([.int v0]) ++ List.replicate (1 - (lg_sl ([.int v0])).length) Slot.unset).toArray = ls at hl ⊢
  have hl : lv_has ls 1 [(0, .int v0)] := hl
  exact db_X13_worth_0 (dC := dC) (dI := dI) (a := a) (ac := ac) (n := n) (r := r) ⟨hlt, hx, hb, hml, hown, hts, hN, hA, hK⟩ (fun pc v τ H locs ls d z er hP hD hS => by subst er; exact W.zret (v := v) hx hb hr z (fun t ht hW => ⟨⟨v, (), rfl, rfl, by rw [ht]; exact hP, va_K.moved hW.alike hK, hD⟩, hS.F ht⟩) hS.2.2 d) v0 s0 _ _ _ h hP hD va_S.rf (lv_sub hl [0] rfl)
def ow_dm_X13_numeral : List Cond := .code yX13_numeral cX13_numeral 8 (some .long) :: ([.constantLong RX13 392 (-1), .fieldLink RX13 324 "TimeMachineModel$Assembler" "text" "[C", .methodLink RX13 394 yX13_worth, .static yX13_worth, .initialized RX13, .constantLong RX13 397 (4294967295)] ++ (u_ws RX13 TX13 37 ++ (ow_dm_X13_worth ++ [])))
theorem gd_dm_X13_numeral : ∀ w ∈ ow_dm_X13_numeral, (w.onTables && w.keeps) = true ∨ ∃ ty, w = Cond.arrayClass ty := List.forall_mem_cons.mpr ⟨good_of_word rfl, List.forall_mem_append.mpr ⟨fun w h => good_of_word (List.all_eq_true.mp (by decide +kernel) w h), List.forall_mem_append.mpr ⟨gu_X13, List.forall_mem_append.mpr ⟨gd_dm_X13_worth, fun _ h => nomatch h⟩⟩⟩⟩
theorem hi_dm_X13_numeral_X13 : ∀ w ∈ u_ws RX13 TX13 37, w ∈ ow_dm_X13_numeral := fun w h => List.mem_cons_of_mem _ (List.mem_append_right _ (List.mem_append_left _ h))
theorem gi_dm_X13_numeral_0 : GoodIn ow_dm_X13_numeral (wsS RX13 394 yX13_worth ow_dm_X13_worth) := goodIn_app (goodIn_of _ (by decide +kernel)) (fun w h => ⟨List.mem_cons_of_mem _ (List.mem_append_right _ (List.mem_append_right _ (List.mem_append_left _ h))), gd_dm_X13_worth w h⟩)
def dj_X13_numeral_90 (p : Program) (l : Launch) (e : Env) (s : State) (m : MethodId) (args : Array Value) (below : List Frame) (meth : Method) (c : Code) (Q : State → Prop) (A : Nat → Prop) (dC : Nat → ClassId) (dI : Nat → Nat → Nat) (a : Nat → Nat) (ac : Nat → ClassId) (g : Int64 → (St) → Option (Int64 × (St))) (r : Int64 × (St)) : Prop := ∀ (x4 : Int64) (s0 : St) (H : Heap) (locs : List Loc) (ls : Array Slot), g x4 s0 = some r → va_P (dC, dI) vwCl (dw_X13 a ac s0) H → va_D A (dw_X13 a ac s0) → va_S A s.heap H locs → lv_has ls 8 [(4, .long x4)] → W p l e (headSpec ow_dm_X13_numeral ({ frames := 2, cells := 0, slots := 0, locals := 40 })).room s m args below meth c H locs 0 0 Q (F0 m 90 ls [])
def dj_X13_numeral_82 (p : Program) (l : Launch) (e : Env) (s : State) (m : MethodId) (args : Array Value) (below : List Frame) (meth : Method) (c : Code) (Q : State → Prop) (A : Nat → Prop) (dC : Nat → ClassId) (dI : Nat → Nat → Nat) (a : Nat → Nat) (ac : Nat → ClassId) (g : Int32 → Int32 → Int32 → Int64 → (St) → Option (Int64 × (St))) (r : Int64 × (St)) : Prop := ∀ (x2 : Int32) (x3 : Int32) (x6 : Int32) (y0 : Int64) (s0 : St) (H : Heap) (locs : List Loc) (ls : Array Slot), g x2 x3 x6 y0 s0 = some r → va_P (dC, dI) vwCl (dw_X13 a ac s0) H → va_D A (dw_X13 a ac s0) → va_S A s.heap H locs → lv_has ls 8 [(0, .ref (a 0)), (2, .int x2), (3, .int x3), (6, .int x6)] → W p l e (headSpec ow_dm_X13_numeral ({ frames := 2, cells := 0, slots := 0, locals := 40 })).room s m args below meth c H locs 0 0 Q (F0 m 82 ls [.long y0])
def dj_X13_numeral_63 (p : Program) (l : Launch) (e : Env) (s : State) (m : MethodId) (args : Array Value) (below : List Frame) (meth : Method) (c : Code) (Q : State → Prop) (A : Nat → Prop) (dC : Nat → ClassId) (dI : Nat → Nat → Nat) (a : Nat → Nat) (ac : Nat → ClassId) (g : Int32 → Int32 → Int32 → Int64 → (St) → Option (Int64 × (St))) (r : Int64 × (St)) : Prop := ∀ (x2 : Int32) (x3 : Int32) (x6 : Int32) (y0 : Int64) (s0 : St) (H : Heap) (locs : List Loc) (ls : Array Slot), g x2 x3 x6 y0 s0 = some r → va_P (dC, dI) vwCl (dw_X13 a ac s0) H → va_D A (dw_X13 a ac s0) → va_S A s.heap H locs → lv_has ls 8 [(0, .ref (a 0)), (2, .int x2), (3, .int x3), (6, .int x6)] → W p l e (headSpec ow_dm_X13_numeral ({ frames := 2, cells := 0, slots := 0, locals := 40 })).room s m args below meth c H locs 0 0 Q (F0 m 63 ls [.long y0])
def dj_X13_numeral_17 (p : Program) (l : Launch) (e : Env) (s : State) (m : MethodId) (args : Array Value) (below : List Frame) (meth : Method) (c : Code) (Q : State → Prop) (A : Nat → Prop) (dC : Nat → ClassId) (dI : Nat → Nat → Nat) (a : Nat → Nat) (ac : Nat → ClassId) (g : Int32 → Int32 → Int64 → Int32 → (St) → Option (Int64 × (St))) (r : Int64 × (St)) : Prop := ∀ (x2 : Int32) (x3 : Int32) (x4 : Int64) (x6 : Int32) (s0 : St) (H : Heap) (locs : List Loc) (ls : Array Slot), g x2 x3 x4 x6 s0 = some r → va_P (dC, dI) vwCl (dw_X13 a ac s0) H → va_D A (dw_X13 a ac s0) → va_S A s.heap H locs → lv_has ls 8 [(0, .ref (a 0)), (2, .int x2), (3, .int x3), (4, .long x4), (6, .int x6)] → W p l e (headSpec ow_dm_X13_numeral ({ frames := 2, cells := 0, slots := 0, locals := 40 })).room s m args below meth c H locs 0 0 Q (F0 m 17 ls [])
def dj_X13_numeral_12 (p : Program) (l : Launch) (e : Env) (s : State) (m : MethodId) (args : Array Value) (below : List Frame) (meth : Method) (c : Code) (Q : State → Prop) (A : Nat → Prop) (dC : Nat → ClassId) (dI : Nat → Nat → Nat) (a : Nat → Nat) (ac : Nat → ClassId) (g : Int32 → Int32 → Int32 → Int64 → (St) → Option (Int64 × (St))) (r : Int64 × (St)) : Prop := ∀ (x1 : Int32) (x2 : Int32) (x3 : Int32) (y0 : Int64) (s0 : St) (H : Heap) (locs : List Loc) (ls : Array Slot), g x1 x2 x3 y0 s0 = some r → va_P (dC, dI) vwCl (dw_X13 a ac s0) H → va_D A (dw_X13 a ac s0) → va_S A s.heap H locs → lv_has ls 8 [(0, .ref (a 0)), (1, .int x1), (2, .int x2), (3, .int x3)] → W p l e (headSpec ow_dm_X13_numeral ({ frames := 2, cells := 0, slots := 0, locals := 40 })).room s m args below meth c H locs 0 0 Q (F0 m 12 ls [.long y0])
def dj_X13_numeral_0 (p : Program) (l : Launch) (e : Env) (s : State) (m : MethodId) (args : Array Value) (below : List Frame) (meth : Method) (c : Code) (Q : State → Prop) (A : Nat → Prop) (dC : Nat → ClassId) (dI : Nat → Nat → Nat) (a : Nat → Nat) (ac : Nat → ClassId) (g : Int32 → Int32 → Int32 → (St) → Option (Int64 × (St))) (r : Int64 × (St)) : Prop := ∀ (v0 : Int32) (v1 : Int32) (v2 : Int32) (s0 : St) (H : Heap) (locs : List Loc) (ls : Array Slot), g v0 v1 v2 s0 = some r → va_P (dC, dI) vwCl (dw_X13 a ac s0) H → va_D A (dw_X13 a ac s0) → va_S A s.heap H locs → lv_has ls 8 [(0, .ref (a 0)), (1, .int v0), (2, .int v1), (3, .int v2)] → W p l e (headSpec ow_dm_X13_numeral ({ frames := 2, cells := 0, slots := 0, locals := 40 })).room s m args below meth c H locs 0 0 Q (F0 m 0 ls [])
set_option maxHeartbeats 40000000 in
set_option maxRecDepth 100000 in
theorem db_X13_numeral_90 {p : Program} {l : Launch} {e : Env} {s : State} {m : MethodId} {args : Array Value} {below : List Frame} {meth : Method} {c : Code} {Q : State → Prop} {A : Nat → Prop} {dC : Nat → ClassId} {dI : Nat → Nat → Nat} {a : Nat → Nat} {ac : Nat → ClassId} {n : Nat} {r : Int64 × (St)} (C : nd_C p l s m args c A (dC, dI) cX13_numeral 8 RX13 ow_dm_X13_numeral (dk_X13 ac)) (K : nd_Kl p l e (headSpec ow_dm_X13_numeral ({ frames := 2, cells := 0, slots := 0, locals := 40 })).room s m args below meth c Q A (dC, dI) cX13_numeral (St) (dw_X13 a ac) r) : dj_X13_numeral_90 p l e s m args below meth c Q A dC dI a ac (df_X13_numeral_90 n) r := by
  obtain ⟨hlt, hx, hb, hml, hown, hts, hN, hA, hK⟩ := id C
  intro x4 s0 H locs ls h hP hD hS hl
  unfold df_X13_numeral_90 at h
  refine lv_lload hx hb dX13_numeral_90 (lv_at hl 0 rfl) ?_
  exact K _ _ _ _ _ _ dX13_numeral_92 (Option.some.inj h).symm hP hD hS
set_option maxHeartbeats 40000000 in
set_option maxRecDepth 100000 in
theorem db_X13_numeral_82 {p : Program} {l : Launch} {e : Env} {s : State} {m : MethodId} {args : Array Value} {below : List Frame} {meth : Method} {c : Code} {Q : State → Prop} {A : Nat → Prop} {dC : Nat → ClassId} {dI : Nat → Nat → Nat} {a : Nat → Nat} {ac : Nat → ClassId} {n : Nat} {r : Int64 × (St)} (C : nd_C p l s m args c A (dC, dI) cX13_numeral 8 RX13 ow_dm_X13_numeral (dk_X13 ac)) (K : nd_Kl p l e (headSpec ow_dm_X13_numeral ({ frames := 2, cells := 0, slots := 0, locals := 40 })).room s m args below meth c Q A (dC, dI) cX13_numeral (St) (dw_X13 a ac) r) {g17 : Int32 → Int32 → Int64 → Int32 → (St) → Option (Int64 × (St))} (J17 : dj_X13_numeral_17 p l e s m args below meth c Q A dC dI a ac g17 r) : dj_X13_numeral_82 p l e s m args below meth c Q A dC dI a ac (df_X13_numeral_82 n g17) r := by
  obtain ⟨hlt, hx, hb, hml, hown, hts, hN, hA, hK⟩ := id C
  intro x2 x3 x6 y0 s0 H locs ls h hP hD hS hl
  unfold df_X13_numeral_82 at h
  refine lv_lstore (lv' := [(4, .long y0), (0, .ref (a 0)), (2, .int x2), (3, .int x3), (6, .int x6)]) hx hb dX13_numeral_82 hl (by decide) rfl (fun ls hl => ?_)
  obtain ⟨z10, ez10, h⟩ := nd_let_e h
  refine lv_iinc (v := z10) (lv' := [(6, .int z10), (4, .long y0), (0, .ref (a 0)), (2, .int x2), (3, .int x3)]) hx hb dX13_numeral_84 hl (k := 4) rfl (by rw [ez10]) (by decide) rfl (fun ls hl => ?_)
  refine lv_goto (tgt := 17) hx hb dX13_numeral_87 (by decide) ?_
  exact (J17) (x2) (x3) (y0) (z10) s0 _ _ _ h hP hD hS (lv_sub hl [2, 3, 4, 1, 0] rfl)
set_option maxHeartbeats 40000000 in
set_option maxRecDepth 100000 in
theorem db_X13_numeral_63 {p : Program} {l : Launch} {e : Env} {s : State} {m : MethodId} {args : Array Value} {below : List Frame} {meth : Method} {c : Code} {Q : State → Prop} {A : Nat → Prop} {dC : Nat → ClassId} {dI : Nat → Nat → Nat} {a : Nat → Nat} {ac : Nat → ClassId} {n : Nat} {r : Int64 × (St)} (C : nd_C p l s m args c A (dC, dI) cX13_numeral 8 RX13 ow_dm_X13_numeral (dk_X13 ac)) (K : nd_Kl p l e (headSpec ow_dm_X13_numeral ({ frames := 2, cells := 0, slots := 0, locals := 40 })).room s m args below meth c Q A (dC, dI) cX13_numeral (St) (dw_X13 a ac) r) {g17 : Int32 → Int32 → Int64 → Int32 → (St) → Option (Int64 × (St))} (J17 : dj_X13_numeral_17 p l e s m args below meth c Q A dC dI a ac g17 r) : dj_X13_numeral_63 p l e s m args below meth c Q A dC dI a ac (df_X13_numeral_63 n g17) r := by
  obtain ⟨hlt, hx, hb, hml, hown, hts, hN, hA, hK⟩ := id C
  intro x2 x3 x6 y0 s0 H locs ls h hP hD hS hl
  unfold df_X13_numeral_63 at h
  refine lv_lstore (lv' := [(4, .long y0), (0, .ref (a 0)), (2, .int x2), (3, .int x3), (6, .int x6)]) hx hb dX13_numeral_63 hl (by decide) rfl (fun ls hl => ?_)
  refine lv_lload hx hb dX13_numeral_65 (lv_at hl 0 rfl) ?_
  refine lv_ldc2 hx hb hown (hts (.constantLong RX13 397 (4294967295)) (List.mem_of_getElem? (i := 6) rfl)) dX13_numeral_67 ?_
  refine W.lcmp hx hb dX13_numeral_70 ?_
  refine lv_if_le (tgt := 80) hx hb dX13_numeral_71 (by decide) (fun c9 => ?_) (fun c9 => ?_)
  · have h := nd_pos h c9
    refine lv_lload hx hb dX13_numeral_80 (lv_at hl 0 rfl) ?_
    exact (db_X13_numeral_82 C K J17) (x2) (x3) (x6) (y0) s0 _ _ _ h hP hD hS (lv_sub hl [1, 2, 3, 4] rfl)
  · have h := nd_neg h c9
    refine lv_ldc2 hx hb hown (hts (.constantLong RX13 392 (-1)) (List.mem_of_getElem? (i := 1) rfl)) dX13_numeral_74 ?_
    refine lv_goto (tgt := 82) hx hb dX13_numeral_77 (by decide) ?_
    exact (db_X13_numeral_82 C K J17) (x2) (x3) (x6) ((-1)) s0 _ _ _ h hP hD hS (lv_sub hl [1, 2, 3, 4] rfl)
set_option maxHeartbeats 40000000 in
set_option maxRecDepth 100000 in
theorem dB_X13_numeral_17 {p : Program} {l : Launch} {e : Env} {s : State} {m : MethodId} {args : Array Value} {below : List Frame} {meth : Method} {c : Code} {Q : State → Prop} {A : Nat → Prop} {dC : Nat → ClassId} {dI : Nat → Nat → Nat} {a : Nat → Nat} {ac : Nat → ClassId} {n : Nat} {r : Int64 × (St)} (C : nd_C p l s m args c A (dC, dI) cX13_numeral 8 RX13 ow_dm_X13_numeral (dk_X13 ac)) (K : nd_Kl p l e (headSpec ow_dm_X13_numeral ({ frames := 2, cells := 0, slots := 0, locals := 40 })).room s m args below meth c Q A (dC, dI) cX13_numeral (St) (dw_X13 a ac) r) {g17 : Int32 → Int32 → Int64 → Int32 → (St) → Option (Int64 × (St))} (J17 : dj_X13_numeral_17 p l e s m args below meth c Q A dC dI a ac g17 r) : dj_X13_numeral_17 p l e s m args below meth c Q A dC dI a ac (dF_X13_numeral_17 n g17) r := by
  obtain ⟨hlt, hx, hb, hml, hown, hts, hN, hA, hK⟩ := id C
  intro x2 x3 x4 x6 s0 H locs ls h hP hD hS hl
  unfold dF_X13_numeral_17 at h
  refine lv_iload hx hb dX13_numeral_17 (lv_at hl 4 rfl) ?_
  refine lv_iload_n hx hb dX13_numeral_19 rfl (lv_at hl 1 rfl) ?_
  refine lv_icmp_ge (tgt := 90) hx hb dX13_numeral_20 (by decide) (fun c2 => ?_) (fun c2 => ?_)
  · have h := nd_pos h c2
    exact (db_X13_numeral_90 C K) (x4) s0 _ _ _ h hP hD hS (lv_sub hl [3] rfl)
  · have h := nd_neg h c2
    refine lv_lload hx hb dX13_numeral_23 (lv_at hl 3 rfl) ?_
    refine lv_lconst (v := 0) hx hb dX13_numeral_25 (by decide) ?_
    refine W.lcmp hx hb dX13_numeral_26 ?_
    refine lv_if_lt (tgt := 90) hx hb dX13_numeral_27 (by decide) (fun c3 => ?_) (fun c3 => ?_)
    · have h := nd_pos h c3
      exact (db_X13_numeral_90 C K) (x4) s0 _ _ _ h hP hD hS (lv_sub hl [3] rfl)
    · have h := nd_neg h c3
      refine lv_aload_n hx hb dX13_numeral_30 rfl (lv_at hl 0 rfl) ?_
      refine va_get (D := (dC, dI)) (ci := 14) (v := .ref (a 4)) (C := RX13) (T := TX13) (N := 37) hx hb hts hi_dm_X13_numeral_X13 hown hK hP 0 rfl rfl 3 (by decide) (hts (.fieldLink RX13 324 "TimeMachineModel$Assembler" "text" "[C") (List.mem_of_getElem? (i := 2) rfl)) (fun _ h9 => h9) rfl dX13_numeral_31 ?_
      refine lv_iload hx hb dX13_numeral_34 (lv_at hl 4 rfl) ?_
      obtain ⟨i4, h⟩ := nd_ck_e h
      refine va_cald (i := x6) hx hb hK hP 4 3 rfl rfl i4 dX13_numeral_36 ?_
      obtain ⟨q5, s6, hq, h⟩ := nd_b2_e h
      have hPc : va_P (dC, dI) vwCl (dw_P a ac ()) H := nd_p0
      have hDc : va_D A (dw_P a ac ()) := nd_d0
      have hKc : va_K (dC, dI) vwCl (dk_P ac) s := nd_y0 hK
      have hFc : ∀ q, va_A (dw_P a ac ()) H.size q → A q := nd_r0 hS hA
      refine nd_cSi (As := [.int (sR s0 2 (Int32.toNatClampNeg x6))]) (rest := []) (q := q5) (w' := dw_P a ac s6) ⟨hx, hb, hml, hown, hts⟩ (fun sz => dm_X13_worth l hlt dC dI a ac n ((sR s0 2 (Int32.toNatClampNeg x6))) () hq sz) (cwS 1 hts gi_dm_X13_numeral_0 rfl rfl rfl (by decide +kernel) ⟨Nat.le_of_ble_eq_true rfl, Nat.le_of_ble_eq_true rfl⟩) hPc hDc hKc hS hA hN rfl hl.1 rfl (Nat.le_of_ble_eq_true rfl) dX13_numeral_37 (fun H locs hP1 hD1 hk1 hS => ?_)
      have hP := nd_n0 hP hk1
      refine lv_istore (lv' := [(7, .int q5), (0, .ref (a 0)), (2, .int x2), (3, .int x3), (4, .long x4), (6, .int x6)]) hx hb dX13_numeral_40 hl (by decide) rfl (fun ls hl => ?_)
      refine lv_iload hx hb dX13_numeral_42 (lv_at hl 0 rfl) ?_
      refine lv_iload_n hx hb dX13_numeral_44 rfl (lv_at hl 3 rfl) ?_
      refine lv_icmp_ge (tgt := 60) hx hb dX13_numeral_45 (by decide) (fun c8 => ?_) (fun c8 => ?_)
      · have h := nd_pos h c8
        refine lv_ldc2 hx hb hown (hts (.constantLong RX13 392 (-1)) (List.mem_of_getElem? (i := 1) rfl)) dX13_numeral_60 ?_
        exact (db_X13_numeral_63 C K J17) (x2) (x3) (x6) ((-1)) s0 _ _ _ h hP hD hS (lv_sub hl [1, 2, 3, 5] rfl)
      · have h := nd_neg h c8
        refine lv_lload hx hb dX13_numeral_48 (lv_at hl 4 rfl) ?_
        refine lv_iload_n hx hb dX13_numeral_50 rfl (lv_at hl 3 rfl) ?_
        refine lv_i2l hx hb dX13_numeral_51 rfl ?_
        refine lv_lmul hx hb dX13_numeral_52 ?_
        refine lv_iload hx hb dX13_numeral_53 (lv_at hl 0 rfl) ?_
        refine lv_i2l hx hb dX13_numeral_55 rfl ?_
        refine lv_ladd hx hb dX13_numeral_56 ?_
        refine lv_goto (tgt := 63) hx hb dX13_numeral_57 (by decide) ?_
        exact (db_X13_numeral_63 C K J17) (x2) (x3) (x6) (((((x4 : Int64) * (x3.toInt64)) : Int64) + (q5.toInt64))) s0 _ _ _ h hP hD hS (lv_sub hl [1, 2, 3, 5] rfl)
set_option maxHeartbeats 40000000 in
set_option maxRecDepth 100000 in
theorem db_X13_numeral_17 {p : Program} {l : Launch} {e : Env} {s : State} {m : MethodId} {args : Array Value} {below : List Frame} {meth : Method} {c : Code} {Q : State → Prop} {A : Nat → Prop} {dC : Nat → ClassId} {dI : Nat → Nat → Nat} {a : Nat → Nat} {ac : Nat → ClassId} {n : Nat} {r : Int64 × (St)} (C : nd_C p l s m args c A (dC, dI) cX13_numeral 8 RX13 ow_dm_X13_numeral (dk_X13 ac)) (K : nd_Kl p l e (headSpec ow_dm_X13_numeral ({ frames := 2, cells := 0, slots := 0, locals := 40 })).room s m args below meth c Q A (dC, dI) cX13_numeral (St) (dw_X13 a ac) r) (k : Nat) : dj_X13_numeral_17 p l e s m args below meth c Q A dC dI a ac (df_X13_numeral_17 n k) r := by
  induction k with
  | zero => intro x2 x3 x4 x6 s0 H locs ls h; exact nomatch (show (none : Option (Int64 × (St))) = some r from h)
  | succ k ih => exact dB_X13_numeral_17 C K ih
set_option maxHeartbeats 40000000 in
set_option maxRecDepth 100000 in
theorem db_X13_numeral_12 {p : Program} {l : Launch} {e : Env} {s : State} {m : MethodId} {args : Array Value} {below : List Frame} {meth : Method} {c : Code} {Q : State → Prop} {A : Nat → Prop} {dC : Nat → ClassId} {dI : Nat → Nat → Nat} {a : Nat → Nat} {ac : Nat → ClassId} {n : Nat} {r : Int64 × (St)} (C : nd_C p l s m args c A (dC, dI) cX13_numeral 8 RX13 ow_dm_X13_numeral (dk_X13 ac)) (K : nd_Kl p l e (headSpec ow_dm_X13_numeral ({ frames := 2, cells := 0, slots := 0, locals := 40 })).room s m args below meth c Q A (dC, dI) cX13_numeral (St) (dw_X13 a ac) r) : dj_X13_numeral_12 p l e s m args below meth c Q A dC dI a ac (df_X13_numeral_12 n) r := by
  obtain ⟨hlt, hx, hb, hml, hown, hts, hN, hA, hK⟩ := id C
  intro x1 x2 x3 y0 s0 H locs ls h hP hD hS hl
  unfold df_X13_numeral_12 at h
  refine lv_lstore (lv' := [(4, .long y0), (0, .ref (a 0)), (1, .int x1), (2, .int x2), (3, .int x3)]) hx hb dX13_numeral_12 hl (by decide) rfl (fun ls hl => ?_)
  refine lv_iload_n hx hb dX13_numeral_14 rfl (lv_at hl 2 rfl) ?_
  refine lv_istore (lv' := [(6, .int x1), (4, .long y0), (0, .ref (a 0)), (1, .int x1), (2, .int x2), (3, .int x3)]) hx hb dX13_numeral_15 hl (by decide) rfl (fun ls hl => ?_)
  exact (db_X13_numeral_17 C K n) (x2) (x3) (y0) (x1) s0 _ _ _ h hP hD hS (lv_sub hl [2, 4, 5, 1, 0] rfl)
set_option maxHeartbeats 40000000 in
set_option maxRecDepth 100000 in
theorem db_X13_numeral_0 {p : Program} {l : Launch} {e : Env} {s : State} {m : MethodId} {args : Array Value} {below : List Frame} {meth : Method} {c : Code} {Q : State → Prop} {A : Nat → Prop} {dC : Nat → ClassId} {dI : Nat → Nat → Nat} {a : Nat → Nat} {ac : Nat → ClassId} {n : Nat} {r : Int64 × (St)} (C : nd_C p l s m args c A (dC, dI) cX13_numeral 8 RX13 ow_dm_X13_numeral (dk_X13 ac)) (K : nd_Kl p l e (headSpec ow_dm_X13_numeral ({ frames := 2, cells := 0, slots := 0, locals := 40 })).room s m args below meth c Q A (dC, dI) cX13_numeral (St) (dw_X13 a ac) r) : dj_X13_numeral_0 p l e s m args below meth c Q A dC dI a ac (df_X13_numeral_0 n) r := by
  obtain ⟨hlt, hx, hb, hml, hown, hts, hN, hA, hK⟩ := id C
  intro v0 v1 v2 s0 H locs ls h hP hD hS hl
  unfold df_X13_numeral_0 at h
  refine lv_iload_n hx hb dX13_numeral_0 rfl (lv_at hl 1 rfl) ?_
  refine lv_iload_n hx hb dX13_numeral_1 rfl (lv_at hl 2 rfl) ?_
  refine lv_icmp_ge (tgt := 9) hx hb dX13_numeral_2 (by decide) (fun c1 => ?_) (fun c1 => ?_)
  · have h := nd_pos h c1
    refine lv_ldc2 hx hb hown (hts (.constantLong RX13 392 (-1)) (List.mem_of_getElem? (i := 1) rfl)) dX13_numeral_9 ?_
    exact (db_X13_numeral_12 C K) (v0) (v1) (v2) ((-1)) s0 _ _ _ h hP hD hS (lv_sub hl [0, 1, 2, 3] rfl)
  · have h := nd_neg h c1
    refine lv_lconst (v := 0) hx hb dX13_numeral_5 (by decide) ?_
    refine lv_goto (tgt := 12) hx hb dX13_numeral_6 (by decide) ?_
    exact (db_X13_numeral_12 C K) (v0) (v1) (v2) (0) s0 _ _ _ h hP hD hS (lv_sub hl [0, 1, 2, 3] rfl)
set_option maxHeartbeats 40000000 in
set_option maxRecDepth 100000 in
theorem dm_X13_numeral (l : Launch) (hlt : l.stackTraces = false) (dC : Nat → ClassId) (dI : Nat → Nat → Nat) (a : Nat → Nat) (ac : Nat → ClassId) (n : Nat) (v0 : Int32) (v1 : Int32) (v2 : Int32) (s0 : St) {r : Int64 × (St)} (h : df_X13_numeral n v0 v1 v2 s0 = some r) (sz : Nat) : Met l yX13_numeral ow_dm_X13_numeral ({ frames := 2, cells := 0, slots := 0, locals := 40 }) (va_Pc [.ref (a 0), .int v0, .int v1, .int v2] (fun U => U.heap.size = sz ∧ va_P (dC, dI) vwCl (dw_X13 a ac s0) U.heap ∧ va_K (dC, dI) vwCl (dk_X13 ac) U ∧ va_D (fun _ => True) (dw_X13 a ac s0) ∧ nv_E (va_A (dw_X13 a ac s0) sz) U)) (va_Ql (fun x _ => x = r.1) (fun (_ : Unit) t => va_P (dC, dI) vwCl (dw_X13 a ac r.2) t.heap ∧ va_K (dC, dI) vwCl (dk_X13 ac) t ∧ va_D (va_A (dw_X13 a ac s0) sz) (dw_X13 a ac r.2)) (va_A (dw_X13 a ac s0) sz)) 0 0 (va_A (dw_X13 a ac s0) sz) := by
  refine Met.ofW (cc := cX13_numeral) (maxL := 8) (ret := (some .long)) (by decide) rfl ?_
  intro p e s m args below meth c s₁ B hml hv
  obtain ⟨rfl, hsz, hP, hK, hD0, hN⟩ := hv
  have hx := B.exec
  have hb := B.bytes
  have hr := B.returns
  have hts := atoms_spec (ws := ow_dm_X13_numeral) B.pre
  have hown : s.vm.findClass RX13 = some m.cls := findClass_of_methodNamed B.named
  have hlocks := B.notSynchronized
  subst hsz
  have hD := hD0.self (sz := s.heap.size)
  generalize hAe : va_A (dw_X13 a ac s0) s.heap.size = A at hD hN ⊢
  have hA : ∀ q : Nat, s.heap.size ≤ q → A q := fun q h => by rw [← hAe]; exact Or.inr h
  have hl := lv_entry ([.ref (a 0), .int v0, .int v1, .int v2]) (n := 8) (Nat.le_of_ble_eq_true rfl)
  rw [lg_entry_eq]
  generalize (lg_sl ([.ref (a 0), .int v0, .int v1, .int v2]) ++ List.replicate (8 - (lg_sl ([.ref (a 0), .int v0, .int v1, .int v2])).length) Slot.unset).toArray = ls at hl ⊢
  have hl : lv_has ls 8 [(0, .ref (a 0)), (1, .int v0), (2, .int v1), (3, .int v2)] := hl
  exact db_X13_numeral_0 (dC := dC) (dI := dI) (a := a) (ac := ac) (n := n) (r := r) ⟨hlt, hx, hb, hml, hown, hts, hN, hA, hK⟩ (fun pc v τ H locs ls d er hP hD hS => by subst er; exact W.lret (v := v) hx hb hr (fun t ht hW => ⟨⟨v, (), rfl, rfl, by rw [ht]; exact hP, va_K.moved hW.alike hK, hD⟩, hS.F ht⟩) hS.2.2 d) v0 v1 v2 s0 _ _ _ h hP hD va_S.rf (lv_sub hl [0, 1, 2, 3] rfl)
def ow_dm_X13_digits : List Cond := .code yX13_digits cX13_digits 6 none :: ([.fieldLink RX13 371 "TimeMachineModel$Assembler" "to" "I", .fieldLink RX13 368 "TimeMachineModel$Assembler" "from" "I", .fieldLink RX13 324 "TimeMachineModel$Assembler" "text" "[C", .methodLink RX13 402 yX13_numeral, .instanceMethod yX13_numeral, .selects RX13 yX13_numeral yX13_numeral, .initialized RX13, .fieldLink RX13 365 "TimeMachineModel$Assembler" "token" "I", .fieldLink RX13 399 "TimeMachineModel$Assembler" "number" "I", .methodLink RX13 383 yX13_bad, .instanceMethod yX13_bad, .selects RX13 yX13_bad yX13_bad] ++ (u_ws RX13 TX13 37 ++ (ow_dm_X13_numeral ++ (ow_dm_X13_bad ++ []))))
theorem gd_dm_X13_digits : ∀ w ∈ ow_dm_X13_digits, (w.onTables && w.keeps) = true ∨ ∃ ty, w = Cond.arrayClass ty := List.forall_mem_cons.mpr ⟨good_of_word rfl, List.forall_mem_append.mpr ⟨fun w h => good_of_word (List.all_eq_true.mp (by decide +kernel) w h), List.forall_mem_append.mpr ⟨gu_X13, List.forall_mem_append.mpr ⟨gd_dm_X13_numeral, List.forall_mem_append.mpr ⟨gd_dm_X13_bad, fun _ h => nomatch h⟩⟩⟩⟩⟩
theorem hi_dm_X13_digits_X13 : ∀ w ∈ u_ws RX13 TX13 37, w ∈ ow_dm_X13_digits := fun w h => List.mem_cons_of_mem _ (List.mem_append_right _ (List.mem_append_left _ h))
theorem gi_dm_X13_digits_0 : GoodIn ow_dm_X13_digits (wsV RX13 402 RX13 yX13_numeral ow_dm_X13_numeral) := goodIn_app (goodIn_of _ (by decide +kernel)) (fun w h => ⟨List.mem_cons_of_mem _ (List.mem_append_right _ (List.mem_append_right _ (List.mem_append_left _ h))), gd_dm_X13_numeral w h⟩)
theorem gi_dm_X13_digits_1 : GoodIn ow_dm_X13_digits (wsV RX13 383 RX13 yX13_bad ow_dm_X13_bad) := goodIn_app (goodIn_of _ (by decide +kernel)) (fun w h => ⟨List.mem_cons_of_mem _ (List.mem_append_right _ (List.mem_append_right _ (List.mem_append_right _ (List.mem_append_left _ h)))), gd_dm_X13_bad w h⟩)
def dj_X13_digits_202 (p : Program) (l : Launch) (e : Env) (s : State) (m : MethodId) (args : Array Value) (below : List Frame) (meth : Method) (c : Code) (Q : State → Prop) (A : Nat → Prop) (dC : Nat → ClassId) (dI : Nat → Nat → Nat) (a : Nat → Nat) (ac : Nat → ClassId) (g : (St) → Option (St)) (r : St) : Prop := ∀ (s0 : St) (H : Heap) (locs : List Loc) (ls : Array Slot), g s0 = some r → va_P (dC, dI) vwCl (dw_X13 a ac s0) H → va_D A (dw_X13 a ac s0) → va_S A s.heap H locs → lv_has ls 6 [] → W p l e (headSpec ow_dm_X13_digits ({ frames := 3, cells := 0, slots := 0, locals := 67 })).room s m args below meth c H locs 0 0 Q (F0 m 202 ls [])
def dj_X13_digits_177 (p : Program) (l : Launch) (e : Env) (s : State) (m : MethodId) (args : Array Value) (below : List Frame) (meth : Method) (c : Code) (Q : State → Prop) (A : Nat → Prop) (dC : Nat → ClassId) (dI : Nat → Nat → Nat) (a : Nat → Nat) (ac : Nat → ClassId) (g : Int64 → (St) → Option (St)) (r : St) : Prop := ∀ (y0 : Int64) (s0 : St) (H : Heap) (locs : List Loc) (ls : Array Slot), g y0 s0 = some r → va_P (dC, dI) vwCl (dw_X13 a ac s0) H → va_D A (dw_X13 a ac s0) → va_S A s.heap H locs → lv_has ls 6 [(0, .ref (a 0))] → W p l e (headSpec ow_dm_X13_digits ({ frames := 3, cells := 0, slots := 0, locals := 67 })).room s m args below meth c H locs 0 0 Q (F0 m 177 ls [.long y0])
def dj_X13_digits_163 (p : Program) (l : Launch) (e : Env) (s : State) (m : MethodId) (args : Array Value) (below : List Frame) (meth : Method) (c : Code) (Q : State → Prop) (A : Nat → Prop) (dC : Nat → ClassId) (dI : Nat → Nat → Nat) (a : Nat → Nat) (ac : Nat → ClassId) (g : (St) → Option (St)) (r : St) : Prop := ∀ (s0 : St) (H : Heap) (locs : List Loc) (ls : Array Slot), g s0 = some r → va_P (dC, dI) vwCl (dw_X13 a ac s0) H → va_D A (dw_X13 a ac s0) → va_S A s.heap H locs → lv_has ls 6 [(0, .ref (a 0))] → W p l e (headSpec ow_dm_X13_digits ({ frames := 3, cells := 0, slots := 0, locals := 67 })).room s m args below meth c H locs 0 0 Q (F0 m 163 ls [])
def dj_X13_digits_135 (p : Program) (l : Launch) (e : Env) (s : State) (m : MethodId) (args : Array Value) (below : List Frame) (meth : Method) (c : Code) (Q : State → Prop) (A : Nat → Prop) (dC : Nat → ClassId) (dI : Nat → Nat → Nat) (a : Nat → Nat) (ac : Nat → ClassId) (g : Int32 → Int32 → (St) → Option (St)) (r : St) : Prop := ∀ (x1 : Int32) (x3 : Int32) (s0 : St) (H : Heap) (locs : List Loc) (ls : Array Slot), g x1 x3 s0 = some r → va_P (dC, dI) vwCl (dw_X13 a ac s0) H → va_D A (dw_X13 a ac s0) → va_S A s.heap H locs → lv_has ls 6 [(0, .ref (a 0)), (1, .int x1), (3, .int x3)] → W p l e (headSpec ow_dm_X13_digits ({ frames := 3, cells := 0, slots := 0, locals := 67 })).room s m args below meth c H locs 0 0 Q (F0 m 135 ls [])
def dj_X13_digits_105 (p : Program) (l : Launch) (e : Env) (s : State) (m : MethodId) (args : Array Value) (below : List Frame) (meth : Method) (c : Code) (Q : State → Prop) (A : Nat → Prop) (dC : Nat → ClassId) (dI : Nat → Nat → Nat) (a : Nat → Nat) (ac : Nat → ClassId) (g : Int32 → Int32 → (St) → Option (St)) (r : St) : Prop := ∀ (x1 : Int32) (y0 : Int32) (s0 : St) (H : Heap) (locs : List Loc) (ls : Array Slot), g x1 y0 s0 = some r → va_P (dC, dI) vwCl (dw_X13 a ac s0) H → va_D A (dw_X13 a ac s0) → va_S A s.heap H locs → lv_has ls 6 [(0, .ref (a 0)), (1, .int x1)] → W p l e (headSpec ow_dm_X13_digits ({ frames := 3, cells := 0, slots := 0, locals := 67 })).room s m args below meth c H locs 0 0 Q (F0 m 105 ls [.int y0])
def dj_X13_digits_59 (p : Program) (l : Launch) (e : Env) (s : State) (m : MethodId) (args : Array Value) (below : List Frame) (meth : Method) (c : Code) (Q : State → Prop) (A : Nat → Prop) (dC : Nat → ClassId) (dI : Nat → Nat → Nat) (a : Nat → Nat) (ac : Nat → ClassId) (g : Int32 → Int32 → (St) → Option (St)) (r : St) : Prop := ∀ (x1 : Int32) (y0 : Int32) (s0 : St) (H : Heap) (locs : List Loc) (ls : Array Slot), g x1 y0 s0 = some r → va_P (dC, dI) vwCl (dw_X13 a ac s0) H → va_D A (dw_X13 a ac s0) → va_S A s.heap H locs → lv_has ls 6 [(0, .ref (a 0)), (1, .int x1)] → W p l e (headSpec ow_dm_X13_digits ({ frames := 3, cells := 0, slots := 0, locals := 67 })).room s m args below meth c H locs 0 0 Q (F0 m 59 ls [.int y0])
def dj_X13_digits_58 (p : Program) (l : Launch) (e : Env) (s : State) (m : MethodId) (args : Array Value) (below : List Frame) (meth : Method) (c : Code) (Q : State → Prop) (A : Nat → Prop) (dC : Nat → ClassId) (dI : Nat → Nat → Nat) (a : Nat → Nat) (ac : Nat → ClassId) (g : Int32 → (St) → Option (St)) (r : St) : Prop := ∀ (x1 : Int32) (s0 : St) (H : Heap) (locs : List Loc) (ls : Array Slot), g x1 s0 = some r → va_P (dC, dI) vwCl (dw_X13 a ac s0) H → va_D A (dw_X13 a ac s0) → va_S A s.heap H locs → lv_has ls 6 [(0, .ref (a 0)), (1, .int x1)] → W p l e (headSpec ow_dm_X13_digits ({ frames := 3, cells := 0, slots := 0, locals := 67 })).room s m args below meth c H locs 0 0 Q (F0 m 58 ls [])
def dj_X13_digits_54 (p : Program) (l : Launch) (e : Env) (s : State) (m : MethodId) (args : Array Value) (below : List Frame) (meth : Method) (c : Code) (Q : State → Prop) (A : Nat → Prop) (dC : Nat → ClassId) (dI : Nat → Nat → Nat) (a : Nat → Nat) (ac : Nat → ClassId) (g : Int32 → (St) → Option (St)) (r : St) : Prop := ∀ (x1 : Int32) (s0 : St) (H : Heap) (locs : List Loc) (ls : Array Slot), g x1 s0 = some r → va_P (dC, dI) vwCl (dw_X13 a ac s0) H → va_D A (dw_X13 a ac s0) → va_S A s.heap H locs → lv_has ls 6 [(0, .ref (a 0)), (1, .int x1)] → W p l e (headSpec ow_dm_X13_digits ({ frames := 3, cells := 0, slots := 0, locals := 67 })).room s m args below meth c H locs 0 0 Q (F0 m 54 ls [])
def dj_X13_digits_28 (p : Program) (l : Launch) (e : Env) (s : State) (m : MethodId) (args : Array Value) (below : List Frame) (meth : Method) (c : Code) (Q : State → Prop) (A : Nat → Prop) (dC : Nat → ClassId) (dI : Nat → Nat → Nat) (a : Nat → Nat) (ac : Nat → ClassId) (g : Int32 → (St) → Option (St)) (r : St) : Prop := ∀ (y0 : Int32) (s0 : St) (H : Heap) (locs : List Loc) (ls : Array Slot), g y0 s0 = some r → va_P (dC, dI) vwCl (dw_X13 a ac s0) H → va_D A (dw_X13 a ac s0) → va_S A s.heap H locs → lv_has ls 6 [(0, .ref (a 0))] → W p l e (headSpec ow_dm_X13_digits ({ frames := 3, cells := 0, slots := 0, locals := 67 })).room s m args below meth c H locs 0 0 Q (F0 m 28 ls [.int y0])
def dj_X13_digits_0 (p : Program) (l : Launch) (e : Env) (s : State) (m : MethodId) (args : Array Value) (below : List Frame) (meth : Method) (c : Code) (Q : State → Prop) (A : Nat → Prop) (dC : Nat → ClassId) (dI : Nat → Nat → Nat) (a : Nat → Nat) (ac : Nat → ClassId) (g : (St) → Option (St)) (r : St) : Prop := ∀ (s0 : St) (H : Heap) (locs : List Loc) (ls : Array Slot), g s0 = some r → va_P (dC, dI) vwCl (dw_X13 a ac s0) H → va_D A (dw_X13 a ac s0) → va_S A s.heap H locs → lv_has ls 6 [(0, .ref (a 0))] → W p l e (headSpec ow_dm_X13_digits ({ frames := 3, cells := 0, slots := 0, locals := 67 })).room s m args below meth c H locs 0 0 Q (F0 m 0 ls [])
set_option maxHeartbeats 40000000 in
set_option maxRecDepth 100000 in
theorem db_X13_digits_202 {p : Program} {l : Launch} {e : Env} {s : State} {m : MethodId} {args : Array Value} {below : List Frame} {meth : Method} {c : Code} {Q : State → Prop} {A : Nat → Prop} {dC : Nat → ClassId} {dI : Nat → Nat → Nat} {a : Nat → Nat} {ac : Nat → ClassId} {n : Nat} {r : St} (C : nd_C p l s m args c A (dC, dI) cX13_digits 6 RX13 ow_dm_X13_digits (dk_X13 ac)) (K : nd_Kv p l e (headSpec ow_dm_X13_digits ({ frames := 3, cells := 0, slots := 0, locals := 67 })).room s m args below meth c Q A (dC, dI) cX13_digits (St) (dw_X13 a ac) r) : dj_X13_digits_202 p l e s m args below meth c Q A dC dI a ac (df_X13_digits_202 n) r := by
  obtain ⟨hlt, hx, hb, hml, hown, hts, hN, hA, hK⟩ := id C
  intro s0 H locs ls h hP hD hS hl
  unfold df_X13_digits_202 at h
  exact K _ _ _ _ _ dX13_digits_202 (Option.some.inj h).symm hP hD hS
set_option maxHeartbeats 40000000 in
set_option maxRecDepth 100000 in
theorem db_X13_digits_177 {p : Program} {l : Launch} {e : Env} {s : State} {m : MethodId} {args : Array Value} {below : List Frame} {meth : Method} {c : Code} {Q : State → Prop} {A : Nat → Prop} {dC : Nat → ClassId} {dI : Nat → Nat → Nat} {a : Nat → Nat} {ac : Nat → ClassId} {n : Nat} {r : St} (C : nd_C p l s m args c A (dC, dI) cX13_digits 6 RX13 ow_dm_X13_digits (dk_X13 ac)) (K : nd_Kv p l e (headSpec ow_dm_X13_digits ({ frames := 3, cells := 0, slots := 0, locals := 67 })).room s m args below meth c Q A (dC, dI) cX13_digits (St) (dw_X13 a ac) r) : dj_X13_digits_177 p l e s m args below meth c Q A dC dI a ac (df_X13_digits_177 n) r := by
  obtain ⟨hlt, hx, hb, hml, hown, hts, hN, hA, hK⟩ := id C
  intro y0 s0 H locs ls h hP hD hS hl
  unfold df_X13_digits_177 at h
  refine lv_lstore (lv' := [(4, .long y0), (0, .ref (a 0))]) hx hb dX13_digits_177 hl (by decide) rfl (fun ls hl => ?_)
  refine lv_aload_n hx hb dX13_digits_179 rfl (lv_at hl 1 rfl) ?_
  refine lv_iconst (v := 2) hx hb dX13_digits_180 (by decide) ?_
  refine va_put (D := (dC, dI)) (ci := 14) (v := .int 2) (ty := .int) (C := RX13) (T := TX13) (N := 37) hx hb hts hi_dm_X13_digits_X13 tyX13 tyX13_ok nmX13 hown hK hP hD hS 0 rfl rfl 17 (by decide) (hts (.fieldLink RX13 365 "TimeMachineModel$Assembler" "token" "I") (List.mem_of_getElem? (i := 8) rfl)) (fun _ h9 => h9) rfl (by decide +kernel) rfl rfl (Nat.le_of_ble_eq_true rfl) dX13_digits_181 (fun H locs hP hD hS => ?_)
  obtain ⟨s11, es11, h⟩ := nd_let_e h
  have hP : va_P (dC, dI) vwCl (dw_X13 a ac s11) H := by rw [es11]; exact hP
  have hD : va_D A (dw_X13 a ac s11) := by rw [es11]; exact hD
  refine lv_aload_n hx hb dX13_digits_184 rfl (lv_at hl 1 rfl) ?_
  refine lv_lload hx hb dX13_digits_185 (lv_at hl 0 rfl) ?_
  refine lv_l2i hx hb dX13_digits_187 rfl ?_
  refine va_put (D := (dC, dI)) (ci := 14) (v := .int (y0.toInt32)) (ty := .int) (C := RX13) (T := TX13) (N := 37) hx hb hts hi_dm_X13_digits_X13 tyX13 tyX13_ok nmX13 hown hK hP hD hS 0 rfl rfl 20 (by decide) (hts (.fieldLink RX13 399 "TimeMachineModel$Assembler" "number" "I") (List.mem_of_getElem? (i := 9) rfl)) (fun _ h9 => h9) rfl (by decide +kernel) rfl rfl (Nat.le_of_ble_eq_true rfl) dX13_digits_188 (fun H locs hP hD hS => ?_)
  obtain ⟨s12, es12, h⟩ := nd_let_e h
  have hP : va_P (dC, dI) vwCl (dw_X13 a ac s12) H := by rw [es12]; exact hP
  have hD : va_D A (dw_X13 a ac s12) := by rw [es12]; exact hD
  refine lv_lload hx hb dX13_digits_191 (lv_at hl 0 rfl) ?_
  refine lv_lconst (v := 0) hx hb dX13_digits_193 (by decide) ?_
  refine W.lcmp hx hb dX13_digits_194 ?_
  refine lv_if_ge (tgt := 202) hx hb dX13_digits_195 (by decide) (fun c13 => ?_) (fun c13 => ?_)
  · have h := nd_pos h c13
    exact (db_X13_digits_202 C K)  s12 _ _ _ h hP hD hS (lv_sub hl [] rfl)
  · have h := nd_neg h c13
    refine lv_aload_n hx hb dX13_digits_198 rfl (lv_at hl 1 rfl) ?_
    obtain ⟨s15, hq, h⟩ := nd_b1_e h
    have hPc := hP
    have hDc := hD
    have hKc := hK
    have hFc := nd_rs hD hS hA
    refine nd_cVv (As := []) (rest := []) (w' := dw_X13 a ac s15) ⟨hx, hb, hml, hown, hts⟩ (fun sz => dm_X13_bad l hlt dC dI a ac n  s12 hq sz) (cwV 0 hts gi_dm_X13_digits_1 rfl rfl rfl (by decide +kernel) ⟨Nat.le_of_ble_eq_true rfl, Nat.le_of_ble_eq_true rfl⟩) hPc hDc hKc hS hA hN (va_recv hKc hPc (ci := 14) (q0 := 0) rfl rfl) rfl hl.1 rfl (Nat.le_of_ble_eq_true rfl) dX13_digits_199 (fun H locs hP1 hD1 hk1 hS => ?_)
    have hP := hP1
    have hD := hD1.weaken (fun k q _ h => hFc q.1 h)
    exact (db_X13_digits_202 C K)  s15 _ _ _ h hP hD hS (lv_sub hl [] rfl)
set_option maxHeartbeats 40000000 in
set_option maxRecDepth 100000 in
theorem db_X13_digits_163 {p : Program} {l : Launch} {e : Env} {s : State} {m : MethodId} {args : Array Value} {below : List Frame} {meth : Method} {c : Code} {Q : State → Prop} {A : Nat → Prop} {dC : Nat → ClassId} {dI : Nat → Nat → Nat} {a : Nat → Nat} {ac : Nat → ClassId} {n : Nat} {r : St} (C : nd_C p l s m args c A (dC, dI) cX13_digits 6 RX13 ow_dm_X13_digits (dk_X13 ac)) (K : nd_Kv p l e (headSpec ow_dm_X13_digits ({ frames := 3, cells := 0, slots := 0, locals := 67 })).room s m args below meth c Q A (dC, dI) cX13_digits (St) (dw_X13 a ac) r) : dj_X13_digits_163 p l e s m args below meth c Q A dC dI a ac (df_X13_digits_163 n) r := by
  obtain ⟨hlt, hx, hb, hml, hown, hts, hN, hA, hK⟩ := id C
  intro s0 H locs ls h hP hD hS hl
  unfold df_X13_digits_163 at h
  refine lv_aload_n hx hb dX13_digits_163 rfl (lv_at hl 0 rfl) ?_
  refine lv_aload_n hx hb dX13_digits_164 rfl (lv_at hl 0 rfl) ?_
  refine va_get (D := (dC, dI)) (ci := 14) (v := .int (sI s0 9)) (C := RX13) (T := TX13) (N := 37) hx hb hts hi_dm_X13_digits_X13 hown hK hP 0 rfl rfl 18 (by decide) (hts (.fieldLink RX13 368 "TimeMachineModel$Assembler" "from" "I") (List.mem_of_getElem? (i := 2) rfl)) (fun _ h9 => h9) rfl dX13_digits_165 ?_
  refine lv_aload_n hx hb dX13_digits_168 rfl (lv_at hl 0 rfl) ?_
  refine va_get (D := (dC, dI)) (ci := 14) (v := .int (sI s0 10)) (C := RX13) (T := TX13) (N := 37) hx hb hts hi_dm_X13_digits_X13 hown hK hP 0 rfl rfl 19 (by decide) (hts (.fieldLink RX13 371 "TimeMachineModel$Assembler" "to" "I") (List.mem_of_getElem? (i := 1) rfl)) (fun _ h9 => h9) rfl dX13_digits_169 ?_
  refine lv_bipush (v := 10) hx hb dX13_digits_172 (by decide) ?_
  obtain ⟨q8, s9, hq, h⟩ := nd_b2_e h
  have hPc := hP
  have hDc := hD
  have hKc := hK
  have hFc := nd_rs hD hS hA
  refine nd_cVl (As := [.int (sI s0 9), .int (sI s0 10), .int 10]) (rest := []) (q := q8) (w' := dw_X13 a ac s9) ⟨hx, hb, hml, hown, hts⟩ (fun sz => dm_X13_numeral l hlt dC dI a ac n ((sI s0 9)) ((sI s0 10)) (10) s0 hq sz) (cwV 3 hts gi_dm_X13_digits_0 rfl rfl rfl (by decide +kernel) ⟨Nat.le_of_ble_eq_true rfl, Nat.le_of_ble_eq_true rfl⟩) hPc hDc hKc hS hA hN (va_recv hKc hPc (ci := 14) (q0 := 0) rfl rfl) rfl hl.1 rfl (Nat.le_of_ble_eq_true rfl) dX13_digits_174 (fun H locs hP1 hD1 hk1 hS => ?_)
  have hP := hP1
  have hD := hD1.weaken (fun k q _ h => hFc q.1 h)
  exact (db_X13_digits_177 C K) (q8) s9 _ _ _ h hP hD hS (lv_sub hl [0] rfl)
set_option maxHeartbeats 40000000 in
set_option maxRecDepth 100000 in
theorem db_X13_digits_135 {p : Program} {l : Launch} {e : Env} {s : State} {m : MethodId} {args : Array Value} {below : List Frame} {meth : Method} {c : Code} {Q : State → Prop} {A : Nat → Prop} {dC : Nat → ClassId} {dI : Nat → Nat → Nat} {a : Nat → Nat} {ac : Nat → ClassId} {n : Nat} {r : St} (C : nd_C p l s m args c A (dC, dI) cX13_digits 6 RX13 ow_dm_X13_digits (dk_X13 ac)) (K : nd_Kv p l e (headSpec ow_dm_X13_digits ({ frames := 3, cells := 0, slots := 0, locals := 67 })).room s m args below meth c Q A (dC, dI) cX13_digits (St) (dw_X13 a ac) r) : dj_X13_digits_135 p l e s m args below meth c Q A dC dI a ac (df_X13_digits_135 n) r := by
  obtain ⟨hlt, hx, hb, hml, hown, hts, hN, hA, hK⟩ := id C
  intro x1 x3 s0 H locs ls h hP hD hS hl
  unfold df_X13_digits_135 at h
  refine lv_iload_n hx hb dX13_digits_135 rfl (lv_at hl 2 rfl) ?_
  refine lv_if_eq (tgt := 163) hx hb dX13_digits_136 (by decide) (fun c7 => ?_) (fun c7 => ?_)
  · have h := nd_pos h c7
    exact (db_X13_digits_163 C K)  s0 _ _ _ h hP hD hS (lv_sub hl [0] rfl)
  · have h := nd_neg h c7
    refine lv_iload_n hx hb dX13_digits_139 rfl (lv_at hl 1 rfl) ?_
    refine lv_bipush (v := 98) hx hb dX13_digits_140 (by decide) ?_
    refine lv_icmp_ne (tgt := 163) hx hb dX13_digits_142 (by decide) (fun c17 => ?_) (fun c17 => ?_)
    · have h := nd_neg h c17
      exact (db_X13_digits_163 C K)  s0 _ _ _ h hP hD hS (lv_sub hl [0] rfl)
    · have h := nd_pos h c17
      refine lv_aload_n hx hb dX13_digits_145 rfl (lv_at hl 0 rfl) ?_
      refine lv_aload_n hx hb dX13_digits_146 rfl (lv_at hl 0 rfl) ?_
      refine va_get (D := (dC, dI)) (ci := 14) (v := .int (sI s0 9)) (C := RX13) (T := TX13) (N := 37) hx hb hts hi_dm_X13_digits_X13 hown hK hP 0 rfl rfl 18 (by decide) (hts (.fieldLink RX13 368 "TimeMachineModel$Assembler" "from" "I") (List.mem_of_getElem? (i := 2) rfl)) (fun _ h9 => h9) rfl dX13_digits_147 ?_
      refine lv_iconst (v := 2) hx hb dX13_digits_150 (by decide) ?_
      refine lv_iadd hx hb dX13_digits_151 ?_
      refine lv_aload_n hx hb dX13_digits_152 rfl (lv_at hl 0 rfl) ?_
      refine va_get (D := (dC, dI)) (ci := 14) (v := .int (sI s0 10)) (C := RX13) (T := TX13) (N := 37) hx hb hts hi_dm_X13_digits_X13 hown hK hP 0 rfl rfl 19 (by decide) (hts (.fieldLink RX13 371 "TimeMachineModel$Assembler" "to" "I") (List.mem_of_getElem? (i := 1) rfl)) (fun _ h9 => h9) rfl dX13_digits_153 ?_
      refine lv_iconst (v := 2) hx hb dX13_digits_156 (by decide) ?_
      obtain ⟨q18, s19, hq, h⟩ := nd_b2_e h
      have hPc := hP
      have hDc := hD
      have hKc := hK
      have hFc := nd_rs hD hS hA
      refine nd_cVl (As := [.int ((sI s0 9) + 2), .int (sI s0 10), .int 2]) (rest := []) (q := q18) (w' := dw_X13 a ac s19) ⟨hx, hb, hml, hown, hts⟩ (fun sz => dm_X13_numeral l hlt dC dI a ac n (((sI s0 9) + 2)) ((sI s0 10)) (2) s0 hq sz) (cwV 3 hts gi_dm_X13_digits_0 rfl rfl rfl (by decide +kernel) ⟨Nat.le_of_ble_eq_true rfl, Nat.le_of_ble_eq_true rfl⟩) hPc hDc hKc hS hA hN (va_recv hKc hPc (ci := 14) (q0 := 0) rfl rfl) rfl hl.1 rfl (Nat.le_of_ble_eq_true rfl) dX13_digits_157 (fun H locs hP1 hD1 hk1 hS => ?_)
      have hP := hP1
      have hD := hD1.weaken (fun k q _ h => hFc q.1 h)
      refine lv_goto (tgt := 177) hx hb dX13_digits_160 (by decide) ?_
      exact (db_X13_digits_177 C K) (q18) s19 _ _ _ h hP hD hS (lv_sub hl [0] rfl)
