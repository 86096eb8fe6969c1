def ow_dm_X13_charAt : List Cond := Cond.code yX13_charAt cX13_charAt 2 (some .int) :: ([Cond.fieldLink RX13 347 "TimeMachineModel$Assembler" "size" "I", Cond.fieldLink RX13 324 "TimeMachineModel$Assembler" "text" "[C"] ++ (u_ws RX13 TX13 37 ++ []))
theorem gd_dm_X13_charAt : ∀ w ∈ ow_dm_X13_charAt, (w.onTables && w.keeps) = true ∨ ∃ ty, w = Cond.arrayClass ty := List.forall_mem_cons.mpr ⟨good_of_word rfl, List.forall_mem_append.mpr ⟨fun w h => good_of_word (List.all_eq_true.mp (by decide +kernel) w h), List.forall_mem_append.mpr ⟨gu_X13, fun _ h => nomatch h⟩⟩⟩
theorem hi_dm_X13_charAt_X13 : ∀ w ∈ u_ws RX13 TX13 37, w ∈ ow_dm_X13_charAt := fun w h => List.mem_cons_of_mem _ (List.mem_append_right _ (List.mem_append_left _ h))
def dj_X13_charAt_19 (p : Program) (l : Launch) (e : Env) (s : State) (m : MethodId) (args : Array Value) (below : List Frame) (meth : Method) (c : Code) (Q : State → Prop) (A : Nat → Prop) (dC : Nat → ClassId) (dI : Nat → Nat → Nat) (a : Nat → Nat) (ac : Nat → ClassId) (g : Int32 → (St) → Option (Int32 × (St))) (r : Int32 × (St)) : Prop := ∀ (y0 : Int32) (s0 : St) (H : Heap) (locs : List Loc) (ls : Array Slot), g y0 s0 = some r → va_P (dC, dI) vwCl (dw_X13 a ac s0) H → va_D A (dw_X13 a ac s0) → va_S A s.heap H locs → lv_has ls 2 [] → W p l e (headSpec ow_dm_X13_charAt ({ frames := 0, cells := 0, slots := 0, locals := 0 })).room s m args below meth c H locs 0 0 Q (F0 m 19 ls [.int y0])
def dj_X13_charAt_0 (p : Program) (l : Launch) (e : Env) (s : State) (m : MethodId) (args : Array Value) (below : List Frame) (meth : Method) (c : Code) (Q : State → Prop) (A : Nat → Prop) (dC : Nat → ClassId) (dI : Nat → Nat → Nat) (a : Nat → Nat) (ac : Nat → ClassId) (g : Int32 → (St) → Option (Int32 × (St))) (r : Int32 × (St)) : Prop := ∀ (v0 : Int32) (s0 : St) (H : Heap) (locs : List Loc) (ls : Array Slot), g v0 s0 = some r → va_P (dC, dI) vwCl (dw_X13 a ac s0) H → va_D A (dw_X13 a ac s0) → va_S A s.heap H locs → lv_has ls 2 [(0, .ref (a 0)), (1, .int v0)] → W p l e (headSpec ow_dm_X13_charAt ({ frames := 0, cells := 0, slots := 0, locals := 0 })).room s m args below meth c H locs 0 0 Q (F0 m 0 ls [])
set_option maxHeartbeats 40000000 in
set_option maxRecDepth 100000 in
theorem db_X13_charAt_19 {p : Program} {l : Launch} {e : Env} {s : State} {m : MethodId} {args : Array Value} {below : List Frame} {meth : Method} {c : Code} {Q : State → Prop} {A : Nat → Prop} {dC : Nat → ClassId} {dI : Nat → Nat → Nat} {a : Nat → Nat} {ac : Nat → ClassId} {n : Nat} {r : Int32 × (St)} (C : nd_C p l s m args c A (dC, dI) cX13_charAt 2 RX13 ow_dm_X13_charAt (dk_X13 ac)) (K : nd_Ki p l e (headSpec ow_dm_X13_charAt ({ frames := 0, cells := 0, slots := 0, locals := 0 })).room s m args below meth c Q A (dC, dI) cX13_charAt .int (St) (dw_X13 a ac) r) : dj_X13_charAt_19 p l e s m args below meth c Q A dC dI a ac (df_X13_charAt_19 n) r := by
  obtain ⟨hlt, hx, hb, hml, hown, hts, hN, hA, hK⟩ := id C
  intro y0 s0 H locs ls h hP hD hS hl
  unfold df_X13_charAt_19 at h
  exact K _ _ _ _ _ _ dX13_charAt_19 rfl (Option.some.inj h).symm hP hD hS
set_option maxHeartbeats 40000000 in
set_option maxRecDepth 100000 in
theorem db_X13_charAt_0 {p : Program} {l : Launch} {e : Env} {s : State} {m : MethodId} {args : Array Value} {below : List Frame} {meth : Method} {c : Code} {Q : State → Prop} {A : Nat → Prop} {dC : Nat → ClassId} {dI : Nat → Nat → Nat} {a : Nat → Nat} {ac : Nat → ClassId} {n : Nat} {r : Int32 × (St)} (C : nd_C p l s m args c A (dC, dI) cX13_charAt 2 RX13 ow_dm_X13_charAt (dk_X13 ac)) (K : nd_Ki p l e (headSpec ow_dm_X13_charAt ({ frames := 0, cells := 0, slots := 0, locals := 0 })).room s m args below meth c Q A (dC, dI) cX13_charAt .int (St) (dw_X13 a ac) r) : dj_X13_charAt_0 p l e s m args below meth c Q A dC dI a ac (df_X13_charAt_0 n) r := by
  obtain ⟨hlt, hx, hb, hml, hown, hts, hN, hA, hK⟩ := id C
  intro v0 s0 H locs ls h hP hD hS hl
  unfold df_X13_charAt_0 at h
  refine lv_iload_n hx hb dX13_charAt_0 rfl (lv_at hl 1 rfl) ?_
  refine lv_aload_n hx hb dX13_charAt_1 rfl (lv_at hl 0 rfl) ?_
  refine va_get (D := (dC, dI)) (ci := 14) (v := .int (sI s0 0)) (C := RX13) (T := TX13) (N := 37) hx hb hts hi_dm_X13_charAt_X13 hown hK hP 0 rfl rfl 4 (by decide) (hts (.fieldLink RX13 347 "TimeMachineModel$Assembler" "size" "I") (List.mem_of_getElem? (i := 1) rfl)) (fun _ h9 => h9) rfl dX13_charAt_2 ?_
  refine lv_icmp_ge (tgt := 17) hx hb dX13_charAt_5 (by decide) (fun c1 => ?_) (fun c1 => ?_)
  · have h := nd_pos h c1
    refine lv_bipush (v := 10) hx hb dX13_charAt_17 (by decide) ?_
    exact (db_X13_charAt_19 C K) (10) s0 _ _ _ h hP hD hS (lv_sub hl [] rfl)
  · have h := nd_neg h c1
    refine lv_aload_n hx hb dX13_charAt_8 rfl (lv_at hl 0 rfl) ?_
    refine va_get (D := (dC, dI)) (ci := 14) (v := .ref (a 4)) (C := RX13) (T := TX13) (N := 37) hx hb hts hi_dm_X13_charAt_X13 hown hK hP 0 rfl rfl 3 (by decide) (hts (.fieldLink RX13 324 "TimeMachineModel$Assembler" "text" "[C") (List.mem_of_getElem? (i := 2) rfl)) (fun _ h9 => h9) rfl dX13_charAt_9 ?_
    refine lv_iload_n hx hb dX13_charAt_12 rfl (lv_at hl 1 rfl) ?_
    obtain ⟨i2, h⟩ := nd_ck_e h
    refine va_cald (i := v0) hx hb hK hP 4 3 rfl rfl i2 dX13_charAt_13 ?_
    refine lv_goto (tgt := 19) hx hb dX13_charAt_14 (by decide) ?_
    exact (db_X13_charAt_19 C K) ((sR s0 2 (Int32.toNatClampNeg v0))) s0 _ _ _ h hP hD hS (lv_sub hl [] rfl)
set_option maxHeartbeats 40000000 in
set_option maxRecDepth 100000 in
theorem dm_X13_charAt (l : Launch) (hlt : l.stackTraces = false) (dC : Nat → ClassId) (dI : Nat → Nat → Nat) (a : Nat → Nat) (ac : Nat → ClassId) (n : Nat) (v0 : Int32) (s0 : St) {r : Int32 × (St)} (h : df_X13_charAt n v0 s0 = some r) (sz : Nat) : Met l yX13_charAt ow_dm_X13_charAt ({ frames := 0, cells := 0, slots := 0, locals := 0 }) (va_Pc [.ref (a 0), .int v0] (fun U => U.heap.size = sz ∧ va_P (dC, dI) vwCl (dw_X13 a ac s0) U.heap ∧ va_K (dC, dI) vwCl (dk_X13 ac) U ∧ va_D (fun _ => True) (dw_X13 a ac s0) ∧ nv_E dI (va_A (dw_X13 a ac s0) sz) U)) (va_Qi (fun x _ => x = r.1) (fun (_ : Unit) t => va_P (dC, dI) vwCl (dw_X13 a ac r.2) t.heap ∧ va_K (dC, dI) vwCl (dk_X13 ac) t ∧ va_D (va_A (dw_X13 a ac s0) sz) (dw_X13 a ac r.2)) (va_A (dw_X13 a ac s0) sz)) 0 0 (va_A (dw_X13 a ac s0) sz) := by
  refine Met.ofW (cc := cX13_charAt) (maxL := 2) (ret := (some .int)) (by decide) rfl ?_
  intro p e s m args below meth c s₁ B hml hv
  obtain ⟨rfl, hsz, hP, hK, hD0, hN⟩ := hv
  have hx := B.exec
  have hb := B.bytes
  have hr := B.returns
  have hts := atoms_spec (ws := ow_dm_X13_charAt) B.pre
  have hown : s.vm.findClass RX13 = some m.cls := findClass_of_methodNamed B.named
  have hlocks := B.notSynchronized
  subst hsz
  have hD := hD0.self (sz := s.heap.size)
  generalize hAe : va_A (dw_X13 a ac s0) s.heap.size = A at hD hN ⊢
  have hA : ∀ q : Nat, s.heap.size ≤ q → A q := fun q h => by rw [← hAe]; exact Or.inr h
  have hl := lv_entry ([.ref (a 0), .int v0]) (n := 2) (Nat.le_of_ble_eq_true rfl)
  rw [lg_entry_eq]
  generalize (lg_sl ([.ref (a 0), .int v0]) ++ List.replicate (2 - (lg_sl ([.ref (a 0), .int v0])).length) Slot.unset).toArray = ls at hl ⊢
  have hl : lv_has ls 2 [(0, .ref (a 0)), (1, .int v0)] := hl
  exact db_X13_charAt_0 (dC := dC) (dI := dI) (a := a) (ac := ac) (n := n) (r := r) ⟨hlt, hx, hb, hml, hown, hts, hN, hA, hK⟩ (fun pc v τ H locs ls d z er hP hD hS => by subst er; exact W.zret (v := v) hx hb hr z (fun t ht hW => ⟨⟨v, (), rfl, rfl, by rw [ht]; exact hP, va_K.moved hW.alike hK, hD⟩, hS.F ht⟩) hS.2.2 d) v0 s0 _ _ _ h hP hD va_S.rf (lv_sub hl [0, 1] rfl)
def ow_dm_X13_isDigit : List Cond := Cond.code yX13_isDigit cX13_isDigit 1 (some .boolean) :: ([] ++ [])
theorem gd_dm_X13_isDigit : ∀ w ∈ ow_dm_X13_isDigit, (w.onTables && w.keeps) = true ∨ ∃ ty, w = Cond.arrayClass ty := List.forall_mem_cons.mpr ⟨good_of_word rfl, List.forall_mem_append.mpr ⟨fun w h => good_of_word (List.all_eq_true.mp (by decide +kernel) w h), fun _ h => nomatch h⟩⟩
def dj_X13_isDigit_17 (p : Program) (l : Launch) (e : Env) (s : State) (m : MethodId) (args : Array Value) (below : List Frame) (meth : Method) (c : Code) (Q : State → Prop) (A : Nat → Prop) (dC : Nat → ClassId) (dI : Nat → Nat → Nat) (a : Nat → Nat) (ac : Nat → ClassId) (g : Int32 → (Unit) → Option (Int32 × (Unit))) (r : Int32 × (Unit)) : Prop := ∀ (y0 : Int32) (s0 : Unit) (H : Heap) (locs : List Loc) (ls : Array Slot), g y0 s0 = some r → va_P (dC, dI) vwCl (dw_P a ac s0) H → va_D A (dw_P a ac s0) → va_S A s.heap H locs → lv_has ls 1 [] → W p l e (headSpec ow_dm_X13_isDigit ({ frames := 0, cells := 0, slots := 0, locals := 0 })).room s m args below meth c H locs 0 0 Q (F0 m 17 ls [.int y0])
def dj_X13_isDigit_16 (p : Program) (l : Launch) (e : Env) (s : State) (m : MethodId) (args : Array Value) (below : List Frame) (meth : Method) (c : Code) (Q : State → Prop) (A : Nat → Prop) (dC : Nat → ClassId) (dI : Nat → Nat → Nat) (a : Nat → Nat) (ac : Nat → ClassId) (g : (Unit) → Option (Int32 × (Unit))) (r : Int32 × (Unit)) : Prop := ∀ (s0 : Unit) (H : Heap) (locs : List Loc) (ls : Array Slot), g s0 = some r → va_P (dC, dI) vwCl (dw_P a ac s0) H → va_D A (dw_P a ac s0) → va_S A s.heap H locs → lv_has ls 1 [] → W p l e (headSpec ow_dm_X13_isDigit ({ frames := 0, cells := 0, slots := 0, locals := 0 })).room s m args below meth c H locs 0 0 Q (F0 m 16 ls [])
def dj_X13_isDigit_0 (p : Program) (l : Launch) (e : Env) (s : State) (m : MethodId) (args : Array Value) (below : List Frame) (meth : Method) (c : Code) (Q : State → Prop) (A : Nat → Prop) (dC : Nat → ClassId) (dI : Nat → Nat → Nat) (a : Nat → Nat) (ac : Nat → ClassId) (g : Int32 → (Unit) → Option (Int32 × (Unit))) (r : Int32 × (Unit)) : Prop := ∀ (v0 : Int32) (s0 : Unit) (H : Heap) (locs : List Loc) (ls : Array Slot), g v0 s0 = some r → va_P (dC, dI) vwCl (dw_P a ac s0) H → va_D A (dw_P a ac s0) → va_S A s.heap H locs → lv_has ls 1 [(0, .int v0)] → W p l e (headSpec ow_dm_X13_isDigit ({ frames := 0, cells := 0, slots := 0, locals := 0 })).room s m args below meth c H locs 0 0 Q (F0 m 0 ls [])
set_option maxHeartbeats 40000000 in
set_option maxRecDepth 100000 in
theorem db_X13_isDigit_17 {p : Program} {l : Launch} {e : Env} {s : State} {m : MethodId} {args : Array Value} {below : List Frame} {meth : Method} {c : Code} {Q : State → Prop} {A : Nat → Prop} {dC : Nat → ClassId} {dI : Nat → Nat → Nat} {a : Nat → Nat} {ac : Nat → ClassId} {n : Nat} {r : Int32 × (Unit)} (C : nd_C p l s m args c A (dC, dI) cX13_isDigit 1 RX13 ow_dm_X13_isDigit (dk_P ac)) (K : nd_Ki p l e (headSpec ow_dm_X13_isDigit ({ frames := 0, cells := 0, slots := 0, locals := 0 })).room s m args below meth c Q A (dC, dI) cX13_isDigit .boolean (Unit) (dw_P a ac) r) : dj_X13_isDigit_17 p l e s m args below meth c Q A dC dI a ac (df_X13_isDigit_17 n) r := by
  obtain ⟨hlt, hx, hb, hml, hown, hts, hN, hA, hK⟩ := id C
  intro y0 s0 H locs ls h hP hD hS hl
  unfold df_X13_isDigit_17 at h
  obtain ⟨n2, h⟩ := nd_z_e ⟨_, rfl⟩ h
  exact K _ _ _ _ _ _ dX13_isDigit_17 n2 (Option.some.inj h).symm hP hD hS
set_option maxHeartbeats 40000000 in
set_option maxRecDepth 100000 in
theorem db_X13_isDigit_16 {p : Program} {l : Launch} {e : Env} {s : State} {m : MethodId} {args : Array Value} {below : List Frame} {meth : Method} {c : Code} {Q : State → Prop} {A : Nat → Prop} {dC : Nat → ClassId} {dI : Nat → Nat → Nat} {a : Nat → Nat} {ac : Nat → ClassId} {n : Nat} {r : Int32 × (Unit)} (C : nd_C p l s m args c A (dC, dI) cX13_isDigit 1 RX13 ow_dm_X13_isDigit (dk_P ac)) (K : nd_Ki p l e (headSpec ow_dm_X13_isDigit ({ frames := 0, cells := 0, slots := 0, locals := 0 })).room s m args below meth c Q A (dC, dI) cX13_isDigit .boolean (Unit) (dw_P a ac) r) : dj_X13_isDigit_16 p l e s m args below meth c Q A dC dI a ac (df_X13_isDigit_16 n) r := by
  obtain ⟨hlt, hx, hb, hml, hown, hts, hN, hA, hK⟩ := id C
  intro s0 H locs ls h hP hD hS hl
  unfold df_X13_isDigit_16 at h
  refine lv_iconst (v := 0) hx hb dX13_isDigit_16 (by decide) ?_
  exact (db_X13_isDigit_17 C K) (0) s0 _ _ _ h hP hD hS (lv_sub hl [] rfl)
set_option maxHeartbeats 40000000 in
set_option maxRecDepth 100000 in
theorem db_X13_isDigit_0 {p : Program} {l : Launch} {e : Env} {s : State} {m : MethodId} {args : Array Value} {below : List Frame} {meth : Method} {c : Code} {Q : State → Prop} {A : Nat → Prop} {dC : Nat → ClassId} {dI : Nat → Nat → Nat} {a : Nat → Nat} {ac : Nat → ClassId} {n : Nat} {r : Int32 × (Unit)} (C : nd_C p l s m args c A (dC, dI) cX13_isDigit 1 RX13 ow_dm_X13_isDigit (dk_P ac)) (K : nd_Ki p l e (headSpec ow_dm_X13_isDigit ({ frames := 0, cells := 0, slots := 0, locals := 0 })).room s m args below meth c Q A (dC, dI) cX13_isDigit .boolean (Unit) (dw_P a ac) r) : dj_X13_isDigit_0 p l e s m args below meth c Q A dC dI a ac (df_X13_isDigit_0 n) r := by
  obtain ⟨hlt, hx, hb, hml, hown, hts, hN, hA, hK⟩ := id C
  intro v0 s0 H locs ls h hP hD hS hl
  unfold df_X13_isDigit_0 at h
  refine lv_iload_n hx hb dX13_isDigit_0 rfl (lv_at hl 0 rfl) ?_
  refine lv_bipush (v := 48) hx hb dX13_isDigit_1 (by decide) ?_
  refine lv_icmp_lt (tgt := 16) hx hb dX13_isDigit_3 (by decide) (fun c1 => ?_) (fun c1 => ?_)
  · have h := nd_pos h c1
    exact (db_X13_isDigit_16 C K)  s0 _ _ _ h hP hD hS (lv_sub hl [] rfl)
  · have h := nd_neg h c1
    refine lv_iload_n hx hb dX13_isDigit_6 rfl (lv_at hl 0 rfl) ?_
    refine lv_bipush (v := 57) hx hb dX13_isDigit_7 (by decide) ?_
    refine lv_icmp_gt (tgt := 16) hx hb dX13_isDigit_9 (by decide) (fun c3 => ?_) (fun c3 => ?_)
    · have h := nd_pos h c3
      exact (db_X13_isDigit_16 C K)  s0 _ _ _ h hP hD hS (lv_sub hl [] rfl)
    · have h := nd_neg h c3
      refine lv_iconst (v := 1) hx hb dX13_isDigit_12 (by decide) ?_
      refine lv_goto (tgt := 17) hx hb dX13_isDigit_13 (by decide) ?_
      exact (db_X13_isDigit_17 C K) (1) s0 _ _ _ h hP hD hS (lv_sub hl [] rfl)
set_option maxHeartbeats 40000000 in
set_option maxRecDepth 100000 in
theorem dm_X13_isDigit (l : Launch) (hlt : l.stackTraces = false) (dC : Nat → ClassId) (dI : Nat → Nat → Nat) (a : Nat → Nat) (ac : Nat → ClassId) (n : Nat) (v0 : Int32) (s0 : Unit) {r : Int32 × (Unit)} (h : df_X13_isDigit n v0 s0 = some r) (sz : Nat) : Met l yX13_isDigit ow_dm_X13_isDigit ({ frames := 0, cells := 0, slots := 0, locals := 0 }) (va_Pc [.int v0] (fun U => U.heap.size = sz ∧ va_P (dC, dI) vwCl (dw_P a ac s0) U.heap ∧ va_K (dC, dI) vwCl (dk_P ac) U ∧ va_D (fun _ => True) (dw_P a ac s0) ∧ nv_E dI (va_A (dw_P a ac s0) sz) U)) (va_Qi (fun x _ => x = r.1) (fun (_ : Unit) t => va_P (dC, dI) vwCl (dw_P a ac r.2) t.heap ∧ va_K (dC, dI) vwCl (dk_P ac) t ∧ va_D (va_A (dw_P a ac s0) sz) (dw_P a ac r.2)) (va_A (dw_P a ac s0) sz)) 0 0 (va_A (dw_P a ac s0) sz) := by
  refine Met.ofW (cc := cX13_isDigit) (maxL := 1) (ret := (some .boolean)) (by decide) rfl ?_
  intro p e s m args below meth c s₁ B hml hv
  obtain ⟨rfl, hsz, hP, hK, hD0, hN⟩ := hv
  have hx := B.exec
  have hb := B.bytes
  have hr := B.returns
  have hts := atoms_spec (ws := ow_dm_X13_isDigit) B.pre
  have hown : s.vm.findClass RX13 = some m.cls := findClass_of_methodNamed B.named
  have hlocks := B.notSynchronized
  subst hsz
  have hD := hD0.self (sz := s.heap.size)
  generalize hAe : va_A (dw_P a ac s0) s.heap.size = A at hD hN ⊢
  have hA : ∀ q : Nat, s.heap.size ≤ q → A q := fun q h => by rw [← hAe]; exact Or.inr h
  have hl := lv_entry ([.int v0]) (n := 1) (Nat.le_of_ble_eq_true rfl)
  rw [lg_entry_eq]
  generalize (lg_sl ([.int v0]) ++ List.replicate (1 - (lg_sl ([.int v0])).length) Slot.unset).toArray = ls at hl ⊢
  have hl : lv_has ls 1 [(0, .int v0)] := hl
  exact db_X13_isDigit_0 (dC := dC) (dI := dI) (a := a) (ac := ac) (n := n) (r := r) ⟨hlt, hx, hb, hml, hown, hts, hN, hA, hK⟩ (fun pc v τ H locs ls d z er hP hD hS => by subst er; exact W.zret (v := v) hx hb hr z (fun t ht hW => ⟨⟨v, (), rfl, rfl, by rw [ht]; exact hP, va_K.moved hW.alike hK, hD⟩, hS.F ht⟩) hS.2.2 d) v0 s0 _ _ _ h hP hD va_S.rf (lv_sub hl [0] rfl)
def ow_dm_X13_isLetter : List Cond := Cond.code yX13_isLetter cX13_isLetter 1 (some .boolean) :: ([] ++ [])
theorem gd_dm_X13_isLetter : ∀ w ∈ ow_dm_X13_isLetter, (w.onTables && w.keeps) = true ∨ ∃ ty, w = Cond.arrayClass ty := List.forall_mem_cons.mpr ⟨good_of_word rfl, List.forall_mem_append.mpr ⟨fun w h => good_of_word (List.all_eq_true.mp (by decide +kernel) w h), fun _ h => nomatch h⟩⟩
def dj_X13_isLetter_29 (p : Program) (l : Launch) (e : Env) (s : State) (m : MethodId) (args : Array Value) (below : List Frame) (meth : Method) (c : Code) (Q : State → Prop) (A : Nat → Prop) (dC : Nat → ClassId) (dI : Nat → Nat → Nat) (a : Nat → Nat) (ac : Nat → ClassId) (g : Int32 → (Unit) → Option (Int32 × (Unit))) (r : Int32 × (Unit)) : Prop := ∀ (y0 : Int32) (s0 : Unit) (H : Heap) (locs : List Loc) (ls : Array Slot), g y0 s0 = some r → va_P (dC, dI) vwCl (dw_P a ac s0) H → va_D A (dw_P a ac s0) → va_S A s.heap H locs → lv_has ls 1 [] → W p l e (headSpec ow_dm_X13_isLetter ({ frames := 0, cells := 0, slots := 0, locals := 0 })).room s m args below meth c H locs 0 0 Q (F0 m 29 ls [.int y0])
def dj_X13_isLetter_28 (p : Program) (l : Launch) (e : Env) (s : State) (m : MethodId) (args : Array Value) (below : List Frame) (meth : Method) (c : Code) (Q : State → Prop) (A : Nat → Prop) (dC : Nat → ClassId) (dI : Nat → Nat → Nat) (a : Nat → Nat) (ac : Nat → ClassId) (g : (Unit) → Option (Int32 × (Unit))) (r : Int32 × (Unit)) : Prop := ∀ (s0 : Unit) (H : Heap) (locs : List Loc) (ls : Array Slot), g s0 = some r → va_P (dC, dI) vwCl (dw_P a ac s0) H → va_D A (dw_P a ac s0) → va_S A s.heap H locs → lv_has ls 1 [] → W p l e (headSpec ow_dm_X13_isLetter ({ frames := 0, cells := 0, slots := 0, locals := 0 })).room s m args below meth c H locs 0 0 Q (F0 m 28 ls [])
def dj_X13_isLetter_24 (p : Program) (l : Launch) (e : Env) (s : State) (m : MethodId) (args : Array Value) (below : List Frame) (meth : Method) (c : Code) (Q : State → Prop) (A : Nat → Prop) (dC : Nat → ClassId) (dI : Nat → Nat → Nat) (a : Nat → Nat) (ac : Nat → ClassId) (g : (Unit) → Option (Int32 × (Unit))) (r : Int32 × (Unit)) : Prop := ∀ (s0 : Unit) (H : Heap) (locs : List Loc) (ls : Array Slot), g s0 = some r → va_P (dC, dI) vwCl (dw_P a ac s0) H → va_D A (dw_P a ac s0) → va_S A s.heap H locs → lv_has ls 1 [] → W p l e (headSpec ow_dm_X13_isLetter ({ frames := 0, cells := 0, slots := 0, locals := 0 })).room s m args below meth c H locs 0 0 Q (F0 m 24 ls [])
def dj_X13_isLetter_12 (p : Program) (l : Launch) (e : Env) (s : State) (m : MethodId) (args : Array Value) (below : List Frame) (meth : Method) (c : Code) (Q : State → Prop) (A : Nat → Prop) (dC : Nat → ClassId) (dI : Nat → Nat → Nat) (a : Nat → Nat) (ac : Nat → ClassId) (g : Int32 → (Unit) → Option (Int32 × (Unit))) (r : Int32 × (Unit)) : Prop := ∀ (x0 : Int32) (s0 : Unit) (H : Heap) (locs : List Loc) (ls : Array Slot), g x0 s0 = some r → va_P (dC, dI) vwCl (dw_P a ac s0) H → va_D A (dw_P a ac s0) → va_S A s.heap H locs → lv_has ls 1 [(0, .int x0)] → W p l e (headSpec ow_dm_X13_isLetter ({ frames := 0, cells := 0, slots := 0, locals := 0 })).room s m args below meth c H locs 0 0 Q (F0 m 12 ls [])
def dj_X13_isLetter_0 (p : Program) (l : Launch) (e : Env) (s : State) (m : MethodId) (args : Array Value) (below : List Frame) (meth : Method) (c : Code) (Q : State → Prop) (A : Nat → Prop) (dC : Nat → ClassId) (dI : Nat → Nat → Nat) (a : Nat → Nat) (ac : Nat → ClassId) (g : Int32 → (Unit) → Option (Int32 × (Unit))) (r : Int32 × (Unit)) : Prop := ∀ (v0 : Int32) (s0 : Unit) (H : Heap) (locs : List Loc) (ls : Array Slot), g v0 s0 = some r → va_P (dC, dI) vwCl (dw_P a ac s0) H → va_D A (dw_P a ac s0) → va_S A s.heap H locs → lv_has ls 1 [(0, .int v0)] → W p l e (headSpec ow_dm_X13_isLetter ({ frames := 0, cells := 0, slots := 0, locals := 0 })).room s m args below meth c H locs 0 0 Q (F0 m 0 ls [])
set_option maxHeartbeats 40000000 in
set_option maxRecDepth 100000 in
theorem db_X13_isLetter_29 {p : Program} {l : Launch} {e : Env} {s : State} {m : MethodId} {args : Array Value} {below : List Frame} {meth : Method} {c : Code} {Q : State → Prop} {A : Nat → Prop} {dC : Nat → ClassId} {dI : Nat → Nat → Nat} {a : Nat → Nat} {ac : Nat → ClassId} {n : Nat} {r : Int32 × (Unit)} (C : nd_C p l s m args c A (dC, dI) cX13_isLetter 1 RX13 ow_dm_X13_isLetter (dk_P ac)) (K : nd_Ki p l e (headSpec ow_dm_X13_isLetter ({ frames := 0, cells := 0, slots := 0, locals := 0 })).room s m args below meth c Q A (dC, dI) cX13_isLetter .boolean (Unit) (dw_P a ac) r) : dj_X13_isLetter_29 p l e s m args below meth c Q A dC dI a ac (df_X13_isLetter_29 n) r := by
  obtain ⟨hlt, hx, hb, hml, hown, hts, hN, hA, hK⟩ := id C
  intro y0 s0 H locs ls h hP hD hS hl
  unfold df_X13_isLetter_29 at h
  obtain ⟨n3, h⟩ := nd_z_e ⟨_, rfl⟩ h
  exact K _ _ _ _ _ _ dX13_isLetter_29 n3 (Option.some.inj h).symm hP hD hS
set_option maxHeartbeats 40000000 in
set_option maxRecDepth 100000 in
theorem db_X13_isLetter_28 {p : Program} {l : Launch} {e : Env} {s : State} {m : MethodId} {args : Array Value} {below : List Frame} {meth : Method} {c : Code} {Q : State → Prop} {A : Nat → Prop} {dC : Nat → ClassId} {dI : Nat → Nat → Nat} {a : Nat → Nat} {ac : Nat → ClassId} {n : Nat} {r : Int32 × (Unit)} (C : nd_C p l s m args c A (dC, dI) cX13_isLetter 1 RX13 ow_dm_X13_isLetter (dk_P ac)) (K : nd_Ki p l e (headSpec ow_dm_X13_isLetter ({ frames := 0, cells := 0, slots := 0, locals := 0 })).room s m args below meth c Q A (dC, dI) cX13_isLetter .boolean (Unit) (dw_P a ac) r) : dj_X13_isLetter_28 p l e s m args below meth c Q A dC dI a ac (df_X13_isLetter_28 n) r := by
  obtain ⟨hlt, hx, hb, hml, hown, hts, hN, hA, hK⟩ := id C
  intro s0 H locs ls h hP hD hS hl
  unfold df_X13_isLetter_28 at h
  refine lv_iconst (v := 0) hx hb dX13_isLetter_28 (by decide) ?_
  exact (db_X13_isLetter_29 C K) (0) s0 _ _ _ h hP hD hS (lv_sub hl [] rfl)
set_option maxHeartbeats 40000000 in
set_option maxRecDepth 100000 in
theorem db_X13_isLetter_24 {p : Program} {l : Launch} {e : Env} {s : State} {m : MethodId} {args : Array Value} {below : List Frame} {meth : Method} {c : Code} {Q : State → Prop} {A : Nat → Prop} {dC : Nat → ClassId} {dI : Nat → Nat → Nat} {a : Nat → Nat} {ac : Nat → ClassId} {n : Nat} {r : Int32 × (Unit)} (C : nd_C p l s m args c A (dC, dI) cX13_isLetter 1 RX13 ow_dm_X13_isLetter (dk_P ac)) (K : nd_Ki p l e (headSpec ow_dm_X13_isLetter ({ frames := 0, cells := 0, slots := 0, locals := 0 })).room s m args below meth c Q A (dC, dI) cX13_isLetter .boolean (Unit) (dw_P a ac) r) : dj_X13_isLetter_24 p l e s m args below meth c Q A dC dI a ac (df_X13_isLetter_24 n) r := by
  obtain ⟨hlt, hx, hb, hml, hown, hts, hN, hA, hK⟩ := id C
  intro s0 H locs ls h hP hD hS hl
  unfold df_X13_isLetter_24 at h
  refine lv_iconst (v := 1) hx hb dX13_isLetter_24 (by decide) ?_
  refine lv_goto (tgt := 29) hx hb dX13_isLetter_25 (by decide) ?_
  exact (db_X13_isLetter_29 C K) (1) s0 _ _ _ h hP hD hS (lv_sub hl [] rfl)
set_option maxHeartbeats 40000000 in
set_option maxRecDepth 100000 in
theorem db_X13_isLetter_12 {p : Program} {l : Launch} {e : Env} {s : State} {m : MethodId} {args : Array Value} {below : List Frame} {meth : Method} {c : Code} {Q : State → Prop} {A : Nat → Prop} {dC : Nat → ClassId} {dI : Nat → Nat → Nat} {a : Nat → Nat} {ac : Nat → ClassId} {n : Nat} {r : Int32 × (Unit)} (C : nd_C p l s m args c A (dC, dI) cX13_isLetter 1 RX13 ow_dm_X13_isLetter (dk_P ac)) (K : nd_Ki p l e (headSpec ow_dm_X13_isLetter ({ frames := 0, cells := 0, slots := 0, locals := 0 })).room s m args below meth c Q A (dC, dI) cX13_isLetter .boolean (Unit) (dw_P a ac) r) : dj_X13_isLetter_12 p l e s m args below meth c Q A dC dI a ac (df_X13_isLetter_12 n) r := by
  obtain ⟨hlt, hx, hb, hml, hown, hts, hN, hA, hK⟩ := id C
  intro x0 s0 H locs ls h hP hD hS hl
  unfold df_X13_isLetter_12 at h
  refine lv_iload_n hx hb dX13_isLetter_12 rfl (lv_at hl 0 rfl) ?_
  refine lv_bipush (v := 65) hx hb dX13_isLetter_13 (by decide) ?_
  refine lv_icmp_lt (tgt := 28) hx hb dX13_isLetter_15 (by decide) (fun c2 => ?_) (fun c2 => ?_)
  · have h := nd_pos h c2
    exact (db_X13_isLetter_28 C K)  s0 _ _ _ h hP hD hS (lv_sub hl [] rfl)
  · have h := nd_neg h c2
    refine lv_iload_n hx hb dX13_isLetter_18 rfl (lv_at hl 0 rfl) ?_
    refine lv_bipush (v := 90) hx hb dX13_isLetter_19 (by decide) ?_
    refine lv_icmp_gt (tgt := 28) hx hb dX13_isLetter_21 (by decide) (fun c4 => ?_) (fun c4 => ?_)
    · have h := nd_pos h c4
      exact (db_X13_isLetter_28 C K)  s0 _ _ _ h hP hD hS (lv_sub hl [] rfl)
    · have h := nd_neg h c4
      exact (db_X13_isLetter_24 C K)  s0 _ _ _ h hP hD hS (lv_sub hl [] rfl)
set_option maxHeartbeats 40000000 in
set_option maxRecDepth 100000 in
theorem db_X13_isLetter_0 {p : Program} {l : Launch} {e : Env} {s : State} {m : MethodId} {args : Array Value} {below : List Frame} {meth : Method} {c : Code} {Q : State → Prop} {A : Nat → Prop} {dC : Nat → ClassId} {dI : Nat → Nat → Nat} {a : Nat → Nat} {ac : Nat → ClassId} {n : Nat} {r : Int32 × (Unit)} (C : nd_C p l s m args c A (dC, dI) cX13_isLetter 1 RX13 ow_dm_X13_isLetter (dk_P ac)) (K : nd_Ki p l e (headSpec ow_dm_X13_isLetter ({ frames := 0, cells := 0, slots := 0, locals := 0 })).room s m args below meth c Q A (dC, dI) cX13_isLetter .boolean (Unit) (dw_P a ac) r) : dj_X13_isLetter_0 p l e s m args below meth c Q A dC dI a ac (df_X13_isLetter_0 n) r := by
  obtain ⟨hlt, hx, hb, hml, hown, hts, hN, hA, hK⟩ := id C
  intro v0 s0 H locs ls h hP hD hS hl
  unfold df_X13_isLetter_0 at h
  refine lv_iload_n hx hb dX13_isLetter_0 rfl (lv_at hl 0 rfl) ?_
  refine lv_bipush (v := 97) hx hb dX13_isLetter_1 (by decide) ?_
  refine lv_icmp_lt (tgt := 12) hx hb dX13_isLetter_3 (by decide) (fun c1 => ?_) (fun c1 => ?_)
  · have h := nd_pos h c1
    exact (db_X13_isLetter_12 C K) (v0) s0 _ _ _ h hP hD hS (lv_sub hl [0] rfl)
  · have h := nd_neg h c1
    refine lv_iload_n hx hb dX13_isLetter_6 rfl (lv_at hl 0 rfl) ?_
    refine lv_bipush (v := 122) hx hb dX13_isLetter_7 (by decide) ?_
    refine lv_icmp_le (tgt := 24) hx hb dX13_isLetter_9 (by decide) (fun c5 => ?_) (fun c5 => ?_)
    · have h := nd_pos h c5
      exact (db_X13_isLetter_24 C K)  s0 _ _ _ h hP hD hS (lv_sub hl [] rfl)
    · have h := nd_neg h c5
      exact (db_X13_isLetter_12 C K) (v0) s0 _ _ _ h hP hD hS (lv_sub hl [0] rfl)
set_option maxHeartbeats 40000000 in
set_option maxRecDepth 100000 in
theorem dm_X13_isLetter (l : Launch) (hlt : l.stackTraces = false) (dC : Nat → ClassId) (dI : Nat → Nat → Nat) (a : Nat → Nat) (ac : Nat → ClassId) (n : Nat) (v0 : Int32) (s0 : Unit) {r : Int32 × (Unit)} (h : df_X13_isLetter n v0 s0 = some r) (sz : Nat) : Met l yX13_isLetter ow_dm_X13_isLetter ({ frames := 0, cells := 0, slots := 0, locals := 0 }) (va_Pc [.int v0] (fun U => U.heap.size = sz ∧ va_P (dC, dI) vwCl (dw_P a ac s0) U.heap ∧ va_K (dC, dI) vwCl (dk_P ac) U ∧ va_D (fun _ => True) (dw_P a ac s0) ∧ nv_E dI (va_A (dw_P a ac s0) sz) U)) (va_Qi (fun x _ => x = r.1) (fun (_ : Unit) t => va_P (dC, dI) vwCl (dw_P a ac r.2) t.heap ∧ va_K (dC, dI) vwCl (dk_P ac) t ∧ va_D (va_A (dw_P a ac s0) sz) (dw_P a ac r.2)) (va_A (dw_P a ac s0) sz)) 0 0 (va_A (dw_P a ac s0) sz) := by
  refine Met.ofW (cc := cX13_isLetter) (maxL := 1) (ret := (some .boolean)) (by decide) rfl ?_
  intro p e s m args below meth c s₁ B hml hv
  obtain ⟨rfl, hsz, hP, hK, hD0, hN⟩ := hv
  have hx := B.exec
  have hb := B.bytes
  have hr := B.returns
  have hts := atoms_spec (ws := ow_dm_X13_isLetter) B.pre
  have hown : s.vm.findClass RX13 = some m.cls := findClass_of_methodNamed B.named
  have hlocks := B.notSynchronized
  subst hsz
  have hD := hD0.self (sz := s.heap.size)
  generalize hAe : va_A (dw_P a ac s0) s.heap.size = A at hD hN ⊢
  have hA : ∀ q : Nat, s.heap.size ≤ q → A q := fun q h => by rw [← hAe]; exact Or.inr h
  have hl := lv_entry ([.int v0]) (n := 1) (Nat.le_of_ble_eq_true rfl)
  rw [lg_entry_eq]
  generalize (lg_sl ([.int v0]) ++ List.replicate (1 - (lg_sl ([.int v0])).length) Slot.unset).toArray = ls at hl ⊢
  have hl : lv_has ls 1 [(0, .int v0)] := hl
  exact db_X13_isLetter_0 (dC := dC) (dI := dI) (a := a) (ac := ac) (n := n) (r := r) ⟨hlt, hx, hb, hml, hown, hts, hN, hA, hK⟩ (fun pc v τ H locs ls d z er hP hD hS => by subst er; exact W.zret (v := v) hx hb hr z (fun t ht hW => ⟨⟨v, (), rfl, rfl, by rw [ht]; exact hP, va_K.moved hW.alike hK, hD⟩, hS.F ht⟩) hS.2.2 d) v0 s0 _ _ _ h hP hD va_S.rf (lv_sub hl [0] rfl)
def ow_dm_X13_isPlain : List Cond := Cond.code yX13_isPlain cX13_isPlain 1 (some .boolean) :: ([Cond.methodLink RX13 351 yX13_isDigit, Cond.static yX13_isDigit, Cond.initialized RX13, Cond.methodLink RX13 355 yX13_isLetter, Cond.static yX13_isLetter] ++ (ow_dm_X13_isDigit ++ (ow_dm_X13_isLetter ++ [])))
theorem gd_dm_X13_isPlain : ∀ w ∈ ow_dm_X13_isPlain, (w.onTables && w.keeps) = true ∨ ∃ ty, w = Cond.arrayClass ty := List.forall_mem_cons.mpr ⟨good_of_word rfl, List.forall_mem_append.mpr ⟨fun w h => good_of_word (List.all_eq_true.mp (by decide +kernel) w h), List.forall_mem_append.mpr ⟨gd_dm_X13_isDigit, List.forall_mem_append.mpr ⟨gd_dm_X13_isLetter, fun _ h => nomatch h⟩⟩⟩⟩
theorem gi_dm_X13_isPlain_0 : GoodIn ow_dm_X13_isPlain (wsS RX13 351 yX13_isDigit ow_dm_X13_isDigit) := goodIn_app (goodIn_of _ (by decide +kernel)) (fun w h => ⟨List.mem_cons_of_mem _ (List.mem_append_right _ (List.mem_append_left _ h)), gd_dm_X13_isDigit w h⟩)
theorem gi_dm_X13_isPlain_1 : GoodIn ow_dm_X13_isPlain (wsS RX13 355 yX13_isLetter ow_dm_X13_isLetter) := goodIn_app (goodIn_of _ (by decide +kernel)) (fun w h => ⟨List.mem_cons_of_mem _ (List.mem_append_right _ (List.mem_append_right _ (List.mem_append_left _ h))), gd_dm_X13_isLetter w h⟩)
def dj_X13_isPlain_37 (p : Program) (l : Launch) (e : Env) (s : State) (m : MethodId) (args : Array Value) (below : List Frame) (meth : Method) (c : Code) (Q : State → Prop) (A : Nat → Prop) (dC : Nat → ClassId) (dI : Nat → Nat → Nat) (a : Nat → Nat) (ac : Nat → ClassId) (g : Int32 → (Unit) → Option (Int32 × (Unit))) (r : Int32 × (Unit)) : Prop := ∀ (y0 : Int32) (s0 : Unit) (H : Heap) (locs : List Loc) (ls : Array Slot), g y0 s0 = some r → va_P (dC, dI) vwCl (dw_P a ac s0) H → va_D A (dw_P a ac s0) → va_S A s.heap H locs → lv_has ls 1 [] → W p l e (headSpec ow_dm_X13_isPlain ({ frames := 1, cells := 0, slots := 0, locals := 20 })).room s m args below meth c H locs 0 0 Q (F0 m 37 ls [.int y0])
def dj_X13_isPlain_32 (p : Program) (l : Launch) (e : Env) (s : State) (m : MethodId) (args : Array Value) (below : List Frame) (meth : Method) (c : Code) (Q : State → Prop) (A : Nat → Prop) (dC : Nat → ClassId) (dI : Nat → Nat → Nat) (a : Nat → Nat) (ac : Nat → ClassId) (g : (Unit) → Option (Int32 × (Unit))) (r : Int32 × (Unit)) : Prop := ∀ (s0 : Unit) (H : Heap) (locs : List Loc) (ls : Array Slot), g s0 = some r → va_P (dC, dI) vwCl (dw_P a ac s0) H → va_D A (dw_P a ac s0) → va_S A s.heap H locs → lv_has ls 1 [] → W p l e (headSpec ow_dm_X13_isPlain ({ frames := 1, cells := 0, slots := 0, locals := 20 })).room s m args below meth c H locs 0 0 Q (F0 m 32 ls [])
def dj_X13_isPlain_0 (p : Program) (l : Launch) (e : Env) (s : State) (m : MethodId) (args : Array Value) (below : List Frame) (meth : Method) (c : Code) (Q : State → Prop) (A : Nat → Prop) (dC : Nat → ClassId) (dI : Nat → Nat → Nat) (a : Nat → Nat) (ac : Nat → ClassId) (g : Int32 → (Unit) → Option (Int32 × (Unit))) (r : Int32 × (Unit)) : Prop := ∀ (v0 : Int32) (s0 : Unit) (H : Heap) (locs : List Loc) (ls : Array Slot), g v0 s0 = some r → va_P (dC, dI) vwCl (dw_P a ac s0) H → va_D A (dw_P a ac s0) → va_S A s.heap H locs → lv_has ls 1 [(0, .int v0)] → W p l e (headSpec ow_dm_X13_isPlain ({ frames := 1, cells := 0, slots := 0, locals := 20 })).room s m args below meth c H locs 0 0 Q (F0 m 0 ls [])
set_option maxHeartbeats 40000000 in
set_option maxRecDepth 100000 in
theorem db_X13_isPlain_37 {p : Program} {l : Launch} {e : Env} {s : State} {m : MethodId} {args : Array Value} {below : List Frame} {meth : Method} {c : Code} {Q : State → Prop} {A : Nat → Prop} {dC : Nat → ClassId} {dI : Nat → Nat → Nat} {a : Nat → Nat} {ac : Nat → ClassId} {n : Nat} {r : Int32 × (Unit)} (C : nd_C p l s m args c A (dC, dI) cX13_isPlain 1 RX13 ow_dm_X13_isPlain (dk_P ac)) (K : nd_Ki p l e (headSpec ow_dm_X13_isPlain ({ frames := 1, cells := 0, slots := 0, locals := 20 })).room s m args below meth c Q A (dC, dI) cX13_isPlain .boolean (Unit) (dw_P a ac) r) : dj_X13_isPlain_37 p l e s m args below meth c Q A dC dI a ac (df_X13_isPlain_37 n) r := by
  obtain ⟨hlt, hx, hb, hml, hown, hts, hN, hA, hK⟩ := id C
  intro y0 s0 H locs ls h hP hD hS hl
  unfold df_X13_isPlain_37 at h
  obtain ⟨n5, h⟩ := nd_z_e ⟨_, rfl⟩ h
  exact K _ _ _ _ _ _ dX13_isPlain_37 n5 (Option.some.inj h).symm hP hD hS
set_option maxHeartbeats 40000000 in
set_option maxRecDepth 100000 in
theorem db_X13_isPlain_32 {p : Program} {l : Launch} {e : Env} {s : State} {m : MethodId} {args : Array Value} {below : List Frame} {meth : Method} {c : Code} {Q : State → Prop} {A : Nat → Prop} {dC : Nat → ClassId} {dI : Nat → Nat → Nat} {a : Nat → Nat} {ac : Nat → ClassId} {n : Nat} {r : Int32 × (Unit)} (C : nd_C p l s m args c A (dC, dI) cX13_isPlain 1 RX13 ow_dm_X13_isPlain (dk_P ac)) (K : nd_Ki p l e (headSpec ow_dm_X13_isPlain ({ frames := 1, cells := 0, slots := 0, locals := 20 })).room s m args below meth c Q A (dC, dI) cX13_isPlain .boolean (Unit) (dw_P a ac) r) : dj_X13_isPlain_32 p l e s m args below meth c Q A dC dI a ac (df_X13_isPlain_32 n) r := by
  obtain ⟨hlt, hx, hb, hml, hown, hts, hN, hA, hK⟩ := id C
  intro s0 H locs ls h hP hD hS hl
  unfold df_X13_isPlain_32 at h
  refine lv_iconst (v := 1) hx hb dX13_isPlain_32 (by decide) ?_
  refine lv_goto (tgt := 37) hx hb dX13_isPlain_33 (by decide) ?_
  exact (db_X13_isPlain_37 C K) (1) s0 _ _ _ h hP hD hS (lv_sub hl [] rfl)
set_option maxHeartbeats 40000000 in
set_option maxRecDepth 100000 in
theorem db_X13_isPlain_0 {p : Program} {l : Launch} {e : Env} {s : State} {m : MethodId} {args : Array Value} {below : List Frame} {meth : Method} {c : Code} {Q : State → Prop} {A : Nat → Prop} {dC : Nat → ClassId} {dI : Nat → Nat → Nat} {a : Nat → Nat} {ac : Nat → ClassId} {n : Nat} {r : Int32 × (Unit)} (C : nd_C p l s m args c A (dC, dI) cX13_isPlain 1 RX13 ow_dm_X13_isPlain (dk_P ac)) (K : nd_Ki p l e (headSpec ow_dm_X13_isPlain ({ frames := 1, cells := 0, slots := 0, locals := 20 })).room s m args below meth c Q A (dC, dI) cX13_isPlain .boolean (Unit) (dw_P a ac) r) : dj_X13_isPlain_0 p l e s m args below meth c Q A dC dI a ac (df_X13_isPlain_0 n) r := by
  obtain ⟨hlt, hx, hb, hml, hown, hts, hN, hA, hK⟩ := id C
  intro v0 s0 H locs ls h hP hD hS hl
  unfold df_X13_isPlain_0 at h
  refine lv_iload_n hx hb dX13_isPlain_0 rfl (lv_at hl 0 rfl) ?_
  obtain ⟨q1, s2, hq, h⟩ := nd_b2_e h
  have hPc : va_P (dC, dI) vwCl (dw_P a ac ()) H := nd_p0
  have hDc : va_D A (dw_P a ac ()) := nd_d0
  have hKc : va_K (dC, dI) vwCl (dk_P ac) s := nd_y0 hK
  have hFc : ∀ q, va_A (dw_P a ac ()) H.size q → A q := nd_r0 hS hA
  refine nd_cSi (As := [.int v0]) (rest := []) (q := q1) (w' := dw_P a ac s2) ⟨hx, hb, hml, hown, hts⟩ (fun sz => dm_X13_isDigit l hlt dC dI a ac n (v0) () hq sz) (cwS 1 hts gi_dm_X13_isPlain_0 rfl rfl rfl (by decide +kernel) ⟨Nat.le_of_ble_eq_true rfl, Nat.le_of_ble_eq_true rfl⟩) hPc hDc hKc hS hA hN rfl hl.1 rfl (Nat.le_of_ble_eq_true rfl) dX13_isPlain_1 (fun H locs hP1 hD1 hk1 hS => ?_)
  have hP := nd_n0 hP hk1
  refine lv_if_ne (tgt := 32) hx hb dX13_isPlain_4 (by decide) (fun c4 => ?_) (fun c4 => ?_)
  · have h := nd_neg h c4
    exact (db_X13_isPlain_32 C K)  s0 _ _ _ h hP hD hS (lv_sub hl [] rfl)
  · have h := nd_pos h c4
    refine lv_iload_n hx hb dX13_isPlain_7 rfl (lv_at hl 0 rfl) ?_
    obtain ⟨q6, s7, hq, h⟩ := nd_b2_e h
    have hPc : va_P (dC, dI) vwCl (dw_P a ac ()) H := nd_p0
    have hDc : va_D A (dw_P a ac ()) := nd_d0
    have hKc : va_K (dC, dI) vwCl (dk_P ac) s := nd_y0 hK
    have hFc : ∀ q, va_A (dw_P a ac ()) H.size q → A q := nd_r0 hS hA
    refine nd_cSi (As := [.int v0]) (rest := []) (q := q6) (w' := dw_P a ac s7) ⟨hx, hb, hml, hown, hts⟩ (fun sz => dm_X13_isLetter l hlt dC dI a ac n (v0) () hq sz) (cwS 1 hts gi_dm_X13_isPlain_1 rfl rfl rfl (by decide +kernel) ⟨Nat.le_of_ble_eq_true rfl, Nat.le_of_ble_eq_true rfl⟩) hPc hDc hKc hS hA hN rfl hl.1 rfl (Nat.le_of_ble_eq_true rfl) dX13_isPlain_8 (fun H locs hP1 hD1 hk1 hS => ?_)
    have hP := nd_n0 hP hk1
    refine lv_if_ne (tgt := 32) hx hb dX13_isPlain_11 (by decide) (fun c9 => ?_) (fun c9 => ?_)
    · have h := nd_neg h c9
      exact (db_X13_isPlain_32 C K)  s0 _ _ _ h hP hD hS (lv_sub hl [] rfl)
    · have h := nd_pos h c9
      refine lv_iload_n hx hb dX13_isPlain_14 rfl (lv_at hl 0 rfl) ?_
      refine lv_bipush (v := 95) hx hb dX13_isPlain_15 (by decide) ?_
      refine lv_icmp_eq (tgt := 32) hx hb dX13_isPlain_17 (by decide) (fun c10 => ?_) (fun c10 => ?_)
      · have h := nd_pos h c10
        exact (db_X13_isPlain_32 C K)  s0 _ _ _ h hP hD hS (lv_sub hl [] rfl)
      · have h := nd_neg h c10
        refine lv_iload_n hx hb dX13_isPlain_20 rfl (lv_at hl 0 rfl) ?_
        refine lv_bipush (v := 46) hx hb dX13_isPlain_21 (by decide) ?_
        refine lv_icmp_eq (tgt := 32) hx hb dX13_isPlain_23 (by decide) (fun c11 => ?_) (fun c11 => ?_)
        · have h := nd_pos h c11
          exact (db_X13_isPlain_32 C K)  s0 _ _ _ h hP hD hS (lv_sub hl [] rfl)
        · have h := nd_neg h c11
          refine lv_iload_n hx hb dX13_isPlain_26 rfl (lv_at hl 0 rfl) ?_
          refine lv_bipush (v := 36) hx hb dX13_isPlain_27 (by decide) ?_
          refine lv_icmp_ne (tgt := 36) hx hb dX13_isPlain_29 (by decide) (fun c12 => ?_) (fun c12 => ?_)
          · have h := nd_neg h c12
            refine lv_iconst (v := 0) hx hb dX13_isPlain_36 (by decide) ?_
            exact (db_X13_isPlain_37 C K) (0) s0 _ _ _ h hP hD hS (lv_sub hl [] rfl)
          · have h := nd_pos h c12
            exact (db_X13_isPlain_32 C K)  s0 _ _ _ h hP hD hS (lv_sub hl [] rfl)
set_option maxHeartbeats 40000000 in
set_option maxRecDepth 100000 in
theorem dm_X13_isPlain (l : Launch) (hlt : l.stackTraces = false) (dC : Nat → ClassId) (dI : Nat → Nat → Nat) (a : Nat → Nat) (ac : Nat → ClassId) (n : Nat) (v0 : Int32) (s0 : Unit) {r : Int32 × (Unit)} (h : df_X13_isPlain n v0 s0 = some r) (sz : Nat) : Met l yX13_isPlain ow_dm_X13_isPlain ({ frames := 1, cells := 0, slots := 0, locals := 20 }) (va_Pc [.int v0] (fun U => U.heap.size = sz ∧ va_P (dC, dI) vwCl (dw_P a ac s0) U.heap ∧ va_K (dC, dI) vwCl (dk_P ac) U ∧ va_D (fun _ => True) (dw_P a ac s0) ∧ nv_E dI (va_A (dw_P a ac s0) sz) U)) (va_Qi (fun x _ => x = r.1) (fun (_ : Unit) t => va_P (dC, dI) vwCl (dw_P a ac r.2) t.heap ∧ va_K (dC, dI) vwCl (dk_P ac) t ∧ va_D (va_A (dw_P a ac s0) sz) (dw_P a ac r.2)) (va_A (dw_P a ac s0) sz)) 0 0 (va_A (dw_P a ac s0) sz) := by
  refine Met.ofW (cc := cX13_isPlain) (maxL := 1) (ret := (some .boolean)) (by decide) rfl ?_
  intro p e s m args below meth c s₁ B hml hv
  obtain ⟨rfl, hsz, hP, hK, hD0, hN⟩ := hv
  have hx := B.exec
  have hb := B.bytes
  have hr := B.returns
  have hts := atoms_spec (ws := ow_dm_X13_isPlain) B.pre
  have hown : s.vm.findClass RX13 = some m.cls := findClass_of_methodNamed B.named
  have hlocks := B.notSynchronized
  subst hsz
  have hD := hD0.self (sz := s.heap.size)
  generalize hAe : va_A (dw_P a ac s0) s.heap.size = A at hD hN ⊢
  have hA : ∀ q : Nat, s.heap.size ≤ q → A q := fun q h => by rw [← hAe]; exact Or.inr h
  have hl := lv_entry ([.int v0]) (n := 1) (Nat.le_of_ble_eq_true rfl)
  rw [lg_entry_eq]
  generalize (lg_sl ([.int v0]) ++ List.replicate (1 - (lg_sl ([.int v0])).length) Slot.unset).toArray = ls at hl ⊢
  have hl : lv_has ls 1 [(0, .int v0)] := hl
  exact db_X13_isPlain_0 (dC := dC) (dI := dI) (a := a) (ac := ac) (n := n) (r := r) ⟨hlt, hx, hb, hml, hown, hts, hN, hA, hK⟩ (fun pc v τ H locs ls d z er hP hD hS => by subst er; exact W.zret (v := v) hx hb hr z (fun t ht hW => ⟨⟨v, (), rfl, rfl, by rw [ht]; exact hP, va_K.moved hW.alike hK, hD⟩, hS.F ht⟩) hS.2.2 d) v0 s0 _ _ _ h hP hD va_S.rf (lv_sub hl [0] rfl)
def ow_dm_X13_plain : List Cond := Cond.code yX13_plain cX13_plain 3 (some .int) :: ([Cond.methodLink RX13 358 yX13_charAt, Cond.instanceMethod yX13_charAt, Cond.selects RX13 yX13_charAt yX13_charAt, Cond.initialized RX13, Cond.methodLink RX13 362 yX13_isPlain, Cond.static yX13_isPlain] ++ (ow_dm_X13_charAt ++ (ow_dm_X13_isPlain ++ [])))
theorem gd_dm_X13_plain : ∀ w ∈ ow_dm_X13_plain, (w.onTables && w.keeps) = true ∨ ∃ ty, w = Cond.arrayClass ty := List.forall_mem_cons.mpr ⟨good_of_word rfl, List.forall_mem_append.mpr ⟨fun w h => good_of_word (List.all_eq_true.mp (by decide +kernel) w h), List.forall_mem_append.mpr ⟨gd_dm_X13_charAt, List.forall_mem_append.mpr ⟨gd_dm_X13_isPlain, fun _ h => nomatch h⟩⟩⟩⟩
theorem gi_dm_X13_plain_0 : GoodIn ow_dm_X13_plain (wsV RX13 358 RX13 yX13_charAt ow_dm_X13_charAt) := goodIn_app (goodIn_of _ (by decide +kernel)) (fun w h => ⟨List.mem_cons_of_mem _ (List.mem_append_right _ (List.mem_append_left _ h)), gd_dm_X13_charAt w h⟩)
theorem gi_dm_X13_plain_1 : GoodIn ow_dm_X13_plain (wsS RX13 362 yX13_isPlain ow_dm_X13_isPlain) := goodIn_app (goodIn_of _ (by decide +kernel)) (fun w h => ⟨List.mem_cons_of_mem _ (List.mem_append_right _ (List.mem_append_right _ (List.mem_append_left _ h))), gd_dm_X13_isPlain w h⟩)
def dj_X13_plain_2 (p : Program) (l : Launch) (e : Env) (s : State) (m : MethodId) (args : Array Value) (below : List Frame) (meth : Method) (c : Code) (Q : State → Prop) (A : Nat → Prop) (dC : Nat → ClassId) (dI : Nat → Nat → Nat) (a : Nat → Nat) (ac : Nat → ClassId) (g : Int32 → (St) → Option (Int32 × (St))) (r : Int32 × (St)) : Prop := ∀ (x2 : Int32) (s0 : St) (H : Heap) (locs : List Loc) (ls : Array Slot), g x2 s0 = some r → va_P (dC, dI) vwCl (dw_X13 a ac s0) H → va_D A (dw_X13 a ac s0) → va_S A s.heap H locs → lv_has ls 3 [(0, .ref (a 0)), (2, .int x2)] → W p l e (headSpec ow_dm_X13_plain ({ frames := 2, cells := 0, slots := 0, locals := 40 })).room s m args below meth c H locs 0 0 Q (F0 m 2 ls [])
def dj_X13_plain_0 (p : Program) (l : Launch) (e : Env) (s : State) (m : MethodId) (args : Array Value) (below : List Frame) (meth : Method) (c : Code) (Q : State → Prop) (A : Nat → Prop) (dC : Nat → ClassId) (dI : Nat → Nat → Nat) (a : Nat → Nat) (ac : Nat → ClassId) (g : Int32 → (St) → Option (Int32 × (St))) (r : Int32 × (St)) : Prop := ∀ (v0 : Int32) (s0 : St) (H : Heap) (locs : List Loc) (ls : Array Slot), g v0 s0 = some r → va_P (dC, dI) vwCl (dw_X13 a ac s0) H → va_D A (dw_X13 a ac s0) → va_S A s.heap H locs → lv_has ls 3 [(0, .ref (a 0)), (1, .int v0)] → W p l e (headSpec ow_dm_X13_plain ({ frames := 2, cells := 0, slots := 0, locals := 40 })).room s m args below meth c H locs 0 0 Q (F0 m 0 ls [])
set_option maxHeartbeats 40000000 in
set_option maxRecDepth 100000 in
theorem dB_X13_plain_2 {p : Program} {l : Launch} {e : Env} {s : State} {m : MethodId} {args : Array Value} {below : List Frame} {meth : Method} {c : Code} {Q : State → Prop} {A : Nat → Prop} {dC : Nat → ClassId} {dI : Nat → Nat → Nat} {a : Nat → Nat} {ac : Nat → ClassId} {n : Nat} {r : Int32 × (St)} (C : nd_C p l s m args c A (dC, dI) cX13_plain 3 RX13 ow_dm_X13_plain (dk_X13 ac)) (K : nd_Ki p l e (headSpec ow_dm_X13_plain ({ frames := 2, cells := 0, slots := 0, locals := 40 })).room s m args below meth c Q A (dC, dI) cX13_plain .int (St) (dw_X13 a ac) r) {g2 : Int32 → (St) → Option (Int32 × (St))} (J2 : dj_X13_plain_2 p l e s m args below meth c Q A dC dI a ac g2 r) : dj_X13_plain_2 p l e s m args below meth c Q A dC dI a ac (dF_X13_plain_2 n g2) r := by
  obtain ⟨hlt, hx, hb, hml, hown, hts, hN, hA, hK⟩ := id C
  intro x2 s0 H locs ls h hP hD hS hl
  unfold dF_X13_plain_2 at h
  refine lv_aload_n hx hb dX13_plain_2 rfl (lv_at hl 0 rfl) ?_
  refine lv_iload_n hx hb dX13_plain_3 rfl (lv_at hl 1 rfl) ?_
  obtain ⟨q1, s2, hq, h⟩ := nd_b2_e h
  have hPc := hP
  have hDc := hD
  have hKc := hK
  have hFc := nd_rs hD hS hA
  refine nd_cVi (As := [.int x2]) (rest := []) (q := q1) (w' := dw_X13 a ac s2) ⟨hx, hb, hml, hown, hts⟩ (fun sz => dm_X13_charAt l hlt dC dI a ac n (x2) s0 hq sz) (cwV 1 hts gi_dm_X13_plain_0 rfl rfl rfl (by decide +kernel) ⟨Nat.le_of_ble_eq_true rfl, Nat.le_of_ble_eq_true rfl⟩) hPc hDc hKc hS hA hN (va_recv hKc hPc (ci := 14) (q0 := 0) rfl rfl) rfl hl.1 rfl (Nat.le_of_ble_eq_true rfl) dX13_plain_4 (fun H locs hP1 hD1 hk1 hS => ?_)
  have hP := hP1
  have hD := hD1.weaken (fun k q _ h => hFc q.1 h)
  obtain ⟨q4, s5, hq, h⟩ := nd_b2_e h
  have hPc : va_P (dC, dI) vwCl (dw_P a ac ()) H := nd_p0
  have hDc : va_D A (dw_P a ac ()) := nd_d0
  have hKc : va_K (dC, dI) vwCl (dk_P ac) s := nd_y0 hK
  have hFc : ∀ q, va_A (dw_P a ac ()) H.size q → A q := nd_r0 hS hA
  refine nd_cSi (As := [.int q1]) (rest := []) (q := q4) (w' := dw_P a ac s5) ⟨hx, hb, hml, hown, hts⟩ (fun sz => dm_X13_isPlain l hlt dC dI a ac n (q1) () hq sz) (cwS 1 hts gi_dm_X13_plain_1 rfl rfl rfl (by decide +kernel) ⟨Nat.le_of_ble_eq_true rfl, Nat.le_of_ble_eq_true rfl⟩) hPc hDc hKc hS hA hN rfl hl.1 rfl (Nat.le_of_ble_eq_true rfl) dX13_plain_7 (fun H locs hP1 hD1 hk1 hS => ?_)
  have hP := nd_n0 hP hk1
  refine lv_if_eq (tgt := 19) hx hb dX13_plain_10 (by decide) (fun c7 => ?_) (fun c7 => ?_)
  · have h := nd_pos h c7
    refine lv_iload_n hx hb dX13_plain_19 rfl (lv_at hl 1 rfl) ?_
    exact K _ _ _ _ _ _ dX13_plain_20 rfl (Option.some.inj h).symm hP hD hS
  · have h := nd_neg h c7
    obtain ⟨z8, ez8, h⟩ := nd_let_e h
    refine lv_iinc (v := z8) (lv' := [(2, .int z8), (0, .ref (a 0))]) hx hb dX13_plain_13 hl (k := 1) rfl (by rw [ez8]) (by decide) rfl (fun ls hl => ?_)
    refine lv_goto (tgt := 2) hx hb dX13_plain_16 (by decide) ?_
    exact (J2) (z8) s2 _ _ _ h hP hD hS (lv_sub hl [1, 0] rfl)
set_option maxHeartbeats 40000000 in
set_option maxRecDepth 100000 in
theorem db_X13_plain_2 {p : Program} {l : Launch} {e : Env} {s : State} {m : MethodId} {args : Array Value} {below : List Frame} {meth : Method} {c : Code} {Q : State → Prop} {A : Nat → Prop} {dC : Nat → ClassId} {dI : Nat → Nat → Nat} {a : Nat → Nat} {ac : Nat → ClassId} {n : Nat} {r : Int32 × (St)} (C : nd_C p l s m args c A (dC, dI) cX13_plain 3 RX13 ow_dm_X13_plain (dk_X13 ac)) (K : nd_Ki p l e (headSpec ow_dm_X13_plain ({ frames := 2, cells := 0, slots := 0, locals := 40 })).room s m args below meth c Q A (dC, dI) cX13_plain .int (St) (dw_X13 a ac) r) (k : Nat) : dj_X13_plain_2 p l e s m args below meth c Q A dC dI a ac (df_X13_plain_2 n k) r := by
  induction k with
  | zero => intro x2 s0 H locs ls h; exact nomatch (show (none : Option (Int32 × (St))) = some r from h)
  | succ k ih => exact dB_X13_plain_2 C K ih
set_option maxHeartbeats 40000000 in
set_option maxRecDepth 100000 in
theorem db_X13_plain_0 {p : Program} {l : Launch} {e : Env} {s : State} {m : MethodId} {args : Array Value} {below : List Frame} {meth : Method} {c : Code} {Q : State → Prop} {A : Nat → Prop} {dC : Nat → ClassId} {dI : Nat → Nat → Nat} {a : Nat → Nat} {ac : Nat → ClassId} {n : Nat} {r : Int32 × (St)} (C : nd_C p l s m args c A (dC, dI) cX13_plain 3 RX13 ow_dm_X13_plain (dk_X13 ac)) (K : nd_Ki p l e (headSpec ow_dm_X13_plain ({ frames := 2, cells := 0, slots := 0, locals := 40 })).room s m args below meth c Q A (dC, dI) cX13_plain .int (St) (dw_X13 a ac) r) : dj_X13_plain_0 p l e s m args below meth c Q A dC dI a ac (df_X13_plain_0 n) r := by
  obtain ⟨hlt, hx, hb, hml, hown, hts, hN, hA, hK⟩ := id C
  intro v0 s0 H locs ls h hP hD hS hl
  unfold df_X13_plain_0 at h
  refine lv_iload_n hx hb dX13_plain_0 rfl (lv_at hl 1 rfl) ?_
  refine lv_istore_n (lv' := [(2, .int v0), (0, .ref (a 0)), (1, .int v0)]) hx hb dX13_plain_1 rfl hl (by decide) rfl (fun ls hl => ?_)
  exact (db_X13_plain_2 C K n) (v0) s0 _ _ _ h hP hD hS (lv_sub hl [1, 0] rfl)
set_option maxHeartbeats 40000000 in
set_option maxRecDepth 100000 in
theorem dm_X13_plain (l : Launch) (hlt : l.stackTraces = false) (dC : Nat → ClassId) (dI : Nat → Nat → Nat) (a : Nat → Nat) (ac : Nat → ClassId) (n : Nat) (v0 : Int32) (s0 : St) {r : Int32 × (St)} (h : df_X13_plain n v0 s0 = some r) (sz : Nat) : Met l yX13_plain ow_dm_X13_plain ({ frames := 2, cells := 0, slots := 0, locals := 40 }) (va_Pc [.ref (a 0), .int v0] (fun U => U.heap.size = sz ∧ va_P (dC, dI) vwCl (dw_X13 a ac s0) U.heap ∧ va_K (dC, dI) vwCl (dk_X13 ac) U ∧ va_D (fun _ => True) (dw_X13 a ac s0) ∧ nv_E dI (va_A (dw_X13 a ac s0) sz) U)) (va_Qi (fun x _ => x = r.1) (fun (_ : Unit) t => va_P (dC, dI) vwCl (dw_X13 a ac r.2) t.heap ∧ va_K (dC, dI) vwCl (dk_X13 ac) t ∧ va_D (va_A (dw_X13 a ac s0) sz) (dw_X13 a ac r.2)) (va_A (dw_X13 a ac s0) sz)) 0 0 (va_A (dw_X13 a ac s0) sz) := by
  refine Met.ofW (cc := cX13_plain) (maxL := 3) (ret := (some .int)) (by decide) rfl ?_
  intro p e s m args below meth c s₁ B hml hv
  obtain ⟨rfl, hsz, hP, hK, hD0, hN⟩ := hv
  have hx := B.exec
  have hb := B.bytes
  have hr := B.returns
  have hts := atoms_spec (ws := ow_dm_X13_plain) B.pre
  have hown : s.vm.findClass RX13 = some m.cls := findClass_of_methodNamed B.named
  have hlocks := B.notSynchronized
  subst hsz
  have hD := hD0.self (sz := s.heap.size)
  generalize hAe : va_A (dw_X13 a ac s0) s.heap.size = A at hD hN ⊢
  have hA : ∀ q : Nat, s.heap.size ≤ q → A q := fun q h => by rw [← hAe]; exact Or.inr h
  have hl := lv_entry ([.ref (a 0), .int v0]) (n := 3) (Nat.le_of_ble_eq_true rfl)
  rw [lg_entry_eq]
  generalize (lg_sl ([.ref (a 0), .int v0]) ++ List.replicate (3 - (lg_sl ([.ref (a 0), .int v0])).length) Slot.unset).toArray = ls at hl ⊢
  have hl : lv_has ls 3 [(0, .ref (a 0)), (1, .int v0)] := hl
  exact db_X13_plain_0 (dC := dC) (dI := dI) (a := a) (ac := ac) (n := n) (r := r) ⟨hlt, hx, hb, hml, hown, hts, hN, hA, hK⟩ (fun pc v τ H locs ls d z er hP hD hS => by subst er; exact W.zret (v := v) hx hb hr z (fun t ht hW => ⟨⟨v, (), rfl, rfl, by rw [ht]; exact hP, va_K.moved hW.alike hK, hD⟩, hS.F ht⟩) hS.2.2 d) v0 s0 _ _ _ h hP hD va_S.rf (lv_sub hl [0, 1] rfl)
def ow_dm_X13_bad : List Cond := Cond.code yX13_bad cX13_bad 1 none :: ([Cond.fieldLink RX13 365 "TimeMachineModel$Assembler" "token" "I", Cond.fieldLink RX13 368 "TimeMachineModel$Assembler" "from" "I", Cond.fieldLink RX13 371 "TimeMachineModel$Assembler" "to" "I"] ++ (u_ws RX13 TX13 37 ++ []))
theorem gd_dm_X13_bad : ∀ w ∈ ow_dm_X13_bad, (w.onTables && w.keeps) = true ∨ ∃ ty, w = Cond.arrayClass ty := List.forall_mem_cons.mpr ⟨good_of_word rfl, List.forall_mem_append.mpr ⟨fun w h => good_of_word (List.all_eq_true.mp (by decide +kernel) w h), List.forall_mem_append.mpr ⟨gu_X13, fun _ h => nomatch h⟩⟩⟩
theorem hi_dm_X13_bad_X13 : ∀ w ∈ u_ws RX13 TX13 37, w ∈ ow_dm_X13_bad := fun w h => List.mem_cons_of_mem _ (List.mem_append_right _ (List.mem_append_left _ h))
def dj_X13_bad_0 (p : Program) (l : Launch) (e : Env) (s : State) (m : MethodId) (args : Array Value) (below : List Frame) (meth : Method) (c : Code) (Q : State → Prop) (A : Nat → Prop) (dC : Nat → ClassId) (dI : Nat → Nat → Nat) (a : Nat → Nat) (ac : Nat → ClassId) (g : (St) → Option (St)) (r : St) : Prop := ∀ (s0 : St) (H : Heap) (locs : List Loc) (ls : Array Slot), g s0 = some r → va_P (dC, dI) vwCl (dw_X13 a ac s0) H → va_D A (dw_X13 a ac s0) → va_S A s.heap H locs → lv_has ls 1 [(0, .ref (a 0))] → W p l e (headSpec ow_dm_X13_bad ({ frames := 0, cells := 0, slots := 0, locals := 0 })).room s m args below meth c H locs 0 0 Q (F0 m 0 ls [])
set_option maxHeartbeats 40000000 in
set_option maxRecDepth 100000 in
theorem db_X13_bad_0 {p : Program} {l : Launch} {e : Env} {s : State} {m : MethodId} {args : Array Value} {below : List Frame} {meth : Method} {c : Code} {Q : State → Prop} {A : Nat → Prop} {dC : Nat → ClassId} {dI : Nat → Nat → Nat} {a : Nat → Nat} {ac : Nat → ClassId} {n : Nat} {r : St} (C : nd_C p l s m args c A (dC, dI) cX13_bad 1 RX13 ow_dm_X13_bad (dk_X13 ac)) (K : nd_Kv p l e (headSpec ow_dm_X13_bad ({ frames := 0, cells := 0, slots := 0, locals := 0 })).room s m args below meth c Q A (dC, dI) cX13_bad (St) (dw_X13 a ac) r) : dj_X13_bad_0 p l e s m args below meth c Q A dC dI a ac (df_X13_bad_0 n) r := by
  obtain ⟨hlt, hx, hb, hml, hown, hts, hN, hA, hK⟩ := id C
  intro s0 H locs ls h hP hD hS hl
  unfold df_X13_bad_0 at h
  refine lv_aload_n hx hb dX13_bad_0 rfl (lv_at hl 0 rfl) ?_
  refine lv_iconst (v := 5) hx hb dX13_bad_1 (by decide) ?_
  refine va_put (D := (dC, dI)) (ci := 14) (v := .int 5) (ty := .int) (C := RX13) (T := TX13) (N := 37) hx hb hts hi_dm_X13_bad_X13 tyX13 tyX13_ok nmX13 hown hK hP hD hS 0 rfl rfl 17 (by decide) (hts (.fieldLink RX13 365 "TimeMachineModel$Assembler" "token" "I") (List.mem_of_getElem? (i := 1) rfl)) (fun _ h9 => h9) rfl (by decide +kernel) rfl rfl (Nat.le_of_ble_eq_true rfl) dX13_bad_2 (fun H locs hP hD hS => ?_)
  obtain ⟨s1, es1, h⟩ := nd_let_e h
  have hP : va_P (dC, dI) vwCl (dw_X13 a ac s1) H := by rw [es1]; exact hP
  have hD : va_D A (dw_X13 a ac s1) := by rw [es1]; exact hD
  refine lv_aload_n hx hb dX13_bad_5 rfl (lv_at hl 0 rfl) ?_
  refine lv_aload_n hx hb dX13_bad_6 rfl (lv_at hl 0 rfl) ?_
  refine va_get (D := (dC, dI)) (ci := 14) (v := .int (sI s1 9)) (C := RX13) (T := TX13) (N := 37) hx hb hts hi_dm_X13_bad_X13 hown hK hP 0 rfl rfl 18 (by decide) (hts (.fieldLink RX13 368 "TimeMachineModel$Assembler" "from" "I") (List.mem_of_getElem? (i := 2) rfl)) (fun _ h9 => h9) rfl dX13_bad_7 ?_
  refine va_put (D := (dC, dI)) (ci := 14) (v := .int (sI s1 9)) (ty := .int) (C := RX13) (T := TX13) (N := 37) hx hb hts hi_dm_X13_bad_X13 tyX13 tyX13_ok nmX13 hown hK hP hD hS 0 rfl rfl 19 (by decide) (hts (.fieldLink RX13 371 "TimeMachineModel$Assembler" "to" "I") (List.mem_of_getElem? (i := 3) rfl)) (fun _ h9 => h9) rfl (by decide +kernel) rfl rfl (Nat.le_of_ble_eq_true rfl) dX13_bad_10 (fun H locs hP hD hS => ?_)
  obtain ⟨s2, es2, h⟩ := nd_let_e h
  have hP : va_P (dC, dI) vwCl (dw_X13 a ac s2) H := by rw [es2]; exact hP
  have hD : va_D A (dw_X13 a ac s2) := by rw [es2]; exact hD
  exact K _ _ _ _ _ dX13_bad_13 (Option.some.inj h).symm hP hD hS
set_option maxHeartbeats 40000000 in
set_option maxRecDepth 100000 in
theorem dm_X13_bad (l : Launch) (hlt : l.stackTraces = false) (dC : Nat → ClassId) (dI : Nat → Nat → Nat) (a : Nat → Nat) (ac : Nat → ClassId) (n : Nat) (s0 : St) {r : St} (h : df_X13_bad n s0 = some r) (sz : Nat) : Met l yX13_bad ow_dm_X13_bad ({ frames := 0, cells := 0, slots := 0, locals := 0 }) (va_Pc [.ref (a 0)] (fun U => U.heap.size = sz ∧ va_P (dC, dI) vwCl (dw_X13 a ac s0) U.heap ∧ va_K (dC, dI) vwCl (dk_X13 ac) U ∧ va_D (fun _ => True) (dw_X13 a ac s0) ∧ nv_E dI (va_A (dw_X13 a ac s0) sz) U)) (va_Qv (fun _ => True) (fun (_ : Unit) t => va_P (dC, dI) vwCl (dw_X13 a ac r) t.heap ∧ va_K (dC, dI) vwCl (dk_X13 ac) t ∧ va_D (va_A (dw_X13 a ac s0) sz) (dw_X13 a ac r)) (va_A (dw_X13 a ac s0) sz)) 0 0 (va_A (dw_X13 a ac s0) sz) := by
  refine Met.ofW (cc := cX13_bad) (maxL := 1) (ret := none) (by decide) rfl ?_
  intro p e s m args below meth c s₁ B hml hv
  obtain ⟨rfl, hsz, hP, hK, hD0, hN⟩ := hv
  have hx := B.exec
  have hb := B.bytes
  have hr := B.returns
  have hts := atoms_spec (ws := ow_dm_X13_bad) B.pre
  have hown : s.vm.findClass RX13 = some m.cls := findClass_of_methodNamed B.named
  have hlocks := B.notSynchronized
  subst hsz
  have hD := hD0.self (sz := s.heap.size)
  generalize hAe : va_A (dw_X13 a ac s0) s.heap.size = A at hD hN ⊢
  have hA : ∀ q : Nat, s.heap.size ≤ q → A q := fun q h => by rw [← hAe]; exact Or.inr h
  have hl := lv_entry ([.ref (a 0)]) (n := 1) (Nat.le_of_ble_eq_true rfl)
  rw [lg_entry_eq]
  generalize (lg_sl ([.ref (a 0)]) ++ List.replicate (1 - (lg_sl ([.ref (a 0)])).length) Slot.unset).toArray = ls at hl ⊢
  have hl : lv_has ls 1 [(0, .ref (a 0))] := hl
  exact db_X13_bad_0 (dC := dC) (dI := dI) (a := a) (ac := ac) (n := n) (r := r) ⟨hlt, hx, hb, hml, hown, hts, hN, hA, hK⟩ (fun pc τ H locs ls d er hP hD hS => by subst er; exact W.vret hx hb hr (fun t ht hW => ⟨⟨(), rfl, trivial, by rw [ht]; exact hP, va_K.moved hW.alike hK, hD⟩, hS.F ht⟩) hS.2.2 d) s0 _ _ _ h hP hD va_S.rf (lv_sub hl [0] rfl)
def ow_dm_X13_shown : List Cond := Cond.code yX13_shown cX13_shown 5 (some .int) :: ([Cond.methodLink RX13 358 yX13_charAt, Cond.instanceMethod yX13_charAt, Cond.selects RX13 yX13_charAt yX13_charAt, Cond.initialized RX13, Cond.fieldLink RX13 371 "TimeMachineModel$Assembler" "to" "I"] ++ (u_ws RX13 TX13 37 ++ (ow_dm_X13_charAt ++ [])))
theorem gd_dm_X13_shown : ∀ w ∈ ow_dm_X13_shown, (w.onTables && w.keeps) = true ∨ ∃ ty, w = Cond.arrayClass ty := List.forall_mem_cons.mpr ⟨good_of_word rfl, List.forall_mem_append.mpr ⟨fun w h => good_of_word (List.all_eq_true.mp (by decide +kernel) w h), List.forall_mem_append.mpr ⟨gu_X13, List.forall_mem_append.mpr ⟨gd_dm_X13_charAt, fun _ h => nomatch h⟩⟩⟩⟩
theorem hi_dm_X13_shown_X13 : ∀ w ∈ u_ws RX13 TX13 37, w ∈ ow_dm_X13_shown := fun w h => List.mem_cons_of_mem _ (List.mem_append_right _ (List.mem_append_left _ h))
theorem gi_dm_X13_shown_0 : GoodIn ow_dm_X13_shown (wsV RX13 358 RX13 yX13_charAt ow_dm_X13_charAt) := goodIn_app (goodIn_of _ (by decide +kernel)) (fun w h => ⟨List.mem_cons_of_mem _ (List.mem_append_right _ (List.mem_append_right _ (List.mem_append_left _ h))), gd_dm_X13_charAt w h⟩)
def dj_X13_shown_36 (p : Program) (l : Launch) (e : Env) (s : State) (m : MethodId) (args : Array Value) (below : List Frame) (meth : Method) (c : Code) (Q : State → Prop) (A : Nat → Prop) (dC : Nat → ClassId) (dI : Nat → Nat → Nat) (a : Nat → Nat) (ac : Nat → ClassId) (g : (St) → Option (Int32 × (St))) (r : Int32 × (St)) : Prop := ∀ (s0 : St) (H : Heap) (locs : List Loc) (ls : Array Slot), g s0 = some r → va_P (dC, dI) vwCl (dw_X13 a ac s0) H → va_D A (dw_X13 a ac s0) → va_S A s.heap H locs → lv_has ls 5 [] → W p l e (headSpec ow_dm_X13_shown ({ frames := 1, cells := 0, slots := 0, locals := 21 })).room s m args below meth c H locs 0 0 Q (F0 m 36 ls [])
def dj_X13_shown_124 (p : Program) (l : Launch) (e : Env) (s : State) (m : MethodId) (args : Array Value) (below : List Frame) (meth : Method) (c : Code) (Q : State → Prop) (A : Nat → Prop) (dC : Nat → ClassId) (dI : Nat → Nat → Nat) (a : Nat → Nat) (ac : Nat → ClassId) (g : Int32 → (St) → Option (Int32 × (St))) (r : Int32 × (St)) : Prop := ∀ (y0 : Int32) (s0 : St) (H : Heap) (locs : List Loc) (ls : Array Slot), g y0 s0 = some r → va_P (dC, dI) vwCl (dw_X13 a ac s0) H → va_D A (dw_X13 a ac s0) → va_S A s.heap H locs → lv_has ls 5 [] → W p l e (headSpec ow_dm_X13_shown ({ frames := 1, cells := 0, slots := 0, locals := 21 })).room s m args below meth c H locs 0 0 Q (F0 m 124 ls [.int y0])
def dj_X13_shown_118 (p : Program) (l : Launch) (e : Env) (s : State) (m : MethodId) (args : Array Value) (below : List Frame) (meth : Method) (c : Code) (Q : State → Prop) (A : Nat → Prop) (dC : Nat → ClassId) (dI : Nat → Nat → Nat) (a : Nat → Nat) (ac : Nat → ClassId) (g : Int32 → (St) → Option (Int32 × (St))) (r : Int32 × (St)) : Prop := ∀ (x4 : Int32) (s0 : St) (H : Heap) (locs : List Loc) (ls : Array Slot), g x4 s0 = some r → va_P (dC, dI) vwCl (dw_X13 a ac s0) H → va_D A (dw_X13 a ac s0) → va_S A s.heap H locs → lv_has ls 5 [(4, .int x4)] → W p l e (headSpec ow_dm_X13_shown ({ frames := 1, cells := 0, slots := 0, locals := 21 })).room s m args below meth c H locs 0 0 Q (F0 m 118 ls [])
def dj_X13_shown_38 (p : Program) (l : Launch) (e : Env) (s : State) (m : MethodId) (args : Array Value) (below : List Frame) (meth : Method) (c : Code) (Q : State → Prop) (A : Nat → Prop) (dC : Nat → ClassId) (dI : Nat → Nat → Nat) (a : Nat → Nat) (ac : Nat → ClassId) (g : Int32 → Int32 → (St) → Option (Int32 × (St))) (r : Int32 × (St)) : Prop := ∀ (x1 : Int32) (x3 : Int32) (s0 : St) (H : Heap) (locs : List Loc) (ls : Array Slot), g x1 x3 s0 = some r → va_P (dC, dI) vwCl (dw_X13 a ac s0) H → va_D A (dw_X13 a ac s0) → va_S A s.heap H locs → lv_has ls 5 [(0, .ref (a 0)), (1, .int x1), (3, .int x3)] → W p l e (headSpec ow_dm_X13_shown ({ frames := 1, cells := 0, slots := 0, locals := 21 })).room s m args below meth c H locs 0 0 Q (F0 m 38 ls [])
def dj_X13_shown_0 (p : Program) (l : Launch) (e : Env) (s : State) (m : MethodId) (args : Array Value) (below : List Frame) (meth : Method) (c : Code) (Q : State → Prop) (A : Nat → Prop) (dC : Nat → ClassId) (dI : Nat → Nat → Nat) (a : Nat → Nat) (ac : Nat → ClassId) (g : Int32 → Int32 → (St) → Option (Int32 × (St))) (r : Int32 × (St)) : Prop := ∀ (v0 : Int32) (v1 : Int32) (s0 : St) (H : Heap) (locs : List Loc) (ls : Array Slot), g v0 v1 s0 = some r → va_P (dC, dI) vwCl (dw_X13 a ac s0) H → va_D A (dw_X13 a ac s0) → va_S A s.heap H locs → lv_has ls 5 [(0, .ref (a 0)), (1, .int v0), (2, .int v1)] → W p l e (headSpec ow_dm_X13_shown ({ frames := 1, cells := 0, slots := 0, locals := 21 })).room s m args below meth c H locs 0 0 Q (F0 m 0 ls [])
set_option maxHeartbeats 40000000 in
set_option maxRecDepth 100000 in
theorem db_X13_shown_36 {p : Program} {l : Launch} {e : Env} {s : State} {m : MethodId} {args : Array Value} {below : List Frame} {meth : Method} {c : Code} {Q : State → Prop} {A : Nat → Prop} {dC : Nat → ClassId} {dI : Nat → Nat → Nat} {a : Nat → Nat} {ac : Nat → ClassId} {n : Nat} {r : Int32 × (St)} (C : nd_C p l s m args c A (dC, dI) cX13_shown 5 RX13 ow_dm_X13_shown (dk_X13 ac)) (K : nd_Ki p l e (headSpec ow_dm_X13_shown ({ frames := 1, cells := 0, slots := 0, locals := 21 })).room s m args below meth c Q A (dC, dI) cX13_shown .int (St) (dw_X13 a ac) r) : dj_X13_shown_36 p l e s m args below meth c Q A dC dI a ac (df_X13_shown_36 n) r := by
  obtain ⟨hlt, hx, hb, hml, hown, hts, hN, hA, hK⟩ := id C
  intro s0 H locs ls h hP hD hS hl
  unfold df_X13_shown_36 at h
  refine lv_iconst (v := (-1)) hx hb dX13_shown_36 (by decide) ?_
  exact K _ _ _ _ _ _ dX13_shown_37 rfl (Option.some.inj h).symm hP hD hS
set_option maxHeartbeats 40000000 in
set_option maxRecDepth 100000 in
theorem db_X13_shown_124 {p : Program} {l : Launch} {e : Env} {s : State} {m : MethodId} {args : Array Value} {below : List Frame} {meth : Method} {c : Code} {Q : State → Prop} {A : Nat → Prop} {dC : Nat → ClassId} {dI : Nat → Nat → Nat} {a : Nat → Nat} {ac : Nat → ClassId} {n : Nat} {r : Int32 × (St)} (C : nd_C p l s m args c A (dC, dI) cX13_shown 5 RX13 ow_dm_X13_shown (dk_X13 ac)) (K : nd_Ki p l e (headSpec ow_dm_X13_shown ({ frames := 1, cells := 0, slots := 0, locals := 21 })).room s m args below meth c Q A (dC, dI) cX13_shown .int (St) (dw_X13 a ac) r) : dj_X13_shown_124 p l e s m args below meth c Q A dC dI a ac (df_X13_shown_124 n) r := by
  obtain ⟨hlt, hx, hb, hml, hown, hts, hN, hA, hK⟩ := id C
  intro y0 s0 H locs ls h hP hD hS hl
  unfold df_X13_shown_124 at h
  exact K _ _ _ _ _ _ dX13_shown_124 rfl (Option.some.inj h).symm hP hD hS
set_option maxHeartbeats 40000000 in
set_option maxRecDepth 100000 in
theorem db_X13_shown_118 {p : Program} {l : Launch} {e : Env} {s : State} {m : MethodId} {args : Array Value} {below : List Frame} {meth : Method} {c : Code} {Q : State → Prop} {A : Nat → Prop} {dC : Nat → ClassId} {dI : Nat → Nat → Nat} {a : Nat → Nat} {ac : Nat → ClassId} {n : Nat} {r : Int32 × (St)} (C : nd_C p l s m args c A (dC, dI) cX13_shown 5 RX13 ow_dm_X13_shown (dk_X13 ac)) (K : nd_Ki p l e (headSpec ow_dm_X13_shown ({ frames := 1, cells := 0, slots := 0, locals := 21 })).room s m args below meth c Q A (dC, dI) cX13_shown .int (St) (dw_X13 a ac) r) : dj_X13_shown_118 p l e s m args below meth c Q A dC dI a ac (df_X13_shown_118 n) r := by
  obtain ⟨hlt, hx, hb, hml, hown, hts, hN, hA, hK⟩ := id C
  intro x4 s0 H locs ls h hP hD hS hl
  unfold df_X13_shown_118 at h
  refine lv_iload hx hb dX13_shown_118 (lv_at hl 0 rfl) ?_
  refine lv_goto (tgt := 124) hx hb dX13_shown_120 (by decide) ?_
  exact (db_X13_shown_124 C K) (x4) s0 _ _ _ h hP hD hS (lv_sub hl [] rfl)
set_option maxHeartbeats 40000000 in
set_option maxRecDepth 100000 in
theorem db_X13_shown_38 {p : Program} {l : Launch} {e : Env} {s : State} {m : MethodId} {args : Array Value} {below : List Frame} {meth : Method} {c : Code} {Q : State → Prop} {A : Nat → Prop} {dC : Nat → ClassId} {dI : Nat → Nat → Nat} {a : Nat → Nat} {ac : Nat → ClassId} {n : Nat} {r : Int32 × (St)} (C : nd_C p l s m args c A (dC, dI) cX13_shown 5 RX13 ow_dm_X13_shown (dk_X13 ac)) (K : nd_Ki p l e (headSpec ow_dm_X13_shown ({ frames := 1, cells := 0, slots := 0, locals := 21 })).room s m args below meth c Q A (dC, dI) cX13_shown .int (St) (dw_X13 a ac) r) : dj_X13_shown_38 p l e s m args below meth c Q A dC dI a ac (df_X13_shown_38 n) r := by
  obtain ⟨hlt, hx, hb, hml, hown, hts, hN, hA, hK⟩ := id C
  intro x1 x3 s0 H locs ls h hP hD hS hl
  unfold df_X13_shown_38 at h
  refine lv_iload_n hx hb dX13_shown_38 rfl (lv_at hl 2 rfl) ?_
  refine lv_bipush (v := 92) hx hb dX13_shown_39 (by decide) ?_
  refine lv_icmp_eq (tgt := 46) hx hb dX13_shown_41 (by decide) (fun c7 => ?_) (fun c7 => ?_)
  · have h := nd_pos h c7
    refine lv_aload_n hx hb dX13_shown_46 rfl (lv_at hl 0 rfl) ?_
    refine lv_iload_n hx hb dX13_shown_47 rfl (lv_at hl 1 rfl) ?_
    refine lv_iconst (v := 1) hx hb dX13_shown_48 (by decide) ?_
    refine lv_iadd hx hb dX13_shown_49 ?_
    obtain ⟨q8, s9, hq, h⟩ := nd_b2_e h
    have hPc := hP
    have hDc := hD
    have hKc := hK
    have hFc := nd_rs hD hS hA
    refine nd_cVi (As := [.int (x1 + 1)]) (rest := []) (q := q8) (w' := dw_X13 a ac s9) ⟨hx, hb, hml, hown, hts⟩ (fun sz => dm_X13_charAt l hlt dC dI a ac n ((x1 + 1)) s0 hq sz) (cwV 1 hts gi_dm_X13_shown_0 rfl rfl rfl (by decide +kernel) ⟨Nat.le_of_ble_eq_true rfl, Nat.le_of_ble_eq_true rfl⟩) hPc hDc hKc hS hA hN (va_recv hKc hPc (ci := 14) (q0 := 0) rfl rfl) rfl hl.1 rfl (Nat.le_of_ble_eq_true rfl) dX13_shown_50 (fun H locs hP1 hD1 hk1 hS => ?_)
    have hP := hP1
    have hD := hD1.weaken (fun k q _ h => hFc q.1 h)
    refine lv_istore (lv' := [(4, .int q8), (0, .ref (a 0)), (1, .int x1), (3, .int x3)]) hx hb dX13_shown_53 hl (by decide) rfl (fun ls hl => ?_)
    refine lv_aload_n hx hb dX13_shown_55 rfl (lv_at hl 1 rfl) ?_
    refine lv_iload_n hx hb dX13_shown_56 rfl (lv_at hl 2 rfl) ?_
    refine lv_iconst (v := 2) hx hb dX13_shown_57 (by decide) ?_
    refine lv_iadd hx hb dX13_shown_58 ?_
    refine va_put (D := (dC, dI)) (ci := 14) (v := .int (x1 + 2)) (ty := .int) (C := RX13) (T := TX13) (N := 37) hx hb hts hi_dm_X13_shown_X13 tyX13 tyX13_ok nmX13 hown hK hP hD hS 0 rfl rfl 19 (by decide) (hts (.fieldLink RX13 371 "TimeMachineModel$Assembler" "to" "I") (List.mem_of_getElem? (i := 5) rfl)) (fun _ h9 => h9) rfl (by decide +kernel) rfl rfl (Nat.le_of_ble_eq_true rfl) dX13_shown_59 (fun H locs hP hD hS => ?_)
    obtain ⟨s11, es11, h⟩ := nd_let_e h
    have hP : va_P (dC, dI) vwCl (dw_X13 a ac s11) H := by rw [es11]; exact hP
    have hD : va_D A (dw_X13 a ac s11) := by rw [es11]; exact hD
    refine lv_iload hx hb dX13_shown_62 (lv_at hl 0 rfl) ?_
    refine lv_bipush (v := 110) hx hb dX13_shown_64 (by decide) ?_
    refine lv_icmp_ne (tgt := 74) hx hb dX13_shown_66 (by decide) (fun c12 => ?_) (fun c12 => ?_)
    · have h := nd_neg h c12
      refine lv_iload hx hb dX13_shown_74 (lv_at hl 0 rfl) ?_
      refine lv_bipush (v := 116) hx hb dX13_shown_76 (by decide) ?_
      refine lv_icmp_ne (tgt := 86) hx hb dX13_shown_78 (by decide) (fun c13 => ?_) (fun c13 => ?_)
      · have h := nd_neg h c13
        refine lv_iload hx hb dX13_shown_86 (lv_at hl 0 rfl) ?_
        refine lv_bipush (v := 48) hx hb dX13_shown_88 (by decide) ?_
        refine lv_icmp_ne (tgt := 97) hx hb dX13_shown_90 (by decide) (fun c14 => ?_) (fun c14 => ?_)
        · have h := nd_neg h c14
          refine lv_iload hx hb dX13_shown_97 (lv_at hl 0 rfl) ?_
          refine lv_bipush (v := 92) hx hb dX13_shown_99 (by decide) ?_
          refine lv_icmp_eq (tgt := 118) hx hb dX13_shown_101 (by decide) (fun c15 => ?_) (fun c15 => ?_)
          · have h := nd_pos h c15
            exact (db_X13_shown_118 C K) (q8) s11 _ _ _ h hP hD hS (lv_sub hl [0] rfl)
          · have h := nd_neg h c15
            refine lv_iload hx hb dX13_shown_104 (lv_at hl 0 rfl) ?_
            refine lv_bipush (v := 39) hx hb dX13_shown_106 (by decide) ?_
            refine lv_icmp_eq (tgt := 118) hx hb dX13_shown_108 (by decide) (fun c16 => ?_) (fun c16 => ?_)
            · have h := nd_pos h c16
              exact (db_X13_shown_118 C K) (q8) s11 _ _ _ h hP hD hS (lv_sub hl [0] rfl)
            · have h := nd_neg h c16
              refine lv_iload hx hb dX13_shown_111 (lv_at hl 0 rfl) ?_
              refine lv_bipush (v := 34) hx hb dX13_shown_113 (by decide) ?_
              refine lv_icmp_ne (tgt := 123) hx hb dX13_shown_115 (by decide) (fun c17 => ?_) (fun c17 => ?_)
              · have h := nd_neg h c17
                refine lv_iconst (v := (-1)) hx hb dX13_shown_123 (by decide) ?_
                exact (db_X13_shown_124 C K) ((-1)) s11 _ _ _ h hP hD hS (lv_sub hl [] rfl)
              · have h := nd_pos h c17
                exact (db_X13_shown_118 C K) (q8) s11 _ _ _ h hP hD hS (lv_sub hl [0] rfl)
        · have h := nd_pos h c14
          refine lv_iconst (v := 0) hx hb dX13_shown_93 (by decide) ?_
          refine lv_goto (tgt := 124) hx hb dX13_shown_94 (by decide) ?_
          exact (db_X13_shown_124 C K) (0) s11 _ _ _ h hP hD hS (lv_sub hl [] rfl)
      · have h := nd_pos h c13
        refine lv_bipush (v := 9) hx hb dX13_shown_81 (by decide) ?_
        refine lv_goto (tgt := 124) hx hb dX13_shown_83 (by decide) ?_
        exact (db_X13_shown_124 C K) (9) s11 _ _ _ h hP hD hS (lv_sub hl [] rfl)
    · have h := nd_pos h c12
      refine lv_bipush (v := 10) hx hb dX13_shown_69 (by decide) ?_
      refine lv_goto (tgt := 124) hx hb dX13_shown_71 (by decide) ?_
      exact (db_X13_shown_124 C K) (10) s11 _ _ _ h hP hD hS (lv_sub hl [] rfl)
  · have h := nd_neg h c7
    refine lv_iload_n hx hb dX13_shown_44 rfl (lv_at hl 2 rfl) ?_
    exact K _ _ _ _ _ _ dX13_shown_45 rfl (Option.some.inj h).symm hP hD hS
set_option maxHeartbeats 40000000 in
set_option maxRecDepth 100000 in
theorem db_X13_shown_0 {p : Program} {l : Launch} {e : Env} {s : State} {m : MethodId} {args : Array Value} {below : List Frame} {meth : Method} {c : Code} {Q : State → Prop} {A : Nat → Prop} {dC : Nat → ClassId} {dI : Nat → Nat → Nat} {a : Nat → Nat} {ac : Nat → ClassId} {n : Nat} {r : Int32 × (St)} (C : nd_C p l s m args c A (dC, dI) cX13_shown 5 RX13 ow_dm_X13_shown (dk_X13 ac)) (K : nd_Ki p l e (headSpec ow_dm_X13_shown ({ frames := 1, cells := 0, slots := 0, locals := 21 })).room s m args below meth c Q A (dC, dI) cX13_shown .int (St) (dw_X13 a ac) r) : dj_X13_shown_0 p l e s m args below meth c Q A dC dI a ac (df_X13_shown_0 n) r := by
  obtain ⟨hlt, hx, hb, hml, hown, hts, hN, hA, hK⟩ := id C
  intro v0 v1 s0 H locs ls h hP hD hS hl
  unfold df_X13_shown_0 at h
  refine lv_aload_n hx hb dX13_shown_0 rfl (lv_at hl 0 rfl) ?_
  refine lv_iload_n hx hb dX13_shown_1 rfl (lv_at hl 1 rfl) ?_
  obtain ⟨q1, s2, hq, h⟩ := nd_b2_e h
  have hPc := hP
  have hDc := hD
  have hKc := hK
  have hFc := nd_rs hD hS hA
  refine nd_cVi (As := [.int v0]) (rest := []) (q := q1) (w' := dw_X13 a ac s2) ⟨hx, hb, hml, hown, hts⟩ (fun sz => dm_X13_charAt l hlt dC dI a ac n (v0) s0 hq sz) (cwV 1 hts gi_dm_X13_shown_0 rfl rfl rfl (by decide +kernel) ⟨Nat.le_of_ble_eq_true rfl, Nat.le_of_ble_eq_true rfl⟩) hPc hDc hKc hS hA hN (va_recv hKc hPc (ci := 14) (q0 := 0) rfl rfl) rfl hl.1 rfl (Nat.le_of_ble_eq_true rfl) dX13_shown_2 (fun H locs hP1 hD1 hk1 hS => ?_)
  have hP := hP1
  have hD := hD1.weaken (fun k q _ h => hFc q.1 h)
  refine lv_istore_n (lv' := [(3, .int q1), (0, .ref (a 0)), (1, .int v0), (2, .int v1)]) hx hb dX13_shown_5 rfl hl (by decide) rfl (fun ls hl => ?_)
  refine lv_aload_n hx hb dX13_shown_6 rfl (lv_at hl 1 rfl) ?_
  refine lv_iload_n hx hb dX13_shown_7 rfl (lv_at hl 2 rfl) ?_
  refine lv_iconst (v := 1) hx hb dX13_shown_8 (by decide) ?_
  refine lv_iadd hx hb dX13_shown_9 ?_
  refine va_put (D := (dC, dI)) (ci := 14) (v := .int (v0 + 1)) (ty := .int) (C := RX13) (T := TX13) (N := 37) hx hb hts hi_dm_X13_shown_X13 tyX13 tyX13_ok nmX13 hown hK hP hD hS 0 rfl rfl 19 (by decide) (hts (.fieldLink RX13 371 "TimeMachineModel$Assembler" "to" "I") (List.mem_of_getElem? (i := 5) rfl)) (fun _ h9 => h9) rfl (by decide +kernel) rfl rfl (Nat.le_of_ble_eq_true rfl) dX13_shown_10 (fun H locs hP hD hS => ?_)
  obtain ⟨s4, es4, h⟩ := nd_let_e h
  have hP : va_P (dC, dI) vwCl (dw_X13 a ac s4) H := by rw [es4]; exact hP
  have hD : va_D A (dw_X13 a ac s4) := by rw [es4]; exact hD
  refine lv_iload_n hx hb dX13_shown_13 rfl (lv_at hl 0 rfl) ?_
  refine lv_iload_n hx hb dX13_shown_14 rfl (lv_at hl 3 rfl) ?_
  refine lv_icmp_eq (tgt := 36) hx hb dX13_shown_15 (by decide) (fun c5 => ?_) (fun c5 => ?_)
  · have h := nd_pos h c5
    exact (db_X13_shown_36 C K)  s4 _ _ _ h hP hD hS (lv_sub hl [] rfl)
  · have h := nd_neg h c5
    refine lv_iload_n hx hb dX13_shown_18 rfl (lv_at hl 0 rfl) ?_
    refine lv_bipush (v := 9) hx hb dX13_shown_19 (by decide) ?_
    refine lv_icmp_eq (tgt := 38) hx hb dX13_shown_21 (by decide) (fun c6 => ?_) (fun c6 => ?_)
    · have h := nd_pos h c6
      exact (db_X13_shown_38 C K) (v0) (q1) s4 _ _ _ h hP hD hS (lv_sub hl [1, 2, 0] rfl)
    · have h := nd_neg h c6
      refine lv_iload_n hx hb dX13_shown_24 rfl (lv_at hl 0 rfl) ?_
      refine lv_bipush (v := 32) hx hb dX13_shown_25 (by decide) ?_
      refine lv_icmp_lt (tgt := 36) hx hb dX13_shown_27 (by decide) (fun c18 => ?_) (fun c18 => ?_)
      · have h := nd_pos h c18
        exact (db_X13_shown_36 C K)  s4 _ _ _ h hP hD hS (lv_sub hl [] rfl)
      · have h := nd_neg h c18
        refine lv_iload_n hx hb dX13_shown_30 rfl (lv_at hl 0 rfl) ?_
        refine lv_bipush (v := 126) hx hb dX13_shown_31 (by decide) ?_
        refine lv_icmp_le (tgt := 38) hx hb dX13_shown_33 (by decide) (fun c19 => ?_) (fun c19 => ?_)
        · have h := nd_pos h c19
          exact (db_X13_shown_38 C K) (v0) (q1) s4 _ _ _ h hP hD hS (lv_sub hl [1, 2, 0] rfl)
        · have h := nd_neg h c19
          exact (db_X13_shown_36 C K)  s4 _ _ _ h hP hD hS (lv_sub hl [] rfl)
set_option maxHeartbeats 40000000 in
set_option maxRecDepth 100000 in
theorem dm_X13_shown (l : Launch) (hlt : l.stackTraces = false) (dC : Nat → ClassId) (dI : Nat → Nat → Nat) (a : Nat → Nat) (ac : Nat → ClassId) (n : Nat) (v0 : Int32) (v1 : Int32) (s0 : St) {r : Int32 × (St)} (h : df_X13_shown n v0 v1 s0 = some r) (sz : Nat) : Met l yX13_shown ow_dm_X13_shown ({ frames := 1, cells := 0, slots := 0, locals := 21 }) (va_Pc [.ref (a 0), .int v0, .int v1] (fun U => U.heap.size = sz ∧ va_P (dC, dI) vwCl (dw_X13 a ac s0) U.heap ∧ va_K (dC, dI) vwCl (dk_X13 ac) U ∧ va_D (fun _ => True) (dw_X13 a ac s0) ∧ nv_E dI (va_A (dw_X13 a ac s0) sz) U)) (va_Qi (fun x _ => x = r.1) (fun (_ : Unit) t => va_P (dC, dI) vwCl (dw_X13 a ac r.2) t.heap ∧ va_K (dC, dI) vwCl (dk_X13 ac) t ∧ va_D (va_A (dw_X13 a ac s0) sz) (dw_X13 a ac r.2)) (va_A (dw_X13 a ac s0) sz)) 0 0 (va_A (dw_X13 a ac s0) sz) := by
  refine Met.ofW (cc := cX13_shown) (maxL := 5) (ret := (some .int)) (by decide) rfl ?_
  intro p e s m args below meth c s₁ B hml hv
  obtain ⟨rfl, hsz, hP, hK, hD0, hN⟩ := hv
  have hx := B.exec
  have hb := B.bytes
  have hr := B.returns
  have hts := atoms_spec (ws := ow_dm_X13_shown) B.pre
  have hown : s.vm.findClass RX13 = some m.cls := findClass_of_methodNamed B.named
  have hlocks := B.notSynchronized
  subst hsz
  have hD := hD0.self (sz := s.heap.size)
  generalize hAe : va_A (dw_X13 a ac s0) s.heap.size = A at hD hN ⊢
  have hA : ∀ q : Nat, s.heap.size ≤ q → A q := fun q h => by rw [← hAe]; exact Or.inr h
  have hl := lv_entry ([.ref (a 0), .int v0, .int v1]) (n := 5) (Nat.le_of_ble_eq_true rfl)
  rw [lg_entry_eq]
  generalize (lg_sl ([.ref (a 0), .int v0, .int v1]) ++ List.replicate (5 - (lg_sl ([.ref (a 0), .int v0, .int v1])).length) Slot.unset).toArray = ls at hl ⊢
  have hl : lv_has ls 5 [(0, .ref (a 0)), (1, .int v0), (2, .int v1)] := hl
  exact db_X13_shown_0 (dC := dC) (dI := dI) (a := a) (ac := ac) (n := n) (r := r) ⟨hlt, hx, hb, hml, hown, hts, hN, hA, hK⟩ (fun pc v τ H locs ls d z er hP hD hS => by subst er; exact W.zret (v := v) hx hb hr z (fun t ht hW => ⟨⟨v, (), rfl, rfl, by rw [ht]; exact hP, va_K.moved hW.alike hK, hD⟩, hS.F ht⟩) hS.2.2 d) v0 v1 s0 _ _ _ h hP hD va_S.rf (lv_sub hl [0, 1, 2] rfl)
def ow_dm_X13_quote : List Cond := Cond.code yX13_quote cX13_quote 3 none :: ([Cond.fieldLink RX13 365 "TimeMachineModel$Assembler" "token" "I", Cond.fieldLink RX13 374 "TimeMachineModel$Assembler" "at" "I", Cond.fieldLink RX13 371 "TimeMachineModel$Assembler" "to" "I", Cond.methodLink RX13 383 yX13_bad, Cond.instanceMethod yX13_bad, Cond.selects RX13 yX13_bad yX13_bad, Cond.initialized RX13, Cond.methodLink RX13 358 yX13_charAt, Cond.instanceMethod yX13_charAt, Cond.selects RX13 yX13_charAt yX13_charAt, Cond.methodLink RX13 406 yX13_shown, Cond.instanceMethod yX13_shown, Cond.selects RX13 yX13_shown yX13_shown] ++ (u_ws RX13 TX13 37 ++ (ow_dm_X13_bad ++ (ow_dm_X13_charAt ++ (ow_dm_X13_shown ++ [])))))
theorem gd_dm_X13_quote : ∀ w ∈ ow_dm_X13_quote, (w.onTables && w.keeps) = true ∨ ∃ ty, w = Cond.arrayClass ty := List.forall_mem_cons.mpr ⟨good_of_word rfl, List.forall_mem_append.mpr ⟨fun w h => good_of_word (List.all_eq_true.mp (by decide +kernel) w h), List.forall_mem_append.mpr ⟨gu_X13, List.forall_mem_append.mpr ⟨gd_dm_X13_bad, List.forall_mem_append.mpr ⟨gd_dm_X13_charAt, List.forall_mem_append.mpr ⟨gd_dm_X13_shown, fun _ h => nomatch h⟩⟩⟩⟩⟩⟩
theorem hi_dm_X13_quote_X13 : ∀ w ∈ u_ws RX13 TX13 37, w ∈ ow_dm_X13_quote := fun w h => List.mem_cons_of_mem _ (List.mem_append_right _ (List.mem_append_left _ h))
theorem gi_dm_X13_quote_0 : GoodIn ow_dm_X13_quote (wsV RX13 383 RX13 yX13_bad ow_dm_X13_bad) := goodIn_app (goodIn_of _ (by decide +kernel)) (fun w h => ⟨List.mem_cons_of_mem _ (List.mem_append_right _ (List.mem_append_right _ (List.mem_append_left _ h))), gd_dm_X13_bad w h⟩)
theorem gi_dm_X13_quote_1 : GoodIn ow_dm_X13_quote (wsV RX13 358 RX13 yX13_charAt ow_dm_X13_charAt) := goodIn_app (goodIn_of _ (by decide +kernel)) (fun w h => ⟨List.mem_cons_of_mem _ (List.mem_append_right _ (List.mem_append_right _ (List.mem_append_right _ (List.mem_append_left _ h)))), gd_dm_X13_charAt w h⟩)
theorem gi_dm_X13_quote_2 : GoodIn ow_dm_X13_quote (wsV RX13 406 RX13 yX13_shown ow_dm_X13_shown) := goodIn_app (goodIn_of _ (by decide +kernel)) (fun w h => ⟨List.mem_cons_of_mem _ (List.mem_append_right _ (List.mem_append_right _ (List.mem_append_right _ (List.mem_append_right _ (List.mem_append_left _ h))))), gd_dm_X13_shown w h⟩)
def dj_X13_quote_59 (p : Program) (l : Launch) (e : Env) (s : State) (m : MethodId) (args : Array Value) (below : List Frame) (meth : Method) (c : Code) (Q : State → Prop) (A : Nat → Prop) (dC : Nat → ClassId) (dI : Nat → Nat → Nat) (a : Nat → Nat) (ac : Nat → ClassId) (g : (St) → Option (St)) (r : St) : Prop := ∀ (s0 : St) (H : Heap) (locs : List Loc) (ls : Array Slot), g s0 = some r → va_P (dC, dI) vwCl (dw_X13 a ac s0) H → va_D A (dw_X13 a ac s0) → va_S A s.heap H locs → lv_has ls 3 [] → W p l e (headSpec ow_dm_X13_quote ({ frames := 2, cells := 0, slots := 0, locals := 45 })).room s m args below meth c H locs 0 0 Q (F0 m 59 ls [])
def dj_X13_quote_44 (p : Program) (l : Launch) (e : Env) (s : State) (m : MethodId) (args : Array Value) (below : List Frame) (meth : Method) (c : Code) (Q : State → Prop) (A : Nat → Prop) (dC : Nat → ClassId) (dI : Nat → Nat → Nat) (a : Nat → Nat) (ac : Nat → ClassId) (g : Int32 → Int32 → (St) → Option (St)) (r : St) : Prop := ∀ (x1 : Int32) (x2 : Int32) (s0 : St) (H : Heap) (locs : List Loc) (ls : Array Slot), g x1 x2 s0 = some r → va_P (dC, dI) vwCl (dw_X13 a ac s0) H → va_D A (dw_X13 a ac s0) → va_S A s.heap H locs → lv_has ls 3 [(0, .ref (a 0)), (1, .int x1), (2, .int x2)] → W p l e (headSpec ow_dm_X13_quote ({ frames := 2, cells := 0, slots := 0, locals := 45 })).room s m args below meth c H locs 0 0 Q (F0 m 44 ls [])
def dj_X13_quote_14 (p : Program) (l : Launch) (e : Env) (s : State) (m : MethodId) (args : Array Value) (below : List Frame) (meth : Method) (c : Code) (Q : State → Prop) (A : Nat → Prop) (dC : Nat → ClassId) (dI : Nat → Nat → Nat) (a : Nat → Nat) (ac : Nat → ClassId) (g : Int32 → Int32 → (St) → Option (St)) (r : St) : Prop := ∀ (x1 : Int32) (x2 : Int32) (s0 : St) (H : Heap) (locs : List Loc) (ls : Array Slot), g x1 x2 s0 = some r → va_P (dC, dI) vwCl (dw_X13 a ac s0) H → va_D A (dw_X13 a ac s0) → va_S A s.heap H locs → lv_has ls 3 [(0, .ref (a 0)), (1, .int x1), (2, .int x2)] → W p l e (headSpec ow_dm_X13_quote ({ frames := 2, cells := 0, slots := 0, locals := 45 })).room s m args below meth c H locs 0 0 Q (F0 m 14 ls [])
def dj_X13_quote_0 (p : Program) (l : Launch) (e : Env) (s : State) (m : MethodId) (args : Array Value) (below : List Frame) (meth : Method) (c : Code) (Q : State → Prop) (A : Nat → Prop) (dC : Nat → ClassId) (dI : Nat → Nat → Nat) (a : Nat → Nat) (ac : Nat → ClassId) (g : (St) → Option (St)) (r : St) : Prop := ∀ (s0 : St) (H : Heap) (locs : List Loc) (ls : Array Slot), g s0 = some r → va_P (dC, dI) vwCl (dw_X13 a ac s0) H → va_D A (dw_X13 a ac s0) → va_S A s.heap H locs → lv_has ls 3 [(0, .ref (a 0))] → W p l e (headSpec ow_dm_X13_quote ({ frames := 2, cells := 0, slots := 0, locals := 45 })).room s m args below meth c H locs 0 0 Q (F0 m 0 ls [])
set_option maxHeartbeats 40000000 in
set_option maxRecDepth 100000 in
theorem db_X13_quote_59 {p : Program} {l : Launch} {e : Env} {s : State} {m : MethodId} {args : Array Value} {below : List Frame} {meth : Method} {c : Code} {Q : State → Prop} {A : Nat → Prop} {dC : Nat → ClassId} {dI : Nat → Nat → Nat} {a : Nat → Nat} {ac : Nat → ClassId} {n : Nat} {r : St} (C : nd_C p l s m args c A (dC, dI) cX13_quote 3 RX13 ow_dm_X13_quote (dk_X13 ac)) (K : nd_Kv p l e (headSpec ow_dm_X13_quote ({ frames := 2, cells := 0, slots := 0, locals := 45 })).room s m args below meth c Q A (dC, dI) cX13_quote (St) (dw_X13 a ac) r) : dj_X13_quote_59 p l e s m args below meth c Q A dC dI a ac (df_X13_quote_59 n) r := by
  obtain ⟨hlt, hx, hb, hml, hown, hts, hN, hA, hK⟩ := id C
  intro s0 H locs ls h hP hD hS hl
  unfold df_X13_quote_59 at h
  exact K _ _ _ _ _ dX13_quote_59 (Option.some.inj h).symm hP hD hS
set_option maxHeartbeats 40000000 in
set_option maxRecDepth 100000 in
theorem db_X13_quote_44 {p : Program} {l : Launch} {e : Env} {s : State} {m : MethodId} {args : Array Value} {below : List Frame} {meth : Method} {c : Code} {Q : State → Prop} {A : Nat → Prop} {dC : Nat → ClassId} {dI : Nat → Nat → Nat} {a : Nat → Nat} {ac : Nat → ClassId} {n : Nat} {r : St} (C : nd_C p l s m args c A (dC, dI) cX13_quote 3 RX13 ow_dm_X13_quote (dk_X13 ac)) (K : nd_Kv p l e (headSpec ow_dm_X13_quote ({ frames := 2, cells := 0, slots := 0, locals := 45 })).room s m args below meth c Q A (dC, dI) cX13_quote (St) (dw_X13 a ac) r) : dj_X13_quote_44 p l e s m args below meth c Q A dC dI a ac (df_X13_quote_44 n) r := by
  obtain ⟨hlt, hx, hb, hml, hown, hts, hN, hA, hK⟩ := id C
  intro x1 x2 s0 H locs ls h hP hD hS hl
  unfold df_X13_quote_44 at h
  refine lv_aload_n hx hb dX13_quote_44 rfl (lv_at hl 0 rfl) ?_
  refine lv_iload_n hx hb dX13_quote_45 rfl (lv_at hl 1 rfl) ?_
  refine lv_iconst (v := 1) hx hb dX13_quote_46 (by decide) ?_
  refine lv_iadd hx hb dX13_quote_47 ?_
  refine va_put (D := (dC, dI)) (ci := 14) (v := .int (x1 + 1)) (ty := .int) (C := RX13) (T := TX13) (N := 37) hx hb hts hi_dm_X13_quote_X13 tyX13 tyX13_ok nmX13 hown hK hP hD hS 0 rfl rfl 19 (by decide) (hts (.fieldLink RX13 371 "TimeMachineModel$Assembler" "to" "I") (List.mem_of_getElem? (i := 3) rfl)) (fun _ h9 => h9) rfl (by decide +kernel) rfl rfl (Nat.le_of_ble_eq_true rfl) dX13_quote_48 (fun H locs hP hD hS => ?_)
  obtain ⟨s4, es4, h⟩ := nd_let_e h
  have hP : va_P (dC, dI) vwCl (dw_X13 a ac s4) H := by rw [es4]; exact hP
  have hD : va_D A (dw_X13 a ac s4) := by rw [es4]; exact hD
  refine lv_iload_n hx hb dX13_quote_51 rfl (lv_at hl 2 rfl) ?_
  refine lv_if_ge (tgt := 59) hx hb dX13_quote_52 (by decide) (fun c5 => ?_) (fun c5 => ?_)
  · have h := nd_pos h c5
    exact (db_X13_quote_59 C K)  s4 _ _ _ h hP hD hS (lv_sub hl [] rfl)
  · have h := nd_neg h c5
    refine lv_aload_n hx hb dX13_quote_55 rfl (lv_at hl 0 rfl) ?_
    obtain ⟨s7, hq, h⟩ := nd_b1_e h
    have hPc := hP
    have hDc := hD
    have hKc := hK
    have hFc := nd_rs hD hS hA
    refine nd_cVv (As := []) (rest := []) (w' := dw_X13 a ac s7) ⟨hx, hb, hml, hown, hts⟩ (fun sz => dm_X13_bad l hlt dC dI a ac n  s4 hq sz) (cwV 0 hts gi_dm_X13_quote_0 rfl rfl rfl (by decide +kernel) ⟨Nat.le_of_ble_eq_true rfl, Nat.le_of_ble_eq_true rfl⟩) hPc hDc hKc hS hA hN (va_recv hKc hPc (ci := 14) (q0 := 0) rfl rfl) rfl hl.1 rfl (Nat.le_of_ble_eq_true rfl) dX13_quote_56 (fun H locs hP1 hD1 hk1 hS => ?_)
    have hP := hP1
    have hD := hD1.weaken (fun k q _ h => hFc q.1 h)
    exact (db_X13_quote_59 C K)  s7 _ _ _ h hP hD hS (lv_sub hl [] rfl)
set_option maxHeartbeats 40000000 in
set_option maxRecDepth 100000 in
theorem dB_X13_quote_14 {p : Program} {l : Launch} {e : Env} {s : State} {m : MethodId} {args : Array Value} {below : List Frame} {meth : Method} {c : Code} {Q : State → Prop} {A : Nat → Prop} {dC : Nat → ClassId} {dI : Nat → Nat → Nat} {a : Nat → Nat} {ac : Nat → ClassId} {n : Nat} {r : St} (C : nd_C p l s m args c A (dC, dI) cX13_quote 3 RX13 ow_dm_X13_quote (dk_X13 ac)) (K : nd_Kv p l e (headSpec ow_dm_X13_quote ({ frames := 2, cells := 0, slots := 0, locals := 45 })).room s m args below meth c Q A (dC, dI) cX13_quote (St) (dw_X13 a ac) r) {g14 : Int32 → Int32 → (St) → Option (St)} (J14 : dj_X13_quote_14 p l e s m args below meth c Q A dC dI a ac g14 r) : dj_X13_quote_14 p l e s m args below meth c Q A dC dI a ac (dF_X13_quote_14 n g14) r := by
  obtain ⟨hlt, hx, hb, hml, hown, hts, hN, hA, hK⟩ := id C
  intro x1 x2 s0 H locs ls h hP hD hS hl
  unfold dF_X13_quote_14 at h
  refine lv_iload_n hx hb dX13_quote_14 rfl (lv_at hl 2 rfl) ?_
  refine lv_if_lt (tgt := 44) hx hb dX13_quote_15 (by decide) (fun c3 => ?_) (fun c3 => ?_)
  · have h := nd_pos h c3
    exact (db_X13_quote_44 C K) (x1) (x2) s0 _ _ _ h hP hD hS (lv_sub hl [0, 1, 2] rfl)
  · have h := nd_neg h c3
    refine lv_aload_n hx hb dX13_quote_18 rfl (lv_at hl 0 rfl) ?_
    refine lv_iload_n hx hb dX13_quote_19 rfl (lv_at hl 1 rfl) ?_
    obtain ⟨q9, s10, hq, h⟩ := nd_b2_e h
    have hPc := hP
    have hDc := hD
    have hKc := hK
    have hFc := nd_rs hD hS hA
    refine nd_cVi (As := [.int x1]) (rest := []) (q := q9) (w' := dw_X13 a ac s10) ⟨hx, hb, hml, hown, hts⟩ (fun sz => dm_X13_charAt l hlt dC dI a ac n (x1) s0 hq sz) (cwV 1 hts gi_dm_X13_quote_1 rfl rfl rfl (by decide +kernel) ⟨Nat.le_of_ble_eq_true rfl, Nat.le_of_ble_eq_true rfl⟩) hPc hDc hKc hS hA hN (va_recv hKc hPc (ci := 14) (q0 := 0) rfl rfl) rfl hl.1 rfl (Nat.le_of_ble_eq_true rfl) dX13_quote_20 (fun H locs hP1 hD1 hk1 hS => ?_)
    have hP := hP1
    have hD := hD1.weaken (fun k q _ h => hFc q.1 h)
    refine lv_bipush (v := 34) hx hb dX13_quote_23 (by decide) ?_
    refine lv_icmp_eq (tgt := 44) hx hb dX13_quote_25 (by decide) (fun c12 => ?_) (fun c12 => ?_)
    · have h := nd_pos h c12
      exact (db_X13_quote_44 C K) (x1) (x2) s10 _ _ _ h hP hD hS (lv_sub hl [0, 1, 2] rfl)
    · have h := nd_neg h c12
      refine lv_aload_n hx hb dX13_quote_28 rfl (lv_at hl 0 rfl) ?_
      refine lv_iload_n hx hb dX13_quote_29 rfl (lv_at hl 1 rfl) ?_
      refine lv_bipush (v := 34) hx hb dX13_quote_30 (by decide) ?_
      obtain ⟨q13, s14, hq, h⟩ := nd_b2_e h
      have hPc := hP
      have hDc := hD
      have hKc := hK
      have hFc := nd_rs hD hS hA
      refine nd_cVi (As := [.int x1, .int 34]) (rest := []) (q := q13) (w' := dw_X13 a ac s14) ⟨hx, hb, hml, hown, hts⟩ (fun sz => dm_X13_shown l hlt dC dI a ac n (x1) (34) s10 hq sz) (cwV 2 hts gi_dm_X13_quote_2 rfl rfl rfl (by decide +kernel) ⟨Nat.le_of_ble_eq_true rfl, Nat.le_of_ble_eq_true rfl⟩) hPc hDc hKc hS hA hN (va_recv hKc hPc (ci := 14) (q0 := 0) rfl rfl) rfl hl.1 rfl (Nat.le_of_ble_eq_true rfl) dX13_quote_32 (fun H locs hP1 hD1 hk1 hS => ?_)
      have hP := hP1
      have hD := hD1.weaken (fun k q _ h => hFc q.1 h)
      refine lv_istore_n (lv' := [(2, .int q13), (0, .ref (a 0)), (1, .int x1)]) hx hb dX13_quote_35 rfl hl (by decide) rfl (fun ls hl => ?_)
      refine lv_aload_n hx hb dX13_quote_36 rfl (lv_at hl 1 rfl) ?_
      refine va_get (D := (dC, dI)) (ci := 14) (v := .int (sI s14 10)) (C := RX13) (T := TX13) (N := 37) hx hb hts hi_dm_X13_quote_X13 hown hK hP 0 rfl rfl 19 (by decide) (hts (.fieldLink RX13 371 "TimeMachineModel$Assembler" "to" "I") (List.mem_of_getElem? (i := 3) rfl)) (fun _ h9 => h9) rfl dX13_quote_37 ?_
      refine lv_topi (fun z16 ez16 => ?_)
      have h := nd_at h ez16
      refine lv_istore_n (lv' := [(1, .int z16), (2, .int q13), (0, .ref (a 0))]) hx hb dX13_quote_40 rfl hl (by decide) rfl (fun ls hl => ?_)
      refine lv_goto (tgt := 14) hx hb dX13_quote_41 (by decide) ?_
      exact (J14) (z16) (q13) s14 _ _ _ h hP hD hS (lv_sub hl [2, 0, 1] rfl)
set_option maxHeartbeats 40000000 in
set_option maxRecDepth 100000 in
theorem db_X13_quote_14 {p : Program} {l : Launch} {e : Env} {s : State} {m : MethodId} {args : Array Value} {below : List Frame} {meth : Method} {c : Code} {Q : State → Prop} {A : Nat → Prop} {dC : Nat → ClassId} {dI : Nat → Nat → Nat} {a : Nat → Nat} {ac : Nat → ClassId} {n : Nat} {r : St} (C : nd_C p l s m args c A (dC, dI) cX13_quote 3 RX13 ow_dm_X13_quote (dk_X13 ac)) (K : nd_Kv p l e (headSpec ow_dm_X13_quote ({ frames := 2, cells := 0, slots := 0, locals := 45 })).room s m args below meth c Q A (dC, dI) cX13_quote (St) (dw_X13 a ac) r) (k : Nat) : dj_X13_quote_14 p l e s m args below meth c Q A dC dI a ac (df_X13_quote_14 n k) r := by
  induction k with
  | zero => intro x1 x2 s0 H locs ls h; exact nomatch (show (none : Option (St)) = some r from h)
  | succ k ih => exact dB_X13_quote_14 C K ih
set_option maxHeartbeats 40000000 in
set_option maxRecDepth 100000 in
theorem db_X13_quote_0 {p : Program} {l : Launch} {e : Env} {s : State} {m : MethodId} {args : Array Value} {below : List Frame} {meth : Method} {c : Code} {Q : State → Prop} {A : Nat → Prop} {dC : Nat → ClassId} {dI : Nat → Nat → Nat} {a : Nat → Nat} {ac : Nat → ClassId} {n : Nat} {r : St} (C : nd_C p l s m args c A (dC, dI) cX13_quote 3 RX13 ow_dm_X13_quote (dk_X13 ac)) (K : nd_Kv p l e (headSpec ow_dm_X13_quote ({ frames := 2, cells := 0, slots := 0, locals := 45 })).room s m args below meth c Q A (dC, dI) cX13_quote (St) (dw_X13 a ac) r) : dj_X13_quote_0 p l e s m args below meth c Q A dC dI a ac (df_X13_quote_0 n) r := by
  obtain ⟨hlt, hx, hb, hml, hown, hts, hN, hA, hK⟩ := id C
  intro s0 H locs ls h hP hD hS hl
  unfold df_X13_quote_0 at h
  refine lv_aload_n hx hb dX13_quote_0 rfl (lv_at hl 0 rfl) ?_
  refine lv_iconst (v := 4) hx hb dX13_quote_1 (by decide) ?_
  refine va_put (D := (dC, dI)) (ci := 14) (v := .int 4) (ty := .int) (C := RX13) (T := TX13) (N := 37) hx hb hts hi_dm_X13_quote_X13 tyX13 tyX13_ok nmX13 hown hK hP hD hS 0 rfl rfl 17 (by decide) (hts (.fieldLink RX13 365 "TimeMachineModel$Assembler" "token" "I") (List.mem_of_getElem? (i := 1) rfl)) (fun _ h9 => h9) rfl (by decide +kernel) rfl rfl (Nat.le_of_ble_eq_true rfl) dX13_quote_2 (fun H locs hP hD hS => ?_)
  obtain ⟨s1, es1, h⟩ := nd_let_e h
  have hP : va_P (dC, dI) vwCl (dw_X13 a ac s1) H := by rw [es1]; exact hP
  have hD : va_D A (dw_X13 a ac s1) := by rw [es1]; exact hD
  refine lv_aload_n hx hb dX13_quote_5 rfl (lv_at hl 0 rfl) ?_
  refine va_get (D := (dC, dI)) (ci := 14) (v := .int (sI s1 7)) (C := RX13) (T := TX13) (N := 37) hx hb hts hi_dm_X13_quote_X13 hown hK hP 0 rfl rfl 16 (by decide) (hts (.fieldLink RX13 374 "TimeMachineModel$Assembler" "at" "I") (List.mem_of_getElem? (i := 2) rfl)) (fun _ h9 => h9) rfl dX13_quote_6 ?_
  refine lv_iconst (v := 1) hx hb dX13_quote_9 (by decide) ?_
  refine lv_iadd hx hb dX13_quote_10 ?_
  refine lv_topi (fun z2 ez2 => ?_)
  have h := nd_at h ez2
  refine lv_istore_n (lv' := [(1, .int z2), (0, .ref (a 0))]) hx hb dX13_quote_11 rfl hl (by decide) rfl (fun ls hl => ?_)
  refine lv_iconst (v := 0) hx hb dX13_quote_12 (by decide) ?_
  refine lv_istore_n (lv' := [(2, .int 0), (1, .int z2), (0, .ref (a 0))]) hx hb dX13_quote_13 rfl hl (by decide) rfl (fun ls hl => ?_)
  exact (db_X13_quote_14 C K n) (z2) (0) s1 _ _ _ h hP hD hS (lv_sub hl [2, 1, 0] rfl)
set_option maxHeartbeats 40000000 in
set_option maxRecDepth 100000 in
theorem dm_X13_quote (l : Launch) (hlt : l.stackTraces = false) (dC : Nat → ClassId) (dI : Nat → Nat → Nat) (a : Nat → Nat) (ac : Nat → ClassId) (n : Nat) (s0 : St) {r : St} (h : df_X13_quote n s0 = some r) (sz : Nat) : Met l yX13_quote ow_dm_X13_quote ({ frames := 2, cells := 0, slots := 0, locals := 45 }) (va_Pc [.ref (a 0)] (fun U => U.heap.size = sz ∧ va_P (dC, dI) vwCl (dw_X13 a ac s0) U.heap ∧ va_K (dC, dI) vwCl (dk_X13 ac) U ∧ va_D (fun _ => True) (dw_X13 a ac s0) ∧ nv_E dI (va_A (dw_X13 a ac s0) sz) U)) (va_Qv (fun _ => True) (fun (_ : Unit) t => va_P (dC, dI) vwCl (dw_X13 a ac r) t.heap ∧ va_K (dC, dI) vwCl (dk_X13 ac) t ∧ va_D (va_A (dw_X13 a ac s0) sz) (dw_X13 a ac r)) (va_A (dw_X13 a ac s0) sz)) 0 0 (va_A (dw_X13 a ac s0) sz) := by
  refine Met.ofW (cc := cX13_quote) (maxL := 3) (ret := none) (by decide) rfl ?_
  intro p e s m args below meth c s₁ B hml hv
  obtain ⟨rfl, hsz, hP, hK, hD0, hN⟩ := hv
  have hx := B.exec
  have hb := B.bytes
  have hr := B.returns
  have hts := atoms_spec (ws := ow_dm_X13_quote) B.pre
  have hown : s.vm.findClass RX13 = some m.cls := findClass_of_methodNamed B.named
  have hlocks := B.notSynchronized
  subst hsz
  have hD := hD0.self (sz := s.heap.size)
  generalize hAe : va_A (dw_X13 a ac s0) s.heap.size = A at hD hN ⊢
  have hA : ∀ q : Nat, s.heap.size ≤ q → A q := fun q h => by rw [← hAe]; exact Or.inr h
  have hl := lv_entry ([.ref (a 0)]) (n := 3) (Nat.le_of_ble_eq_true rfl)
  rw [lg_entry_eq]
  generalize (lg_sl ([.ref (a 0)]) ++ List.replicate (3 - (lg_sl ([.ref (a 0)])).length) Slot.unset).toArray = ls at hl ⊢
  have hl : lv_has ls 3 [(0, .ref (a 0))] := hl
  exact db_X13_quote_0 (dC := dC) (dI := dI) (a := a) (ac := ac) (n := n) (r := r) ⟨hlt, hx, hb, hml, hown, hts, hN, hA, hK⟩ (fun pc τ H locs ls d er hP hD hS => by subst er; exact W.vret hx hb hr (fun t ht hW => ⟨⟨(), rfl, trivial, by rw [ht]; exact hP, va_K.moved hW.alike hK, hD⟩, hS.F ht⟩) hS.2.2 d) s0 _ _ _ h hP hD va_S.rf (lv_sub hl [0] rfl)
def ow_dm_X13_character : List Cond := Cond.code yX13_character cX13_character 2 none :: ([Cond.fieldLink RX13 374 "TimeMachineModel$Assembler" "at" "I", Cond.methodLink RX13 406 yX13_shown, Cond.instanceMethod yX13_shown, Cond.selects RX13 yX13_shown yX13_shown, Cond.initialized RX13, Cond.fieldLink RX13 399 "TimeMachineModel$Assembler" "number" "I", Cond.fieldLink RX13 365 "TimeMachineModel$Assembler" "token" "I", Cond.fieldLink RX13 371 "TimeMachineModel$Assembler" "to" "I", Cond.methodLink RX13 383 yX13_bad, Cond.instanceMethod yX13_bad, Cond.selects RX13 yX13_bad yX13_bad, Cond.methodLink RX13 358 yX13_charAt, Cond.instanceMethod yX13_charAt, Cond.selects RX13 yX13_charAt yX13_charAt, Cond.methodLink RX13 362 yX13_isPlain, Cond.static yX13_isPlain] ++ (u_ws RX13 TX13 37 ++ (ow_dm_X13_shown ++ (ow_dm_X13_bad ++ (ow_dm_X13_charAt ++ (ow_dm_X13_isPlain ++ []))))))
theorem gd_dm_X13_character : ∀ w ∈ ow_dm_X13_character, (w.onTables && w.keeps) = true ∨ ∃ ty, w = Cond.arrayClass ty := List.forall_mem_cons.mpr ⟨good_of_word rfl, List.forall_mem_append.mpr ⟨fun w h => good_of_word (List.all_eq_true.mp (by decide +kernel) w h), List.forall_mem_append.mpr ⟨gu_X13, List.forall_mem_append.mpr ⟨gd_dm_X13_shown, List.forall_mem_append.mpr ⟨gd_dm_X13_bad, List.forall_mem_append.mpr ⟨gd_dm_X13_charAt, List.forall_mem_append.mpr ⟨gd_dm_X13_isPlain, fun _ h => nomatch h⟩⟩⟩⟩⟩⟩⟩
theorem hi_dm_X13_character_X13 : ∀ w ∈ u_ws RX13 TX13 37, w ∈ ow_dm_X13_character := fun w h => List.mem_cons_of_mem _ (List.mem_append_right _ (List.mem_append_left _ h))
theorem gi_dm_X13_character_0 : GoodIn ow_dm_X13_character (wsV RX13 406 RX13 yX13_shown ow_dm_X13_shown) := goodIn_app (goodIn_of _ (by decide +kernel)) (fun w h => ⟨List.mem_cons_of_mem _ (List.mem_append_right _ (List.mem_append_right _ (List.mem_append_left _ h))), gd_dm_X13_shown w h⟩)
theorem gi_dm_X13_character_1 : GoodIn ow_dm_X13_character (wsV RX13 383 RX13 yX13_bad ow_dm_X13_bad) := goodIn_app (goodIn_of _ (by decide +kernel)) (fun w h => ⟨List.mem_cons_of_mem _ (List.mem_append_right _ (List.mem_append_right _ (List.mem_append_right _ (List.mem_append_left _ h)))), gd_dm_X13_bad w h⟩)
theorem gi_dm_X13_character_2 : GoodIn ow_dm_X13_character (wsV RX13 358 RX13 yX13_charAt ow_dm_X13_charAt) := goodIn_app (goodIn_of _ (by decide +kernel)) (fun w h => ⟨List.mem_cons_of_mem _ (List.mem_append_right _ (List.mem_append_right _ (List.mem_append_right _ (List.mem_append_right _ (List.mem_append_left _ h))))), gd_dm_X13_charAt w h⟩)
theorem gi_dm_X13_character_3 : GoodIn ow_dm_X13_character (wsS RX13 362 yX13_isPlain ow_dm_X13_isPlain) := goodIn_app (goodIn_of _ (by decide +kernel)) (fun w h => ⟨List.mem_cons_of_mem _ (List.mem_append_right _ (List.mem_append_right _ (List.mem_append_right _ (List.mem_append_right _ (List.mem_append_right _ (List.mem_append_left _ h)))))), gd_dm_X13_isPlain w h⟩)
def dj_X13_character_79 (p : Program) (l : Launch) (e : Env) (s : State) (m : MethodId) (args : Array Value) (below : List Frame) (meth : Method) (c : Code) (Q : State → Prop) (A : Nat → Prop) (dC : Nat → ClassId) (dI : Nat → Nat → Nat) (a : Nat → Nat) (ac : Nat → ClassId) (g : (St) → Option (St)) (r : St) : Prop := ∀ (s0 : St) (H : Heap) (locs : List Loc) (ls : Array Slot), g s0 = some r → va_P (dC, dI) vwCl (dw_X13 a ac s0) H → va_D A (dw_X13 a ac s0) → va_S A s.heap H locs → lv_has ls 2 [] → W p l e (headSpec ow_dm_X13_character ({ frames := 2, cells := 0, slots := 0, locals := 45 })).room s m args below meth c H locs 0 0 Q (F0 m 79 ls [])
def dj_X13_character_75 (p : Program) (l : Launch) (e : Env) (s : State) (m : MethodId) (args : Array Value) (below : List Frame) (meth : Method) (c : Code) (Q : State → Prop) (A : Nat → Prop) (dC : Nat → ClassId) (dI : Nat → Nat → Nat) (a : Nat → Nat) (ac : Nat → ClassId) (g : (St) → Option (St)) (r : St) : Prop := ∀ (s0 : St) (H : Heap) (locs : List Loc) (ls : Array Slot), g s0 = some r → va_P (dC, dI) vwCl (dw_X13 a ac s0) H → va_D A (dw_X13 a ac s0) → va_S A s.heap H locs → lv_has ls 2 [(0, .ref (a 0))] → W p l e (headSpec ow_dm_X13_character ({ frames := 2, cells := 0, slots := 0, locals := 45 })).room s m args below meth c H locs 0 0 Q (F0 m 75 ls [])
def dj_X13_character_46 (p : Program) (l : Launch) (e : Env) (s : State) (m : MethodId) (args : Array Value) (below : List Frame) (meth : Method) (c : Code) (Q : State → Prop) (A : Nat → Prop) (dC : Nat → ClassId) (dI : Nat → Nat → Nat) (a : Nat → Nat) (ac : Nat → ClassId) (g : Int32 → (St) → Option (St)) (r : St) : Prop := ∀ (y0 : Int32) (s0 : St) (H : Heap) (locs : List Loc) (ls : Array Slot), g y0 s0 = some r → va_P (dC, dI) vwCl (dw_X13 a ac s0) H → va_D A (dw_X13 a ac s0) → va_S A s.heap H locs → lv_has ls 2 [(0, .ref (a 0))] → W p l e (headSpec ow_dm_X13_character ({ frames := 2, cells := 0, slots := 0, locals := 45 })).room s m args below meth c H locs 0 0 Q (F0 m 46 ls [.int y0])
def dj_X13_character_45 (p : Program) (l : Launch) (e : Env) (s : State) (m : MethodId) (args : Array Value) (below : List Frame) (meth : Method) (c : Code) (Q : State → Prop) (A : Nat → Prop) (dC : Nat → ClassId) (dI : Nat → Nat → Nat) (a : Nat → Nat) (ac : Nat → ClassId) (g : (St) → Option (St)) (r : St) : Prop := ∀ (s0 : St) (H : Heap) (locs : List Loc) (ls : Array Slot), g s0 = some r → va_P (dC, dI) vwCl (dw_X13 a ac s0) H → va_D A (dw_X13 a ac s0) → va_S A s.heap H locs → lv_has ls 2 [(0, .ref (a 0))] → W p l e (headSpec ow_dm_X13_character ({ frames := 2, cells := 0, slots := 0, locals := 45 })).room s m args below meth c H locs 0 0 Q (F0 m 45 ls [])
def dj_X13_character_0 (p : Program) (l : Launch) (e : Env) (s : State) (m : MethodId) (args : Array Value) (below : List Frame) (meth : Method) (c : Code) (Q : State → Prop) (A : Nat → Prop) (dC : Nat → ClassId) (dI : Nat → Nat → Nat) (a : Nat → Nat) (ac : Nat → ClassId) (g : (St) → Option (St)) (r : St) : Prop := ∀ (s0 : St) (H : Heap) (locs : List Loc) (ls : Array Slot), g s0 = some r → va_P (dC, dI) vwCl (dw_X13 a ac s0) H → va_D A (dw_X13 a ac s0) → va_S A s.heap H locs → lv_has ls 2 [(0, .ref (a 0))] → W p l e (headSpec ow_dm_X13_character ({ frames := 2, cells := 0, slots := 0, locals := 45 })).room s m args below meth c H locs 0 0 Q (F0 m 0 ls [])
set_option maxHeartbeats 40000000 in
set_option maxRecDepth 100000 in
theorem db_X13_character_79 {p : Program} {l : Launch} {e : Env} {s : State} {m : MethodId} {args : Array Value} {below : List Frame} {meth : Method} {c : Code} {Q : State → Prop} {A : Nat → Prop} {dC : Nat → ClassId} {dI : Nat → Nat → Nat} {a : Nat → Nat} {ac : Nat → ClassId} {n : Nat} {r : St} (C : nd_C p l s m args c A (dC, dI) cX13_character 2 RX13 ow_dm_X13_character (dk_X13 ac)) (K : nd_Kv p l e (headSpec ow_dm_X13_character ({ frames := 2, cells := 0, slots := 0, locals := 45 })).room s m args below meth c Q A (dC, dI) cX13_character (St) (dw_X13 a ac) r) : dj_X13_character_79 p l e s m args below meth c Q A dC dI a ac (df_X13_character_79 n) r := by
  obtain ⟨hlt, hx, hb, hml, hown, hts, hN, hA, hK⟩ := id C
  intro s0 H locs ls h hP hD hS hl
  unfold df_X13_character_79 at h
  exact K _ _ _ _ _ dX13_character_79 (Option.some.inj h).symm hP hD hS
set_option maxHeartbeats 40000000 in
set_option maxRecDepth 100000 in
theorem db_X13_character_75 {p : Program} {l : Launch} {e : Env} {s : State} {m : MethodId} {args : Array Value} {below : List Frame} {meth : Method} {c : Code} {Q : State → Prop} {A : Nat → Prop} {dC : Nat → ClassId} {dI : Nat → Nat → Nat} {a : Nat → Nat} {ac : Nat → ClassId} {n : Nat} {r : St} (C : nd_C p l s m args c A (dC, dI) cX13_character 2 RX13 ow_dm_X13_character (dk_X13 ac)) (K : nd_Kv p l e (headSpec ow_dm_X13_character ({ frames := 2, cells := 0, slots := 0, locals := 45 })).room s m args below meth c Q A (dC, dI) cX13_character (St) (dw_X13 a ac) r) : dj_X13_character_75 p l e s m args below meth c Q A dC dI a ac (df_X13_character_75 n) r := by
  obtain ⟨hlt, hx, hb, hml, hown, hts, hN, hA, hK⟩ := id C
  intro s0 H locs ls h hP hD hS hl
  unfold df_X13_character_75 at h
  refine lv_aload_n hx hb dX13_character_75 rfl (lv_at hl 0 rfl) ?_
  obtain ⟨s10, hq, h⟩ := nd_b1_e h
  have hPc := hP
  have hDc := hD
  have hKc := hK
  have hFc := nd_rs hD hS hA
  refine nd_cVv (As := []) (rest := []) (w' := dw_X13 a ac s10) ⟨hx, hb, hml, hown, hts⟩ (fun sz => dm_X13_bad l hlt dC dI a ac n  s0 hq sz) (cwV 0 hts gi_dm_X13_character_1 rfl rfl rfl (by decide +kernel) ⟨Nat.le_of_ble_eq_true rfl, Nat.le_of_ble_eq_true rfl⟩) hPc hDc hKc hS hA hN (va_recv hKc hPc (ci := 14) (q0 := 0) rfl rfl) rfl hl.1 rfl (Nat.le_of_ble_eq_true rfl) dX13_character_76 (fun H locs hP1 hD1 hk1 hS => ?_)
  have hP := hP1
  have hD := hD1.weaken (fun k q _ h => hFc q.1 h)
  exact (db_X13_character_79 C K)  s10 _ _ _ h hP hD hS (lv_sub hl [] rfl)
set_option maxHeartbeats 40000000 in
set_option maxRecDepth 100000 in
theorem db_X13_character_46 {p : Program} {l : Launch} {e : Env} {s : State} {m : MethodId} {args : Array Value} {below : List Frame} {meth : Method} {c : Code} {Q : State → Prop} {A : Nat → Prop} {dC : Nat → ClassId} {dI : Nat → Nat → Nat} {a : Nat → Nat} {ac : Nat → ClassId} {n : Nat} {r : St} (C : nd_C p l s m args c A (dC, dI) cX13_character 2 RX13 ow_dm_X13_character (dk_X13 ac)) (K : nd_Kv p l e (headSpec ow_dm_X13_character ({ frames := 2, cells := 0, slots := 0, locals := 45 })).room s m args below meth c Q A (dC, dI) cX13_character (St) (dw_X13 a ac) r) : dj_X13_character_46 p l e s m args below meth c Q A dC dI a ac (df_X13_character_46 n) r := by
  obtain ⟨hlt, hx, hb, hml, hown, hts, hN, hA, hK⟩ := id C
  intro y0 s0 H locs ls h hP hD hS hl
  unfold df_X13_character_46 at h
  refine lv_istore_n (lv' := [(1, .int y0), (0, .ref (a 0))]) hx hb dX13_character_46 rfl hl (by decide) rfl (fun ls hl => ?_)
  refine lv_aload_n hx hb dX13_character_47 rfl (lv_at hl 1 rfl) ?_
  refine lv_dup hx hb dX13_character_48 rfl ?_
  refine va_get (D := (dC, dI)) (ci := 14) (v := .int (sI s0 10)) (C := RX13) (T := TX13) (N := 37) hx hb hts hi_dm_X13_character_X13 hown hK hP 0 rfl rfl 19 (by decide) (hts (.fieldLink RX13 371 "TimeMachineModel$Assembler" "to" "I") (List.mem_of_getElem? (i := 8) rfl)) (fun _ h9 => h9) rfl dX13_character_49 ?_
  refine lv_iconst (v := 1) hx hb dX13_character_52 (by decide) ?_
  refine lv_iadd hx hb dX13_character_53 ?_
  refine va_put (D := (dC, dI)) (ci := 14) (v := .int ((sI s0 10) + 1)) (ty := .int) (C := RX13) (T := TX13) (N := 37) hx hb hts hi_dm_X13_character_X13 tyX13 tyX13_ok nmX13 hown hK hP hD hS 0 rfl rfl 19 (by decide) (hts (.fieldLink RX13 371 "TimeMachineModel$Assembler" "to" "I") (List.mem_of_getElem? (i := 8) rfl)) (fun _ h9 => h9) rfl (by decide +kernel) rfl rfl (Nat.le_of_ble_eq_true rfl) dX13_character_54 (fun H locs hP hD hS => ?_)
  obtain ⟨s7, es7, h⟩ := nd_let_e h
  have hP : va_P (dC, dI) vwCl (dw_X13 a ac s7) H := by rw [es7]; exact hP
  have hD : va_D A (dw_X13 a ac s7) := by rw [es7]; exact hD
  refine lv_iload_n hx hb dX13_character_57 rfl (lv_at hl 0 rfl) ?_
  refine lv_if_eq (tgt := 75) hx hb dX13_character_58 (by decide) (fun c8 => ?_) (fun c8 => ?_)
  · have h := nd_pos h c8
    exact (db_X13_character_75 C K)  s7 _ _ _ h hP hD hS (lv_sub hl [1] rfl)
  · have h := nd_neg h c8
    refine lv_aload_n hx hb dX13_character_61 rfl (lv_at hl 1 rfl) ?_
    refine lv_aload_n hx hb dX13_character_62 rfl (lv_at hl 1 rfl) ?_
    refine va_get (D := (dC, dI)) (ci := 14) (v := .int (sI s7 10)) (C := RX13) (T := TX13) (N := 37) hx hb hts hi_dm_X13_character_X13 hown hK hP 0 rfl rfl 19 (by decide) (hts (.fieldLink RX13 371 "TimeMachineModel$Assembler" "to" "I") (List.mem_of_getElem? (i := 8) rfl)) (fun _ h9 => h9) rfl dX13_character_63 ?_
    obtain ⟨q12, s13, hq, h⟩ := nd_b2_e h
    have hPc := hP
    have hDc := hD
    have hKc := hK
    have hFc := nd_rs hD hS hA
    refine nd_cVi (As := [.int (sI s7 10)]) (rest := []) (q := q12) (w' := dw_X13 a ac s13) ⟨hx, hb, hml, hown, hts⟩ (fun sz => dm_X13_charAt l hlt dC dI a ac n ((sI s7 10)) s7 hq sz) (cwV 1 hts gi_dm_X13_character_2 rfl rfl rfl (by decide +kernel) ⟨Nat.le_of_ble_eq_true rfl, Nat.le_of_ble_eq_true rfl⟩) hPc hDc hKc hS hA hN (va_recv hKc hPc (ci := 14) (q0 := 0) rfl rfl) rfl hl.1 rfl (Nat.le_of_ble_eq_true rfl) dX13_character_66 (fun H locs hP1 hD1 hk1 hS => ?_)
    have hP := hP1
    have hD := hD1.weaken (fun k q _ h => hFc q.1 h)
    obtain ⟨q15, s16, hq, h⟩ := nd_b2_e h
    have hPc : va_P (dC, dI) vwCl (dw_P a ac ()) H := nd_p0
    have hDc : va_D A (dw_P a ac ()) := nd_d0
    have hKc : va_K (dC, dI) vwCl (dk_P ac) s := nd_y0 hK
    have hFc : ∀ q, va_A (dw_P a ac ()) H.size q → A q := nd_r0 hS hA
    refine nd_cSi (As := [.int q12]) (rest := []) (q := q15) (w' := dw_P a ac s16) ⟨hx, hb, hml, hown, hts⟩ (fun sz => dm_X13_isPlain l hlt dC dI a ac n (q12) () hq sz) (cwS 1 hts gi_dm_X13_character_3 rfl rfl rfl (by decide +kernel) ⟨Nat.le_of_ble_eq_true rfl, Nat.le_of_ble_eq_true rfl⟩) hPc hDc hKc hS hA hN rfl hl.1 rfl (Nat.le_of_ble_eq_true rfl) dX13_character_69 (fun H locs hP1 hD1 hk1 hS => ?_)
    have hP := nd_n0 hP hk1
    refine lv_if_eq (tgt := 79) hx hb dX13_character_72 (by decide) (fun c18 => ?_) (fun c18 => ?_)
    · have h := nd_pos h c18
      exact (db_X13_character_79 C K)  s13 _ _ _ h hP hD hS (lv_sub hl [] rfl)
    · have h := nd_neg h c18
      exact (db_X13_character_75 C K)  s13 _ _ _ h hP hD hS (lv_sub hl [1] rfl)
set_option maxHeartbeats 40000000 in
set_option maxRecDepth 100000 in
theorem db_X13_character_45 {p : Program} {l : Launch} {e : Env} {s : State} {m : MethodId} {args : Array Value} {below : List Frame} {meth : Method} {c : Code} {Q : State → Prop} {A : Nat → Prop} {dC : Nat → ClassId} {dI : Nat → Nat → Nat} {a : Nat → Nat} {ac : Nat → ClassId} {n : Nat} {r : St} (C : nd_C p l s m args c A (dC, dI) cX13_character 2 RX13 ow_dm_X13_character (dk_X13 ac)) (K : nd_Kv p l e (headSpec ow_dm_X13_character ({ frames := 2, cells := 0, slots := 0, locals := 45 })).room s m args below meth c Q A (dC, dI) cX13_character (St) (dw_X13 a ac) r) : dj_X13_character_45 p l e s m args below meth c Q A dC dI a ac (df_X13_character_45 n) r := by
  obtain ⟨hlt, hx, hb, hml, hown, hts, hN, hA, hK⟩ := id C
  intro s0 H locs ls h hP hD hS hl
  unfold df_X13_character_45 at h
  refine lv_iconst (v := 0) hx hb dX13_character_45 (by decide) ?_
  exact (db_X13_character_46 C K) (0) s0 _ _ _ h hP hD hS (lv_sub hl [0] rfl)
set_option maxHeartbeats 40000000 in
set_option maxRecDepth 100000 in
theorem db_X13_character_0 {p : Program} {l : Launch} {e : Env} {s : State} {m : MethodId} {args : Array Value} {below : List Frame} {meth : Method} {c : Code} {Q : State → Prop} {A : Nat → Prop} {dC : Nat → ClassId} {dI : Nat → Nat → Nat} {a : Nat → Nat} {ac : Nat → ClassId} {n : Nat} {r : St} (C : nd_C p l s m args c A (dC, dI) cX13_character 2 RX13 ow_dm_X13_character (dk_X13 ac)) (K : nd_Kv p l e (headSpec ow_dm_X13_character ({ frames := 2, cells := 0, slots := 0, locals := 45 })).room s m args below meth c Q A (dC, dI) cX13_character (St) (dw_X13 a ac) r) : dj_X13_character_0 p l e s m args below meth c Q A dC dI a ac (df_X13_character_0 n) r := by
  obtain ⟨hlt, hx, hb, hml, hown, hts, hN, hA, hK⟩ := id C
  intro s0 H locs ls h hP hD hS hl
  unfold df_X13_character_0 at h
  refine lv_aload_n hx hb dX13_character_0 rfl (lv_at hl 0 rfl) ?_
  refine lv_aload_n hx hb dX13_character_1 rfl (lv_at hl 0 rfl) ?_
  refine lv_aload_n hx hb dX13_character_2 rfl (lv_at hl 0 rfl) ?_
  refine va_get (D := (dC, dI)) (ci := 14) (v := .int (sI s0 7)) (C := RX13) (T := TX13) (N := 37) hx hb hts hi_dm_X13_character_X13 hown hK hP 0 rfl rfl 16 (by decide) (hts (.fieldLink RX13 374 "TimeMachineModel$Assembler" "at" "I") (List.mem_of_getElem? (i := 1) rfl)) (fun _ h9 => h9) rfl dX13_character_3 ?_
  refine lv_iconst (v := 1) hx hb dX13_character_6 (by decide) ?_
  refine lv_iadd hx hb dX13_character_7 ?_
  refine lv_bipush (v := 39) hx hb dX13_character_8 (by decide) ?_
  obtain ⟨q1, s2, hq, h⟩ := nd_b2_e h
  have hPc := hP
  have hDc := hD
  have hKc := hK
  have hFc := nd_rs hD hS hA
  refine nd_cVi (As := [.int ((sI s0 7) + 1), .int 39]) (rest := [.ref (a 0)]) (q := q1) (w' := dw_X13 a ac s2) ⟨hx, hb, hml, hown, hts⟩ (fun sz => dm_X13_shown l hlt dC dI a ac n (((sI s0 7) + 1)) (39) s0 hq sz) (cwV 2 hts gi_dm_X13_character_0 rfl rfl rfl (by decide +kernel) ⟨Nat.le_of_ble_eq_true rfl, Nat.le_of_ble_eq_true rfl⟩) hPc hDc hKc hS hA hN (va_recv hKc hPc (ci := 14) (q0 := 0) rfl rfl) rfl hl.1 rfl (Nat.le_of_ble_eq_true rfl) dX13_character_10 (fun H locs hP1 hD1 hk1 hS => ?_)
  have hP := hP1
  have hD := hD1.weaken (fun k q _ h => hFc q.1 h)
  refine va_put (D := (dC, dI)) (ci := 14) (v := .int q1) (ty := .int) (C := RX13) (T := TX13) (N := 37) hx hb hts hi_dm_X13_character_X13 tyX13 tyX13_ok nmX13 hown hK hP hD hS 0 rfl rfl 20 (by decide) (hts (.fieldLink RX13 399 "TimeMachineModel$Assembler" "number" "I") (List.mem_of_getElem? (i := 6) rfl)) (fun _ h9 => h9) rfl (by decide +kernel) rfl rfl (Nat.le_of_ble_eq_true rfl) dX13_character_13 (fun H locs hP hD hS => ?_)
  obtain ⟨s4, es4, h⟩ := nd_let_e h
  have hP : va_P (dC, dI) vwCl (dw_X13 a ac s4) H := by rw [es4]; exact hP
  have hD : va_D A (dw_X13 a ac s4) := by rw [es4]; exact hD
  refine lv_aload_n hx hb dX13_character_16 rfl (lv_at hl 0 rfl) ?_
  refine lv_iconst (v := 2) hx hb dX13_character_17 (by decide) ?_
  refine va_put (D := (dC, dI)) (ci := 14) (v := .int 2) (ty := .int) (C := RX13) (T := TX13) (N := 37) hx hb hts hi_dm_X13_character_X13 tyX13 tyX13_ok nmX13 hown hK hP hD hS 0 rfl rfl 17 (by decide) (hts (.fieldLink RX13 365 "TimeMachineModel$Assembler" "token" "I") (List.mem_of_getElem? (i := 7) rfl)) (fun _ h9 => h9) rfl (by decide +kernel) rfl rfl (Nat.le_of_ble_eq_true rfl) dX13_character_18 (fun H locs hP hD hS => ?_)
  obtain ⟨s5, es5, h⟩ := nd_let_e h
  have hP : va_P (dC, dI) vwCl (dw_X13 a ac s5) H := by rw [es5]; exact hP
  have hD : va_D A (dw_X13 a ac s5) := by rw [es5]; exact hD
  refine lv_aload_n hx hb dX13_character_21 rfl (lv_at hl 0 rfl) ?_
  refine va_get (D := (dC, dI)) (ci := 14) (v := .int (sI s5 11)) (C := RX13) (T := TX13) (N := 37) hx hb hts hi_dm_X13_character_X13 hown hK hP 0 rfl rfl 20 (by decide) (hts (.fieldLink RX13 399 "TimeMachineModel$Assembler" "number" "I") (List.mem_of_getElem? (i := 6) rfl)) (fun _ h9 => h9) rfl dX13_character_22 ?_
  refine lv_if_lt (tgt := 45) hx hb dX13_character_25 (by decide) (fun c6 => ?_) (fun c6 => ?_)
  · have h := nd_pos h c6
    exact (db_X13_character_45 C K)  s5 _ _ _ h hP hD hS (lv_sub hl [0] rfl)
  · have h := nd_neg h c6
    refine lv_aload_n hx hb dX13_character_28 rfl (lv_at hl 0 rfl) ?_
    refine lv_aload_n hx hb dX13_character_29 rfl (lv_at hl 0 rfl) ?_
    refine va_get (D := (dC, dI)) (ci := 14) (v := .int (sI s5 10)) (C := RX13) (T := TX13) (N := 37) hx hb hts hi_dm_X13_character_X13 hown hK hP 0 rfl rfl 19 (by decide) (hts (.fieldLink RX13 371 "TimeMachineModel$Assembler" "to" "I") (List.mem_of_getElem? (i := 8) rfl)) (fun _ h9 => h9) rfl dX13_character_30 ?_
    obtain ⟨q19, s20, hq, h⟩ := nd_b2_e h
    have hPc := hP
    have hDc := hD
    have hKc := hK
    have hFc := nd_rs hD hS hA
    refine nd_cVi (As := [.int (sI s5 10)]) (rest := []) (q := q19) (w' := dw_X13 a ac s20) ⟨hx, hb, hml, hown, hts⟩ (fun sz => dm_X13_charAt l hlt dC dI a ac n ((sI s5 10)) s5 hq sz) (cwV 1 hts gi_dm_X13_character_2 rfl rfl rfl (by decide +kernel) ⟨Nat.le_of_ble_eq_true rfl, Nat.le_of_ble_eq_true rfl⟩) hPc hDc hKc hS hA hN (va_recv hKc hPc (ci := 14) (q0 := 0) rfl rfl) rfl hl.1 rfl (Nat.le_of_ble_eq_true rfl) dX13_character_33 (fun H locs hP1 hD1 hk1 hS => ?_)
    have hP := hP1
    have hD := hD1.weaken (fun k q _ h => hFc q.1 h)
    refine lv_bipush (v := 39) hx hb dX13_character_36 (by decide) ?_
    refine lv_icmp_ne (tgt := 45) hx hb dX13_character_38 (by decide) (fun c22 => ?_) (fun c22 => ?_)
    · have h := nd_neg h c22
      exact (db_X13_character_45 C K)  s20 _ _ _ h hP hD hS (lv_sub hl [0] rfl)
    · have h := nd_pos h c22
      refine lv_iconst (v := 1) hx hb dX13_character_41 (by decide) ?_
      refine lv_goto (tgt := 46) hx hb dX13_character_42 (by decide) ?_
      exact (db_X13_character_46 C K) (1) s20 _ _ _ h hP hD hS (lv_sub hl [0] rfl)
set_option maxHeartbeats 40000000 in
set_option maxRecDepth 100000 in
theorem dm_X13_character (l : Launch) (hlt : l.stackTraces = false) (dC : Nat → ClassId) (dI : Nat → Nat → Nat) (a : Nat → Nat) (ac : Nat → ClassId) (n : Nat) (s0 : St) {r : St} (h : df_X13_character n s0 = some r) (sz : Nat) : Met l yX13_character ow_dm_X13_character ({ frames := 2, cells := 0, slots := 0, locals := 45 }) (va_Pc [.ref (a 0)] (fun U => U.heap.size = sz ∧ va_P (dC, dI) vwCl (dw_X13 a ac s0) U.heap ∧ va_K (dC, dI) vwCl (dk_X13 ac) U ∧ va_D (fun _ => True) (dw_X13 a ac s0) ∧ nv_E dI (va_A (dw_X13 a ac s0) sz) U)) (va_Qv (fun _ => True) (fun (_ : Unit) t => va_P (dC, dI) vwCl (dw_X13 a ac r) t.heap ∧ va_K (dC, dI) vwCl (dk_X13 ac) t ∧ va_D (va_A (dw_X13 a ac s0) sz) (dw_X13 a ac r)) (va_A (dw_X13 a ac s0) sz)) 0 0 (va_A (dw_X13 a ac s0) sz) := by
  refine Met.ofW (cc := cX13_character) (maxL := 2) (ret := none) (by decide) rfl ?_
  intro p e s m args below meth c s₁ B hml hv
  obtain ⟨rfl, hsz, hP, hK, hD0, hN⟩ := hv
  have hx := B.exec
  have hb := B.bytes
  have hr := B.returns
  have hts := atoms_spec (ws := ow_dm_X13_character) B.pre
  have hown : s.vm.findClass RX13 = some m.cls := findClass_of_methodNamed B.named
  have hlocks := B.notSynchronized
  subst hsz
  have hD := hD0.self (sz := s.heap.size)
  generalize hAe : va_A (dw_X13 a ac s0) s.heap.size = A at hD hN ⊢
  have hA : ∀ q : Nat, s.heap.size ≤ q → A q := fun q h => by rw [← hAe]; exact Or.inr h
  have hl := lv_entry ([.ref (a 0)]) (n := 2) (Nat.le_of_ble_eq_true rfl)
  rw [lg_entry_eq]
  generalize (lg_sl ([.ref (a 0)]) ++ List.replicate (2 - (lg_sl ([.ref (a 0)])).length) Slot.unset).toArray = ls at hl ⊢
  have hl : lv_has ls 2 [(0, .ref (a 0))] := hl
  exact db_X13_character_0 (dC := dC) (dI := dI) (a := a) (ac := ac) (n := n) (r := r) ⟨hlt, hx, hb, hml, hown, hts, hN, hA, hK⟩ (fun pc τ H locs ls d er hP hD hS => by subst er; exact W.vret hx hb hr (fun t ht hW => ⟨⟨(), rfl, trivial, by rw [ht]; exact hP, va_K.moved hW.alike hK, hD⟩, hS.F ht⟩) hS.2.2 d) s0 _ _ _ h hP hD va_S.rf (lv_sub hl [0] rfl)
def ow_dm_X13_worth : List Cond := Cond.code yX13_worth cX13_worth 1 (some .int) :: ([Cond.methodLink RX13 351 yX13_isDigit, Cond.static yX13_isDigit, Cond.initialized RX13] ++ (ow_dm_X13_isDigit ++ []))
theorem gd_dm_X13_worth : ∀ w ∈ ow_dm_X13_worth, (w.onTables && w.keeps) = true ∨ ∃ ty, w = Cond.arrayClass ty := List.forall_mem_cons.mpr ⟨good_of_word rfl, List.forall_mem_append.mpr ⟨fun w h => good_of_word (List.all_eq_true.mp (by decide +kernel) w h), List.forall_mem_append.mpr ⟨gd_dm_X13_isDigit, fun _ h => nomatch h⟩⟩⟩
theorem gi_dm_X13_worth_0 : GoodIn ow_dm_X13_worth (wsS RX13 351 yX13_isDigit ow_dm_X13_isDigit) := goodIn_app (goodIn_of _ (by decide +kernel)) (fun w h => ⟨List.mem_cons_of_mem _ (List.mem_append_right _ (List.mem_append_left _ h)), gd_dm_X13_isDigit w h⟩)
def dj_X13_worth_60 (p : Program) (l : Launch) (e : Env) (s : State) (m : MethodId) (args : Array Value) (below : List Frame) (meth : Method) (c : Code) (Q : State → Prop) (A : Nat → Prop) (dC : Nat → ClassId) (dI : Nat → Nat → Nat) (a : Nat → Nat) (ac : Nat → ClassId) (g : Int32 → (Unit) → Option (Int32 × (Unit))) (r : Int32 × (Unit)) : Prop := ∀ (y0 : Int32) (s0 : Unit) (H : Heap) (locs : List Loc) (ls : Array Slot), g y0 s0 = some r → va_P (dC, dI) vwCl (dw_P a ac s0) H → va_D A (dw_P a ac s0) → va_S A s.heap H locs → lv_has ls 1 [] → W p l e (headSpec ow_dm_X13_worth ({ frames := 1, cells := 0, slots := 0, locals := 20 })).room s m args below meth c H locs 0 0 Q (F0 m 60 ls [.int y0])
def dj_X13_worth_58 (p : Program) (l : Launch) (e : Env) (s : State) (m : MethodId) (args : Array Value) (below : List Frame) (meth : Method) (c : Code) (Q : State → Prop) (A : Nat → Prop) (dC : Nat → ClassId) (dI : Nat → Nat → Nat) (a : Nat → Nat) (ac : Nat → ClassId) (g : (Unit) → Option (Int32 × (Unit))) (r : Int32 × (Unit)) : Prop := ∀ (s0 : Unit) (H : Heap) (locs : List Loc) (ls : Array Slot), g s0 = some r → va_P (dC, dI) vwCl (dw_P a ac s0) H → va_D A (dw_P a ac s0) → va_S A s.heap H locs → lv_has ls 1 [] → W p l e (headSpec ow_dm_X13_worth ({ frames := 1, cells := 0, slots := 0, locals := 20 })).room s m args below meth c H locs 0 0 Q (F0 m 58 ls [])
def dj_X13_worth_36 (p : Program) (l : Launch) (e : Env) (s : State) (m : MethodId) (args : Array Value) (below : List Frame) (meth : Method) (c : Code) (Q : State → Prop) (A : Nat → Prop) (dC : Nat → ClassId) (dI : Nat → Nat → Nat) (a : Nat → Nat) (ac : Nat → ClassId) (g : Int32 → (Unit) → Option (Int32 × (Unit))) (r : Int32 × (Unit)) : Prop := ∀ (x0 : Int32) (s0 : Unit) (H : Heap) (locs : List Loc) (ls : Array Slot), g x0 s0 = some r → va_P (dC, dI) vwCl (dw_P a ac s0) H → va_D A (dw_P a ac s0) → va_S A s.heap H locs → lv_has ls 1 [(0, .int x0)] → W p l e (headSpec ow_dm_X13_worth ({ frames := 1, cells := 0, slots := 0, locals := 20 })).room s m args below meth c H locs 0 0 Q (F0 m 36 ls [])
def dj_X13_worth_0 (p : Program) (l : Launch) (e : Env) (s : State) (m : MethodId) (args : Array Value) (below : List Frame) (meth : Method) (c : Code) (Q : State → Prop) (A : Nat → Prop) (dC : Nat → ClassId) (dI : Nat → Nat → Nat) (a : Nat → Nat) (ac : Nat → ClassId) (g : Int32 → (Unit) → Option (Int32 × (Unit))) (r : Int32 × (Unit)) : Prop := ∀ (v0 : Int32) (s0 : Unit) (H : Heap) (locs : List Loc) (ls : Array Slot), g v0 s0 = some r → va_P (dC, dI) vwCl (dw_P a ac s0) H → va_D A (dw_P a ac s0) → va_S A s.heap H locs → lv_has ls 1 [(0, .int v0)] → W p l e (headSpec ow_dm_X13_worth ({ frames := 1, cells := 0, slots := 0, locals := 20 })).room s m args below meth c H locs 0 0 Q (F0 m 0 ls [])
set_option maxHeartbeats 40000000 in
set_option maxRecDepth 100000 in
theorem db_X13_worth_60 {p : Program} {l : Launch} {e : Env} {s : State} {m : MethodId} {args : Array Value} {below : List Frame} {meth : Method} {c : Code} {Q : State → Prop} {A : Nat → Prop} {dC : Nat → ClassId} {dI : Nat → Nat → Nat} {a : Nat → Nat} {ac : Nat → ClassId} {n : Nat} {r : Int32 × (Unit)} (C : nd_C p l s m args c A (dC, dI) cX13_worth 1 RX13 ow_dm_X13_worth (dk_P ac)) (K : nd_Ki p l e (headSpec ow_dm_X13_worth ({ frames := 1, cells := 0, slots := 0, locals := 20 })).room s m args below meth c Q A (dC, dI) cX13_worth .int (Unit) (dw_P a ac) r) : dj_X13_worth_60 p l e s m args below meth c Q A dC dI a ac (df_X13_worth_60 n) r := by
  obtain ⟨hlt, hx, hb, hml, hown, hts, hN, hA, hK⟩ := id C
  intro y0 s0 H locs ls h hP hD hS hl
  unfold df_X13_worth_60 at h
  exact K _ _ _ _ _ _ dX13_worth_60 rfl (Option.some.inj h).symm hP hD hS
set_option maxHeartbeats 40000000 in
set_option maxRecDepth 100000 in
theorem db_X13_worth_58 {p : Program} {l : Launch} {e : Env} {s : State} {m : MethodId} {args : Array Value} {below : List Frame} {meth : Method} {c : Code} {Q : State → Prop} {A : Nat → Prop} {dC : Nat → ClassId} {dI : Nat → Nat → Nat} {a : Nat → Nat} {ac : Nat → ClassId} {n : Nat} {r : Int32 × (Unit)} (C : nd_C p l s m args c A (dC, dI) cX13_worth 1 RX13 ow_dm_X13_worth (dk_P ac)) (K : nd_Ki p l e (headSpec ow_dm_X13_worth ({ frames := 1, cells := 0, slots := 0, locals := 20 })).room s m args below meth c Q A (dC, dI) cX13_worth .int (Unit) (dw_P a ac) r) : dj_X13_worth_58 p l e s m args below meth c Q A dC dI a ac (df_X13_worth_58 n) r := by
  obtain ⟨hlt, hx, hb, hml, hown, hts, hN, hA, hK⟩ := id C
  intro s0 H locs ls h hP hD hS hl
  unfold df_X13_worth_58 at h
  refine lv_bipush (v := 99) hx hb dX13_worth_58 (by decide) ?_
  exact (db_X13_worth_60 C K) (99) s0 _ _ _ h hP hD hS (lv_sub hl [] rfl)
set_option maxHeartbeats 40000000 in
set_option maxRecDepth 100000 in
theorem db_X13_worth_36 {p : Program} {l : Launch} {e : Env} {s : State} {m : MethodId} {args : Array Value} {below : List Frame} {meth : Method} {c : Code} {Q : State → Prop} {A : Nat → Prop} {dC : Nat → ClassId} {dI : Nat → Nat → Nat} {a : Nat → Nat} {ac : Nat → ClassId} {n : Nat} {r : Int32 × (Unit)} (C : nd_C p l s m args c A (dC, dI) cX13_worth 1 RX13 ow_dm_X13_worth (dk_P ac)) (K : nd_Ki p l e (headSpec ow_dm_X13_worth ({ frames := 1, cells := 0, slots := 0, locals := 20 })).room s m args below meth c Q A (dC, dI) cX13_worth .int (Unit) (dw_P a ac) r) : dj_X13_worth_36 p l e s m args below meth c Q A dC dI a ac (df_X13_worth_36 n) r := by
  obtain ⟨hlt, hx, hb, hml, hown, hts, hN, hA, hK⟩ := id C
  intro x0 s0 H locs ls h hP hD hS hl
  unfold df_X13_worth_36 at h
  refine lv_iload_n hx hb dX13_worth_36 rfl (lv_at hl 0 rfl) ?_
  refine lv_bipush (v := 65) hx hb dX13_worth_37 (by decide) ?_
  refine lv_icmp_lt (tgt := 58) hx hb dX13_worth_39 (by decide) (fun c6 => ?_) (fun c6 => ?_)
  · have h := nd_pos h c6
    exact (db_X13_worth_58 C K)  s0 _ _ _ h hP hD hS (lv_sub hl [] rfl)
  · have h := nd_neg h c6
    refine lv_iload_n hx hb dX13_worth_42 rfl (lv_at hl 0 rfl) ?_
    refine lv_bipush (v := 70) hx hb dX13_worth_43 (by decide) ?_
    refine lv_icmp_gt (tgt := 58) hx hb dX13_worth_45 (by decide) (fun c7 => ?_) (fun c7 => ?_)
    · have h := nd_pos h c7
      exact (db_X13_worth_58 C K)  s0 _ _ _ h hP hD hS (lv_sub hl [] rfl)
    · have h := nd_neg h c7
      refine lv_iload_n hx hb dX13_worth_48 rfl (lv_at hl 0 rfl) ?_
      refine lv_bipush (v := 65) hx hb dX13_worth_49 (by decide) ?_
      refine lv_isub hx hb dX13_worth_51 ?_
      refine lv_bipush (v := 10) hx hb dX13_worth_52 (by decide) ?_
      refine lv_iadd hx hb dX13_worth_54 ?_
      refine lv_goto (tgt := 60) hx hb dX13_worth_55 (by decide) ?_
      exact (db_X13_worth_60 C K) (((x0 - 65) + 10)) s0 _ _ _ h hP hD hS (lv_sub hl [] rfl)
set_option maxHeartbeats 40000000 in
set_option maxRecDepth 100000 in
theorem db_X13_worth_0 {p : Program} {l : Launch} {e : Env} {s : State} {m : MethodId} {args : Array Value} {below : List Frame} {meth : Method} {c : Code} {Q : State → Prop} {A : Nat → Prop} {dC : Nat → ClassId} {dI : Nat → Nat → Nat} {a : Nat → Nat} {ac : Nat → ClassId} {n : Nat} {r : Int32 × (Unit)} (C : nd_C p l s m args c A (dC, dI) cX13_worth 1 RX13 ow_dm_X13_worth (dk_P ac)) (K : nd_Ki p l e (headSpec ow_dm_X13_worth ({ frames := 1, cells := 0, slots := 0, locals := 20 })).room s m args below meth c Q A (dC, dI) cX13_worth .int (Unit) (dw_P a ac) r) : dj_X13_worth_0 p l e s m args below meth c Q A dC dI a ac (df_X13_worth_0 n) r := by
  obtain ⟨hlt, hx, hb, hml, hown, hts, hN, hA, hK⟩ := id C
  intro v0 s0 H locs ls h hP hD hS hl
  unfold df_X13_worth_0 at h
  refine lv_iload_n hx hb dX13_worth_0 rfl (lv_at hl 0 rfl) ?_
  obtain ⟨q1, s2, hq, h⟩ := nd_b2_e h
  have hPc : va_P (dC, dI) vwCl (dw_P a ac ()) H := nd_p0
  have hDc : va_D A (dw_P a ac ()) := nd_d0
  have hKc : va_K (dC, dI) vwCl (dk_P ac) s := nd_y0 hK
  have hFc : ∀ q, va_A (dw_P a ac ()) H.size q → A q := nd_r0 hS hA
  refine nd_cSi (As := [.int v0]) (rest := []) (q := q1) (w' := dw_P a ac s2) ⟨hx, hb, hml, hown, hts⟩ (fun sz => dm_X13_isDigit l hlt dC dI a ac n (v0) () hq sz) (cwS 1 hts gi_dm_X13_worth_0 rfl rfl rfl (by decide +kernel) ⟨Nat.le_of_ble_eq_true rfl, Nat.le_of_ble_eq_true rfl⟩) hPc hDc hKc hS hA hN rfl hl.1 rfl (Nat.le_of_ble_eq_true rfl) dX13_worth_1 (fun H locs hP1 hD1 hk1 hS => ?_)
  have hP := nd_n0 hP hk1
  refine lv_if_eq (tgt := 14) hx hb dX13_worth_4 (by decide) (fun c4 => ?_) (fun c4 => ?_)
  · have h := nd_pos h c4
    refine lv_iload_n hx hb dX13_worth_14 rfl (lv_at hl 0 rfl) ?_
    refine lv_bipush (v := 97) hx hb dX13_worth_15 (by decide) ?_
    refine lv_icmp_lt (tgt := 36) hx hb dX13_worth_17 (by decide) (fun c5 => ?_) (fun c5 => ?_)
    · have h := nd_pos h c5
      exact (db_X13_worth_36 C K) (v0) s0 _ _ _ h hP hD hS (lv_sub hl [0] rfl)
    · have h := nd_neg h c5
      refine lv_iload_n hx hb dX13_worth_20 rfl (lv_at hl 0 rfl) ?_
      refine lv_bipush (v := 102) hx hb dX13_worth_21 (by decide) ?_
      refine lv_icmp_gt (tgt := 36) hx hb dX13_worth_23 (by decide) (fun c8 => ?_) (fun c8 => ?_)
      · have h := nd_pos h c8
        exact (db_X13_worth_36 C K) (v0) s0 _ _ _ h hP hD hS (lv_sub hl [0] rfl)
      · have h := nd_neg h c8
        refine lv_iload_n hx hb dX13_worth_26 rfl (lv_at hl 0 rfl) ?_
        refine lv_bipush (v := 97) hx hb dX13_worth_27 (by decide) ?_
        refine lv_isub hx hb dX13_worth_29 ?_
        refine lv_bipush (v := 10) hx hb dX13_worth_30 (by decide) ?_
        refine lv_iadd hx hb dX13_worth_32 ?_
        refine lv_goto (tgt := 60) hx hb dX13_worth_33 (by decide) ?_
        exact (db_X13_worth_60 C K) (((v0 - 97) + 10)) s0 _ _ _ h hP hD hS (lv_sub hl [] rfl)
  · have h := nd_neg h c4
    refine lv_iload_n hx hb dX13_worth_7 rfl (lv_at hl 0 rfl) ?_
    refine lv_bipush (v := 48) hx hb dX13_worth_8 (by decide) ?_
    refine lv_isub hx hb dX13_worth_10 ?_
    refine lv_goto (tgt := 60) hx hb dX13_worth_11 (by decide) ?_
    exact (db_X13_worth_60 C K) ((v0 - 48)) s0 _ _ _ h hP hD hS (lv_sub hl [] rfl)
set_option maxHeartbeats 40000000 in
set_option maxRecDepth 100000 in
theorem dm_X13_worth (l : Launch) (hlt : l.stackTraces = false) (dC : Nat → ClassId) (dI : Nat → Nat → Nat) (a : Nat → Nat) (ac : Nat → ClassId) (n : Nat) (v0 : Int32) (s0 : Unit) {r : Int32 × (Unit)} (h : df_X13_worth n v0 s0 = some r) (sz : Nat) : Met l yX13_worth ow_dm_X13_worth ({ frames := 1, cells := 0, slots := 0, locals := 20 }) (va_Pc [.int v0] (fun U => U.heap.size = sz ∧ va_P (dC, dI) vwCl (dw_P a ac s0) U.heap ∧ va_K (dC, dI) vwCl (dk_P ac) U ∧ va_D (fun _ => True) (dw_P a ac s0) ∧ nv_E dI (va_A (dw_P a ac s0) sz) U)) (va_Qi (fun x _ => x = r.1) (fun (_ : Unit) t => va_P (dC, dI) vwCl (dw_P a ac r.2) t.heap ∧ va_K (dC, dI) vwCl (dk_P ac) t ∧ va_D (va_A (dw_P a ac s0) sz) (dw_P a ac r.2)) (va_A (dw_P a ac s0) sz)) 0 0 (va_A (dw_P a ac s0) sz) := by
  refine Met.ofW (cc := cX13_worth) (maxL := 1) (ret := (some .int)) (by decide) rfl ?_
  intro p e s m args below meth c s₁ B hml hv
  obtain ⟨rfl, hsz, hP, hK, hD0, hN⟩ := hv
  have hx := B.exec
  have hb := B.bytes
  have hr := B.returns
  have hts := atoms_spec (ws := ow_dm_X13_worth) B.pre
  have hown : s.vm.findClass RX13 = some m.cls := findClass_of_methodNamed B.named
  have hlocks := B.notSynchronized
  subst hsz
  have hD := hD0.self (sz := s.heap.size)
  generalize hAe : va_A (dw_P a ac s0) s.heap.size = A at hD hN ⊢
  have hA : ∀ q : Nat, s.heap.size ≤ q → A q := fun q h => by rw [← hAe]; exact Or.inr h
  have hl := lv_entry ([.int v0]) (n := 1) (Nat.le_of_ble_eq_true rfl)
  rw [lg_entry_eq]
  generalize (lg_sl ([.int v0]) ++ List.replicate (1 - (lg_sl ([.int v0])).length) Slot.unset).toArray = ls at hl ⊢
  have hl : lv_has ls 1 [(0, .int v0)] := hl
  exact db_X13_worth_0 (dC := dC) (dI := dI) (a := a) (ac := ac) (n := n) (r := r) ⟨hlt, hx, hb, hml, hown, hts, hN, hA, hK⟩ (fun pc v τ H locs ls d z er hP hD hS => by subst er; exact W.zret (v := v) hx hb hr z (fun t ht hW => ⟨⟨v, (), rfl, rfl, by rw [ht]; exact hP, va_K.moved hW.alike hK, hD⟩, hS.F ht⟩) hS.2.2 d) v0 s0 _ _ _ h hP hD va_S.rf (lv_sub hl [0] rfl)
def ow_dm_X13_numeral : List Cond := Cond.code yX13_numeral cX13_numeral 8 (some .long) :: ([Cond.constantLong RX13 392 (-1), Cond.fieldLink RX13 324 "TimeMachineModel$Assembler" "text" "[C", Cond.methodLink RX13 394 yX13_worth, Cond.static yX13_worth, Cond.initialized RX13, Cond.constantLong RX13 397 (4294967295)] ++ (u_ws RX13 TX13 37 ++ (ow_dm_X13_worth ++ [])))
theorem gd_dm_X13_numeral : ∀ w ∈ ow_dm_X13_numeral, (w.onTables && w.keeps) = true ∨ ∃ ty, w = Cond.arrayClass ty := List.forall_mem_cons.mpr ⟨good_of_word rfl, List.forall_mem_append.mpr ⟨fun w h => good_of_word (List.all_eq_true.mp (by decide +kernel) w h), List.forall_mem_append.mpr ⟨gu_X13, List.forall_mem_append.mpr ⟨gd_dm_X13_worth, fun _ h => nomatch h⟩⟩⟩⟩
theorem hi_dm_X13_numeral_X13 : ∀ w ∈ u_ws RX13 TX13 37, w ∈ ow_dm_X13_numeral := fun w h => List.mem_cons_of_mem _ (List.mem_append_right _ (List.mem_append_left _ h))
theorem gi_dm_X13_numeral_0 : GoodIn ow_dm_X13_numeral (wsS RX13 394 yX13_worth ow_dm_X13_worth) := goodIn_app (goodIn_of _ (by decide +kernel)) (fun w h => ⟨List.mem_cons_of_mem _ (List.mem_append_right _ (List.mem_append_right _ (List.mem_append_left _ h))), gd_dm_X13_worth w h⟩)
def dj_X13_numeral_90 (p : Program) (l : Launch) (e : Env) (s : State) (m : MethodId) (args : Array Value) (below : List Frame) (meth : Method) (c : Code) (Q : State → Prop) (A : Nat → Prop) (dC : Nat → ClassId) (dI : Nat → Nat → Nat) (a : Nat → Nat) (ac : Nat → ClassId) (g : Int64 → (St) → Option (Int64 × (St))) (r : Int64 × (St)) : Prop := ∀ (x4 : Int64) (s0 : St) (H : Heap) (locs : List Loc) (ls : Array Slot), g x4 s0 = some r → va_P (dC, dI) vwCl (dw_X13 a ac s0) H → va_D A (dw_X13 a ac s0) → va_S A s.heap H locs → lv_has ls 8 [(4, .long x4)] → W p l e (headSpec ow_dm_X13_numeral ({ frames := 2, cells := 0, slots := 0, locals := 40 })).room s m args below meth c H locs 0 0 Q (F0 m 90 ls [])
def dj_X13_numeral_82 (p : Program) (l : Launch) (e : Env) (s : State) (m : MethodId) (args : Array Value) (below : List Frame) (meth : Method) (c : Code) (Q : State → Prop) (A : Nat → Prop) (dC : Nat → ClassId) (dI : Nat → Nat → Nat) (a : Nat → Nat) (ac : Nat → ClassId) (g : Int32 → Int32 → Int32 → Int64 → (St) → Option (Int64 × (St))) (r : Int64 × (St)) : Prop := ∀ (x2 : Int32) (x3 : Int32) (x6 : Int32) (y0 : Int64) (s0 : St) (H : Heap) (locs : List Loc) (ls : Array Slot), g x2 x3 x6 y0 s0 = some r → va_P (dC, dI) vwCl (dw_X13 a ac s0) H → va_D A (dw_X13 a ac s0) → va_S A s.heap H locs → lv_has ls 8 [(0, .ref (a 0)), (2, .int x2), (3, .int x3), (6, .int x6)] → W p l e (headSpec ow_dm_X13_numeral ({ frames := 2, cells := 0, slots := 0, locals := 40 })).room s m args below meth c H locs 0 0 Q (F0 m 82 ls [.long y0])
def dj_X13_numeral_63 (p : Program) (l : Launch) (e : Env) (s : State) (m : MethodId) (args : Array Value) (below : List Frame) (meth : Method) (c : Code) (Q : State → Prop) (A : Nat → Prop) (dC : Nat → ClassId) (dI : Nat → Nat → Nat) (a : Nat → Nat) (ac : Nat → ClassId) (g : Int32 → Int32 → Int32 → Int64 → (St) → Option (Int64 × (St))) (r : Int64 × (St)) : Prop := ∀ (x2 : Int32) (x3 : Int32) (x6 : Int32) (y0 : Int64) (s0 : St) (H : Heap) (locs : List Loc) (ls : Array Slot), g x2 x3 x6 y0 s0 = some r → va_P (dC, dI) vwCl (dw_X13 a ac s0) H → va_D A (dw_X13 a ac s0) → va_S A s.heap H locs → lv_has ls 8 [(0, .ref (a 0)), (2, .int x2), (3, .int x3), (6, .int x6)] → W p l e (headSpec ow_dm_X13_numeral ({ frames := 2, cells := 0, slots := 0, locals := 40 })).room s m args below meth c H locs 0 0 Q (F0 m 63 ls [.long y0])
def dj_X13_numeral_17 (p : Program) (l : Launch) (e : Env) (s : State) (m : MethodId) (args : Array Value) (below : List Frame) (meth : Method) (c : Code) (Q : State → Prop) (A : Nat → Prop) (dC : Nat → ClassId) (dI : Nat → Nat → Nat) (a : Nat → Nat) (ac : Nat → ClassId) (g : Int32 → Int32 → Int64 → Int32 → (St) → Option (Int64 × (St))) (r : Int64 × (St)) : Prop := ∀ (x2 : Int32) (x3 : Int32) (x4 : Int64) (x6 : Int32) (s0 : St) (H : Heap) (locs : List Loc) (ls : Array Slot), g x2 x3 x4 x6 s0 = some r → va_P (dC, dI) vwCl (dw_X13 a ac s0) H → va_D A (dw_X13 a ac s0) → va_S A s.heap H locs → lv_has ls 8 [(0, .ref (a 0)), (2, .int x2), (3, .int x3), (4, .long x4), (6, .int x6)] → W p l e (headSpec ow_dm_X13_numeral ({ frames := 2, cells := 0, slots := 0, locals := 40 })).room s m args below meth c H locs 0 0 Q (F0 m 17 ls [])
def dj_X13_numeral_12 (p : Program) (l : Launch) (e : Env) (s : State) (m : MethodId) (args : Array Value) (below : List Frame) (meth : Method) (c : Code) (Q : State → Prop) (A : Nat → Prop) (dC : Nat → ClassId) (dI : Nat → Nat → Nat) (a : Nat → Nat) (ac : Nat → ClassId) (g : Int32 → Int32 → Int32 → Int64 → (St) → Option (Int64 × (St))) (r : Int64 × (St)) : Prop := ∀ (x1 : Int32) (x2 : Int32) (x3 : Int32) (y0 : Int64) (s0 : St) (H : Heap) (locs : List Loc) (ls : Array Slot), g x1 x2 x3 y0 s0 = some r → va_P (dC, dI) vwCl (dw_X13 a ac s0) H → va_D A (dw_X13 a ac s0) → va_S A s.heap H locs → lv_has ls 8 [(0, .ref (a 0)), (1, .int x1), (2, .int x2), (3, .int x3)] → W p l e (headSpec ow_dm_X13_numeral ({ frames := 2, cells := 0, slots := 0, locals := 40 })).room s m args below meth c H locs 0 0 Q (F0 m 12 ls [.long y0])
def dj_X13_numeral_0 (p : Program) (l : Launch) (e : Env) (s : State) (m : MethodId) (args : Array Value) (below : List Frame) (meth : Method) (c : Code) (Q : State → Prop) (A : Nat → Prop) (dC : Nat → ClassId) (dI : Nat → Nat → Nat) (a : Nat → Nat) (ac : Nat → ClassId) (g : Int32 → Int32 → Int32 → (St) → Option (Int64 × (St))) (r : Int64 × (St)) : Prop := ∀ (v0 : Int32) (v1 : Int32) (v2 : Int32) (s0 : St) (H : Heap) (locs : List Loc) (ls : Array Slot), g v0 v1 v2 s0 = some r → va_P (dC, dI) vwCl (dw_X13 a ac s0) H → va_D A (dw_X13 a ac s0) → va_S A s.heap H locs → lv_has ls 8 [(0, .ref (a 0)), (1, .int v0), (2, .int v1), (3, .int v2)] → W p l e (headSpec ow_dm_X13_numeral ({ frames := 2, cells := 0, slots := 0, locals := 40 })).room s m args below meth c H locs 0 0 Q (F0 m 0 ls [])
set_option maxHeartbeats 40000000 in
set_option maxRecDepth 100000 in
theorem db_X13_numeral_90 {p : Program} {l : Launch} {e : Env} {s : State} {m : MethodId} {args : Array Value} {below : List Frame} {meth : Method} {c : Code} {Q : State → Prop} {A : Nat → Prop} {dC : Nat → ClassId} {dI : Nat → Nat → Nat} {a : Nat → Nat} {ac : Nat → ClassId} {n : Nat} {r : Int64 × (St)} (C : nd_C p l s m args c A (dC, dI) cX13_numeral 8 RX13 ow_dm_X13_numeral (dk_X13 ac)) (K : nd_Kl p l e (headSpec ow_dm_X13_numeral ({ frames := 2, cells := 0, slots := 0, locals := 40 })).room s m args below meth c Q A (dC, dI) cX13_numeral (St) (dw_X13 a ac) r) : dj_X13_numeral_90 p l e s m args below meth c Q A dC dI a ac (df_X13_numeral_90 n) r := by
  obtain ⟨hlt, hx, hb, hml, hown, hts, hN, hA, hK⟩ := id C
  intro x4 s0 H locs ls h hP hD hS hl
  unfold df_X13_numeral_90 at h
  refine lv_lload hx hb dX13_numeral_90 (lv_at hl 0 rfl) ?_
  exact K _ _ _ _ _ _ dX13_numeral_92 (Option.some.inj h).symm hP hD hS
set_option maxHeartbeats 40000000 in
set_option maxRecDepth 100000 in
theorem db_X13_numeral_82 {p : Program} {l : Launch} {e : Env} {s : State} {m : MethodId} {args : Array Value} {below : List Frame} {meth : Method} {c : Code} {Q : State → Prop} {A : Nat → Prop} {dC : Nat → ClassId} {dI : Nat → Nat → Nat} {a : Nat → Nat} {ac : Nat → ClassId} {n : Nat} {r : Int64 × (St)} (C : nd_C p l s m args c A (dC, dI) cX13_numeral 8 RX13 ow_dm_X13_numeral (dk_X13 ac)) (K : nd_Kl p l e (headSpec ow_dm_X13_numeral ({ frames := 2, cells := 0, slots := 0, locals := 40 })).room s m args below meth c Q A (dC, dI) cX13_numeral (St) (dw_X13 a ac) r) {g17 : Int32 → Int32 → Int64 → Int32 → (St) → Option (Int64 × (St))} (J17 : dj_X13_numeral_17 p l e s m args below meth c Q A dC dI a ac g17 r) : dj_X13_numeral_82 p l e s m args below meth c Q A dC dI a ac (df_X13_numeral_82 n g17) r := by
  obtain ⟨hlt, hx, hb, hml, hown, hts, hN, hA, hK⟩ := id C
  intro x2 x3 x6 y0 s0 H locs ls h hP hD hS hl
  unfold df_X13_numeral_82 at h
  refine lv_lstore (lv' := [(4, .long y0), (0, .ref (a 0)), (2, .int x2), (3, .int x3), (6, .int x6)]) hx hb dX13_numeral_82 hl (by decide) rfl (fun ls hl => ?_)
  obtain ⟨z10, ez10, h⟩ := nd_let_e h
  refine lv_iinc (v := z10) (lv' := [(6, .int z10), (4, .long y0), (0, .ref (a 0)), (2, .int x2), (3, .int x3)]) hx hb dX13_numeral_84 hl (k := 4) rfl (by rw [ez10]) (by decide) rfl (fun ls hl => ?_)
  refine lv_goto (tgt := 17) hx hb dX13_numeral_87 (by decide) ?_
  exact (J17) (x2) (x3) (y0) (z10) s0 _ _ _ h hP hD hS (lv_sub hl [2, 3, 4, 1, 0] rfl)
set_option maxHeartbeats 40000000 in
set_option maxRecDepth 100000 in
theorem db_X13_numeral_63 {p : Program} {l : Launch} {e : Env} {s : State} {m : MethodId} {args : Array Value} {below : List Frame} {meth : Method} {c : Code} {Q : State → Prop} {A : Nat → Prop} {dC : Nat → ClassId} {dI : Nat → Nat → Nat} {a : Nat → Nat} {ac : Nat → ClassId} {n : Nat} {r : Int64 × (St)} (C : nd_C p l s m args c A (dC, dI) cX13_numeral 8 RX13 ow_dm_X13_numeral (dk_X13 ac)) (K : nd_Kl p l e (headSpec ow_dm_X13_numeral ({ frames := 2, cells := 0, slots := 0, locals := 40 })).room s m args below meth c Q A (dC, dI) cX13_numeral (St) (dw_X13 a ac) r) {g17 : Int32 → Int32 → Int64 → Int32 → (St) → Option (Int64 × (St))} (J17 : dj_X13_numeral_17 p l e s m args below meth c Q A dC dI a ac g17 r) : dj_X13_numeral_63 p l e s m args below meth c Q A dC dI a ac (df_X13_numeral_63 n g17) r := by
  obtain ⟨hlt, hx, hb, hml, hown, hts, hN, hA, hK⟩ := id C
  intro x2 x3 x6 y0 s0 H locs ls h hP hD hS hl
  unfold df_X13_numeral_63 at h
  refine lv_lstore (lv' := [(4, .long y0), (0, .ref (a 0)), (2, .int x2), (3, .int x3), (6, .int x6)]) hx hb dX13_numeral_63 hl (by decide) rfl (fun ls hl => ?_)
  refine lv_lload hx hb dX13_numeral_65 (lv_at hl 0 rfl) ?_
  refine lv_ldc2 hx hb hown (hts (.constantLong RX13 397 (4294967295)) (List.mem_of_getElem? (i := 6) rfl)) dX13_numeral_67 ?_
  refine W.lcmp hx hb dX13_numeral_70 ?_
  refine lv_if_le (tgt := 80) hx hb dX13_numeral_71 (by decide) (fun c9 => ?_) (fun c9 => ?_)
  · have h := nd_pos h c9
    refine lv_lload hx hb dX13_numeral_80 (lv_at hl 0 rfl) ?_
    exact (db_X13_numeral_82 C K J17) (x2) (x3) (x6) (y0) s0 _ _ _ h hP hD hS (lv_sub hl [1, 2, 3, 4] rfl)
  · have h := nd_neg h c9
    refine lv_ldc2 hx hb hown (hts (.constantLong RX13 392 (-1)) (List.mem_of_getElem? (i := 1) rfl)) dX13_numeral_74 ?_
    refine lv_goto (tgt := 82) hx hb dX13_numeral_77 (by decide) ?_
    exact (db_X13_numeral_82 C K J17) (x2) (x3) (x6) ((-1)) s0 _ _ _ h hP hD hS (lv_sub hl [1, 2, 3, 4] rfl)
set_option maxHeartbeats 40000000 in
set_option maxRecDepth 100000 in
theorem dB_X13_numeral_17 {p : Program} {l : Launch} {e : Env} {s : State} {m : MethodId} {args : Array Value} {below : List Frame} {meth : Method} {c : Code} {Q : State → Prop} {A : Nat → Prop} {dC : Nat → ClassId} {dI : Nat → Nat → Nat} {a : Nat → Nat} {ac : Nat → ClassId} {n : Nat} {r : Int64 × (St)} (C : nd_C p l s m args c A (dC, dI) cX13_numeral 8 RX13 ow_dm_X13_numeral (dk_X13 ac)) (K : nd_Kl p l e (headSpec ow_dm_X13_numeral ({ frames := 2, cells := 0, slots := 0, locals := 40 })).room s m args below meth c Q A (dC, dI) cX13_numeral (St) (dw_X13 a ac) r) {g17 : Int32 → Int32 → Int64 → Int32 → (St) → Option (Int64 × (St))} (J17 : dj_X13_numeral_17 p l e s m args below meth c Q A dC dI a ac g17 r) : dj_X13_numeral_17 p l e s m args below meth c Q A dC dI a ac (dF_X13_numeral_17 n g17) r := by
  obtain ⟨hlt, hx, hb, hml, hown, hts, hN, hA, hK⟩ := id C
  intro x2 x3 x4 x6 s0 H locs ls h hP hD hS hl
  unfold dF_X13_numeral_17 at h
  refine lv_iload hx hb dX13_numeral_17 (lv_at hl 4 rfl) ?_
  refine lv_iload_n hx hb dX13_numeral_19 rfl (lv_at hl 1 rfl) ?_
  refine lv_icmp_ge (tgt := 90) hx hb dX13_numeral_20 (by decide) (fun c2 => ?_) (fun c2 => ?_)
  · have h := nd_pos h c2
    exact (db_X13_numeral_90 C K) (x4) s0 _ _ _ h hP hD hS (lv_sub hl [3] rfl)
  · have h := nd_neg h c2
    refine lv_lload hx hb dX13_numeral_23 (lv_at hl 3 rfl) ?_
    refine lv_lconst (v := 0) hx hb dX13_numeral_25 (by decide) ?_
    refine W.lcmp hx hb dX13_numeral_26 ?_
    refine lv_if_lt (tgt := 90) hx hb dX13_numeral_27 (by decide) (fun c3 => ?_) (fun c3 => ?_)
    · have h := nd_pos h c3
      exact (db_X13_numeral_90 C K) (x4) s0 _ _ _ h hP hD hS (lv_sub hl [3] rfl)
    · have h := nd_neg h c3
      refine lv_aload_n hx hb dX13_numeral_30 rfl (lv_at hl 0 rfl) ?_
      refine va_get (D := (dC, dI)) (ci := 14) (v := .ref (a 4)) (C := RX13) (T := TX13) (N := 37) hx hb hts hi_dm_X13_numeral_X13 hown hK hP 0 rfl rfl 3 (by decide) (hts (.fieldLink RX13 324 "TimeMachineModel$Assembler" "text" "[C") (List.mem_of_getElem? (i := 2) rfl)) (fun _ h9 => h9) rfl dX13_numeral_31 ?_
      refine lv_iload hx hb dX13_numeral_34 (lv_at hl 4 rfl) ?_
      obtain ⟨i4, h⟩ := nd_ck_e h
      refine va_cald (i := x6) hx hb hK hP 4 3 rfl rfl i4 dX13_numeral_36 ?_
      obtain ⟨q5, s6, hq, h⟩ := nd_b2_e h
      have hPc : va_P (dC, dI) vwCl (dw_P a ac ()) H := nd_p0
      have hDc : va_D A (dw_P a ac ()) := nd_d0
      have hKc : va_K (dC, dI) vwCl (dk_P ac) s := nd_y0 hK
      have hFc : ∀ q, va_A (dw_P a ac ()) H.size q → A q := nd_r0 hS hA
      refine nd_cSi (As := [.int (sR s0 2 (Int32.toNatClampNeg x6))]) (rest := []) (q := q5) (w' := dw_P a ac s6) ⟨hx, hb, hml, hown, hts⟩ (fun sz => dm_X13_worth l hlt dC dI a ac n ((sR s0 2 (Int32.toNatClampNeg x6))) () hq sz) (cwS 1 hts gi_dm_X13_numeral_0 rfl rfl rfl (by decide +kernel) ⟨Nat.le_of_ble_eq_true rfl, Nat.le_of_ble_eq_true rfl⟩) hPc hDc hKc hS hA hN rfl hl.1 rfl (Nat.le_of_ble_eq_true rfl) dX13_numeral_37 (fun H locs hP1 hD1 hk1 hS => ?_)
      have hP := nd_n0 hP hk1
      refine lv_istore (lv' := [(7, .int q5), (0, .ref (a 0)), (2, .int x2), (3, .int x3), (4, .long x4), (6, .int x6)]) hx hb dX13_numeral_40 hl (by decide) rfl (fun ls hl => ?_)
      refine lv_iload hx hb dX13_numeral_42 (lv_at hl 0 rfl) ?_
      refine lv_iload_n hx hb dX13_numeral_44 rfl (lv_at hl 3 rfl) ?_
      refine lv_icmp_ge (tgt := 60) hx hb dX13_numeral_45 (by decide) (fun c8 => ?_) (fun c8 => ?_)
      · have h := nd_pos h c8
        refine lv_ldc2 hx hb hown (hts (.constantLong RX13 392 (-1)) (List.mem_of_getElem? (i := 1) rfl)) dX13_numeral_60 ?_
        exact (db_X13_numeral_63 C K J17) (x2) (x3) (x6) ((-1)) s0 _ _ _ h hP hD hS (lv_sub hl [1, 2, 3, 5] rfl)
      · have h := nd_neg h c8
        refine lv_lload hx hb dX13_numeral_48 (lv_at hl 4 rfl) ?_
        refine lv_iload_n hx hb dX13_numeral_50 rfl (lv_at hl 3 rfl) ?_
        refine lv_i2l hx hb dX13_numeral_51 rfl ?_
        refine lv_lmul hx hb dX13_numeral_52 ?_
        refine lv_iload hx hb dX13_numeral_53 (lv_at hl 0 rfl) ?_
        refine lv_i2l hx hb dX13_numeral_55 rfl ?_
        refine lv_ladd hx hb dX13_numeral_56 ?_
        refine lv_goto (tgt := 63) hx hb dX13_numeral_57 (by decide) ?_
        exact (db_X13_numeral_63 C K J17) (x2) (x3) (x6) (((((x4 : Int64) * (x3.toInt64)) : Int64) + (q5.toInt64))) s0 _ _ _ h hP hD hS (lv_sub hl [1, 2, 3, 5] rfl)
set_option maxHeartbeats 40000000 in
set_option maxRecDepth 100000 in
theorem db_X13_numeral_17 {p : Program} {l : Launch} {e : Env} {s : State} {m : MethodId} {args : Array Value} {below : List Frame} {meth : Method} {c : Code} {Q : State → Prop} {A : Nat → Prop} {dC : Nat → ClassId} {dI : Nat → Nat → Nat} {a : Nat → Nat} {ac : Nat → ClassId} {n : Nat} {r : Int64 × (St)} (C : nd_C p l s m args c A (dC, dI) cX13_numeral 8 RX13 ow_dm_X13_numeral (dk_X13 ac)) (K : nd_Kl p l e (headSpec ow_dm_X13_numeral ({ frames := 2, cells := 0, slots := 0, locals := 40 })).room s m args below meth c Q A (dC, dI) cX13_numeral (St) (dw_X13 a ac) r) (k : Nat) : dj_X13_numeral_17 p l e s m args below meth c Q A dC dI a ac (df_X13_numeral_17 n k) r := by
  induction k with
  | zero => intro x2 x3 x4 x6 s0 H locs ls h; exact nomatch (show (none : Option (Int64 × (St))) = some r from h)
  | succ k ih => exact dB_X13_numeral_17 C K ih
set_option maxHeartbeats 40000000 in
set_option maxRecDepth 100000 in
theorem db_X13_numeral_12 {p : Program} {l : Launch} {e : Env} {s : State} {m : MethodId} {args : Array Value} {below : List Frame} {meth : Method} {c : Code} {Q : State → Prop} {A : Nat → Prop} {dC : Nat → ClassId} {dI : Nat → Nat → Nat} {a : Nat → Nat} {ac : Nat → ClassId} {n : Nat} {r : Int64 × (St)} (C : nd_C p l s m args c A (dC, dI) cX13_numeral 8 RX13 ow_dm_X13_numeral (dk_X13 ac)) (K : nd_Kl p l e (headSpec ow_dm_X13_numeral ({ frames := 2, cells := 0, slots := 0, locals := 40 })).room s m args below meth c Q A (dC, dI) cX13_numeral (St) (dw_X13 a ac) r) : dj_X13_numeral_12 p l e s m args below meth c Q A dC dI a ac (df_X13_numeral_12 n) r := by
  obtain ⟨hlt, hx, hb, hml, hown, hts, hN, hA, hK⟩ := id C
  intro x1 x2 x3 y0 s0 H locs ls h hP hD hS hl
  unfold df_X13_numeral_12 at h
  refine lv_lstore (lv' := [(4, .long y0), (0, .ref (a 0)), (1, .int x1), (2, .int x2), (3, .int x3)]) hx hb dX13_numeral_12 hl (by decide) rfl (fun ls hl => ?_)
  refine lv_iload_n hx hb dX13_numeral_14 rfl (lv_at hl 2 rfl) ?_
  refine lv_istore (lv' := [(6, .int x1), (4, .long y0), (0, .ref (a 0)), (1, .int x1), (2, .int x2), (3, .int x3)]) hx hb dX13_numeral_15 hl (by decide) rfl (fun ls hl => ?_)
  exact (db_X13_numeral_17 C K n) (x2) (x3) (y0) (x1) s0 _ _ _ h hP hD hS (lv_sub hl [2, 4, 5, 1, 0] rfl)
set_option maxHeartbeats 40000000 in
set_option maxRecDepth 100000 in
theorem db_X13_numeral_0 {p : Program} {l : Launch} {e : Env} {s : State} {m : MethodId} {args : Array Value} {below : List Frame} {meth : Method} {c : Code} {Q : State → Prop} {A : Nat → Prop} {dC : Nat → ClassId} {dI : Nat → Nat → Nat} {a : Nat → Nat} {ac : Nat → ClassId} {n : Nat} {r : Int64 × (St)} (C : nd_C p l s m args c A (dC, dI) cX13_numeral 8 RX13 ow_dm_X13_numeral (dk_X13 ac)) (K : nd_Kl p l e (headSpec ow_dm_X13_numeral ({ frames := 2, cells := 0, slots := 0, locals := 40 })).room s m args below meth c Q A (dC, dI) cX13_numeral (St) (dw_X13 a ac) r) : dj_X13_numeral_0 p l e s m args below meth c Q A dC dI a ac (df_X13_numeral_0 n) r := by
  obtain ⟨hlt, hx, hb, hml, hown, hts, hN, hA, hK⟩ := id C
  intro v0 v1 v2 s0 H locs ls h hP hD hS hl
  unfold df_X13_numeral_0 at h
  refine lv_iload_n hx hb dX13_numeral_0 rfl (lv_at hl 1 rfl) ?_
  refine lv_iload_n hx hb dX13_numeral_1 rfl (lv_at hl 2 rfl) ?_
  refine lv_icmp_ge (tgt := 9) hx hb dX13_numeral_2 (by decide) (fun c1 => ?_) (fun c1 => ?_)
  · have h := nd_pos h c1
    refine lv_ldc2 hx hb hown (hts (.constantLong RX13 392 (-1)) (List.mem_of_getElem? (i := 1) rfl)) dX13_numeral_9 ?_
    exact (db_X13_numeral_12 C K) (v0) (v1) (v2) ((-1)) s0 _ _ _ h hP hD hS (lv_sub hl [0, 1, 2, 3] rfl)
  · have h := nd_neg h c1
    refine lv_lconst (v := 0) hx hb dX13_numeral_5 (by decide) ?_
    refine lv_goto (tgt := 12) hx hb dX13_numeral_6 (by decide) ?_
    exact (db_X13_numeral_12 C K) (v0) (v1) (v2) (0) s0 _ _ _ h hP hD hS (lv_sub hl [0, 1, 2, 3] rfl)
set_option maxHeartbeats 40000000 in
set_option maxRecDepth 100000 in
theorem dm_X13_numeral (l : Launch) (hlt : l.stackTraces = false) (dC : Nat → ClassId) (dI : Nat → Nat → Nat) (a : Nat → Nat) (ac : Nat → ClassId) (n : Nat) (v0 : Int32) (v1 : Int32) (v2 : Int32) (s0 : St) {r : Int64 × (St)} (h : df_X13_numeral n v0 v1 v2 s0 = some r) (sz : Nat) : Met l yX13_numeral ow_dm_X13_numeral ({ frames := 2, cells := 0, slots := 0, locals := 40 }) (va_Pc [.ref (a 0), .int v0, .int v1, .int v2] (fun U => U.heap.size = sz ∧ va_P (dC, dI) vwCl (dw_X13 a ac s0) U.heap ∧ va_K (dC, dI) vwCl (dk_X13 ac) U ∧ va_D (fun _ => True) (dw_X13 a ac s0) ∧ nv_E dI (va_A (dw_X13 a ac s0) sz) U)) (va_Ql (fun x _ => x = r.1) (fun (_ : Unit) t => va_P (dC, dI) vwCl (dw_X13 a ac r.2) t.heap ∧ va_K (dC, dI) vwCl (dk_X13 ac) t ∧ va_D (va_A (dw_X13 a ac s0) sz) (dw_X13 a ac r.2)) (va_A (dw_X13 a ac s0) sz)) 0 0 (va_A (dw_X13 a ac s0) sz) := by
  refine Met.ofW (cc := cX13_numeral) (maxL := 8) (ret := (some .long)) (by decide) rfl ?_
  intro p e s m args below meth c s₁ B hml hv
  obtain ⟨rfl, hsz, hP, hK, hD0, hN⟩ := hv
  have hx := B.exec
  have hb := B.bytes
  have hr := B.returns
  have hts := atoms_spec (ws := ow_dm_X13_numeral) B.pre
  have hown : s.vm.findClass RX13 = some m.cls := findClass_of_methodNamed B.named
  have hlocks := B.notSynchronized
  subst hsz
  have hD := hD0.self (sz := s.heap.size)
  generalize hAe : va_A (dw_X13 a ac s0) s.heap.size = A at hD hN ⊢
  have hA : ∀ q : Nat, s.heap.size ≤ q → A q := fun q h => by rw [← hAe]; exact Or.inr h
  have hl := lv_entry ([.ref (a 0), .int v0, .int v1, .int v2]) (n := 8) (Nat.le_of_ble_eq_true rfl)
  rw [lg_entry_eq]
  generalize (lg_sl ([.ref (a 0), .int v0, .int v1, .int v2]) ++ List.replicate (8 - (lg_sl ([.ref (a 0), .int v0, .int v1, .int v2])).length) Slot.unset).toArray = ls at hl ⊢
  have hl : lv_has ls 8 [(0, .ref (a 0)), (1, .int v0), (2, .int v1), (3, .int v2)] := hl
  exact db_X13_numeral_0 (dC := dC) (dI := dI) (a := a) (ac := ac) (n := n) (r := r) ⟨hlt, hx, hb, hml, hown, hts, hN, hA, hK⟩ (fun pc v τ H locs ls d er hP hD hS => by subst er; exact W.lret (v := v) hx hb hr (fun t ht hW => ⟨⟨v, (), rfl, rfl, by rw [ht]; exact hP, va_K.moved hW.alike hK, hD⟩, hS.F ht⟩) hS.2.2 d) v0 v1 v2 s0 _ _ _ h hP hD va_S.rf (lv_sub hl [0, 1, 2, 3] rfl)
def ow_dm_X13_digits : List Cond := Cond.code yX13_digits cX13_digits 6 none :: ([Cond.fieldLink RX13 371 "TimeMachineModel$Assembler" "to" "I", Cond.fieldLink RX13 368 "TimeMachineModel$Assembler" "from" "I", Cond.fieldLink RX13 324 "TimeMachineModel$Assembler" "text" "[C", Cond.methodLink RX13 402 yX13_numeral, Cond.instanceMethod yX13_numeral, Cond.selects RX13 yX13_numeral yX13_numeral, Cond.initialized RX13, Cond.fieldLink RX13 365 "TimeMachineModel$Assembler" "token" "I", Cond.fieldLink RX13 399 "TimeMachineModel$Assembler" "number" "I", Cond.methodLink RX13 383 yX13_bad, Cond.instanceMethod yX13_bad, Cond.selects RX13 yX13_bad yX13_bad] ++ (u_ws RX13 TX13 37 ++ (ow_dm_X13_numeral ++ (ow_dm_X13_bad ++ []))))
theorem gd_dm_X13_digits : ∀ w ∈ ow_dm_X13_digits, (w.onTables && w.keeps) = true ∨ ∃ ty, w = Cond.arrayClass ty := List.forall_mem_cons.mpr ⟨good_of_word rfl, List.forall_mem_append.mpr ⟨fun w h => good_of_word (List.all_eq_true.mp (by decide +kernel) w h), List.forall_mem_append.mpr ⟨gu_X13, List.forall_mem_append.mpr ⟨gd_dm_X13_numeral, List.forall_mem_append.mpr ⟨gd_dm_X13_bad, fun _ h => nomatch h⟩⟩⟩⟩⟩
theorem hi_dm_X13_digits_X13 : ∀ w ∈ u_ws RX13 TX13 37, w ∈ ow_dm_X13_digits := fun w h => List.mem_cons_of_mem _ (List.mem_append_right _ (List.mem_append_left _ h))
theorem gi_dm_X13_digits_0 : GoodIn ow_dm_X13_digits (wsV RX13 402 RX13 yX13_numeral ow_dm_X13_numeral) := goodIn_app (goodIn_of _ (by decide +kernel)) (fun w h => ⟨List.mem_cons_of_mem _ (List.mem_append_right _ (List.mem_append_right _ (List.mem_append_left _ h))), gd_dm_X13_numeral w h⟩)
theorem gi_dm_X13_digits_1 : GoodIn ow_dm_X13_digits (wsV RX13 383 RX13 yX13_bad ow_dm_X13_bad) := goodIn_app (goodIn_of _ (by decide +kernel)) (fun w h => ⟨List.mem_cons_of_mem _ (List.mem_append_right _ (List.mem_append_right _ (List.mem_append_right _ (List.mem_append_left _ h)))), gd_dm_X13_bad w h⟩)
def dj_X13_digits_202 (p : Program) (l : Launch) (e : Env) (s : State) (m : MethodId) (args : Array Value) (below : List Frame) (meth : Method) (c : Code) (Q : State → Prop) (A : Nat → Prop) (dC : Nat → ClassId) (dI : Nat → Nat → Nat) (a : Nat → Nat) (ac : Nat → ClassId) (g : (St) → Option (St)) (r : St) : Prop := ∀ (s0 : St) (H : Heap) (locs : List Loc) (ls : Array Slot), g s0 = some r → va_P (dC, dI) vwCl (dw_X13 a ac s0) H → va_D A (dw_X13 a ac s0) → va_S A s.heap H locs → lv_has ls 6 [] → W p l e (headSpec ow_dm_X13_digits ({ frames := 3, cells := 0, slots := 0, locals := 67 })).room s m args below meth c H locs 0 0 Q (F0 m 202 ls [])
def dj_X13_digits_177 (p : Program) (l : Launch) (e : Env) (s : State) (m : MethodId) (args : Array Value) (below : List Frame) (meth : Method) (c : Code) (Q : State → Prop) (A : Nat → Prop) (dC : Nat → ClassId) (dI : Nat → Nat → Nat) (a : Nat → Nat) (ac : Nat → ClassId) (g : Int64 → (St) → Option (St)) (r : St) : Prop := ∀ (y0 : Int64) (s0 : St) (H : Heap) (locs : List Loc) (ls : Array Slot), g y0 s0 = some r → va_P (dC, dI) vwCl (dw_X13 a ac s0) H → va_D A (dw_X13 a ac s0) → va_S A s.heap H locs → lv_has ls 6 [(0, .ref (a 0))] → W p l e (headSpec ow_dm_X13_digits ({ frames := 3, cells := 0, slots := 0, locals := 67 })).room s m args below meth c H locs 0 0 Q (F0 m 177 ls [.long y0])
def dj_X13_digits_163 (p : Program) (l : Launch) (e : Env) (s : State) (m : MethodId) (args : Array Value) (below : List Frame) (meth : Method) (c : Code) (Q : State → Prop) (A : Nat → Prop) (dC : Nat → ClassId) (dI : Nat → Nat → Nat) (a : Nat → Nat) (ac : Nat → ClassId) (g : (St) → Option (St)) (r : St) : Prop := ∀ (s0 : St) (H : Heap) (locs : List Loc) (ls : Array Slot), g s0 = some r → va_P (dC, dI) vwCl (dw_X13 a ac s0) H → va_D A (dw_X13 a ac s0) → va_S A s.heap H locs → lv_has ls 6 [(0, .ref (a 0))] → W p l e (headSpec ow_dm_X13_digits ({ frames := 3, cells := 0, slots := 0, locals := 67 })).room s m args below meth c H locs 0 0 Q (F0 m 163 ls [])
def dj_X13_digits_135 (p : Program) (l : Launch) (e : Env) (s : State) (m : MethodId) (args : Array Value) (below : List Frame) (meth : Method) (c : Code) (Q : State → Prop) (A : Nat → Prop) (dC : Nat → ClassId) (dI : Nat → Nat → Nat) (a : Nat → Nat) (ac : Nat → ClassId) (g : Int32 → Int32 → (St) → Option (St)) (r : St) : Prop := ∀ (x1 : Int32) (x3 : Int32) (s0 : St) (H : Heap) (locs : List Loc) (ls : Array Slot), g x1 x3 s0 = some r → va_P (dC, dI) vwCl (dw_X13 a ac s0) H → va_D A (dw_X13 a ac s0) → va_S A s.heap H locs → lv_has ls 6 [(0, .ref (a 0)), (1, .int x1), (3, .int x3)] → W p l e (headSpec ow_dm_X13_digits ({ frames := 3, cells := 0, slots := 0, locals := 67 })).room s m args below meth c H locs 0 0 Q (F0 m 135 ls [])
def dj_X13_digits_105 (p : Program) (l : Launch) (e : Env) (s : State) (m : MethodId) (args : Array Value) (below : List Frame) (meth : Method) (c : Code) (Q : State → Prop) (A : Nat → Prop) (dC : Nat → ClassId) (dI : Nat → Nat → Nat) (a : Nat → Nat) (ac : Nat → ClassId) (g : Int32 → Int32 → (St) → Option (St)) (r : St) : Prop := ∀ (x1 : Int32) (y0 : Int32) (s0 : St) (H : Heap) (locs : List Loc) (ls : Array Slot), g x1 y0 s0 = some r → va_P (dC, dI) vwCl (dw_X13 a ac s0) H → va_D A (dw_X13 a ac s0) → va_S A s.heap H locs → lv_has ls 6 [(0, .ref (a 0)), (1, .int x1)] → W p l e (headSpec ow_dm_X13_digits ({ frames := 3, cells := 0, slots := 0, locals := 67 })).room s m args below meth c H locs 0 0 Q (F0 m 105 ls [.int y0])
def dj_X13_digits_59 (p : Program) (l : Launch) (e : Env) (s : State) (m : MethodId) (args : Array Value) (below : List Frame) (meth : Method) (c : Code) (Q : State → Prop) (A : Nat → Prop) (dC : Nat → ClassId) (dI : Nat → Nat → Nat) (a : Nat → Nat) (ac : Nat → ClassId) (g : Int32 → Int32 → (St) → Option (St)) (r : St) : Prop := ∀ (x1 : Int32) (y0 : Int32) (s0 : St) (H : Heap) (locs : List Loc) (ls : Array Slot), g x1 y0 s0 = some r → va_P (dC, dI) vwCl (dw_X13 a ac s0) H → va_D A (dw_X13 a ac s0) → va_S A s.heap H locs → lv_has ls 6 [(0, .ref (a 0)), (1, .int x1)] → W p l e (headSpec ow_dm_X13_digits ({ frames := 3, cells := 0, slots := 0, locals := 67 })).room s m args below meth c H locs 0 0 Q (F0 m 59 ls [.int y0])
def dj_X13_digits_58 (p : Program) (l : Launch) (e : Env) (s : State) (m : MethodId) (args : Array Value) (below : List Frame) (meth : Method) (c : Code) (Q : State → Prop) (A : Nat → Prop) (dC : Nat → ClassId) (dI : Nat → Nat → Nat) (a : Nat → Nat) (ac : Nat → ClassId) (g : Int32 → (St) → Option (St)) (r : St) : Prop := ∀ (x1 : Int32) (s0 : St) (H : Heap) (locs : List Loc) (ls : Array Slot), g x1 s0 = some r → va_P (dC, dI) vwCl (dw_X13 a ac s0) H → va_D A (dw_X13 a ac s0) → va_S A s.heap H locs → lv_has ls 6 [(0, .ref (a 0)), (1, .int x1)] → W p l e (headSpec ow_dm_X13_digits ({ frames := 3, cells := 0, slots := 0, locals := 67 })).room s m args below meth c H locs 0 0 Q (F0 m 58 ls [])
def dj_X13_digits_54 (p : Program) (l : Launch) (e : Env) (s : State) (m : MethodId) (args : Array Value) (below : List Frame) (meth : Method) (c : Code) (Q : State → Prop) (A : Nat → Prop) (dC : Nat → ClassId) (dI : Nat → Nat → Nat) (a : Nat → Nat) (ac : Nat → ClassId) (g : Int32 → (St) → Option (St)) (r : St) : Prop := ∀ (x1 : Int32) (s0 : St) (H : Heap) (locs : List Loc) (ls : Array Slot), g x1 s0 = some r → va_P (dC, dI) vwCl (dw_X13 a ac s0) H → va_D A (dw_X13 a ac s0) → va_S A s.heap H locs → lv_has ls 6 [(0, .ref (a 0)), (1, .int x1)] → W p l e (headSpec ow_dm_X13_digits ({ frames := 3, cells := 0, slots := 0, locals := 67 })).room s m args below meth c H locs 0 0 Q (F0 m 54 ls [])
def dj_X13_digits_28 (p : Program) (l : Launch) (e : Env) (s : State) (m : MethodId) (args : Array Value) (below : List Frame) (meth : Method) (c : Code) (Q : State → Prop) (A : Nat → Prop) (dC : Nat → ClassId) (dI : Nat → Nat → Nat) (a : Nat → Nat) (ac : Nat → ClassId) (g : Int32 → (St) → Option (St)) (r : St) : Prop := ∀ (y0 : Int32) (s0 : St) (H : Heap) (locs : List Loc) (ls : Array Slot), g y0 s0 = some r → va_P (dC, dI) vwCl (dw_X13 a ac s0) H → va_D A (dw_X13 a ac s0) → va_S A s.heap H locs → lv_has ls 6 [(0, .ref (a 0))] → W p l e (headSpec ow_dm_X13_digits ({ frames := 3, cells := 0, slots := 0, locals := 67 })).room s m args below meth c H locs 0 0 Q (F0 m 28 ls [.int y0])
def dj_X13_digits_0 (p : Program) (l : Launch) (e : Env) (s : State) (m : MethodId) (args : Array Value) (below : List Frame) (meth : Method) (c : Code) (Q : State → Prop) (A : Nat → Prop) (dC : Nat → ClassId) (dI : Nat → Nat → Nat) (a : Nat → Nat) (ac : Nat → ClassId) (g : (St) → Option (St)) (r : St) : Prop := ∀ (s0 : St) (H : Heap) (locs : List Loc) (ls : Array Slot), g s0 = some r → va_P (dC, dI) vwCl (dw_X13 a ac s0) H → va_D A (dw_X13 a ac s0) → va_S A s.heap H locs → lv_has ls 6 [(0, .ref (a 0))] → W p l e (headSpec ow_dm_X13_digits ({ frames := 3, cells := 0, slots := 0, locals := 67 })).room s m args below meth c H locs 0 0 Q (F0 m 0 ls [])
set_option maxHeartbeats 40000000 in
set_option maxRecDepth 100000 in
theorem db_X13_digits_202 {p : Program} {l : Launch} {e : Env} {s : State} {m : MethodId} {args : Array Value} {below : List Frame} {meth : Method} {c : Code} {Q : State → Prop} {A : Nat → Prop} {dC : Nat → ClassId} {dI : Nat → Nat → Nat} {a : Nat → Nat} {ac : Nat → ClassId} {n : Nat} {r : St} (C : nd_C p l s m args c A (dC, dI) cX13_digits 6 RX13 ow_dm_X13_digits (dk_X13 ac)) (K : nd_Kv p l e (headSpec ow_dm_X13_digits ({ frames := 3, cells := 0, slots := 0, locals := 67 })).room s m args below meth c Q A (dC, dI) cX13_digits (St) (dw_X13 a ac) r) : dj_X13_digits_202 p l e s m args below meth c Q A dC dI a ac (df_X13_digits_202 n) r := by
  obtain ⟨hlt, hx, hb, hml, hown, hts, hN, hA, hK⟩ := id C
  intro s0 H locs ls h hP hD hS hl
  unfold df_X13_digits_202 at h
  exact K _ _ _ _ _ dX13_digits_202 (Option.some.inj h).symm hP hD hS
set_option maxHeartbeats 40000000 in
set_option maxRecDepth 100000 in
theorem db_X13_digits_177 {p : Program} {l : Launch} {e : Env} {s : State} {m : MethodId} {args : Array Value} {below : List Frame} {meth : Method} {c : Code} {Q : State → Prop} {A : Nat → Prop} {dC : Nat → ClassId} {dI : Nat → Nat → Nat} {a : Nat → Nat} {ac : Nat → ClassId} {n : Nat} {r : St} (C : nd_C p l s m args c A (dC, dI) cX13_digits 6 RX13 ow_dm_X13_digits (dk_X13 ac)) (K : nd_Kv p l e (headSpec ow_dm_X13_digits ({ frames := 3, cells := 0, slots := 0, locals := 67 })).room s m args below meth c Q A (dC, dI) cX13_digits (St) (dw_X13 a ac) r) : dj_X13_digits_177 p l e s m args below meth c Q A dC dI a ac (df_X13_digits_177 n) r := by
  obtain ⟨hlt, hx, hb, hml, hown, hts, hN, hA, hK⟩ := id C
  intro y0 s0 H locs ls h hP hD hS hl
  unfold df_X13_digits_177 at h
  refine lv_lstore (lv' := [(4, .long y0), (0, .ref (a 0))]) hx hb dX13_digits_177 hl (by decide) rfl (fun ls hl => ?_)
  refine lv_aload_n hx hb dX13_digits_179 rfl (lv_at hl 1 rfl) ?_
  refine lv_iconst (v := 2) hx hb dX13_digits_180 (by decide) ?_
  refine va_put (D := (dC, dI)) (ci := 14) (v := .int 2) (ty := .int) (C := RX13) (T := TX13) (N := 37) hx hb hts hi_dm_X13_digits_X13 tyX13 tyX13_ok nmX13 hown hK hP hD hS 0 rfl rfl 17 (by decide) (hts (.fieldLink RX13 365 "TimeMachineModel$Assembler" "token" "I") (List.mem_of_getElem? (i := 8) rfl)) (fun _ h9 => h9) rfl (by decide +kernel) rfl rfl (Nat.le_of_ble_eq_true rfl) dX13_digits_181 (fun H locs hP hD hS => ?_)
  obtain ⟨s11, es11, h⟩ := nd_let_e h
  have hP : va_P (dC, dI) vwCl (dw_X13 a ac s11) H := by rw [es11]; exact hP
  have hD : va_D A (dw_X13 a ac s11) := by rw [es11]; exact hD
  refine lv_aload_n hx hb dX13_digits_184 rfl (lv_at hl 1 rfl) ?_
  refine lv_lload hx hb dX13_digits_185 (lv_at hl 0 rfl) ?_
  refine lv_l2i hx hb dX13_digits_187 rfl ?_
  refine va_put (D := (dC, dI)) (ci := 14) (v := .int (y0.toInt32)) (ty := .int) (C := RX13) (T := TX13) (N := 37) hx hb hts hi_dm_X13_digits_X13 tyX13 tyX13_ok nmX13 hown hK hP hD hS 0 rfl rfl 20 (by decide) (hts (.fieldLink RX13 399 "TimeMachineModel$Assembler" "number" "I") (List.mem_of_getElem? (i := 9) rfl)) (fun _ h9 => h9) rfl (by decide +kernel) rfl rfl (Nat.le_of_ble_eq_true rfl) dX13_digits_188 (fun H locs hP hD hS => ?_)
  obtain ⟨s12, es12, h⟩ := nd_let_e h
  have hP : va_P (dC, dI) vwCl (dw_X13 a ac s12) H := by rw [es12]; exact hP
  have hD : va_D A (dw_X13 a ac s12) := by rw [es12]; exact hD
  refine lv_lload hx hb dX13_digits_191 (lv_at hl 0 rfl) ?_
  refine lv_lconst (v := 0) hx hb dX13_digits_193 (by decide) ?_
  refine W.lcmp hx hb dX13_digits_194 ?_
  refine lv_if_ge (tgt := 202) hx hb dX13_digits_195 (by decide) (fun c13 => ?_) (fun c13 => ?_)
  · have h := nd_pos h c13
    exact (db_X13_digits_202 C K)  s12 _ _ _ h hP hD hS (lv_sub hl [] rfl)
  · have h := nd_neg h c13
    refine lv_aload_n hx hb dX13_digits_198 rfl (lv_at hl 1 rfl) ?_
    obtain ⟨s15, hq, h⟩ := nd_b1_e h
    have hPc := hP
    have hDc := hD
    have hKc := hK
    have hFc := nd_rs hD hS hA
    refine nd_cVv (As := []) (rest := []) (w' := dw_X13 a ac s15) ⟨hx, hb, hml, hown, hts⟩ (fun sz => dm_X13_bad l hlt dC dI a ac n  s12 hq sz) (cwV 0 hts gi_dm_X13_digits_1 rfl rfl rfl (by decide +kernel) ⟨Nat.le_of_ble_eq_true rfl, Nat.le_of_ble_eq_true rfl⟩) hPc hDc hKc hS hA hN (va_recv hKc hPc (ci := 14) (q0 := 0) rfl rfl) rfl hl.1 rfl (Nat.le_of_ble_eq_true rfl) dX13_digits_199 (fun H locs hP1 hD1 hk1 hS => ?_)
    have hP := hP1
    have hD := hD1.weaken (fun k q _ h => hFc q.1 h)
    exact (db_X13_digits_202 C K)  s15 _ _ _ h hP hD hS (lv_sub hl [] rfl)
set_option maxHeartbeats 40000000 in
set_option maxRecDepth 100000 in
theorem db_X13_digits_163 {p : Program} {l : Launch} {e : Env} {s : State} {m : MethodId} {args : Array Value} {below : List Frame} {meth : Method} {c : Code} {Q : State → Prop} {A : Nat → Prop} {dC : Nat → ClassId} {dI : Nat → Nat → Nat} {a : Nat → Nat} {ac : Nat → ClassId} {n : Nat} {r : St} (C : nd_C p l s m args c A (dC, dI) cX13_digits 6 RX13 ow_dm_X13_digits (dk_X13 ac)) (K : nd_Kv p l e (headSpec ow_dm_X13_digits ({ frames := 3, cells := 0, slots := 0, locals := 67 })).room s m args below meth c Q A (dC, dI) cX13_digits (St) (dw_X13 a ac) r) : dj_X13_digits_163 p l e s m args below meth c Q A dC dI a ac (df_X13_digits_163 n) r := by
  obtain ⟨hlt, hx, hb, hml, hown, hts, hN, hA, hK⟩ := id C
  intro s0 H locs ls h hP hD hS hl
  unfold df_X13_digits_163 at h
  refine lv_aload_n hx hb dX13_digits_163 rfl (lv_at hl 0 rfl) ?_
  refine lv_aload_n hx hb dX13_digits_164 rfl (lv_at hl 0 rfl) ?_
  refine va_get (D := (dC, dI)) (ci := 14) (v := .int (sI s0 9)) (C := RX13) (T := TX13) (N := 37) hx hb hts hi_dm_X13_digits_X13 hown hK hP 0 rfl rfl 18 (by decide) (hts (.fieldLink RX13 368 "TimeMachineModel$Assembler" "from" "I") (List.mem_of_getElem? (i := 2) rfl)) (fun _ h9 => h9) rfl dX13_digits_165 ?_
  refine lv_aload_n hx hb dX13_digits_168 rfl (lv_at hl 0 rfl) ?_
  refine va_get (D := (dC, dI)) (ci := 14) (v := .int (sI s0 10)) (C := RX13) (T := TX13) (N := 37) hx hb hts hi_dm_X13_digits_X13 hown hK hP 0 rfl rfl 19 (by decide) (hts (.fieldLink RX13 371 "TimeMachineModel$Assembler" "to" "I") (List.mem_of_getElem? (i := 1) rfl)) (fun _ h9 => h9) rfl dX13_digits_169 ?_
  refine lv_bipush (v := 10) hx hb dX13_digits_172 (by decide) ?_
  obtain ⟨q8, s9, hq, h⟩ := nd_b2_e h
  have hPc := hP
  have hDc := hD
  have hKc := hK
  have hFc := nd_rs hD hS hA
  refine nd_cVl (As := [.int (sI s0 9), .int (sI s0 10), .int 10]) (rest := []) (q := q8) (w' := dw_X13 a ac s9) ⟨hx, hb, hml, hown, hts⟩ (fun sz => dm_X13_numeral l hlt dC dI a ac n ((sI s0 9)) ((sI s0 10)) (10) s0 hq sz) (cwV 3 hts gi_dm_X13_digits_0 rfl rfl rfl (by decide +kernel) ⟨Nat.le_of_ble_eq_true rfl, Nat.le_of_ble_eq_true rfl⟩) hPc hDc hKc hS hA hN (va_recv hKc hPc (ci := 14) (q0 := 0) rfl rfl) rfl hl.1 rfl (Nat.le_of_ble_eq_true rfl) dX13_digits_174 (fun H locs hP1 hD1 hk1 hS => ?_)
  have hP := hP1
  have hD := hD1.weaken (fun k q _ h => hFc q.1 h)
  exact (db_X13_digits_177 C K) (q8) s9 _ _ _ h hP hD hS (lv_sub hl [0] rfl)
set_option maxHeartbeats 40000000 in
set_option maxRecDepth 100000 in
theorem db_X13_digits_135 {p : Program} {l : Launch} {e : Env} {s : State} {m : MethodId} {args : Array Value} {below : List Frame} {meth : Method} {c : Code} {Q : State → Prop} {A : Nat → Prop} {dC : Nat → ClassId} {dI : Nat → Nat → Nat} {a : Nat → Nat} {ac : Nat → ClassId} {n : Nat} {r : St} (C : nd_C p l s m args c A (dC, dI) cX13_digits 6 RX13 ow_dm_X13_digits (dk_X13 ac)) (K : nd_Kv p l e (headSpec ow_dm_X13_digits ({ frames := 3, cells := 0, slots := 0, locals := 67 })).room s m args below meth c Q A (dC, dI) cX13_digits (St) (dw_X13 a ac) r) : dj_X13_digits_135 p l e s m args below meth c Q A dC dI a ac (df_X13_digits_135 n) r := by
  obtain ⟨hlt, hx, hb, hml, hown, hts, hN, hA, hK⟩ := id C
  intro x1 x3 s0 H locs ls h hP hD hS hl
  unfold df_X13_digits_135 at h
  refine lv_iload_n hx hb dX13_digits_135 rfl (lv_at hl 2 rfl) ?_
  refine lv_if_eq (tgt := 163) hx hb dX13_digits_136 (by decide) (fun c7 => ?_) (fun c7 => ?_)
  · have h := nd_pos h c7
    exact (db_X13_digits_163 C K)  s0 _ _ _ h hP hD hS (lv_sub hl [0] rfl)
  · have h := nd_neg h c7
    refine lv_iload_n hx hb dX13_digits_139 rfl (lv_at hl 1 rfl) ?_
    refine lv_bipush (v := 98) hx hb dX13_digits_140 (by decide) ?_
    refine lv_icmp_ne (tgt := 163) hx hb dX13_digits_142 (by decide) (fun c17 => ?_) (fun c17 => ?_)
    · have h := nd_neg h c17
      exact (db_X13_digits_163 C K)  s0 _ _ _ h hP hD hS (lv_sub hl [0] rfl)
    · have h := nd_pos h c17
      refine lv_aload_n hx hb dX13_digits_145 rfl (lv_at hl 0 rfl) ?_
      refine lv_aload_n hx hb dX13_digits_146 rfl (lv_at hl 0 rfl) ?_
      refine va_get (D := (dC, dI)) (ci := 14) (v := .int (sI s0 9)) (C := RX13) (T := TX13) (N := 37) hx hb hts hi_dm_X13_digits_X13 hown hK hP 0 rfl rfl 18 (by decide) (hts (.fieldLink RX13 368 "TimeMachineModel$Assembler" "from" "I") (List.mem_of_getElem? (i := 2) rfl)) (fun _ h9 => h9) rfl dX13_digits_147 ?_
      refine lv_iconst (v := 2) hx hb dX13_digits_150 (by decide) ?_
      refine lv_iadd hx hb dX13_digits_151 ?_
      refine lv_aload_n hx hb dX13_digits_152 rfl (lv_at hl 0 rfl) ?_
      refine va_get (D := (dC, dI)) (ci := 14) (v := .int (sI s0 10)) (C := RX13) (T := TX13) (N := 37) hx hb hts hi_dm_X13_digits_X13 hown hK hP 0 rfl rfl 19 (by decide) (hts (.fieldLink RX13 371 "TimeMachineModel$Assembler" "to" "I") (List.mem_of_getElem? (i := 1) rfl)) (fun _ h9 => h9) rfl dX13_digits_153 ?_
      refine lv_iconst (v := 2) hx hb dX13_digits_156 (by decide) ?_
      obtain ⟨q18, s19, hq, h⟩ := nd_b2_e h
      have hPc := hP
      have hDc := hD
      have hKc := hK
      have hFc := nd_rs hD hS hA
      refine nd_cVl (As := [.int ((sI s0 9) + 2), .int (sI s0 10), .int 2]) (rest := []) (q := q18) (w' := dw_X13 a ac s19) ⟨hx, hb, hml, hown, hts⟩ (fun sz => dm_X13_numeral l hlt dC dI a ac n (((sI s0 9) + 2)) ((sI s0 10)) (2) s0 hq sz) (cwV 3 hts gi_dm_X13_digits_0 rfl rfl rfl (by decide +kernel) ⟨Nat.le_of_ble_eq_true rfl, Nat.le_of_ble_eq_true rfl⟩) hPc hDc hKc hS hA hN (va_recv hKc hPc (ci := 14) (q0 := 0) rfl rfl) rfl hl.1 rfl (Nat.le_of_ble_eq_true rfl) dX13_digits_157 (fun H locs hP1 hD1 hk1 hS => ?_)
      have hP := hP1
      have hD := hD1.weaken (fun k q _ h => hFc q.1 h)
      refine lv_goto (tgt := 177) hx hb dX13_digits_160 (by decide) ?_
      exact (db_X13_digits_177 C K) (q18) s19 _ _ _ h hP hD hS (lv_sub hl [0] rfl)
set_option maxHeartbeats 40000000 in
set_option maxRecDepth 100000 in
theorem db_X13_digits_105 {p : Program} {l : Launch} {e : Env} {s : State} {m : MethodId} {args : Array Value} {below : List Frame} {meth : Method} {c : Code} {Q : State → Prop} {A : Nat → Prop} {dC : Nat → ClassId} {dI : Nat → Nat → Nat} {a : Nat → Nat} {ac : Nat → ClassId} {n : Nat} {r : St} (C : nd_C p l s m args c A (dC, dI) cX13_digits 6 RX13 ow_dm_X13_digits (dk_X13 ac)) (K : nd_Kv p l e (headSpec ow_dm_X13_digits ({ frames := 3, cells := 0, slots := 0, locals := 67 })).room s m args below meth c Q A (dC, dI) cX13_digits (St) (dw_X13 a ac) r) : dj_X13_digits_105 p l e s m args below meth c Q A dC dI a ac (df_X13_digits_105 n) r := by
  obtain ⟨hlt, hx, hb, hml, hown, hts, hN, hA, hK⟩ := id C
  intro x1 y0 s0 H locs ls h hP hD hS hl
  unfold df_X13_digits_105 at h
  refine lv_istore_n (lv' := [(3, .int y0), (0, .ref (a 0)), (1, .int x1)]) hx hb dX13_digits_105 rfl hl (by decide) rfl (fun ls hl => ?_)
  refine lv_iload_n hx hb dX13_digits_106 rfl (lv_at hl 0 rfl) ?_
  refine lv_if_eq (tgt := 135) hx hb dX13_digits_107 (by decide) (fun c6 => ?_) (fun c6 => ?_)
  · have h := nd_pos h c6
    exact (db_X13_digits_135 C K) (x1) (y0) s0 _ _ _ h hP hD hS (lv_sub hl [1, 2, 0] rfl)
  · have h := nd_neg h c6
    refine lv_iload_n hx hb dX13_digits_110 rfl (lv_at hl 2 rfl) ?_
    refine lv_bipush (v := 120) hx hb dX13_digits_111 (by decide) ?_
    refine lv_icmp_ne (tgt := 135) hx hb dX13_digits_113 (by decide) (fun c21 => ?_) (fun c21 => ?_)
    · have h := nd_neg h c21
      exact (db_X13_digits_135 C K) (x1) (y0) s0 _ _ _ h hP hD hS (lv_sub hl [1, 2, 0] rfl)
    · have h := nd_pos h c21
      refine lv_aload_n hx hb dX13_digits_116 rfl (lv_at hl 1 rfl) ?_
      refine lv_aload_n hx hb dX13_digits_117 rfl (lv_at hl 1 rfl) ?_
      refine va_get (D := (dC, dI)) (ci := 14) (v := .int (sI s0 9)) (C := RX13) (T := TX13) (N := 37) hx hb hts hi_dm_X13_digits_X13 hown hK hP 0 rfl rfl 18 (by decide) (hts (.fieldLink RX13 368 "TimeMachineModel$Assembler" "from" "I") (List.mem_of_getElem? (i := 2) rfl)) (fun _ h9 => h9) rfl dX13_digits_118 ?_
      refine lv_iconst (v := 2) hx hb dX13_digits_121 (by decide) ?_
      refine lv_iadd hx hb dX13_digits_122 ?_
      refine lv_aload_n hx hb dX13_digits_123 rfl (lv_at hl 1 rfl) ?_
      refine va_get (D := (dC, dI)) (ci := 14) (v := .int (sI s0 10)) (C := RX13) (T := TX13) (N := 37) hx hb hts hi_dm_X13_digits_X13 hown hK hP 0 rfl rfl 19 (by decide) (hts (.fieldLink RX13 371 "TimeMachineModel$Assembler" "to" "I") (List.mem_of_getElem? (i := 1) rfl)) (fun _ h9 => h9) rfl dX13_digits_124 ?_
      refine lv_bipush (v := 16) hx hb dX13_digits_127 (by decide) ?_
      obtain ⟨q22, s23, hq, h⟩ := nd_b2_e h
      have hPc := hP
      have hDc := hD
      have hKc := hK
      have hFc := nd_rs hD hS hA
      refine nd_cVl (As := [.int ((sI s0 9) + 2), .int (sI s0 10), .int 16]) (rest := []) (q := q22) (w' := dw_X13 a ac s23) ⟨hx, hb, hml, hown, hts⟩ (fun sz => dm_X13_numeral l hlt dC dI a ac n (((sI s0 9) + 2)) ((sI s0 10)) (16) s0 hq sz) (cwV 3 hts gi_dm_X13_digits_0 rfl rfl rfl (by decide +kernel) ⟨Nat.le_of_ble_eq_true rfl, Nat.le_of_ble_eq_true rfl⟩) hPc hDc hKc hS hA hN (va_recv hKc hPc (ci := 14) (q0 := 0) rfl rfl) rfl hl.1 rfl (Nat.le_of_ble_eq_true rfl) dX13_digits_129 (fun H locs hP1 hD1 hk1 hS => ?_)
      have hP := hP1
      have hD := hD1.weaken (fun k q _ h => hFc q.1 h)
      refine lv_goto (tgt := 177) hx hb dX13_digits_132 (by decide) ?_
      exact (db_X13_digits_177 C K) (q22) s23 _ _ _ h hP hD hS (lv_sub hl [1] rfl)
set_option maxHeartbeats 40000000 in
set_option maxRecDepth 100000 in
theorem db_X13_digits_59 {p : Program} {l : Launch} {e : Env} {s : State} {m : MethodId} {args : Array Value} {below : List Frame} {meth : Method} {c : Code} {Q : State → Prop} {A : Nat → Prop} {dC : Nat → ClassId} {dI : Nat → Nat → Nat} {a : Nat → Nat} {ac : Nat → ClassId} {n : Nat} {r : St} (C : nd_C p l s m args c A (dC, dI) cX13_digits 6 RX13 ow_dm_X13_digits (dk_X13 ac)) (K : nd_Kv p l e (headSpec ow_dm_X13_digits ({ frames := 3, cells := 0, slots := 0, locals := 67 })).room s m args below meth c Q A (dC, dI) cX13_digits (St) (dw_X13 a ac) r) : dj_X13_digits_59 p l e s m args below meth c Q A dC dI a ac (df_X13_digits_59 n) r := by
  obtain ⟨hlt, hx, hb, hml, hown, hts, hN, hA, hK⟩ := id C
  intro x1 y0 s0 H locs ls h hP hD hS hl
  unfold df_X13_digits_59 at h
  refine lv_istore_n (lv' := [(2, .int y0), (0, .ref (a 0)), (1, .int x1)]) hx hb dX13_digits_59 rfl hl (by decide) rfl (fun ls hl => ?_)
  refine lv_iload_n hx hb dX13_digits_60 rfl (lv_at hl 0 rfl) ?_
  refine lv_if_eq (tgt := 86) hx hb dX13_digits_61 (by decide) (fun c3 => ?_) (fun c3 => ?_)
  · have h := nd_pos h c3
    refine lv_aload_n hx hb dX13_digits_86 rfl (lv_at hl 1 rfl) ?_
    refine va_get (D := (dC, dI)) (ci := 14) (v := .ref (a 4)) (C := RX13) (T := TX13) (N := 37) hx hb hts hi_dm_X13_digits_X13 hown hK hP 0 rfl rfl 3 (by decide) (hts (.fieldLink RX13 324 "TimeMachineModel$Assembler" "text" "[C") (List.mem_of_getElem? (i := 3) rfl)) (fun _ h9 => h9) rfl dX13_digits_87 ?_
    refine lv_aload_n hx hb dX13_digits_90 rfl (lv_at hl 1 rfl) ?_
    refine va_get (D := (dC, dI)) (ci := 14) (v := .int (sI s0 9)) (C := RX13) (T := TX13) (N := 37) hx hb hts hi_dm_X13_digits_X13 hown hK hP 0 rfl rfl 18 (by decide) (hts (.fieldLink RX13 368 "TimeMachineModel$Assembler" "from" "I") (List.mem_of_getElem? (i := 2) rfl)) (fun _ h9 => h9) rfl dX13_digits_91 ?_
    obtain ⟨i4, h⟩ := nd_ck_e h
    refine va_cald (i := (sI s0 9)) hx hb hK hP 4 3 rfl rfl i4 dX13_digits_94 ?_
    refine lv_bipush (v := 48) hx hb dX13_digits_95 (by decide) ?_
    refine lv_icmp_ne (tgt := 104) hx hb dX13_digits_97 (by decide) (fun c5 => ?_) (fun c5 => ?_)
    · have h := nd_neg h c5
      refine lv_iconst (v := 0) hx hb dX13_digits_104 (by decide) ?_
      exact (db_X13_digits_105 C K) (x1) (0) s0 _ _ _ h hP hD hS (lv_sub hl [1, 2] rfl)
    · have h := nd_pos h c5
      refine lv_iconst (v := 1) hx hb dX13_digits_100 (by decide) ?_
      refine lv_goto (tgt := 105) hx hb dX13_digits_101 (by decide) ?_
      exact (db_X13_digits_105 C K) (x1) (1) s0 _ _ _ h hP hD hS (lv_sub hl [1, 2] rfl)
  · have h := nd_neg h c3
    refine lv_aload_n hx hb dX13_digits_64 rfl (lv_at hl 1 rfl) ?_
    refine lv_iconst (v := 3) hx hb dX13_digits_65 (by decide) ?_
    refine va_put (D := (dC, dI)) (ci := 14) (v := .int 3) (ty := .int) (C := RX13) (T := TX13) (N := 37) hx hb hts hi_dm_X13_digits_X13 tyX13 tyX13_ok nmX13 hown hK hP hD hS 0 rfl rfl 17 (by decide) (hts (.fieldLink RX13 365 "TimeMachineModel$Assembler" "token" "I") (List.mem_of_getElem? (i := 8) rfl)) (fun _ h9 => h9) rfl (by decide +kernel) rfl rfl (Nat.le_of_ble_eq_true rfl) dX13_digits_66 (fun H locs hP hD hS => ?_)
    obtain ⟨s25, es25, h⟩ := nd_let_e h
    have hP : va_P (dC, dI) vwCl (dw_X13 a ac s25) H := by rw [es25]; exact hP
    have hD : va_D A (dw_X13 a ac s25) := by rw [es25]; exact hD
    refine lv_aload_n hx hb dX13_digits_69 rfl (lv_at hl 1 rfl) ?_
    refine lv_aload_n hx hb dX13_digits_70 rfl (lv_at hl 1 rfl) ?_
    refine va_get (D := (dC, dI)) (ci := 14) (v := .ref (a 4)) (C := RX13) (T := TX13) (N := 37) hx hb hts hi_dm_X13_digits_X13 hown hK hP 0 rfl rfl 3 (by decide) (hts (.fieldLink RX13 324 "TimeMachineModel$Assembler" "text" "[C") (List.mem_of_getElem? (i := 3) rfl)) (fun _ h9 => h9) rfl dX13_digits_71 ?_
    refine lv_aload_n hx hb dX13_digits_74 rfl (lv_at hl 1 rfl) ?_
    refine va_get (D := (dC, dI)) (ci := 14) (v := .int (sI s25 9)) (C := RX13) (T := TX13) (N := 37) hx hb hts hi_dm_X13_digits_X13 hown hK hP 0 rfl rfl 18 (by decide) (hts (.fieldLink RX13 368 "TimeMachineModel$Assembler" "from" "I") (List.mem_of_getElem? (i := 2) rfl)) (fun _ h9 => h9) rfl dX13_digits_75 ?_
    obtain ⟨i26, h⟩ := nd_ck_e h
    refine va_cald (i := (sI s25 9)) hx hb hK hP 4 3 rfl rfl i26 dX13_digits_78 ?_
    refine lv_bipush (v := 48) hx hb dX13_digits_79 (by decide) ?_
    refine lv_isub hx hb dX13_digits_81 ?_
    refine va_put (D := (dC, dI)) (ci := 14) (v := .int ((sR s25 2 (Int32.toNatClampNeg (sI s25 9))) - 48)) (ty := .int) (C := RX13) (T := TX13) (N := 37) hx hb hts hi_dm_X13_digits_X13 tyX13 tyX13_ok nmX13 hown hK hP hD hS 0 rfl rfl 20 (by decide) (hts (.fieldLink RX13 399 "TimeMachineModel$Assembler" "number" "I") (List.mem_of_getElem? (i := 9) rfl)) (fun _ h9 => h9) rfl (by decide +kernel) rfl rfl (Nat.le_of_ble_eq_true rfl) dX13_digits_82 (fun H locs hP hD hS => ?_)
    obtain ⟨s27, es27, h⟩ := nd_let_e h
    have hP : va_P (dC, dI) vwCl (dw_X13 a ac s27) H := by rw [es27]; exact hP
    have hD : va_D A (dw_X13 a ac s27) := by rw [es27]; exact hD
    exact K _ _ _ _ _ dX13_digits_85 (Option.some.inj h).symm hP hD hS
set_option maxHeartbeats 40000000 in
set_option maxRecDepth 100000 in
theorem db_X13_digits_58 {p : Program} {l : Launch} {e : Env} {s : State} {m : MethodId} {args : Array Value} {below : List Frame} {meth : Method} {c : Code} {Q : State → Prop} {A : Nat → Prop} {dC : Nat → ClassId} {dI : Nat → Nat → Nat} {a : Nat → Nat} {ac : Nat → ClassId} {n : Nat} {r : St} (C : nd_C p l s m args c A (dC, dI) cX13_digits 6 RX13 ow_dm_X13_digits (dk_X13 ac)) (K : nd_Kv p l e (headSpec ow_dm_X13_digits ({ frames := 3, cells := 0, slots := 0, locals := 67 })).room s m args below meth c Q A (dC, dI) cX13_digits (St) (dw_X13 a ac) r) : dj_X13_digits_58 p l e s m args below meth c Q A dC dI a ac (df_X13_digits_58 n) r := by
  obtain ⟨hlt, hx, hb, hml, hown, hts, hN, hA, hK⟩ := id C
  intro x1 s0 H locs ls h hP hD hS hl
  unfold df_X13_digits_58 at h
  refine lv_iconst (v := 0) hx hb dX13_digits_58 (by decide) ?_
  exact (db_X13_digits_59 C K) (x1) (0) s0 _ _ _ h hP hD hS (lv_sub hl [0, 1] rfl)
set_option maxHeartbeats 40000000 in
set_option maxRecDepth 100000 in
theorem db_X13_digits_54 {p : Program} {l : Launch} {e : Env} {s : State} {m : MethodId} {args : Array Value} {below : List Frame} {meth : Method} {c : Code} {Q : State → Prop} {A : Nat → Prop} {dC : Nat → ClassId} {dI : Nat → Nat → Nat} {a : Nat → Nat} {ac : Nat → ClassId} {n : Nat} {r : St} (C : nd_C p l s m args c A (dC, dI) cX13_digits 6 RX13 ow_dm_X13_digits (dk_X13 ac)) (K : nd_Kv p l e (headSpec ow_dm_X13_digits ({ frames := 3, cells := 0, slots := 0, locals := 67 })).room s m args below meth c Q A (dC, dI) cX13_digits (St) (dw_X13 a ac) r) : dj_X13_digits_54 p l e s m args below meth c Q A dC dI a ac (df_X13_digits_54 n) r := by
  obtain ⟨hlt, hx, hb, hml, hown, hts, hN, hA, hK⟩ := id C
  intro x1 s0 H locs ls h hP hD hS hl
  unfold df_X13_digits_54 at h
  refine lv_iconst (v := 1) hx hb dX13_digits_54 (by decide) ?_
  refine lv_goto (tgt := 59) hx hb dX13_digits_55 (by decide) ?_
  exact (db_X13_digits_59 C K) (x1) (1) s0 _ _ _ h hP hD hS (lv_sub hl [0, 1] rfl)
set_option maxHeartbeats 40000000 in
set_option maxRecDepth 100000 in
theorem db_X13_digits_28 {p : Program} {l : Launch} {e : Env} {s : State} {m : MethodId} {args : Array Value} {below : List Frame} {meth : Method} {c : Code} {Q : State → Prop} {A : Nat → Prop} {dC : Nat → ClassId} {dI : Nat → Nat → Nat} {a : Nat → Nat} {ac : Nat → ClassId} {n : Nat} {r : St} (C : nd_C p l s m args c A (dC, dI) cX13_digits 6 RX13 ow_dm_X13_digits (dk_X13 ac)) (K : nd_Kv p l e (headSpec ow_dm_X13_digits ({ frames := 3, cells := 0, slots := 0, locals := 67 })).room s m args below meth c Q A (dC, dI) cX13_digits (St) (dw_X13 a ac) r) : dj_X13_digits_28 p l e s m args below meth c Q A dC dI a ac (df_X13_digits_28 n) r := by
  obtain ⟨hlt, hx, hb, hml, hown, hts, hN, hA, hK⟩ := id C
  intro y0 s0 H locs ls h hP hD hS hl
  unfold df_X13_digits_28 at h
  refine lv_istore_n (lv' := [(1, .int y0), (0, .ref (a 0))]) hx hb dX13_digits_28 rfl hl (by decide) rfl (fun ls hl => ?_)
  refine lv_aload_n hx hb dX13_digits_29 rfl (lv_at hl 1 rfl) ?_
  refine va_get (D := (dC, dI)) (ci := 14) (v := .int (sI s0 10)) (C := RX13) (T := TX13) (N := 37) hx hb hts hi_dm_X13_digits_X13 hown hK hP 0 rfl rfl 19 (by decide) (hts (.fieldLink RX13 371 "TimeMachineModel$Assembler" "to" "I") (List.mem_of_getElem? (i := 1) rfl)) (fun _ h9 => h9) rfl dX13_digits_30 ?_
  refine lv_aload_n hx hb dX13_digits_33 rfl (lv_at hl 1 rfl) ?_
  refine va_get (D := (dC, dI)) (ci := 14) (v := .int (sI s0 9)) (C := RX13) (T := TX13) (N := 37) hx hb hts hi_dm_X13_digits_X13 hown hK hP 0 rfl rfl 18 (by decide) (hts (.fieldLink RX13 368 "TimeMachineModel$Assembler" "from" "I") (List.mem_of_getElem? (i := 2) rfl)) (fun _ h9 => h9) rfl dX13_digits_34 ?_
  refine lv_isub hx hb dX13_digits_37 ?_
  refine lv_iconst (v := 2) hx hb dX13_digits_38 (by decide) ?_
  refine lv_icmp_ne (tgt := 58) hx hb dX13_digits_39 (by decide) (fun c2 => ?_) (fun c2 => ?_)
  · have h := nd_neg h c2
    exact (db_X13_digits_58 C K) (y0) s0 _ _ _ h hP hD hS (lv_sub hl [1, 0] rfl)
  · have h := nd_pos h c2
    refine lv_iload_n hx hb dX13_digits_42 rfl (lv_at hl 0 rfl) ?_
    refine lv_bipush (v := 102) hx hb dX13_digits_43 (by decide) ?_
    refine lv_icmp_eq (tgt := 54) hx hb dX13_digits_45 (by decide) (fun c28 => ?_) (fun c28 => ?_)
    · have h := nd_pos h c28
      exact (db_X13_digits_54 C K) (y0) s0 _ _ _ h hP hD hS (lv_sub hl [1, 0] rfl)
    · have h := nd_neg h c28
      refine lv_iload_n hx hb dX13_digits_48 rfl (lv_at hl 0 rfl) ?_
      refine lv_bipush (v := 98) hx hb dX13_digits_49 (by decide) ?_
      refine lv_icmp_ne (tgt := 58) hx hb dX13_digits_51 (by decide) (fun c29 => ?_) (fun c29 => ?_)
      · have h := nd_neg h c29
        exact (db_X13_digits_58 C K) (y0) s0 _ _ _ h hP hD hS (lv_sub hl [1, 0] rfl)
      · have h := nd_pos h c29
        exact (db_X13_digits_54 C K) (y0) s0 _ _ _ h hP hD hS (lv_sub hl [1, 0] rfl)
set_option maxHeartbeats 40000000 in
set_option maxRecDepth 100000 in
theorem db_X13_digits_0 {p : Program} {l : Launch} {e : Env} {s : State} {m : MethodId} {args : Array Value} {below : List Frame} {meth : Method} {c : Code} {Q : State → Prop} {A : Nat → Prop} {dC : Nat → ClassId} {dI : Nat → Nat → Nat} {a : Nat → Nat} {ac : Nat → ClassId} {n : Nat} {r : St} (C : nd_C p l s m args c A (dC, dI) cX13_digits 6 RX13 ow_dm_X13_digits (dk_X13 ac)) (K : nd_Kv p l e (headSpec ow_dm_X13_digits ({ frames := 3, cells := 0, slots := 0, locals := 67 })).room s m args below meth c Q A (dC, dI) cX13_digits (St) (dw_X13 a ac) r) : dj_X13_digits_0 p l e s m args below meth c Q A dC dI a ac (df_X13_digits_0 n) r := by
  obtain ⟨hlt, hx, hb, hml, hown, hts, hN, hA, hK⟩ := id C
  intro s0 H locs ls h hP hD hS hl
  unfold df_X13_digits_0 at h
  refine lv_aload_n hx hb dX13_digits_0 rfl (lv_at hl 0 rfl) ?_
  refine va_get (D := (dC, dI)) (ci := 14) (v := .int (sI s0 10)) (C := RX13) (T := TX13) (N := 37) hx hb hts hi_dm_X13_digits_X13 hown hK hP 0 rfl rfl 19 (by decide) (hts (.fieldLink RX13 371 "TimeMachineModel$Assembler" "to" "I") (List.mem_of_getElem? (i := 1) rfl)) (fun _ h9 => h9) rfl dX13_digits_1 ?_
  refine lv_aload_n hx hb dX13_digits_4 rfl (lv_at hl 0 rfl) ?_
  refine va_get (D := (dC, dI)) (ci := 14) (v := .int (sI s0 9)) (C := RX13) (T := TX13) (N := 37) hx hb hts hi_dm_X13_digits_X13 hown hK hP 0 rfl rfl 18 (by decide) (hts (.fieldLink RX13 368 "TimeMachineModel$Assembler" "from" "I") (List.mem_of_getElem? (i := 2) rfl)) (fun _ h9 => h9) rfl dX13_digits_5 ?_
  refine lv_isub hx hb dX13_digits_8 ?_
  refine lv_iconst (v := 1) hx hb dX13_digits_9 (by decide) ?_
  refine lv_icmp_le (tgt := 27) hx hb dX13_digits_10 (by decide) (fun c1 => ?_) (fun c1 => ?_)
  · have h := nd_pos h c1
    refine lv_iconst (v := 0) hx hb dX13_digits_27 (by decide) ?_
    exact (db_X13_digits_28 C K) (0) s0 _ _ _ h hP hD hS (lv_sub hl [0] rfl)
  · have h := nd_neg h c1
    refine lv_aload_n hx hb dX13_digits_13 rfl (lv_at hl 0 rfl) ?_
    refine va_get (D := (dC, dI)) (ci := 14) (v := .ref (a 4)) (C := RX13) (T := TX13) (N := 37) hx hb hts hi_dm_X13_digits_X13 hown hK hP 0 rfl rfl 3 (by decide) (hts (.fieldLink RX13 324 "TimeMachineModel$Assembler" "text" "[C") (List.mem_of_getElem? (i := 3) rfl)) (fun _ h9 => h9) rfl dX13_digits_14 ?_
    refine lv_aload_n hx hb dX13_digits_17 rfl (lv_at hl 0 rfl) ?_
    refine va_get (D := (dC, dI)) (ci := 14) (v := .int (sI s0 9)) (C := RX13) (T := TX13) (N := 37) hx hb hts hi_dm_X13_digits_X13 hown hK hP 0 rfl rfl 18 (by decide) (hts (.fieldLink RX13 368 "TimeMachineModel$Assembler" "from" "I") (List.mem_of_getElem? (i := 2) rfl)) (fun _ h9 => h9) rfl dX13_digits_18 ?_
    refine lv_iconst (v := 1) hx hb dX13_digits_21 (by decide) ?_
    refine lv_iadd hx hb dX13_digits_22 ?_
    obtain ⟨i30, h⟩ := nd_ck_e h
    refine va_cald (i := ((sI s0 9) + 1)) hx hb hK hP 4 3 rfl rfl i30 dX13_digits_23 ?_
    refine lv_goto (tgt := 28) hx hb dX13_digits_24 (by decide) ?_
    exact (db_X13_digits_28 C K) ((sR s0 2 (Int32.toNatClampNeg ((sI s0 9) + 1)))) s0 _ _ _ h hP hD hS (lv_sub hl [0] rfl)
set_option maxHeartbeats 40000000 in
set_option maxRecDepth 100000 in
theorem dm_X13_digits (l : Launch) (hlt : l.stackTraces = false) (dC : Nat → ClassId) (dI : Nat → Nat → Nat) (a : Nat → Nat) (ac : Nat → ClassId) (n : Nat) (s0 : St) {r : St} (h : df_X13_digits n s0 = some r) (sz : Nat) : Met l yX13_digits ow_dm_X13_digits ({ frames := 3, cells := 0, slots := 0, locals := 67 }) (va_Pc [.ref (a 0)] (fun U => U.heap.size = sz ∧ va_P (dC, dI) vwCl (dw_X13 a ac s0) U.heap ∧ va_K (dC, dI) vwCl (dk_X13 ac) U ∧ va_D (fun _ => True) (dw_X13 a ac s0) ∧ nv_E dI (va_A (dw_X13 a ac s0) sz) U)) (va_Qv (fun _ => True) (fun (_ : Unit) t => va_P (dC, dI) vwCl (dw_X13 a ac r) t.heap ∧ va_K (dC, dI) vwCl (dk_X13 ac) t ∧ va_D (va_A (dw_X13 a ac s0) sz) (dw_X13 a ac r)) (va_A (dw_X13 a ac s0) sz)) 0 0 (va_A (dw_X13 a ac s0) sz) := by
  refine Met.ofW (cc := cX13_digits) (maxL := 6) (ret := none) (by decide) rfl ?_
  intro p e s m args below meth c s₁ B hml hv
  obtain ⟨rfl, hsz, hP, hK, hD0, hN⟩ := hv
  have hx := B.exec
  have hb := B.bytes
  have hr := B.returns
  have hts := atoms_spec (ws := ow_dm_X13_digits) B.pre
  have hown : s.vm.findClass RX13 = some m.cls := findClass_of_methodNamed B.named
  have hlocks := B.notSynchronized
  subst hsz
  have hD := hD0.self (sz := s.heap.size)
  generalize hAe : va_A (dw_X13 a ac s0) s.heap.size = A at hD hN ⊢
  have hA : ∀ q : Nat, s.heap.size ≤ q → A q := fun q h => by rw [← hAe]; exact Or.inr h
  have hl := lv_entry ([.ref (a 0)]) (n := 6) (Nat.le_of_ble_eq_true rfl)
  rw [lg_entry_eq]
  generalize (lg_sl ([.ref (a 0)]) ++ List.replicate (6 - (lg_sl ([.ref (a 0)])).length) Slot.unset).toArray = ls at hl ⊢
  have hl : lv_has ls 6 [(0, .ref (a 0))] := hl
  exact db_X13_digits_0 (dC := dC) (dI := dI) (a := a) (ac := ac) (n := n) (r := r) ⟨hlt, hx, hb, hml, hown, hts, hN, hA, hK⟩ (fun pc τ H locs ls d er hP hD hS => by subst er; exact W.vret hx hb hr (fun t ht hW => ⟨⟨(), rfl, trivial, by rw [ht]; exact hP, va_K.moved hW.alike hK, hD⟩, hS.F ht⟩) hS.2.2 d) s0 _ _ _ h hP hD va_S.rf (lv_sub hl [0] rfl)
def ow_dm_X13_scan : List Cond := Cond.code yX13_scan cX13_scan 3 none :: ([Cond.fieldLink RX13 374 "TimeMachineModel$Assembler" "at" "I", Cond.methodLink RX13 358 yX13_charAt, Cond.instanceMethod yX13_charAt, Cond.selects RX13 yX13_charAt yX13_charAt, Cond.initialized RX13, Cond.fieldLink RX13 368 "TimeMachineModel$Assembler" "from" "I", Cond.fieldLink RX13 371 "TimeMachineModel$Assembler" "to" "I", Cond.fieldLink RX13 365 "TimeMachineModel$Assembler" "token" "I", Cond.methodLink RX13 351 yX13_isDigit, Cond.static yX13_isDigit, Cond.methodLink RX13 362 yX13_isPlain, Cond.static yX13_isPlain, Cond.methodLink RX13 383 yX13_bad, Cond.instanceMethod yX13_bad, Cond.selects RX13 yX13_bad yX13_bad, Cond.methodLink RX13 389 yX13_quote, Cond.instanceMethod yX13_quote, Cond.selects RX13 yX13_quote yX13_quote, Cond.methodLink RX13 386 yX13_character, Cond.instanceMethod yX13_character, Cond.selects RX13 yX13_character yX13_character, Cond.methodLink RX13 377 yX13_plain, Cond.instanceMethod yX13_plain, Cond.selects RX13 yX13_plain yX13_plain, Cond.methodLink RX13 380 yX13_digits, Cond.instanceMethod yX13_digits, Cond.selects RX13 yX13_digits yX13_digits] ++ (u_ws RX13 TX13 37 ++ (ow_dm_X13_charAt ++ (ow_dm_X13_isDigit ++ (ow_dm_X13_isPlain ++ (ow_dm_X13_bad ++ (ow_dm_X13_quote ++ (ow_dm_X13_character ++ (ow_dm_X13_plain ++ (ow_dm_X13_digits ++ []))))))))))
theorem gd_dm_X13_scan : ∀ w ∈ ow_dm_X13_scan, (w.onTables && w.keeps) = true ∨ ∃ ty, w = Cond.arrayClass ty := List.forall_mem_cons.mpr ⟨good_of_word rfl, List.forall_mem_append.mpr ⟨fun w h => good_of_word (List.all_eq_true.mp (by decide +kernel) w h), List.forall_mem_append.mpr ⟨gu_X13, List.forall_mem_append.mpr ⟨gd_dm_X13_charAt, List.forall_mem_append.mpr ⟨gd_dm_X13_isDigit, List.forall_mem_append.mpr ⟨gd_dm_X13_isPlain, List.forall_mem_append.mpr ⟨gd_dm_X13_bad, List.forall_mem_append.mpr ⟨gd_dm_X13_quote, List.forall_mem_append.mpr ⟨gd_dm_X13_character, List.forall_mem_append.mpr ⟨gd_dm_X13_plain, List.forall_mem_append.mpr ⟨gd_dm_X13_digits, fun _ h => nomatch h⟩⟩⟩⟩⟩⟩⟩⟩⟩⟩⟩
theorem hi_dm_X13_scan_X13 : ∀ w ∈ u_ws RX13 TX13 37, w ∈ ow_dm_X13_scan := fun w h => List.mem_cons_of_mem _ (List.mem_append_right _ (List.mem_append_left _ h))
theorem gi_dm_X13_scan_0 : GoodIn ow_dm_X13_scan (wsV RX13 358 RX13 yX13_charAt ow_dm_X13_charAt) := goodIn_app (goodIn_of _ (by decide +kernel)) (fun w h => ⟨List.mem_cons_of_mem _ (List.mem_append_right _ (List.mem_append_right _ (List.mem_append_left _ h))), gd_dm_X13_charAt w h⟩)
theorem gi_dm_X13_scan_1 : GoodIn ow_dm_X13_scan (wsS RX13 351 yX13_isDigit ow_dm_X13_isDigit) := goodIn_app (goodIn_of _ (by decide +kernel)) (fun w h => ⟨List.mem_cons_of_mem _ (List.mem_append_right _ (List.mem_append_right _ (List.mem_append_right _ (List.mem_append_left _ h)))), gd_dm_X13_isDigit w h⟩)
theorem gi_dm_X13_scan_2 : GoodIn ow_dm_X13_scan (wsS RX13 362 yX13_isPlain ow_dm_X13_isPlain) := goodIn_app (goodIn_of _ (by decide +kernel)) (fun w h => ⟨List.mem_cons_of_mem _ (List.mem_append_right _ (List.mem_append_right _ (List.mem_append_right _ (List.mem_append_right _ (List.mem_append_left _ h))))), gd_dm_X13_isPlain w h⟩)
theorem gi_dm_X13_scan_3 : GoodIn ow_dm_X13_scan (wsV RX13 383 RX13 yX13_bad ow_dm_X13_bad) := goodIn_app (goodIn_of _ (by decide +kernel)) (fun w h => ⟨List.mem_cons_of_mem _ (List.mem_append_right _ (List.mem_append_right _ (List.mem_append_right _ (List.mem_append_right _ (List.mem_append_right _ (List.mem_append_left _ h)))))), gd_dm_X13_bad w h⟩)
theorem gi_dm_X13_scan_4 : GoodIn ow_dm_X13_scan (wsV RX13 389 RX13 yX13_quote ow_dm_X13_quote) := goodIn_app (goodIn_of _ (by decide +kernel)) (fun w h => ⟨List.mem_cons_of_mem _ (List.mem_append_right _ (List.mem_append_right _ (List.mem_append_right _ (List.mem_append_right _ (List.mem_append_right _ (List.mem_append_right _ (List.mem_append_left _ h))))))), gd_dm_X13_quote w h⟩)
theorem gi_dm_X13_scan_5 : GoodIn ow_dm_X13_scan (wsV RX13 386 RX13 yX13_character ow_dm_X13_character) := goodIn_app (goodIn_of _ (by decide +kernel)) (fun w h => ⟨List.mem_cons_of_mem _ (List.mem_append_right _ (List.mem_append_right _ (List.mem_append_right _ (List.mem_append_right _ (List.mem_append_right _ (List.mem_append_right _ (List.mem_append_right _ (List.mem_append_left _ h)))))))), gd_dm_X13_character w h⟩)
theorem gi_dm_X13_scan_6 : GoodIn ow_dm_X13_scan (wsV RX13 377 RX13 yX13_plain ow_dm_X13_plain) := goodIn_app (goodIn_of _ (by decide +kernel)) (fun w h => ⟨List.mem_cons_of_mem _ (List.mem_append_right _ (List.mem_append_right _ (List.mem_append_right _ (List.mem_append_right _ (List.mem_append_right _ (List.mem_append_right _ (List.mem_append_right _ (List.mem_append_right _ (List.mem_append_left _ h))))))))), gd_dm_X13_plain w h⟩)
theorem gi_dm_X13_scan_7 : GoodIn ow_dm_X13_scan (wsV RX13 380 RX13 yX13_digits ow_dm_X13_digits) := goodIn_app (goodIn_of _ (by decide +kernel)) (fun w h => ⟨List.mem_cons_of_mem _ (List.mem_append_right _ (List.mem_append_right _ (List.mem_append_right _ (List.mem_append_right _ (List.mem_append_right _ (List.mem_append_right _ (List.mem_append_right _ (List.mem_append_right _ (List.mem_append_right _ (List.mem_append_left _ h)))))))))), gd_dm_X13_digits w h⟩)
def dj_X13_scan_26 (p : Program) (l : Launch) (e : Env) (s : State) (m : MethodId) (args : Array Value) (below : List Frame) (meth : Method) (c : Code) (Q : State → Prop) (A : Nat → Prop) (dC : Nat → ClassId) (dI : Nat → Nat → Nat) (a : Nat → Nat) (ac : Nat → ClassId) (g : (St) → Option (St)) (r : St) : Prop := ∀ (s0 : St) (H : Heap) (locs : List Loc) (ls : Array Slot), g s0 = some r → va_P (dC, dI) vwCl (dw_X13 a ac s0) H → va_D A (dw_X13 a ac s0) → va_S A s.heap H locs → lv_has ls 3 [(0, .ref (a 0))] → W p l e (headSpec ow_dm_X13_scan ({ frames := 4, cells := 0, slots := 0, locals := 92 })).room s m args below meth c H locs 0 0 Q (F0 m 26 ls [])
def dj_X13_scan_348 (p : Program) (l : Launch) (e : Env) (s : State) (m : MethodId) (args : Array Value) (below : List Frame) (meth : Method) (c : Code) (Q : State → Prop) (A : Nat → Prop) (dC : Nat → ClassId) (dI : Nat → Nat → Nat) (a : Nat → Nat) (ac : Nat → ClassId) (g : (St) → Option (St)) (r : St) : Prop := ∀ (s0 : St) (H : Heap) (locs : List Loc) (ls : Array Slot), g s0 = some r → va_P (dC, dI) vwCl (dw_X13 a ac s0) H → va_D A (dw_X13 a ac s0) → va_S A s.heap H locs → lv_has ls 3 [(0, .ref (a 0))] → W p l e (headSpec ow_dm_X13_scan ({ frames := 4, cells := 0, slots := 0, locals := 92 })).room s m args below meth c H locs 0 0 Q (F0 m 348 ls [])
def dj_X13_scan_78 (p : Program) (l : Launch) (e : Env) (s : State) (m : MethodId) (args : Array Value) (below : List Frame) (meth : Method) (c : Code) (Q : State → Prop) (A : Nat → Prop) (dC : Nat → ClassId) (dI : Nat → Nat → Nat) (a : Nat → Nat) (ac : Nat → ClassId) (g : (St) → Option (St)) (r : St) : Prop := ∀ (s0 : St) (H : Heap) (locs : List Loc) (ls : Array Slot), g s0 = some r → va_P (dC, dI) vwCl (dw_X13 a ac s0) H → va_D A (dw_X13 a ac s0) → va_S A s.heap H locs → lv_has ls 3 [(0, .ref (a 0))] → W p l e (headSpec ow_dm_X13_scan ({ frames := 4, cells := 0, slots := 0, locals := 92 })).room s m args below meth c H locs 0 0 Q (F0 m 78 ls [])
def dj_X13_scan_217 (p : Program) (l : Launch) (e : Env) (s : State) (m : MethodId) (args : Array Value) (below : List Frame) (meth : Method) (c : Code) (Q : State → Prop) (A : Nat → Prop) (dC : Nat → ClassId) (dI : Nat → Nat → Nat) (a : Nat → Nat) (ac : Nat → ClassId) (g : Int32 → Int32 → (St) → Option (St)) (r : St) : Prop := ∀ (x1 : Int32) (y1 : Int32) (s0 : St) (H : Heap) (locs : List Loc) (ls : Array Slot), g x1 y1 s0 = some r → va_P (dC, dI) vwCl (dw_X13 a ac s0) H → va_D A (dw_X13 a ac s0) → va_S A s.heap H locs → lv_has ls 3 [(0, .ref (a 0)), (1, .int x1)] → W p l e (headSpec ow_dm_X13_scan ({ frames := 4, cells := 0, slots := 0, locals := 92 })).room s m args below meth c H locs 0 0 Q (F0 m 217 ls [.int y1, .ref (a 0)])
def dj_X13_scan_203 (p : Program) (l : Launch) (e : Env) (s : State) (m : MethodId) (args : Array Value) (below : List Frame) (meth : Method) (c : Code) (Q : State → Prop) (A : Nat → Prop) (dC : Nat → ClassId) (dI : Nat → Nat → Nat) (a : Nat → Nat) (ac : Nat → ClassId) (g : Int32 → (St) → Option (St)) (r : St) : Prop := ∀ (x1 : Int32) (s0 : St) (H : Heap) (locs : List Loc) (ls : Array Slot), g x1 s0 = some r → va_P (dC, dI) vwCl (dw_X13 a ac s0) H → va_D A (dw_X13 a ac s0) → va_S A s.heap H locs → lv_has ls 3 [(0, .ref (a 0)), (1, .int x1)] → W p l e (headSpec ow_dm_X13_scan ({ frames := 4, cells := 0, slots := 0, locals := 92 })).room s m args below meth c H locs 0 0 Q (F0 m 203 ls [])
def dj_X13_scan_334 (p : Program) (l : Launch) (e : Env) (s : State) (m : MethodId) (args : Array Value) (below : List Frame) (meth : Method) (c : Code) (Q : State → Prop) (A : Nat → Prop) (dC : Nat → ClassId) (dI : Nat → Nat → Nat) (a : Nat → Nat) (ac : Nat → ClassId) (g : Int32 → Int32 → (St) → Option (St)) (r : St) : Prop := ∀ (x1 : Int32) (y0 : Int32) (s0 : St) (H : Heap) (locs : List Loc) (ls : Array Slot), g x1 y0 s0 = some r → va_P (dC, dI) vwCl (dw_X13 a ac s0) H → va_D A (dw_X13 a ac s0) → va_S A s.heap H locs → lv_has ls 3 [(0, .ref (a 0)), (1, .int x1)] → W p l e (headSpec ow_dm_X13_scan ({ frames := 4, cells := 0, slots := 0, locals := 92 })).room s m args below meth c H locs 0 0 Q (F0 m 334 ls [.int y0])
def dj_X13_scan_329 (p : Program) (l : Launch) (e : Env) (s : State) (m : MethodId) (args : Array Value) (below : List Frame) (meth : Method) (c : Code) (Q : State → Prop) (A : Nat → Prop) (dC : Nat → ClassId) (dI : Nat → Nat → Nat) (a : Nat → Nat) (ac : Nat → ClassId) (g : Int32 → (St) → Option (St)) (r : St) : Prop := ∀ (x1 : Int32) (s0 : St) (H : Heap) (locs : List Loc) (ls : Array Slot), g x1 s0 = some r → va_P (dC, dI) vwCl (dw_X13 a ac s0) H → va_D A (dw_X13 a ac s0) → va_S A s.heap H locs → lv_has ls 3 [(0, .ref (a 0)), (1, .int x1)] → W p l e (headSpec ow_dm_X13_scan ({ frames := 4, cells := 0, slots := 0, locals := 92 })).room s m args below meth c H locs 0 0 Q (F0 m 329 ls [])
def dj_X13_scan_0 (p : Program) (l : Launch) (e : Env) (s : State) (m : MethodId) (args : Array Value) (below : List Frame) (meth : Method) (c : Code) (Q : State → Prop) (A : Nat → Prop) (dC : Nat → ClassId) (dI : Nat → Nat → Nat) (a : Nat → Nat) (ac : Nat → ClassId) (g : (St) → Option (St)) (r : St) : Prop := ∀ (s0 : St) (H : Heap) (locs : List Loc) (ls : Array Slot), g s0 = some r → va_P (dC, dI) vwCl (dw_X13 a ac s0) H → va_D A (dw_X13 a ac s0) → va_S A s.heap H locs → lv_has ls 3 [(0, .ref (a 0))] → W p l e (headSpec ow_dm_X13_scan ({ frames := 4, cells := 0, slots := 0, locals := 92 })).room s m args below meth c H locs 0 0 Q (F0 m 0 ls [])
set_option maxHeartbeats 40000000 in
set_option maxRecDepth 100000 in
theorem db_X13_scan_26 {p : Program} {l : Launch} {e : Env} {s : State} {m : MethodId} {args : Array Value} {below : List Frame} {meth : Method} {c : Code} {Q : State → Prop} {A : Nat → Prop} {dC : Nat → ClassId} {dI : Nat → Nat → Nat} {a : Nat → Nat} {ac : Nat → ClassId} {n : Nat} {r : St} (C : nd_C p l s m args c A (dC, dI) cX13_scan 3 RX13 ow_dm_X13_scan (dk_X13 ac)) (K : nd_Kv p l e (headSpec ow_dm_X13_scan ({ frames := 4, cells := 0, slots := 0, locals := 92 })).room s m args below meth c Q A (dC, dI) cX13_scan (St) (dw_X13 a ac) r) {g0 : (St) → Option (St)} (J0 : dj_X13_scan_0 p l e s m args below meth c Q A dC dI a ac g0 r) : dj_X13_scan_26 p l e s m args below meth c Q A dC dI a ac (df_X13_scan_26 n g0) r := by
  obtain ⟨hlt, hx, hb, hml, hown, hts, hN, hA, hK⟩ := id C
  intro s0 H locs ls h hP hD hS hl
  unfold df_X13_scan_26 at h
  refine lv_aload_n hx hb dX13_scan_26 rfl (lv_at hl 0 rfl) ?_
  refine lv_dup hx hb dX13_scan_27 rfl ?_
  refine va_get (D := (dC, dI)) (ci := 14) (v := .int (sI s0 7)) (C := RX13) (T := TX13) (N := 37) hx hb hts hi_dm_X13_scan_X13 hown hK hP 0 rfl rfl 16 (by decide) (hts (.fieldLink RX13 374 "TimeMachineModel$Assembler" "at" "I") (List.mem_of_getElem? (i := 1) rfl)) (fun _ h9 => h9) rfl dX13_scan_28 ?_
  refine lv_iconst (v := 1) hx hb dX13_scan_31 (by decide) ?_
  refine lv_iadd hx hb dX13_scan_32 ?_
  refine va_put (D := (dC, dI)) (ci := 14) (v := .int ((sI s0 7) + 1)) (ty := .int) (C := RX13) (T := TX13) (N := 37) hx hb hts hi_dm_X13_scan_X13 tyX13 tyX13_ok nmX13 hown hK hP hD hS 0 rfl rfl 16 (by decide) (hts (.fieldLink RX13 374 "TimeMachineModel$Assembler" "at" "I") (List.mem_of_getElem? (i := 1) rfl)) (fun _ h9 => h9) rfl (by decide +kernel) rfl rfl (Nat.le_of_ble_eq_true rfl) dX13_scan_33 (fun H locs hP hD hS => ?_)
  obtain ⟨s5, es5, h⟩ := nd_let_e h
  have hP : va_P (dC, dI) vwCl (dw_X13 a ac s5) H := by rw [es5]; exact hP
  have hD : va_D A (dw_X13 a ac s5) := by rw [es5]; exact hD
  refine lv_goto (tgt := 0) hx hb dX13_scan_36 (by decide) ?_
  exact (J0)  s5 _ _ _ h hP hD hS (lv_sub hl [0] rfl)
set_option maxHeartbeats 40000000 in
set_option maxRecDepth 100000 in
theorem db_X13_scan_348 {p : Program} {l : Launch} {e : Env} {s : State} {m : MethodId} {args : Array Value} {below : List Frame} {meth : Method} {c : Code} {Q : State → Prop} {A : Nat → Prop} {dC : Nat → ClassId} {dI : Nat → Nat → Nat} {a : Nat → Nat} {ac : Nat → ClassId} {n : Nat} {r : St} (C : nd_C p l s m args c A (dC, dI) cX13_scan 3 RX13 ow_dm_X13_scan (dk_X13 ac)) (K : nd_Kv p l e (headSpec ow_dm_X13_scan ({ frames := 4, cells := 0, slots := 0, locals := 92 })).room s m args below meth c Q A (dC, dI) cX13_scan (St) (dw_X13 a ac) r) : dj_X13_scan_348 p l e s m args below meth c Q A dC dI a ac (df_X13_scan_348 n) r := by
  obtain ⟨hlt, hx, hb, hml, hown, hts, hN, hA, hK⟩ := id C
  intro s0 H locs ls h hP hD hS hl
  unfold df_X13_scan_348 at h
  refine lv_aload_n hx hb dX13_scan_348 rfl (lv_at hl 0 rfl) ?_
  refine lv_aload_n hx hb dX13_scan_349 rfl (lv_at hl 0 rfl) ?_
  refine va_get (D := (dC, dI)) (ci := 14) (v := .int (sI s0 10)) (C := RX13) (T := TX13) (N := 37) hx hb hts hi_dm_X13_scan_X13 hown hK hP 0 rfl rfl 19 (by decide) (hts (.fieldLink RX13 371 "TimeMachineModel$Assembler" "to" "I") (List.mem_of_getElem? (i := 7) rfl)) (fun _ h9 => h9) rfl dX13_scan_350 ?_
  refine va_put (D := (dC, dI)) (ci := 14) (v := .int (sI s0 10)) (ty := .int) (C := RX13) (T := TX13) (N := 37) hx hb hts hi_dm_X13_scan_X13 tyX13 tyX13_ok nmX13 hown hK hP hD hS 0 rfl rfl 16 (by decide) (hts (.fieldLink RX13 374 "TimeMachineModel$Assembler" "at" "I") (List.mem_of_getElem? (i := 1) rfl)) (fun _ h9 => h9) rfl (by decide +kernel) rfl rfl (Nat.le_of_ble_eq_true rfl) dX13_scan_353 (fun H locs hP hD hS => ?_)
  obtain ⟨s18, es18, h⟩ := nd_let_e h
  have hP : va_P (dC, dI) vwCl (dw_X13 a ac s18) H := by rw [es18]; exact hP
  have hD : va_D A (dw_X13 a ac s18) := by rw [es18]; exact hD
  exact K _ _ _ _ _ dX13_scan_356 (Option.some.inj h).symm hP hD hS
set_option maxHeartbeats 40000000 in
set_option maxRecDepth 100000 in
theorem db_X13_scan_78 {p : Program} {l : Launch} {e : Env} {s : State} {m : MethodId} {args : Array Value} {below : List Frame} {meth : Method} {c : Code} {Q : State → Prop} {A : Nat → Prop} {dC : Nat → ClassId} {dI : Nat → Nat → Nat} {a : Nat → Nat} {ac : Nat → ClassId} {n : Nat} {r : St} (C : nd_C p l s m args c A (dC, dI) cX13_scan 3 RX13 ow_dm_X13_scan (dk_X13 ac)) (K : nd_Kv p l e (headSpec ow_dm_X13_scan ({ frames := 4, cells := 0, slots := 0, locals := 92 })).room s m args below meth c Q A (dC, dI) cX13_scan (St) (dw_X13 a ac) r) : dj_X13_scan_78 p l e s m args below meth c Q A dC dI a ac (df_X13_scan_78 n) r := by
  obtain ⟨hlt, hx, hb, hml, hown, hts, hN, hA, hK⟩ := id C
  intro s0 H locs ls h hP hD hS hl
  unfold df_X13_scan_78 at h
  refine lv_aload_n hx hb dX13_scan_78 rfl (lv_at hl 0 rfl) ?_
  refine lv_iconst (v := 0) hx hb dX13_scan_79 (by decide) ?_
  refine va_put (D := (dC, dI)) (ci := 14) (v := .int 0) (ty := .int) (C := RX13) (T := TX13) (N := 37) hx hb hts hi_dm_X13_scan_X13 tyX13 tyX13_ok nmX13 hown hK hP hD hS 0 rfl rfl 17 (by decide) (hts (.fieldLink RX13 365 "TimeMachineModel$Assembler" "token" "I") (List.mem_of_getElem? (i := 8) rfl)) (fun _ h9 => h9) rfl (by decide +kernel) rfl rfl (Nat.le_of_ble_eq_true rfl) dX13_scan_80 (fun H locs hP hD hS => ?_)
  obtain ⟨s16, es16, h⟩ := nd_let_e h
  have hP : va_P (dC, dI) vwCl (dw_X13 a ac s16) H := by rw [es16]; exact hP
  have hD : va_D A (dw_X13 a ac s16) := by rw [es16]; exact hD
  refine lv_aload_n hx hb dX13_scan_83 rfl (lv_at hl 0 rfl) ?_
  refine lv_aload_n hx hb dX13_scan_84 rfl (lv_at hl 0 rfl) ?_
  refine va_get (D := (dC, dI)) (ci := 14) (v := .int (sI s16 7)) (C := RX13) (T := TX13) (N := 37) hx hb hts hi_dm_X13_scan_X13 hown hK hP 0 rfl rfl 16 (by decide) (hts (.fieldLink RX13 374 "TimeMachineModel$Assembler" "at" "I") (List.mem_of_getElem? (i := 1) rfl)) (fun _ h9 => h9) rfl dX13_scan_85 ?_
  refine va_put (D := (dC, dI)) (ci := 14) (v := .int (sI s16 7)) (ty := .int) (C := RX13) (T := TX13) (N := 37) hx hb hts hi_dm_X13_scan_X13 tyX13 tyX13_ok nmX13 hown hK hP hD hS 0 rfl rfl 19 (by decide) (hts (.fieldLink RX13 371 "TimeMachineModel$Assembler" "to" "I") (List.mem_of_getElem? (i := 7) rfl)) (fun _ h9 => h9) rfl (by decide +kernel) rfl rfl (Nat.le_of_ble_eq_true rfl) dX13_scan_88 (fun H locs hP hD hS => ?_)
  obtain ⟨s17, es17, h⟩ := nd_let_e h
  have hP : va_P (dC, dI) vwCl (dw_X13 a ac s17) H := by rw [es17]; exact hP
  have hD : va_D A (dw_X13 a ac s17) := by rw [es17]; exact hD
  refine lv_goto (tgt := 348) hx hb dX13_scan_91 (by decide) ?_
  exact (db_X13_scan_348 C K)  s17 _ _ _ h hP hD hS (lv_sub hl [0] rfl)
set_option maxHeartbeats 40000000 in
set_option maxRecDepth 100000 in
theorem db_X13_scan_217 {p : Program} {l : Launch} {e : Env} {s : State} {m : MethodId} {args : Array Value} {below : List Frame} {meth : Method} {c : Code} {Q : State → Prop} {A : Nat → Prop} {dC : Nat → ClassId} {dI : Nat → Nat → Nat} {a : Nat → Nat} {ac : Nat → ClassId} {n : Nat} {r : St} (C : nd_C p l s m args c A (dC, dI) cX13_scan 3 RX13 ow_dm_X13_scan (dk_X13 ac)) (K : nd_Kv p l e (headSpec ow_dm_X13_scan ({ frames := 4, cells := 0, slots := 0, locals := 92 })).room s m args below meth c Q A (dC, dI) cX13_scan (St) (dw_X13 a ac) r) : dj_X13_scan_217 p l e s m args below meth c Q A dC dI a ac (df_X13_scan_217 n) r := by
  obtain ⟨hlt, hx, hb, hml, hown, hts, hN, hA, hK⟩ := id C
  intro x1 y1 s0 H locs ls h hP hD hS hl
  unfold df_X13_scan_217 at h
  refine va_put (D := (dC, dI)) (ci := 14) (v := .int y1) (ty := .int) (C := RX13) (T := TX13) (N := 37) hx hb hts hi_dm_X13_scan_X13 tyX13 tyX13_ok nmX13 hown hK hP hD hS 0 rfl rfl 17 (by decide) (hts (.fieldLink RX13 365 "TimeMachineModel$Assembler" "token" "I") (List.mem_of_getElem? (i := 8) rfl)) (fun _ h9 => h9) rfl (by decide +kernel) rfl rfl (Nat.le_of_ble_eq_true rfl) dX13_scan_217 (fun H locs hP hD hS => ?_)
  obtain ⟨s32, es32, h⟩ := nd_let_e h
  have hP : va_P (dC, dI) vwCl (dw_X13 a ac s32) H := by rw [es32]; exact hP
  have hD : va_D A (dw_X13 a ac s32) := by rw [es32]; exact hD
  refine lv_aload_n hx hb dX13_scan_220 rfl (lv_at hl 0 rfl) ?_
  refine lv_aload_n hx hb dX13_scan_221 rfl (lv_at hl 0 rfl) ?_
  refine va_get (D := (dC, dI)) (ci := 14) (v := .int (sI s32 7)) (C := RX13) (T := TX13) (N := 37) hx hb hts hi_dm_X13_scan_X13 hown hK hP 0 rfl rfl 16 (by decide) (hts (.fieldLink RX13 374 "TimeMachineModel$Assembler" "at" "I") (List.mem_of_getElem? (i := 1) rfl)) (fun _ h9 => h9) rfl dX13_scan_222 ?_
  refine lv_iconst (v := 2) hx hb dX13_scan_225 (by decide) ?_
  refine lv_iadd hx hb dX13_scan_226 ?_
  refine va_put (D := (dC, dI)) (ci := 14) (v := .int ((sI s32 7) + 2)) (ty := .int) (C := RX13) (T := TX13) (N := 37) hx hb hts hi_dm_X13_scan_X13 tyX13 tyX13_ok nmX13 hown hK hP hD hS 0 rfl rfl 19 (by decide) (hts (.fieldLink RX13 371 "TimeMachineModel$Assembler" "to" "I") (List.mem_of_getElem? (i := 7) rfl)) (fun _ h9 => h9) rfl (by decide +kernel) rfl rfl (Nat.le_of_ble_eq_true rfl) dX13_scan_227 (fun H locs hP hD hS => ?_)
  obtain ⟨s33, es33, h⟩ := nd_let_e h
  have hP : va_P (dC, dI) vwCl (dw_X13 a ac s33) H := by rw [es33]; exact hP
  have hD : va_D A (dw_X13 a ac s33) := by rw [es33]; exact hD
  refine lv_aload_n hx hb dX13_scan_230 rfl (lv_at hl 0 rfl) ?_
  refine lv_aload_n hx hb dX13_scan_231 rfl (lv_at hl 0 rfl) ?_
  refine va_get (D := (dC, dI)) (ci := 14) (v := .int (sI s33 7)) (C := RX13) (T := TX13) (N := 37) hx hb hts hi_dm_X13_scan_X13 hown hK hP 0 rfl rfl 16 (by decide) (hts (.fieldLink RX13 374 "TimeMachineModel$Assembler" "at" "I") (List.mem_of_getElem? (i := 1) rfl)) (fun _ h9 => h9) rfl dX13_scan_232 ?_
  refine lv_iconst (v := 1) hx hb dX13_scan_235 (by decide) ?_
  refine lv_iadd hx hb dX13_scan_236 ?_
  obtain ⟨q34, s35, hq, h⟩ := nd_b2_e h
  have hPc := hP
  have hDc := hD
  have hKc := hK
  have hFc := nd_rs hD hS hA
  refine nd_cVi (As := [.int ((sI s33 7) + 1)]) (rest := []) (q := q34) (w' := dw_X13 a ac s35) ⟨hx, hb, hml, hown, hts⟩ (fun sz => dm_X13_charAt l hlt dC dI a ac n (((sI s33 7) + 1)) s33 hq sz) (cwV 1 hts gi_dm_X13_scan_0 rfl rfl rfl (by decide +kernel) ⟨Nat.le_of_ble_eq_true rfl, Nat.le_of_ble_eq_true rfl⟩) hPc hDc hKc hS hA hN (va_recv hKc hPc (ci := 14) (q0 := 0) rfl rfl) rfl hl.1 rfl (Nat.le_of_ble_eq_true rfl) dX13_scan_237 (fun H locs hP1 hD1 hk1 hS => ?_)
  have hP := hP1
  have hD := hD1.weaken (fun k q _ h => hFc q.1 h)
  refine lv_iload_n hx hb dX13_scan_240 rfl (lv_at hl 1 rfl) ?_
  refine lv_icmp_eq (tgt := 348) hx hb dX13_scan_241 (by decide) (fun c37 => ?_) (fun c37 => ?_)
  · have h := nd_pos h c37
    exact (db_X13_scan_348 C K)  s35 _ _ _ h hP hD hS (lv_sub hl [0] rfl)
  · have h := nd_neg h c37
    refine lv_aload_n hx hb dX13_scan_244 rfl (lv_at hl 0 rfl) ?_
    obtain ⟨s39, hq, h⟩ := nd_b1_e h
    have hPc := hP
    have hDc := hD
    have hKc := hK
    have hFc := nd_rs hD hS hA
    refine nd_cVv (As := []) (rest := []) (w' := dw_X13 a ac s39) ⟨hx, hb, hml, hown, hts⟩ (fun sz => dm_X13_bad l hlt dC dI a ac n  s35 hq sz) (cwV 0 hts gi_dm_X13_scan_3 rfl rfl rfl (by decide +kernel) ⟨Nat.le_of_ble_eq_true rfl, Nat.le_of_ble_eq_true rfl⟩) hPc hDc hKc hS hA hN (va_recv hKc hPc (ci := 14) (q0 := 0) rfl rfl) rfl hl.1 rfl (Nat.le_of_ble_eq_true rfl) dX13_scan_245 (fun H locs hP1 hD1 hk1 hS => ?_)
    have hP := hP1
    have hD := hD1.weaken (fun k q _ h => hFc q.1 h)
    refine lv_goto (tgt := 348) hx hb dX13_scan_248 (by decide) ?_
    exact (db_X13_scan_348 C K)  s39 _ _ _ h hP hD hS (lv_sub hl [0] rfl)
set_option maxHeartbeats 40000000 in
set_option maxRecDepth 100000 in
theorem db_X13_scan_203 {p : Program} {l : Launch} {e : Env} {s : State} {m : MethodId} {args : Array Value} {below : List Frame} {meth : Method} {c : Code} {Q : State → Prop} {A : Nat → Prop} {dC : Nat → ClassId} {dI : Nat → Nat → Nat} {a : Nat → Nat} {ac : Nat → ClassId} {n : Nat} {r : St} (C : nd_C p l s m args c A (dC, dI) cX13_scan 3 RX13 ow_dm_X13_scan (dk_X13 ac)) (K : nd_Kv p l e (headSpec ow_dm_X13_scan ({ frames := 4, cells := 0, slots := 0, locals := 92 })).room s m args below meth c Q A (dC, dI) cX13_scan (St) (dw_X13 a ac) r) : dj_X13_scan_203 p l e s m args below meth c Q A dC dI a ac (df_X13_scan_203 n) r := by
  obtain ⟨hlt, hx, hb, hml, hown, hts, hN, hA, hK⟩ := id C
  intro x1 s0 H locs ls h hP hD hS hl
  unfold df_X13_scan_203 at h
  refine lv_aload_n hx hb dX13_scan_203 rfl (lv_at hl 0 rfl) ?_
  refine lv_iload_n hx hb dX13_scan_204 rfl (lv_at hl 1 rfl) ?_
  refine lv_bipush (v := 60) hx hb dX13_scan_205 (by decide) ?_
  refine lv_icmp_ne (tgt := 215) hx hb dX13_scan_207 (by decide) (fun c31 => ?_) (fun c31 => ?_)
  · have h := nd_neg h c31
    refine lv_bipush (v := 7) hx hb dX13_scan_215 (by decide) ?_
    exact (db_X13_scan_217 C K) (x1) (7) s0 _ _ _ h hP hD hS (lv_sub hl [0, 1] rfl)
  · have h := nd_pos h c31
    refine lv_bipush (v := 6) hx hb dX13_scan_210 (by decide) ?_
    refine lv_goto (tgt := 217) hx hb dX13_scan_212 (by decide) ?_
    exact (db_X13_scan_217 C K) (x1) (6) s0 _ _ _ h hP hD hS (lv_sub hl [0, 1] rfl)
set_option maxHeartbeats 40000000 in
set_option maxRecDepth 100000 in
theorem db_X13_scan_334 {p : Program} {l : Launch} {e : Env} {s : State} {m : MethodId} {args : Array Value} {below : List Frame} {meth : Method} {c : Code} {Q : State → Prop} {A : Nat → Prop} {dC : Nat → ClassId} {dI : Nat → Nat → Nat} {a : Nat → Nat} {ac : Nat → ClassId} {n : Nat} {r : St} (C : nd_C p l s m args c A (dC, dI) cX13_scan 3 RX13 ow_dm_X13_scan (dk_X13 ac)) (K : nd_Kv p l e (headSpec ow_dm_X13_scan ({ frames := 4, cells := 0, slots := 0, locals := 92 })).room s m args below meth c Q A (dC, dI) cX13_scan (St) (dw_X13 a ac) r) : dj_X13_scan_334 p l e s m args below meth c Q A dC dI a ac (df_X13_scan_334 n) r := by
  obtain ⟨hlt, hx, hb, hml, hown, hts, hN, hA, hK⟩ := id C
  intro x1 y0 s0 H locs ls h hP hD hS hl
  unfold df_X13_scan_334 at h
  refine lv_istore_n (lv' := [(2, .int y0), (0, .ref (a 0)), (1, .int x1)]) hx hb dX13_scan_334 rfl hl (by decide) rfl (fun ls hl => ?_)
  refine lv_aload_n hx hb dX13_scan_335 rfl (lv_at hl 1 rfl) ?_
  refine lv_iload_n hx hb dX13_scan_336 rfl (lv_at hl 2 rfl) ?_
  refine va_put (D := (dC, dI)) (ci := 14) (v := .int x1) (ty := .int) (C := RX13) (T := TX13) (N := 37) hx hb hts hi_dm_X13_scan_X13 tyX13 tyX13_ok nmX13 hown hK hP hD hS 0 rfl rfl 17 (by decide) (hts (.fieldLink RX13 365 "TimeMachineModel$Assembler" "token" "I") (List.mem_of_getElem? (i := 8) rfl)) (fun _ h9 => h9) rfl (by decide +kernel) rfl rfl (Nat.le_of_ble_eq_true rfl) dX13_scan_337 (fun H locs hP hD hS => ?_)
  obtain ⟨s43, es43, h⟩ := nd_let_e h
  have hP : va_P (dC, dI) vwCl (dw_X13 a ac s43) H := by rw [es43]; exact hP
  have hD : va_D A (dw_X13 a ac s43) := by rw [es43]; exact hD
  refine lv_iload_n hx hb dX13_scan_340 rfl (lv_at hl 0 rfl) ?_
  refine lv_if_ne (tgt := 348) hx hb dX13_scan_341 (by decide) (fun c44 => ?_) (fun c44 => ?_)
  · have h := nd_neg h c44
    exact (db_X13_scan_348 C K)  s43 _ _ _ h hP hD hS (lv_sub hl [1] rfl)
  · have h := nd_pos h c44
    refine lv_aload_n hx hb dX13_scan_344 rfl (lv_at hl 1 rfl) ?_
    obtain ⟨s46, hq, h⟩ := nd_b1_e h
    have hPc := hP
    have hDc := hD
    have hKc := hK
    have hFc := nd_rs hD hS hA
    refine nd_cVv (As := []) (rest := []) (w' := dw_X13 a ac s46) ⟨hx, hb, hml, hown, hts⟩ (fun sz => dm_X13_bad l hlt dC dI a ac n  s43 hq sz) (cwV 0 hts gi_dm_X13_scan_3 rfl rfl rfl (by decide +kernel) ⟨Nat.le_of_ble_eq_true rfl, Nat.le_of_ble_eq_true rfl⟩) hPc hDc hKc hS hA hN (va_recv hKc hPc (ci := 14) (q0 := 0) rfl rfl) rfl hl.1 rfl (Nat.le_of_ble_eq_true rfl) dX13_scan_345 (fun H locs hP1 hD1 hk1 hS => ?_)
    have hP := hP1
    have hD := hD1.weaken (fun k q _ h => hFc q.1 h)
    exact (db_X13_scan_348 C K)  s46 _ _ _ h hP hD hS (lv_sub hl [1] rfl)
set_option maxHeartbeats 40000000 in
set_option maxRecDepth 100000 in
theorem db_X13_scan_329 {p : Program} {l : Launch} {e : Env} {s : State} {m : MethodId} {args : Array Value} {below : List Frame} {meth : Method} {c : Code} {Q : State → Prop} {A : Nat → Prop} {dC : Nat → ClassId} {dI : Nat → Nat → Nat} {a : Nat → Nat} {ac : Nat → ClassId} {n : Nat} {r : St} (C : nd_C p l s m args c A (dC, dI) cX13_scan 3 RX13 ow_dm_X13_scan (dk_X13 ac)) (K : nd_Kv p l e (headSpec ow_dm_X13_scan ({ frames := 4, cells := 0, slots := 0, locals := 92 })).room s m args below meth c Q A (dC, dI) cX13_scan (St) (dw_X13 a ac) r) : dj_X13_scan_329 p l e s m args below meth c Q A dC dI a ac (df_X13_scan_329 n) r := by
  obtain ⟨hlt, hx, hb, hml, hown, hts, hN, hA, hK⟩ := id C
  intro x1 s0 H locs ls h hP hD hS hl
  unfold df_X13_scan_329 at h
  refine lv_iconst (v := 1) hx hb dX13_scan_329 (by decide) ?_
  refine lv_goto (tgt := 334) hx hb dX13_scan_330 (by decide) ?_
  exact (db_X13_scan_334 C K) (x1) (1) s0 _ _ _ h hP hD hS (lv_sub hl [0, 1] rfl)
set_option maxHeartbeats 40000000 in
set_option maxRecDepth 100000 in
theorem dB_X13_scan_0 {p : Program} {l : Launch} {e : Env} {s : State} {m : MethodId} {args : Array Value} {below : List Frame} {meth : Method} {c : Code} {Q : State → Prop} {A : Nat → Prop} {dC : Nat → ClassId} {dI : Nat → Nat → Nat} {a : Nat → Nat} {ac : Nat → ClassId} {n : Nat} {r : St} (C : nd_C p l s m args c A (dC, dI) cX13_scan 3 RX13 ow_dm_X13_scan (dk_X13 ac)) (K : nd_Kv p l e (headSpec ow_dm_X13_scan ({ frames := 4, cells := 0, slots := 0, locals := 92 })).room s m args below meth c Q A (dC, dI) cX13_scan (St) (dw_X13 a ac) r) {g0 : (St) → Option (St)} (J0 : dj_X13_scan_0 p l e s m args below meth c Q A dC dI a ac g0 r) : dj_X13_scan_0 p l e s m args below meth c Q A dC dI a ac (dF_X13_scan_0 n g0) r := by
  obtain ⟨hlt, hx, hb, hml, hown, hts, hN, hA, hK⟩ := id C
  intro s0 H locs ls h hP hD hS hl
  unfold dF_X13_scan_0 at h
  refine lv_aload_n hx hb dX13_scan_0 rfl (lv_at hl 0 rfl) ?_
  refine lv_aload_n hx hb dX13_scan_1 rfl (lv_at hl 0 rfl) ?_
  refine va_get (D := (dC, dI)) (ci := 14) (v := .int (sI s0 7)) (C := RX13) (T := TX13) (N := 37) hx hb hts hi_dm_X13_scan_X13 hown hK hP 0 rfl rfl 16 (by decide) (hts (.fieldLink RX13 374 "TimeMachineModel$Assembler" "at" "I") (List.mem_of_getElem? (i := 1) rfl)) (fun _ h9 => h9) rfl dX13_scan_2 ?_
  obtain ⟨q1, s2, hq, h⟩ := nd_b2_e h
  have hPc := hP
  have hDc := hD
  have hKc := hK
  have hFc := nd_rs hD hS hA
  refine nd_cVi (As := [.int (sI s0 7)]) (rest := []) (q := q1) (w' := dw_X13 a ac s2) ⟨hx, hb, hml, hown, hts⟩ (fun sz => dm_X13_charAt l hlt dC dI a ac n ((sI s0 7)) s0 hq sz) (cwV 1 hts gi_dm_X13_scan_0 rfl rfl rfl (by decide +kernel) ⟨Nat.le_of_ble_eq_true rfl, Nat.le_of_ble_eq_true rfl⟩) hPc hDc hKc hS hA hN (va_recv hKc hPc (ci := 14) (q0 := 0) rfl rfl) rfl hl.1 rfl (Nat.le_of_ble_eq_true rfl) dX13_scan_5 (fun H locs hP1 hD1 hk1 hS => ?_)
  have hP := hP1
  have hD := hD1.weaken (fun k q _ h => hFc q.1 h)
  refine lv_bipush (v := 9) hx hb dX13_scan_8 (by decide) ?_
  refine lv_icmp_eq (tgt := 26) hx hb dX13_scan_10 (by decide) (fun c4 => ?_) (fun c4 => ?_)
  · have h := nd_pos h c4
    exact (db_X13_scan_26 C K J0)  s2 _ _ _ h hP hD hS (lv_sub hl [0] rfl)
  · have h := nd_neg h c4
    refine lv_aload_n hx hb dX13_scan_13 rfl (lv_at hl 0 rfl) ?_
    refine lv_aload_n hx hb dX13_scan_14 rfl (lv_at hl 0 rfl) ?_
    refine va_get (D := (dC, dI)) (ci := 14) (v := .int (sI s2 7)) (C := RX13) (T := TX13) (N := 37) hx hb hts hi_dm_X13_scan_X13 hown hK hP 0 rfl rfl 16 (by decide) (hts (.fieldLink RX13 374 "TimeMachineModel$Assembler" "at" "I") (List.mem_of_getElem? (i := 1) rfl)) (fun _ h9 => h9) rfl dX13_scan_15 ?_
    obtain ⟨q6, s7, hq, h⟩ := nd_b2_e h
    have hPc := hP
    have hDc := hD
    have hKc := hK
    have hFc := nd_rs hD hS hA
    refine nd_cVi (As := [.int (sI s2 7)]) (rest := []) (q := q6) (w' := dw_X13 a ac s7) ⟨hx, hb, hml, hown, hts⟩ (fun sz => dm_X13_charAt l hlt dC dI a ac n ((sI s2 7)) s2 hq sz) (cwV 1 hts gi_dm_X13_scan_0 rfl rfl rfl (by decide +kernel) ⟨Nat.le_of_ble_eq_true rfl, Nat.le_of_ble_eq_true rfl⟩) hPc hDc hKc hS hA hN (va_recv hKc hPc (ci := 14) (q0 := 0) rfl rfl) rfl hl.1 rfl (Nat.le_of_ble_eq_true rfl) dX13_scan_18 (fun H locs hP1 hD1 hk1 hS => ?_)
    have hP := hP1
    have hD := hD1.weaken (fun k q _ h => hFc q.1 h)
    refine lv_bipush (v := 32) hx hb dX13_scan_21 (by decide) ?_
    refine lv_icmp_ne (tgt := 39) hx hb dX13_scan_23 (by decide) (fun c9 => ?_) (fun c9 => ?_)
    · have h := nd_neg h c9
      refine lv_aload_n hx hb dX13_scan_39 rfl (lv_at hl 0 rfl) ?_
      refine lv_aload_n hx hb dX13_scan_40 rfl (lv_at hl 0 rfl) ?_
      refine va_get (D := (dC, dI)) (ci := 14) (v := .int (sI s7 7)) (C := RX13) (T := TX13) (N := 37) hx hb hts hi_dm_X13_scan_X13 hown hK hP 0 rfl rfl 16 (by decide) (hts (.fieldLink RX13 374 "TimeMachineModel$Assembler" "at" "I") (List.mem_of_getElem? (i := 1) rfl)) (fun _ h9 => h9) rfl dX13_scan_41 ?_
      refine va_put (D := (dC, dI)) (ci := 14) (v := .int (sI s7 7)) (ty := .int) (C := RX13) (T := TX13) (N := 37) hx hb hts hi_dm_X13_scan_X13 tyX13 tyX13_ok nmX13 hown hK hP hD hS 0 rfl rfl 18 (by decide) (hts (.fieldLink RX13 368 "TimeMachineModel$Assembler" "from" "I") (List.mem_of_getElem? (i := 6) rfl)) (fun _ h9 => h9) rfl (by decide +kernel) rfl rfl (Nat.le_of_ble_eq_true rfl) dX13_scan_44 (fun H locs hP hD hS => ?_)
      obtain ⟨s10, es10, h⟩ := nd_let_e h
      have hP : va_P (dC, dI) vwCl (dw_X13 a ac s10) H := by rw [es10]; exact hP
      have hD : va_D A (dw_X13 a ac s10) := by rw [es10]; exact hD
      refine lv_aload_n hx hb dX13_scan_47 rfl (lv_at hl 0 rfl) ?_
      refine lv_aload_n hx hb dX13_scan_48 rfl (lv_at hl 0 rfl) ?_
      refine va_get (D := (dC, dI)) (ci := 14) (v := .int (sI s10 7)) (C := RX13) (T := TX13) (N := 37) hx hb hts hi_dm_X13_scan_X13 hown hK hP 0 rfl rfl 16 (by decide) (hts (.fieldLink RX13 374 "TimeMachineModel$Assembler" "at" "I") (List.mem_of_getElem? (i := 1) rfl)) (fun _ h9 => h9) rfl dX13_scan_49 ?_
      obtain ⟨q11, s12, hq, h⟩ := nd_b2_e h
      have hPc := hP
      have hDc := hD
      have hKc := hK
      have hFc := nd_rs hD hS hA
      refine nd_cVi (As := [.int (sI s10 7)]) (rest := []) (q := q11) (w' := dw_X13 a ac s12) ⟨hx, hb, hml, hown, hts⟩ (fun sz => dm_X13_charAt l hlt dC dI a ac n ((sI s10 7)) s10 hq sz) (cwV 1 hts gi_dm_X13_scan_0 rfl rfl rfl (by decide +kernel) ⟨Nat.le_of_ble_eq_true rfl, Nat.le_of_ble_eq_true rfl⟩) hPc hDc hKc hS hA hN (va_recv hKc hPc (ci := 14) (q0 := 0) rfl rfl) rfl hl.1 rfl (Nat.le_of_ble_eq_true rfl) dX13_scan_52 (fun H locs hP1 hD1 hk1 hS => ?_)
      have hP := hP1
      have hD := hD1.weaken (fun k q _ h => hFc q.1 h)
      refine lv_istore_n (lv' := [(1, .int q11), (0, .ref (a 0))]) hx hb dX13_scan_55 rfl hl (by decide) rfl (fun ls hl => ?_)
      refine lv_aload_n hx hb dX13_scan_56 rfl (lv_at hl 1 rfl) ?_
      refine lv_aload_n hx hb dX13_scan_57 rfl (lv_at hl 1 rfl) ?_
      refine va_get (D := (dC, dI)) (ci := 14) (v := .int (sI s12 7)) (C := RX13) (T := TX13) (N := 37) hx hb hts hi_dm_X13_scan_X13 hown hK hP 0 rfl rfl 16 (by decide) (hts (.fieldLink RX13 374 "TimeMachineModel$Assembler" "at" "I") (List.mem_of_getElem? (i := 1) rfl)) (fun _ h9 => h9) rfl dX13_scan_58 ?_
      refine lv_iconst (v := 1) hx hb dX13_scan_61 (by decide) ?_
      refine lv_iadd hx hb dX13_scan_62 ?_
      refine va_put (D := (dC, dI)) (ci := 14) (v := .int ((sI s12 7) + 1)) (ty := .int) (C := RX13) (T := TX13) (N := 37) hx hb hts hi_dm_X13_scan_X13 tyX13 tyX13_ok nmX13 hown hK hP hD hS 0 rfl rfl 19 (by decide) (hts (.fieldLink RX13 371 "TimeMachineModel$Assembler" "to" "I") (List.mem_of_getElem? (i := 7) rfl)) (fun _ h9 => h9) rfl (by decide +kernel) rfl rfl (Nat.le_of_ble_eq_true rfl) dX13_scan_63 (fun H locs hP hD hS => ?_)
      obtain ⟨s14, es14, h⟩ := nd_let_e h
      have hP : va_P (dC, dI) vwCl (dw_X13 a ac s14) H := by rw [es14]; exact hP
      have hD : va_D A (dw_X13 a ac s14) := by rw [es14]; exact hD
      refine lv_iload_n hx hb dX13_scan_66 rfl (lv_at hl 0 rfl) ?_
      refine lv_bipush (v := 10) hx hb dX13_scan_67 (by decide) ?_
      refine lv_icmp_eq (tgt := 78) hx hb dX13_scan_69 (by decide) (fun c15 => ?_) (fun c15 => ?_)
      · have h := nd_pos h c15
        exact (db_X13_scan_78 C K)  s14 _ _ _ h hP hD hS (lv_sub hl [1] rfl)
      · have h := nd_neg h c15
        refine lv_iload_n hx hb dX13_scan_72 rfl (lv_at hl 0 rfl) ?_
        refine lv_bipush (v := 35) hx hb dX13_scan_73 (by decide) ?_
        refine lv_icmp_ne (tgt := 94) hx hb dX13_scan_75 (by decide) (fun c19 => ?_) (fun c19 => ?_)
        · have h := nd_neg h c19
          refine lv_iload_n hx hb dX13_scan_94 rfl (lv_at hl 0 rfl) ?_
          obtain ⟨q20, s21, hq, h⟩ := nd_b2_e h
          have hPc : va_P (dC, dI) vwCl (dw_P a ac ()) H := nd_p0
          have hDc : va_D A (dw_P a ac ()) := nd_d0
          have hKc : va_K (dC, dI) vwCl (dk_P ac) s := nd_y0 hK
          have hFc : ∀ q, va_A (dw_P a ac ()) H.size q → A q := nd_r0 hS hA
          refine nd_cSi (As := [.int q11]) (rest := []) (q := q20) (w' := dw_P a ac s21) ⟨hx, hb, hml, hown, hts⟩ (fun sz => dm_X13_isDigit l hlt dC dI a ac n (q11) () hq sz) (cwS 1 hts gi_dm_X13_scan_1 rfl rfl rfl (by decide +kernel) ⟨Nat.le_of_ble_eq_true rfl, Nat.le_of_ble_eq_true rfl⟩) hPc hDc hKc hS hA hN rfl hl.1 rfl (Nat.le_of_ble_eq_true rfl) dX13_scan_95 (fun H locs hP1 hD1 hk1 hS => ?_)
          have hP := nd_n0 hP hk1
          refine lv_if_eq (tgt := 120) hx hb dX13_scan_98 (by decide) (fun c23 => ?_) (fun c23 => ?_)
          · have h := nd_pos h c23
            refine lv_iload_n hx hb dX13_scan_120 rfl (lv_at hl 0 rfl) ?_
            obtain ⟨q24, s25, hq, h⟩ := nd_b2_e h
            have hPc : va_P (dC, dI) vwCl (dw_P a ac ()) H := nd_p0
            have hDc : va_D A (dw_P a ac ()) := nd_d0
            have hKc : va_K (dC, dI) vwCl (dk_P ac) s := nd_y0 hK
            have hFc : ∀ q, va_A (dw_P a ac ()) H.size q → A q := nd_r0 hS hA
            refine nd_cSi (As := [.int q11]) (rest := []) (q := q24) (w' := dw_P a ac s25) ⟨hx, hb, hml, hown, hts⟩ (fun sz => dm_X13_isPlain l hlt dC dI a ac n (q11) () hq sz) (cwS 1 hts gi_dm_X13_scan_2 rfl rfl rfl (by decide +kernel) ⟨Nat.le_of_ble_eq_true rfl, Nat.le_of_ble_eq_true rfl⟩) hPc hDc hKc hS hA hN rfl hl.1 rfl (Nat.le_of_ble_eq_true rfl) dX13_scan_121 (fun H locs hP1 hD1 hk1 hS => ?_)
            have hP := nd_n0 hP hk1
            refine lv_if_eq (tgt := 165) hx hb dX13_scan_124 (by decide) (fun c27 => ?_) (fun c27 => ?_)
            · have h := nd_pos h c27
              refine lv_iload_n hx hb dX13_scan_165 rfl (lv_at hl 0 rfl) ?_
              refine lv_bipush (v := 39) hx hb dX13_scan_166 (by decide) ?_
              refine lv_icmp_ne (tgt := 178) hx hb dX13_scan_168 (by decide) (fun c28 => ?_) (fun c28 => ?_)
              · have h := nd_neg h c28
                refine lv_iload_n hx hb dX13_scan_178 rfl (lv_at hl 0 rfl) ?_
                refine lv_bipush (v := 34) hx hb dX13_scan_179 (by decide) ?_
                refine lv_icmp_ne (tgt := 191) hx hb dX13_scan_181 (by decide) (fun c29 => ?_) (fun c29 => ?_)
                · have h := nd_neg h c29
                  refine lv_iload_n hx hb dX13_scan_191 rfl (lv_at hl 0 rfl) ?_
                  refine lv_bipush (v := 60) hx hb dX13_scan_192 (by decide) ?_
                  refine lv_icmp_eq (tgt := 203) hx hb dX13_scan_194 (by decide) (fun c30 => ?_) (fun c30 => ?_)
                  · have h := nd_pos h c30
                    exact (db_X13_scan_203 C K) (q11) s14 _ _ _ h hP hD hS (lv_sub hl [1, 0] rfl)
                  · have h := nd_neg h c30
                    refine lv_iload_n hx hb dX13_scan_197 rfl (lv_at hl 0 rfl) ?_
                    refine lv_bipush (v := 62) hx hb dX13_scan_198 (by decide) ?_
                    refine lv_icmp_ne (tgt := 251) hx hb dX13_scan_200 (by decide) (fun c41 => ?_) (fun c41 => ?_)
                    · have h := nd_neg h c41
                      refine lv_iload_n hx hb dX13_scan_251 rfl (lv_at hl 0 rfl) ?_
                      refine lv_bipush (v := 58) hx hb dX13_scan_252 (by decide) ?_
                      refine lv_icmp_eq (tgt := 329) hx hb dX13_scan_254 (by decide) (fun c42 => ?_) (fun c42 => ?_)
                      · have h := nd_pos h c42
                        exact (db_X13_scan_329 C K) (q11) s14 _ _ _ h hP hD hS (lv_sub hl [1, 0] rfl)
                      · have h := nd_neg h c42
                        refine lv_iload_n hx hb dX13_scan_257 rfl (lv_at hl 0 rfl) ?_
                        refine lv_bipush (v := 44) hx hb dX13_scan_258 (by decide) ?_
                        refine lv_icmp_eq (tgt := 329) hx hb dX13_scan_260 (by decide) (fun c48 => ?_) (fun c48 => ?_)
                        · have h := nd_pos h c48
                          exact (db_X13_scan_329 C K) (q11) s14 _ _ _ h hP hD hS (lv_sub hl [1, 0] rfl)
                        · have h := nd_neg h c48
                          refine lv_iload_n hx hb dX13_scan_263 rfl (lv_at hl 0 rfl) ?_
                          refine lv_bipush (v := 40) hx hb dX13_scan_264 (by decide) ?_
                          refine lv_icmp_eq (tgt := 329) hx hb dX13_scan_266 (by decide) (fun c49 => ?_) (fun c49 => ?_)
                          · have h := nd_pos h c49
                            exact (db_X13_scan_329 C K) (q11) s14 _ _ _ h hP hD hS (lv_sub hl [1, 0] rfl)
                          · have h := nd_neg h c49
                            refine lv_iload_n hx hb dX13_scan_269 rfl (lv_at hl 0 rfl) ?_
                            refine lv_bipush (v := 41) hx hb dX13_scan_270 (by decide) ?_
                            refine lv_icmp_eq (tgt := 329) hx hb dX13_scan_272 (by decide) (fun c50 => ?_) (fun c50 => ?_)
                            · have h := nd_pos h c50
                              exact (db_X13_scan_329 C K) (q11) s14 _ _ _ h hP hD hS (lv_sub hl [1, 0] rfl)
                            · have h := nd_neg h c50
                              refine lv_iload_n hx hb dX13_scan_275 rfl (lv_at hl 0 rfl) ?_
                              refine lv_bipush (v := 43) hx hb dX13_scan_276 (by decide) ?_
                              refine lv_icmp_eq (tgt := 329) hx hb dX13_scan_278 (by decide) (fun c51 => ?_) (fun c51 => ?_)
                              · have h := nd_pos h c51
                                exact (db_X13_scan_329 C K) (q11) s14 _ _ _ h hP hD hS (lv_sub hl [1, 0] rfl)
                              · have h := nd_neg h c51
                                refine lv_iload_n hx hb dX13_scan_281 rfl (lv_at hl 0 rfl) ?_
                                refine lv_bipush (v := 45) hx hb dX13_scan_282 (by decide) ?_
                                refine lv_icmp_eq (tgt := 329) hx hb dX13_scan_284 (by decide) (fun c52 => ?_) (fun c52 => ?_)
                                · have h := nd_pos h c52
                                  exact (db_X13_scan_329 C K) (q11) s14 _ _ _ h hP hD hS (lv_sub hl [1, 0] rfl)
                                · have h := nd_neg h c52
                                  refine lv_iload_n hx hb dX13_scan_287 rfl (lv_at hl 0 rfl) ?_
                                  refine lv_bipush (v := 42) hx hb dX13_scan_288 (by decide) ?_
                                  refine lv_icmp_eq (tgt := 329) hx hb dX13_scan_290 (by decide) (fun c53 => ?_) (fun c53 => ?_)
                                  · have h := nd_pos h c53
                                    exact (db_X13_scan_329 C K) (q11) s14 _ _ _ h hP hD hS (lv_sub hl [1, 0] rfl)
                                  · have h := nd_neg h c53
                                    refine lv_iload_n hx hb dX13_scan_293 rfl (lv_at hl 0 rfl) ?_
                                    refine lv_bipush (v := 47) hx hb dX13_scan_294 (by decide) ?_
                                    refine lv_icmp_eq (tgt := 329) hx hb dX13_scan_296 (by decide) (fun c54 => ?_) (fun c54 => ?_)
                                    · have h := nd_pos h c54
                                      exact (db_X13_scan_329 C K) (q11) s14 _ _ _ h hP hD hS (lv_sub hl [1, 0] rfl)
                                    · have h := nd_neg h c54
                                      refine lv_iload_n hx hb dX13_scan_299 rfl (lv_at hl 0 rfl) ?_
                                      refine lv_bipush (v := 37) hx hb dX13_scan_300 (by decide) ?_
                                      refine lv_icmp_eq (tgt := 329) hx hb dX13_scan_302 (by decide) (fun c55 => ?_) (fun c55 => ?_)
                                      · have h := nd_pos h c55
                                        exact (db_X13_scan_329 C K) (q11) s14 _ _ _ h hP hD hS (lv_sub hl [1, 0] rfl)
                                      · have h := nd_neg h c55
                                        refine lv_iload_n hx hb dX13_scan_305 rfl (lv_at hl 0 rfl) ?_
                                        refine lv_bipush (v := 38) hx hb dX13_scan_306 (by decide) ?_
                                        refine lv_icmp_eq (tgt := 329) hx hb dX13_scan_308 (by decide) (fun c56 => ?_) (fun c56 => ?_)
                                        · have h := nd_pos h c56
                                          exact (db_X13_scan_329 C K) (q11) s14 _ _ _ h hP hD hS (lv_sub hl [1, 0] rfl)
                                        · have h := nd_neg h c56
                                          refine lv_iload_n hx hb dX13_scan_311 rfl (lv_at hl 0 rfl) ?_
                                          refine lv_bipush (v := 124) hx hb dX13_scan_312 (by decide) ?_
                                          refine lv_icmp_eq (tgt := 329) hx hb dX13_scan_314 (by decide) (fun c57 => ?_) (fun c57 => ?_)
                                          · have h := nd_pos h c57
                                            exact (db_X13_scan_329 C K) (q11) s14 _ _ _ h hP hD hS (lv_sub hl [1, 0] rfl)
                                          · have h := nd_neg h c57
                                            refine lv_iload_n hx hb dX13_scan_317 rfl (lv_at hl 0 rfl) ?_
                                            refine lv_bipush (v := 94) hx hb dX13_scan_318 (by decide) ?_
                                            refine lv_icmp_eq (tgt := 329) hx hb dX13_scan_320 (by decide) (fun c58 => ?_) (fun c58 => ?_)
                                            · have h := nd_pos h c58
                                              exact (db_X13_scan_329 C K) (q11) s14 _ _ _ h hP hD hS (lv_sub hl [1, 0] rfl)
                                            · have h := nd_neg h c58
                                              refine lv_iload_n hx hb dX13_scan_323 rfl (lv_at hl 0 rfl) ?_
                                              refine lv_bipush (v := 126) hx hb dX13_scan_324 (by decide) ?_
                                              refine lv_icmp_ne (tgt := 333) hx hb dX13_scan_326 (by decide) (fun c59 => ?_) (fun c59 => ?_)
                                              · have h := nd_neg h c59
                                                refine lv_iconst (v := 0) hx hb dX13_scan_333 (by decide) ?_
                                                exact (db_X13_scan_334 C K) (q11) (0) s14 _ _ _ h hP hD hS (lv_sub hl [1, 0] rfl)
                                              · have h := nd_pos h c59
                                                exact (db_X13_scan_329 C K) (q11) s14 _ _ _ h hP hD hS (lv_sub hl [1, 0] rfl)
                    · have h := nd_pos h c41
                      exact (db_X13_scan_203 C K) (q11) s14 _ _ _ h hP hD hS (lv_sub hl [1, 0] rfl)
                · have h := nd_pos h c29
                  refine lv_aload_n hx hb dX13_scan_184 rfl (lv_at hl 1 rfl) ?_
                  obtain ⟨s61, hq, h⟩ := nd_b1_e h
                  have hPc := hP
                  have hDc := hD
                  have hKc := hK
                  have hFc := nd_rs hD hS hA
                  refine nd_cVv (As := []) (rest := []) (w' := dw_X13 a ac s61) ⟨hx, hb, hml, hown, hts⟩ (fun sz => dm_X13_quote l hlt dC dI a ac n  s14 hq sz) (cwV 0 hts gi_dm_X13_scan_4 rfl rfl rfl (by decide +kernel) ⟨Nat.le_of_ble_eq_true rfl, Nat.le_of_ble_eq_true rfl⟩) hPc hDc hKc hS hA hN (va_recv hKc hPc (ci := 14) (q0 := 0) rfl rfl) rfl hl.1 rfl (Nat.le_of_ble_eq_true rfl) dX13_scan_185 (fun H locs hP1 hD1 hk1 hS => ?_)
                  have hP := hP1
                  have hD := hD1.weaken (fun k q _ h => hFc q.1 h)
                  refine lv_goto (tgt := 348) hx hb dX13_scan_188 (by decide) ?_
                  exact (db_X13_scan_348 C K)  s61 _ _ _ h hP hD hS (lv_sub hl [1] rfl)
              · have h := nd_pos h c28
                refine lv_aload_n hx hb dX13_scan_171 rfl (lv_at hl 1 rfl) ?_
                obtain ⟨s64, hq, h⟩ := nd_b1_e h
                have hPc := hP
                have hDc := hD
                have hKc := hK
                have hFc := nd_rs hD hS hA
                refine nd_cVv (As := []) (rest := []) (w' := dw_X13 a ac s64) ⟨hx, hb, hml, hown, hts⟩ (fun sz => dm_X13_character l hlt dC dI a ac n  s14 hq sz) (cwV 0 hts gi_dm_X13_scan_5 rfl rfl rfl (by decide +kernel) ⟨Nat.le_of_ble_eq_true rfl, Nat.le_of_ble_eq_true rfl⟩) hPc hDc hKc hS hA hN (va_recv hKc hPc (ci := 14) (q0 := 0) rfl rfl) rfl hl.1 rfl (Nat.le_of_ble_eq_true rfl) dX13_scan_172 (fun H locs hP1 hD1 hk1 hS => ?_)
                have hP := hP1
                have hD := hD1.weaken (fun k q _ h => hFc q.1 h)
                refine lv_goto (tgt := 348) hx hb dX13_scan_175 (by decide) ?_
                exact (db_X13_scan_348 C K)  s64 _ _ _ h hP hD hS (lv_sub hl [1] rfl)
            · have h := nd_neg h c27
              refine lv_aload_n hx hb dX13_scan_127 rfl (lv_at hl 1 rfl) ?_
              refine lv_aload_n hx hb dX13_scan_128 rfl (lv_at hl 1 rfl) ?_
              refine lv_aload_n hx hb dX13_scan_129 rfl (lv_at hl 1 rfl) ?_
              refine va_get (D := (dC, dI)) (ci := 14) (v := .int (sI s14 7)) (C := RX13) (T := TX13) (N := 37) hx hb hts hi_dm_X13_scan_X13 hown hK hP 0 rfl rfl 16 (by decide) (hts (.fieldLink RX13 374 "TimeMachineModel$Assembler" "at" "I") (List.mem_of_getElem? (i := 1) rfl)) (fun _ h9 => h9) rfl dX13_scan_130 ?_
              obtain ⟨q66, s67, hq, h⟩ := nd_b2_e h
              have hPc := hP
              have hDc := hD
              have hKc := hK
              have hFc := nd_rs hD hS hA
              refine nd_cVi (As := [.int (sI s14 7)]) (rest := [.ref (a 0)]) (q := q66) (w' := dw_X13 a ac s67) ⟨hx, hb, hml, hown, hts⟩ (fun sz => dm_X13_plain l hlt dC dI a ac n ((sI s14 7)) s14 hq sz) (cwV 1 hts gi_dm_X13_scan_6 rfl rfl rfl (by decide +kernel) ⟨Nat.le_of_ble_eq_true rfl, Nat.le_of_ble_eq_true rfl⟩) hPc hDc hKc hS hA hN (va_recv hKc hPc (ci := 14) (q0 := 0) rfl rfl) rfl hl.1 rfl (Nat.le_of_ble_eq_true rfl) dX13_scan_133 (fun H locs hP1 hD1 hk1 hS => ?_)
              have hP := hP1
              have hD := hD1.weaken (fun k q _ h => hFc q.1 h)
              refine va_put (D := (dC, dI)) (ci := 14) (v := .int q66) (ty := .int) (C := RX13) (T := TX13) (N := 37) hx hb hts hi_dm_X13_scan_X13 tyX13 tyX13_ok nmX13 hown hK hP hD hS 0 rfl rfl 19 (by decide) (hts (.fieldLink RX13 371 "TimeMachineModel$Assembler" "to" "I") (List.mem_of_getElem? (i := 7) rfl)) (fun _ h9 => h9) rfl (by decide +kernel) rfl rfl (Nat.le_of_ble_eq_true rfl) dX13_scan_136 (fun H locs hP hD hS => ?_)
              obtain ⟨s69, es69, h⟩ := nd_let_e h
              have hP : va_P (dC, dI) vwCl (dw_X13 a ac s69) H := by rw [es69]; exact hP
              have hD : va_D A (dw_X13 a ac s69) := by rw [es69]; exact hD
              refine lv_aload_n hx hb dX13_scan_139 rfl (lv_at hl 1 rfl) ?_
              refine lv_iconst (v := 1) hx hb dX13_scan_140 (by decide) ?_
              refine va_put (D := (dC, dI)) (ci := 14) (v := .int 1) (ty := .int) (C := RX13) (T := TX13) (N := 37) hx hb hts hi_dm_X13_scan_X13 tyX13 tyX13_ok nmX13 hown hK hP hD hS 0 rfl rfl 17 (by decide) (hts (.fieldLink RX13 365 "TimeMachineModel$Assembler" "token" "I") (List.mem_of_getElem? (i := 8) rfl)) (fun _ h9 => h9) rfl (by decide +kernel) rfl rfl (Nat.le_of_ble_eq_true rfl) dX13_scan_141 (fun H locs hP hD hS => ?_)
              obtain ⟨s70, es70, h⟩ := nd_let_e h
              have hP : va_P (dC, dI) vwCl (dw_X13 a ac s70) H := by rw [es70]; exact hP
              have hD : va_D A (dw_X13 a ac s70) := by rw [es70]; exact hD
              refine lv_aload_n hx hb dX13_scan_144 rfl (lv_at hl 1 rfl) ?_
              refine va_get (D := (dC, dI)) (ci := 14) (v := .int (sI s70 10)) (C := RX13) (T := TX13) (N := 37) hx hb hts hi_dm_X13_scan_X13 hown hK hP 0 rfl rfl 19 (by decide) (hts (.fieldLink RX13 371 "TimeMachineModel$Assembler" "to" "I") (List.mem_of_getElem? (i := 7) rfl)) (fun _ h9 => h9) rfl dX13_scan_145 ?_
              refine lv_aload_n hx hb dX13_scan_148 rfl (lv_at hl 1 rfl) ?_
              refine va_get (D := (dC, dI)) (ci := 14) (v := .int (sI s70 9)) (C := RX13) (T := TX13) (N := 37) hx hb hts hi_dm_X13_scan_X13 hown hK hP 0 rfl rfl 18 (by decide) (hts (.fieldLink RX13 368 "TimeMachineModel$Assembler" "from" "I") (List.mem_of_getElem? (i := 6) rfl)) (fun _ h9 => h9) rfl dX13_scan_149 ?_
              refine lv_isub hx hb dX13_scan_152 ?_
              refine lv_bipush (v := 31) hx hb dX13_scan_153 (by decide) ?_
              refine lv_icmp_le (tgt := 348) hx hb dX13_scan_155 (by decide) (fun c71 => ?_) (fun c71 => ?_)
              · have h := nd_pos h c71
                exact (db_X13_scan_348 C K)  s70 _ _ _ h hP hD hS (lv_sub hl [1] rfl)
              · have h := nd_neg h c71
                refine lv_aload_n hx hb dX13_scan_158 rfl (lv_at hl 1 rfl) ?_
                obtain ⟨s73, hq, h⟩ := nd_b1_e h
                have hPc := hP
                have hDc := hD
                have hKc := hK
                have hFc := nd_rs hD hS hA
                refine nd_cVv (As := []) (rest := []) (w' := dw_X13 a ac s73) ⟨hx, hb, hml, hown, hts⟩ (fun sz => dm_X13_bad l hlt dC dI a ac n  s70 hq sz) (cwV 0 hts gi_dm_X13_scan_3 rfl rfl rfl (by decide +kernel) ⟨Nat.le_of_ble_eq_true rfl, Nat.le_of_ble_eq_true rfl⟩) hPc hDc hKc hS hA hN (va_recv hKc hPc (ci := 14) (q0 := 0) rfl rfl) rfl hl.1 rfl (Nat.le_of_ble_eq_true rfl) dX13_scan_159 (fun H locs hP1 hD1 hk1 hS => ?_)
                have hP := hP1
                have hD := hD1.weaken (fun k q _ h => hFc q.1 h)
                refine lv_goto (tgt := 348) hx hb dX13_scan_162 (by decide) ?_
                exact (db_X13_scan_348 C K)  s73 _ _ _ h hP hD hS (lv_sub hl [1] rfl)
          · have h := nd_neg h c23
            refine lv_aload_n hx hb dX13_scan_101 rfl (lv_at hl 1 rfl) ?_
            refine lv_aload_n hx hb dX13_scan_102 rfl (lv_at hl 1 rfl) ?_
            refine lv_aload_n hx hb dX13_scan_103 rfl (lv_at hl 1 rfl) ?_
            refine va_get (D := (dC, dI)) (ci := 14) (v := .int (sI s14 7)) (C := RX13) (T := TX13) (N := 37) hx hb hts hi_dm_X13_scan_X13 hown hK hP 0 rfl rfl 16 (by decide) (hts (.fieldLink RX13 374 "TimeMachineModel$Assembler" "at" "I") (List.mem_of_getElem? (i := 1) rfl)) (fun _ h9 => h9) rfl dX13_scan_104 ?_
            obtain ⟨q75, s76, hq, h⟩ := nd_b2_e h
            have hPc := hP
            have hDc := hD
            have hKc := hK
            have hFc := nd_rs hD hS hA
            refine nd_cVi (As := [.int (sI s14 7)]) (rest := [.ref (a 0)]) (q := q75) (w' := dw_X13 a ac s76) ⟨hx, hb, hml, hown, hts⟩ (fun sz => dm_X13_plain l hlt dC dI a ac n ((sI s14 7)) s14 hq sz) (cwV 1 hts gi_dm_X13_scan_6 rfl rfl rfl (by decide +kernel) ⟨Nat.le_of_ble_eq_true rfl, Nat.le_of_ble_eq_true rfl⟩) hPc hDc hKc hS hA hN (va_recv hKc hPc (ci := 14) (q0 := 0) rfl rfl) rfl hl.1 rfl (Nat.le_of_ble_eq_true rfl) dX13_scan_107 (fun H locs hP1 hD1 hk1 hS => ?_)
            have hP := hP1
            have hD := hD1.weaken (fun k q _ h => hFc q.1 h)
            refine va_put (D := (dC, dI)) (ci := 14) (v := .int q75) (ty := .int) (C := RX13) (T := TX13) (N := 37) hx hb hts hi_dm_X13_scan_X13 tyX13 tyX13_ok nmX13 hown hK hP hD hS 0 rfl rfl 19 (by decide) (hts (.fieldLink RX13 371 "TimeMachineModel$Assembler" "to" "I") (List.mem_of_getElem? (i := 7) rfl)) (fun _ h9 => h9) rfl (by decide +kernel) rfl rfl (Nat.le_of_ble_eq_true rfl) dX13_scan_110 (fun H locs hP hD hS => ?_)
            obtain ⟨s78, es78, h⟩ := nd_let_e h
            have hP : va_P (dC, dI) vwCl (dw_X13 a ac s78) H := by rw [es78]; exact hP
            have hD : va_D A (dw_X13 a ac s78) := by rw [es78]; exact hD
            refine lv_aload_n hx hb dX13_scan_113 rfl (lv_at hl 1 rfl) ?_
            obtain ⟨s80, hq, h⟩ := nd_b1_e h
            have hPc := hP
            have hDc := hD
            have hKc := hK
            have hFc := nd_rs hD hS hA
            refine nd_cVv (As := []) (rest := []) (w' := dw_X13 a ac s80) ⟨hx, hb, hml, hown, hts⟩ (fun sz => dm_X13_digits l hlt dC dI a ac n  s78 hq sz) (cwV 0 hts gi_dm_X13_scan_7 rfl rfl rfl (by decide +kernel) ⟨Nat.le_of_ble_eq_true rfl, Nat.le_of_ble_eq_true rfl⟩) hPc hDc hKc hS hA hN (va_recv hKc hPc (ci := 14) (q0 := 0) rfl rfl) rfl hl.1 rfl (Nat.le_of_ble_eq_true rfl) dX13_scan_114 (fun H locs hP1 hD1 hk1 hS => ?_)
            have hP := hP1
            have hD := hD1.weaken (fun k q _ h => hFc q.1 h)
            refine lv_goto (tgt := 348) hx hb dX13_scan_117 (by decide) ?_
            exact (db_X13_scan_348 C K)  s80 _ _ _ h hP hD hS (lv_sub hl [1] rfl)
        · have h := nd_pos h c19
          exact (db_X13_scan_78 C K)  s14 _ _ _ h hP hD hS (lv_sub hl [1] rfl)
    · have h := nd_pos h c9
      exact (db_X13_scan_26 C K J0)  s7 _ _ _ h hP hD hS (lv_sub hl [0] rfl)
set_option maxHeartbeats 40000000 in
set_option maxRecDepth 100000 in
theorem db_X13_scan_0 {p : Program} {l : Launch} {e : Env} {s : State} {m : MethodId} {args : Array Value} {below : List Frame} {meth : Method} {c : Code} {Q : State → Prop} {A : Nat → Prop} {dC : Nat → ClassId} {dI : Nat → Nat → Nat} {a : Nat → Nat} {ac : Nat → ClassId} {n : Nat} {r : St} (C : nd_C p l s m args c A (dC, dI) cX13_scan 3 RX13 ow_dm_X13_scan (dk_X13 ac)) (K : nd_Kv p l e (headSpec ow_dm_X13_scan ({ frames := 4, cells := 0, slots := 0, locals := 92 })).room s m args below meth c Q A (dC, dI) cX13_scan (St) (dw_X13 a ac) r) (k : Nat) : dj_X13_scan_0 p l e s m args below meth c Q A dC dI a ac (df_X13_scan_0 n k) r := by
  induction k with
  | zero => intro s0 H locs ls h; exact nomatch (show (none : Option (St)) = some r from h)
  | succ k ih => exact dB_X13_scan_0 C K ih
set_option maxHeartbeats 40000000 in
set_option maxRecDepth 100000 in
theorem dm_X13_scan (l : Launch) (hlt : l.stackTraces = false) (dC : Nat → ClassId) (dI : Nat → Nat → Nat) (a : Nat → Nat) (ac : Nat → ClassId) (n : Nat) (s0 : St) {r : St} (h : df_X13_scan n s0 = some r) (sz : Nat) : Met l yX13_scan ow_dm_X13_scan ({ frames := 4, cells := 0, slots := 0, locals := 92 }) (va_Pc [.ref (a 0)] (fun U => U.heap.size = sz ∧ va_P (dC, dI) vwCl (dw_X13 a ac s0) U.heap ∧ va_K (dC, dI) vwCl (dk_X13 ac) U ∧ va_D (fun _ => True) (dw_X13 a ac s0) ∧ nv_E dI (va_A (dw_X13 a ac s0) sz) U)) (va_Qv (fun _ => True) (fun (_ : Unit) t => va_P (dC, dI) vwCl (dw_X13 a ac r) t.heap ∧ va_K (dC, dI) vwCl (dk_X13 ac) t ∧ va_D (va_A (dw_X13 a ac s0) sz) (dw_X13 a ac r)) (va_A (dw_X13 a ac s0) sz)) 0 0 (va_A (dw_X13 a ac s0) sz) := by
  refine Met.ofW (cc := cX13_scan) (maxL := 3) (ret := none) (by decide) rfl ?_
  intro p e s m args below meth c s₁ B hml hv
  obtain ⟨rfl, hsz, hP, hK, hD0, hN⟩ := hv
  have hx := B.exec
  have hb := B.bytes
  have hr := B.returns
  have hts := atoms_spec (ws := ow_dm_X13_scan) B.pre
  have hown : s.vm.findClass RX13 = some m.cls := findClass_of_methodNamed B.named
  have hlocks := B.notSynchronized
  subst hsz
  have hD := hD0.self (sz := s.heap.size)
  generalize hAe : va_A (dw_X13 a ac s0) s.heap.size = A at hD hN ⊢
  have hA : ∀ q : Nat, s.heap.size ≤ q → A q := fun q h => by rw [← hAe]; exact Or.inr h
  have hl := lv_entry ([.ref (a 0)]) (n := 3) (Nat.le_of_ble_eq_true rfl)
  rw [lg_entry_eq]
  generalize (lg_sl ([.ref (a 0)]) ++ List.replicate (3 - (lg_sl ([.ref (a 0)])).length) Slot.unset).toArray = ls at hl ⊢
  have hl : lv_has ls 3 [(0, .ref (a 0))] := hl
  exact db_X13_scan_0 (dC := dC) (dI := dI) (a := a) (ac := ac) (n := n) (r := r) ⟨hlt, hx, hb, hml, hown, hts, hN, hA, hK⟩ (fun pc τ H locs ls d er hP hD hS => by subst er; exact W.vret hx hb hr (fun t ht hW => ⟨⟨(), rfl, trivial, by rw [ht]; exact hP, va_K.moved hW.alike hK, hD⟩, hS.F ht⟩) hS.2.2 d) n s0 _ _ _ h hP hD va_S.rf (lv_sub hl [0] rfl)
def ow_dm_X13_blame : List Cond := Cond.code yX13_blame cX13_blame 2 none :: ([Cond.fieldLink RX13 410 "TimeMachineModel$Assembler" "fault" "I", Cond.fieldLink RX13 413 "TimeMachineModel$Assembler" "line" "I"] ++ (u_ws RX13 TX13 37 ++ []))
theorem gd_dm_X13_blame : ∀ w ∈ ow_dm_X13_blame, (w.onTables && w.keeps) = true ∨ ∃ ty, w = Cond.arrayClass ty := List.forall_mem_cons.mpr ⟨good_of_word rfl, List.forall_mem_append.mpr ⟨fun w h => good_of_word (List.all_eq_true.mp (by decide +kernel) w h), List.forall_mem_append.mpr ⟨gu_X13, fun _ h => nomatch h⟩⟩⟩
theorem hi_dm_X13_blame_X13 : ∀ w ∈ u_ws RX13 TX13 37, w ∈ ow_dm_X13_blame := fun w h => List.mem_cons_of_mem _ (List.mem_append_right _ (List.mem_append_left _ h))
def dj_X13_blame_20 (p : Program) (l : Launch) (e : Env) (s : State) (m : MethodId) (args : Array Value) (below : List Frame) (meth : Method) (c : Code) (Q : State → Prop) (A : Nat → Prop) (dC : Nat → ClassId) (dI : Nat → Nat → Nat) (a : Nat → Nat) (ac : Nat → ClassId) (g : (St) → Option (St)) (r : St) : Prop := ∀ (s0 : St) (H : Heap) (locs : List Loc) (ls : Array Slot), g s0 = some r → va_P (dC, dI) vwCl (dw_X13 a ac s0) H → va_D A (dw_X13 a ac s0) → va_S A s.heap H locs → lv_has ls 2 [] → W p l e (headSpec ow_dm_X13_blame ({ frames := 0, cells := 0, slots := 0, locals := 0 })).room s m args below meth c H locs 0 0 Q (F0 m 20 ls [])
def dj_X13_blame_0 (p : Program) (l : Launch) (e : Env) (s : State) (m : MethodId) (args : Array Value) (below : List Frame) (meth : Method) (c : Code) (Q : State → Prop) (A : Nat → Prop) (dC : Nat → ClassId) (dI : Nat → Nat → Nat) (a : Nat → Nat) (ac : Nat → ClassId) (g : Int32 → (St) → Option (St)) (r : St) : Prop := ∀ (v0 : Int32) (s0 : St) (H : Heap) (locs : List Loc) (ls : Array Slot), g v0 s0 = some r → va_P (dC, dI) vwCl (dw_X13 a ac s0) H → va_D A (dw_X13 a ac s0) → va_S A s.heap H locs → lv_has ls 2 [(0, .ref (a 0)), (1, .int v0)] → W p l e (headSpec ow_dm_X13_blame ({ frames := 0, cells := 0, slots := 0, locals := 0 })).room s m args below meth c H locs 0 0 Q (F0 m 0 ls [])
set_option maxHeartbeats 40000000 in
set_option maxRecDepth 100000 in
theorem db_X13_blame_20 {p : Program} {l : Launch} {e : Env} {s : State} {m : MethodId} {args : Array Value} {below : List Frame} {meth : Method} {c : Code} {Q : State → Prop} {A : Nat → Prop} {dC : Nat → ClassId} {dI : Nat → Nat → Nat} {a : Nat → Nat} {ac : Nat → ClassId} {n : Nat} {r : St} (C : nd_C p l s m args c A (dC, dI) cX13_blame 2 RX13 ow_dm_X13_blame (dk_X13 ac)) (K : nd_Kv p l e (headSpec ow_dm_X13_blame ({ frames := 0, cells := 0, slots := 0, locals := 0 })).room s m args below meth c Q A (dC, dI) cX13_blame (St) (dw_X13 a ac) r) : dj_X13_blame_20 p l e s m args below meth c Q A dC dI a ac (df_X13_blame_20 n) r := by
  obtain ⟨hlt, hx, hb, hml, hown, hts, hN, hA, hK⟩ := id C
  intro s0 H locs ls h hP hD hS hl
  unfold df_X13_blame_20 at h
  exact K _ _ _ _ _ dX13_blame_20 (Option.some.inj h).symm hP hD hS
set_option maxHeartbeats 40000000 in
set_option maxRecDepth 100000 in
theorem db_X13_blame_0 {p : Program} {l : Launch} {e : Env} {s : State} {m : MethodId} {args : Array Value} {below : List Frame} {meth : Method} {c : Code} {Q : State → Prop} {A : Nat → Prop} {dC : Nat → ClassId} {dI : Nat → Nat → Nat} {a : Nat → Nat} {ac : Nat → ClassId} {n : Nat} {r : St} (C : nd_C p l s m args c A (dC, dI) cX13_blame 2 RX13 ow_dm_X13_blame (dk_X13 ac)) (K : nd_Kv p l e (headSpec ow_dm_X13_blame ({ frames := 0, cells := 0, slots := 0, locals := 0 })).room s m args below meth c Q A (dC, dI) cX13_blame (St) (dw_X13 a ac) r) : dj_X13_blame_0 p l e s m args below meth c Q A dC dI a ac (df_X13_blame_0 n) r := by
  obtain ⟨hlt, hx, hb, hml, hown, hts, hN, hA, hK⟩ := id C
  intro v0 s0 H locs ls h hP hD hS hl
  unfold df_X13_blame_0 at h
  refine lv_aload_n hx hb dX13_blame_0 rfl (lv_at hl 0 rfl) ?_
  refine va_get (D := (dC, dI)) (ci := 14) (v := .int (sI s0 12)) (C := RX13) (T := TX13) (N := 37) hx hb hts hi_dm_X13_blame_X13 hown hK hP 0 rfl rfl 21 (by decide) (hts (.fieldLink RX13 410 "TimeMachineModel$Assembler" "fault" "I") (List.mem_of_getElem? (i := 1) rfl)) (fun _ h9 => h9) rfl dX13_blame_1 ?_
  refine lv_if_ne (tgt := 20) hx hb dX13_blame_4 (by decide) (fun c1 => ?_) (fun c1 => ?_)
  · have h := nd_neg h c1
    exact (db_X13_blame_20 C K)  s0 _ _ _ h hP hD hS (lv_sub hl [] rfl)
  · have h := nd_pos h c1
    refine lv_aload_n hx hb dX13_blame_7 rfl (lv_at hl 0 rfl) ?_
    refine lv_iload_n hx hb dX13_blame_8 rfl (lv_at hl 1 rfl) ?_
    refine lv_bipush (v := 16) hx hb dX13_blame_9 (by decide) ?_
    refine lv_aload_n hx hb dX13_blame_11 rfl (lv_at hl 0 rfl) ?_
    refine va_get (D := (dC, dI)) (ci := 14) (v := .int (sI s0 13)) (C := RX13) (T := TX13) (N := 37) hx hb hts hi_dm_X13_blame_X13 hown hK hP 0 rfl rfl 22 (by decide) (hts (.fieldLink RX13 413 "TimeMachineModel$Assembler" "line" "I") (List.mem_of_getElem? (i := 2) rfl)) (fun _ h9 => h9) rfl dX13_blame_12 ?_
    refine lv_imul hx hb dX13_blame_15 ?_
    refine lv_iadd hx hb dX13_blame_16 ?_
    refine va_put (D := (dC, dI)) (ci := 14) (v := .int (v0 + (16 * (sI s0 13)))) (ty := .int) (C := RX13) (T := TX13) (N := 37) hx hb hts hi_dm_X13_blame_X13 tyX13 tyX13_ok nmX13 hown hK hP hD hS 0 rfl rfl 21 (by decide) (hts (.fieldLink RX13 410 "TimeMachineModel$Assembler" "fault" "I") (List.mem_of_getElem? (i := 1) rfl)) (fun _ h9 => h9) rfl (by decide +kernel) rfl rfl (Nat.le_of_ble_eq_true rfl) dX13_blame_17 (fun H locs hP hD hS => ?_)
    obtain ⟨s2, es2, h⟩ := nd_let_e h
    have hP : va_P (dC, dI) vwCl (dw_X13 a ac s2) H := by rw [es2]; exact hP
    have hD : va_D A (dw_X13 a ac s2) := by rw [es2]; exact hD
    exact (db_X13_blame_20 C K)  s2 _ _ _ h hP hD hS (lv_sub hl [] rfl)
set_option maxHeartbeats 40000000 in
set_option maxRecDepth 100000 in
theorem dm_X13_blame (l : Launch) (hlt : l.stackTraces = false) (dC : Nat → ClassId) (dI : Nat → Nat → Nat) (a : Nat → Nat) (ac : Nat → ClassId) (n : Nat) (v0 : Int32) (s0 : St) {r : St} (h : df_X13_blame n v0 s0 = some r) (sz : Nat) : Met l yX13_blame ow_dm_X13_blame ({ frames := 0, cells := 0, slots := 0, locals := 0 }) (va_Pc [.ref (a 0), .int v0] (fun U => U.heap.size = sz ∧ va_P (dC, dI) vwCl (dw_X13 a ac s0) U.heap ∧ va_K (dC, dI) vwCl (dk_X13 ac) U ∧ va_D (fun _ => True) (dw_X13 a ac s0) ∧ nv_E dI (va_A (dw_X13 a ac s0) sz) U)) (va_Qv (fun _ => True) (fun (_ : Unit) t => va_P (dC, dI) vwCl (dw_X13 a ac r) t.heap ∧ va_K (dC, dI) vwCl (dk_X13 ac) t ∧ va_D (va_A (dw_X13 a ac s0) sz) (dw_X13 a ac r)) (va_A (dw_X13 a ac s0) sz)) 0 0 (va_A (dw_X13 a ac s0) sz) := by
  refine Met.ofW (cc := cX13_blame) (maxL := 2) (ret := none) (by decide) rfl ?_
  intro p e s m args below meth c s₁ B hml hv
  obtain ⟨rfl, hsz, hP, hK, hD0, hN⟩ := hv
  have hx := B.exec
  have hb := B.bytes
  have hr := B.returns
  have hts := atoms_spec (ws := ow_dm_X13_blame) B.pre
  have hown : s.vm.findClass RX13 = some m.cls := findClass_of_methodNamed B.named
  have hlocks := B.notSynchronized
  subst hsz
  have hD := hD0.self (sz := s.heap.size)
  generalize hAe : va_A (dw_X13 a ac s0) s.heap.size = A at hD hN ⊢
  have hA : ∀ q : Nat, s.heap.size ≤ q → A q := fun q h => by rw [← hAe]; exact Or.inr h
  have hl := lv_entry ([.ref (a 0), .int v0]) (n := 2) (Nat.le_of_ble_eq_true rfl)
  rw [lg_entry_eq]
  generalize (lg_sl ([.ref (a 0), .int v0]) ++ List.replicate (2 - (lg_sl ([.ref (a 0), .int v0])).length) Slot.unset).toArray = ls at hl ⊢
  have hl : lv_has ls 2 [(0, .ref (a 0)), (1, .int v0)] := hl
  exact db_X13_blame_0 (dC := dC) (dI := dI) (a := a) (ac := ac) (n := n) (r := r) ⟨hlt, hx, hb, hml, hown, hts, hN, hA, hK⟩ (fun pc τ H locs ls d er hP hD hS => by subst er; exact W.vret hx hb hr (fun t ht hW => ⟨⟨(), rfl, trivial, by rw [ht]; exact hP, va_K.moved hW.alike hK, hD⟩, hS.F ht⟩) hS.2.2 d) v0 s0 _ _ _ h hP hD va_S.rf (lv_sub hl [0, 1] rfl)
def ow_dm_X13_needs : List Cond := Cond.code yX13_needs cX13_needs 2 (some .boolean) :: ([Cond.methodLink RX13 416 yX13_scan, Cond.instanceMethod yX13_scan, Cond.selects RX13 yX13_scan yX13_scan, Cond.initialized RX13, Cond.fieldLink RX13 365 "TimeMachineModel$Assembler" "token" "I", Cond.methodLink RX13 419 yX13_blame, Cond.instanceMethod yX13_blame, Cond.selects RX13 yX13_blame yX13_blame] ++ (u_ws RX13 TX13 37 ++ (ow_dm_X13_scan ++ (ow_dm_X13_blame ++ []))))
theorem gd_dm_X13_needs : ∀ w ∈ ow_dm_X13_needs, (w.onTables && w.keeps) = true ∨ ∃ ty, w = Cond.arrayClass ty := List.forall_mem_cons.mpr ⟨good_of_word rfl, List.forall_mem_append.mpr ⟨fun w h => good_of_word (List.all_eq_true.mp (by decide +kernel) w h), List.forall_mem_append.mpr ⟨gu_X13, List.forall_mem_append.mpr ⟨gd_dm_X13_scan, List.forall_mem_append.mpr ⟨gd_dm_X13_blame, fun _ h => nomatch h⟩⟩⟩⟩⟩
theorem hi_dm_X13_needs_X13 : ∀ w ∈ u_ws RX13 TX13 37, w ∈ ow_dm_X13_needs := fun w h => List.mem_cons_of_mem _ (List.mem_append_right _ (List.mem_append_left _ h))
theorem gi_dm_X13_needs_0 : GoodIn ow_dm_X13_needs (wsV RX13 416 RX13 yX13_scan ow_dm_X13_scan) := goodIn_app (goodIn_of _ (by decide +kernel)) (fun w h => ⟨List.mem_cons_of_mem _ (List.mem_append_right _ (List.mem_append_right _ (List.mem_append_left _ h))), gd_dm_X13_scan w h⟩)
theorem gi_dm_X13_needs_1 : GoodIn ow_dm_X13_needs (wsV RX13 419 RX13 yX13_blame ow_dm_X13_blame) := goodIn_app (goodIn_of _ (by decide +kernel)) (fun w h => ⟨List.mem_cons_of_mem _ (List.mem_append_right _ (List.mem_append_right _ (List.mem_append_right _ (List.mem_append_left _ h)))), gd_dm_X13_blame w h⟩)
def dj_X13_needs_30 (p : Program) (l : Launch) (e : Env) (s : State) (m : MethodId) (args : Array Value) (below : List Frame) (meth : Method) (c : Code) (Q : State → Prop) (A : Nat → Prop) (dC : Nat → ClassId) (dI : Nat → Nat → Nat) (a : Nat → Nat) (ac : Nat → ClassId) (g : Int32 → (St) → Option (Int32 × (St))) (r : Int32 × (St)) : Prop := ∀ (y0 : Int32) (s0 : St) (H : Heap) (locs : List Loc) (ls : Array Slot), g y0 s0 = some r → va_P (dC, dI) vwCl (dw_X13 a ac s0) H → va_D A (dw_X13 a ac s0) → va_S A s.heap H locs → lv_has ls 2 [] → W p l e (headSpec ow_dm_X13_needs ({ frames := 5, cells := 0, slots := 0, locals := 114 })).room s m args below meth c H locs 0 0 Q (F0 m 30 ls [.int y0])
def dj_X13_needs_17 (p : Program) (l : Launch) (e : Env) (s : State) (m : MethodId) (args : Array Value) (below : List Frame) (meth : Method) (c : Code) (Q : State → Prop) (A : Nat → Prop) (dC : Nat → ClassId) (dI : Nat → Nat → Nat) (a : Nat → Nat) (ac : Nat → ClassId) (g : Int32 → (St) → Option (Int32 × (St))) (r : Int32 × (St)) : Prop := ∀ (x1 : Int32) (s0 : St) (H : Heap) (locs : List Loc) (ls : Array Slot), g x1 s0 = some r → va_P (dC, dI) vwCl (dw_X13 a ac s0) H → va_D A (dw_X13 a ac s0) → va_S A s.heap H locs → lv_has ls 2 [(0, .ref (a 0)), (1, .int x1)] → W p l e (headSpec ow_dm_X13_needs ({ frames := 5, cells := 0, slots := 0, locals := 114 })).room s m args below meth c H locs 0 0 Q (F0 m 17 ls [])
def dj_X13_needs_0 (p : Program) (l : Launch) (e : Env) (s : State) (m : MethodId) (args : Array Value) (below : List Frame) (meth : Method) (c : Code) (Q : State → Prop) (A : Nat → Prop) (dC : Nat → ClassId) (dI : Nat → Nat → Nat) (a : Nat → Nat) (ac : Nat → ClassId) (g : Int32 → (St) → Option (Int32 × (St))) (r : Int32 × (St)) : Prop := ∀ (v0 : Int32) (s0 : St) (H : Heap) (locs : List Loc) (ls : Array Slot), g v0 s0 = some r → va_P (dC, dI) vwCl (dw_X13 a ac s0) H → va_D A (dw_X13 a ac s0) → va_S A s.heap H locs → lv_has ls 2 [(0, .ref (a 0)), (1, .int v0)] → W p l e (headSpec ow_dm_X13_needs ({ frames := 5, cells := 0, slots := 0, locals := 114 })).room s m args below meth c H locs 0 0 Q (F0 m 0 ls [])
set_option maxHeartbeats 40000000 in
set_option maxRecDepth 100000 in
theorem db_X13_needs_30 {p : Program} {l : Launch} {e : Env} {s : State} {m : MethodId} {args : Array Value} {below : List Frame} {meth : Method} {c : Code} {Q : State → Prop} {A : Nat → Prop} {dC : Nat → ClassId} {dI : Nat → Nat → Nat} {a : Nat → Nat} {ac : Nat → ClassId} {n : Nat} {r : Int32 × (St)} (C : nd_C p l s m args c A (dC, dI) cX13_needs 2 RX13 ow_dm_X13_needs (dk_X13 ac)) (K : nd_Ki p l e (headSpec ow_dm_X13_needs ({ frames := 5, cells := 0, slots := 0, locals := 114 })).room s m args below meth c Q A (dC, dI) cX13_needs .boolean (St) (dw_X13 a ac) r) : dj_X13_needs_30 p l e s m args below meth c Q A dC dI a ac (df_X13_needs_30 n) r := by
  obtain ⟨hlt, hx, hb, hml, hown, hts, hN, hA, hK⟩ := id C
  intro y0 s0 H locs ls h hP hD hS hl
  unfold df_X13_needs_30 at h
  obtain ⟨n6, h⟩ := nd_z_e ⟨_, rfl⟩ h
  exact K _ _ _ _ _ _ dX13_needs_30 n6 (Option.some.inj h).symm hP hD hS
set_option maxHeartbeats 40000000 in
set_option maxRecDepth 100000 in
theorem db_X13_needs_17 {p : Program} {l : Launch} {e : Env} {s : State} {m : MethodId} {args : Array Value} {below : List Frame} {meth : Method} {c : Code} {Q : State → Prop} {A : Nat → Prop} {dC : Nat → ClassId} {dI : Nat → Nat → Nat} {a : Nat → Nat} {ac : Nat → ClassId} {n : Nat} {r : Int32 × (St)} (C : nd_C p l s m args c A (dC, dI) cX13_needs 2 RX13 ow_dm_X13_needs (dk_X13 ac)) (K : nd_Ki p l e (headSpec ow_dm_X13_needs ({ frames := 5, cells := 0, slots := 0, locals := 114 })).room s m args below meth c Q A (dC, dI) cX13_needs .boolean (St) (dw_X13 a ac) r) : dj_X13_needs_17 p l e s m args below meth c Q A dC dI a ac (df_X13_needs_17 n) r := by
  obtain ⟨hlt, hx, hb, hml, hown, hts, hN, hA, hK⟩ := id C
  intro x1 s0 H locs ls h hP hD hS hl
  unfold df_X13_needs_17 at h
  refine lv_aload_n hx hb dX13_needs_17 rfl (lv_at hl 0 rfl) ?_
  refine va_get (D := (dC, dI)) (ci := 14) (v := .int (sI s0 8)) (C := RX13) (T := TX13) (N := 37) hx hb hts hi_dm_X13_needs_X13 hown hK hP 0 rfl rfl 17 (by decide) (hts (.fieldLink RX13 365 "TimeMachineModel$Assembler" "token" "I") (List.mem_of_getElem? (i := 5) rfl)) (fun _ h9 => h9) rfl dX13_needs_18 ?_
  refine lv_iload_n hx hb dX13_needs_21 rfl (lv_at hl 1 rfl) ?_
  refine lv_icmp_ne (tgt := 29) hx hb dX13_needs_22 (by decide) (fun c5 => ?_) (fun c5 => ?_)
  · have h := nd_neg h c5
    refine lv_iconst (v := 0) hx hb dX13_needs_29 (by decide) ?_
    exact (db_X13_needs_30 C K) (0) s0 _ _ _ h hP hD hS (lv_sub hl [] rfl)
  · have h := nd_pos h c5
    refine lv_iconst (v := 1) hx hb dX13_needs_25 (by decide) ?_
    refine lv_goto (tgt := 30) hx hb dX13_needs_26 (by decide) ?_
    exact (db_X13_needs_30 C K) (1) s0 _ _ _ h hP hD hS (lv_sub hl [] rfl)
set_option maxHeartbeats 40000000 in
set_option maxRecDepth 100000 in
theorem db_X13_needs_0 {p : Program} {l : Launch} {e : Env} {s : State} {m : MethodId} {args : Array Value} {below : List Frame} {meth : Method} {c : Code} {Q : State → Prop} {A : Nat → Prop} {dC : Nat → ClassId} {dI : Nat → Nat → Nat} {a : Nat → Nat} {ac : Nat → ClassId} {n : Nat} {r : Int32 × (St)} (C : nd_C p l s m args c A (dC, dI) cX13_needs 2 RX13 ow_dm_X13_needs (dk_X13 ac)) (K : nd_Ki p l e (headSpec ow_dm_X13_needs ({ frames := 5, cells := 0, slots := 0, locals := 114 })).room s m args below meth c Q A (dC, dI) cX13_needs .boolean (St) (dw_X13 a ac) r) : dj_X13_needs_0 p l e s m args below meth c Q A dC dI a ac (df_X13_needs_0 n) r := by
  obtain ⟨hlt, hx, hb, hml, hown, hts, hN, hA, hK⟩ := id C
  intro v0 s0 H locs ls h hP hD hS hl
  unfold df_X13_needs_0 at h
  refine lv_aload_n hx hb dX13_needs_0 rfl (lv_at hl 0 rfl) ?_
  obtain ⟨s2, hq, h⟩ := nd_b1_e h
  have hPc := hP
  have hDc := hD
  have hKc := hK
  have hFc := nd_rs hD hS hA
  refine nd_cVv (As := []) (rest := []) (w' := dw_X13 a ac s2) ⟨hx, hb, hml, hown, hts⟩ (fun sz => dm_X13_scan l hlt dC dI a ac n  s0 hq sz) (cwV 0 hts gi_dm_X13_needs_0 rfl rfl rfl (by decide +kernel) ⟨Nat.le_of_ble_eq_true rfl, Nat.le_of_ble_eq_true rfl⟩) hPc hDc hKc hS hA hN (va_recv hKc hPc (ci := 14) (q0 := 0) rfl rfl) rfl hl.1 rfl (Nat.le_of_ble_eq_true rfl) dX13_needs_1 (fun H locs hP1 hD1 hk1 hS => ?_)
  have hP := hP1
  have hD := hD1.weaken (fun k q _ h => hFc q.1 h)
  refine lv_aload_n hx hb dX13_needs_4 rfl (lv_at hl 0 rfl) ?_
  refine va_get (D := (dC, dI)) (ci := 14) (v := .int (sI s2 8)) (C := RX13) (T := TX13) (N := 37) hx hb hts hi_dm_X13_needs_X13 hown hK hP 0 rfl rfl 17 (by decide) (hts (.fieldLink RX13 365 "TimeMachineModel$Assembler" "token" "I") (List.mem_of_getElem? (i := 5) rfl)) (fun _ h9 => h9) rfl dX13_needs_5 ?_
  refine lv_iload_n hx hb dX13_needs_8 rfl (lv_at hl 1 rfl) ?_
  refine lv_icmp_eq (tgt := 17) hx hb dX13_needs_9 (by decide) (fun c4 => ?_) (fun c4 => ?_)
  · have h := nd_pos h c4
    exact (db_X13_needs_17 C K) (v0) s2 _ _ _ h hP hD hS (lv_sub hl [0, 1] rfl)
  · have h := nd_neg h c4
    refine lv_aload_n hx hb dX13_needs_12 rfl (lv_at hl 0 rfl) ?_
    refine lv_iconst (v := 1) hx hb dX13_needs_13 (by decide) ?_
    obtain ⟨s8, hq, h⟩ := nd_b1_e h
    have hPc := hP
    have hDc := hD
    have hKc := hK
    have hFc := nd_rs hD hS hA
    refine nd_cVv (As := [.int 1]) (rest := []) (w' := dw_X13 a ac s8) ⟨hx, hb, hml, hown, hts⟩ (fun sz => dm_X13_blame l hlt dC dI a ac n (1) s2 hq sz) (cwV 1 hts gi_dm_X13_needs_1 rfl rfl rfl (by decide +kernel) ⟨Nat.le_of_ble_eq_true rfl, Nat.le_of_ble_eq_true rfl⟩) hPc hDc hKc hS hA hN (va_recv hKc hPc (ci := 14) (q0 := 0) rfl rfl) rfl hl.1 rfl (Nat.le_of_ble_eq_true rfl) dX13_needs_14 (fun H locs hP1 hD1 hk1 hS => ?_)
    have hP := hP1
    have hD := hD1.weaken (fun k q _ h => hFc q.1 h)
    exact (db_X13_needs_17 C K) (v0) s8 _ _ _ h hP hD hS (lv_sub hl [0, 1] rfl)
set_option maxHeartbeats 40000000 in
set_option maxRecDepth 100000 in
theorem dm_X13_needs (l : Launch) (hlt : l.stackTraces = false) (dC : Nat → ClassId) (dI : Nat → Nat → Nat) (a : Nat → Nat) (ac : Nat → ClassId) (n : Nat) (v0 : Int32) (s0 : St) {r : Int32 × (St)} (h : df_X13_needs n v0 s0 = some r) (sz : Nat) : Met l yX13_needs ow_dm_X13_needs ({ frames := 5, cells := 0, slots := 0, locals := 114 }) (va_Pc [.ref (a 0), .int v0] (fun U => U.heap.size = sz ∧ va_P (dC, dI) vwCl (dw_X13 a ac s0) U.heap ∧ va_K (dC, dI) vwCl (dk_X13 ac) U ∧ va_D (fun _ => True) (dw_X13 a ac s0) ∧ nv_E dI (va_A (dw_X13 a ac s0) sz) U)) (va_Qi (fun x _ => x = r.1) (fun (_ : Unit) t => va_P (dC, dI) vwCl (dw_X13 a ac r.2) t.heap ∧ va_K (dC, dI) vwCl (dk_X13 ac) t ∧ va_D (va_A (dw_X13 a ac s0) sz) (dw_X13 a ac r.2)) (va_A (dw_X13 a ac s0) sz)) 0 0 (va_A (dw_X13 a ac s0) sz) := by
  refine Met.ofW (cc := cX13_needs) (maxL := 2) (ret := (some .boolean)) (by decide) rfl ?_
  intro p e s m args below meth c s₁ B hml hv
  obtain ⟨rfl, hsz, hP, hK, hD0, hN⟩ := hv
  have hx := B.exec
  have hb := B.bytes
  have hr := B.returns
  have hts := atoms_spec (ws := ow_dm_X13_needs) B.pre
  have hown : s.vm.findClass RX13 = some m.cls := findClass_of_methodNamed B.named
  have hlocks := B.notSynchronized
  subst hsz
  have hD := hD0.self (sz := s.heap.size)
  generalize hAe : va_A (dw_X13 a ac s0) s.heap.size = A at hD hN ⊢
  have hA : ∀ q : Nat, s.heap.size ≤ q → A q := fun q h => by rw [← hAe]; exact Or.inr h
  have hl := lv_entry ([.ref (a 0), .int v0]) (n := 2) (Nat.le_of_ble_eq_true rfl)
  rw [lg_entry_eq]
  generalize (lg_sl ([.ref (a 0), .int v0]) ++ List.replicate (2 - (lg_sl ([.ref (a 0), .int v0])).length) Slot.unset).toArray = ls at hl ⊢
  have hl : lv_has ls 2 [(0, .ref (a 0)), (1, .int v0)] := hl
  exact db_X13_needs_0 (dC := dC) (dI := dI) (a := a) (ac := ac) (n := n) (r := r) ⟨hlt, hx, hb, hml, hown, hts, hN, hA, hK⟩ (fun pc v τ H locs ls d z er hP hD hS => by subst er; exact W.zret (v := v) hx hb hr z (fun t ht hW => ⟨⟨v, (), rfl, rfl, by rw [ht]; exact hP, va_K.moved hW.alike hK, hD⟩, hS.F ht⟩) hS.2.2 d) v0 s0 _ _ _ h hP hD va_S.rf (lv_sub hl [0, 1] rfl)
def ow_dm_X13_packed : List Cond := Cond.code yX13_packed cX13_packed 7 (some .long) :: ([Cond.fieldLink RX13 324 "TimeMachineModel$Assembler" "text" "[C", Cond.methodLink RX13 351 yX13_isDigit, Cond.static yX13_isDigit, Cond.initialized RX13] ++ (u_ws RX13 TX13 37 ++ (ow_dm_X13_isDigit ++ [])))
theorem gd_dm_X13_packed : ∀ w ∈ ow_dm_X13_packed, (w.onTables && w.keeps) = true ∨ ∃ ty, w = Cond.arrayClass ty := List.forall_mem_cons.mpr ⟨good_of_word rfl, List.forall_mem_append.mpr ⟨fun w h => good_of_word (List.all_eq_true.mp (by decide +kernel) w h), List.forall_mem_append.mpr ⟨gu_X13, List.forall_mem_append.mpr ⟨gd_dm_X13_isDigit, fun _ h => nomatch h⟩⟩⟩⟩
theorem hi_dm_X13_packed_X13 : ∀ w ∈ u_ws RX13 TX13 37, w ∈ ow_dm_X13_packed := fun w h => List.mem_cons_of_mem _ (List.mem_append_right _ (List.mem_append_left _ h))
theorem gi_dm_X13_packed_0 : GoodIn ow_dm_X13_packed (wsS RX13 351 yX13_isDigit ow_dm_X13_isDigit) := goodIn_app (goodIn_of _ (by decide +kernel)) (fun w h => ⟨List.mem_cons_of_mem _ (List.mem_append_right _ (List.mem_append_right _ (List.mem_append_left _ h))), gd_dm_X13_isDigit w h⟩)
def dj_X13_packed_60 (p : Program) (l : Launch) (e : Env) (s : State) (m : MethodId) (args : Array Value) (below : List Frame) (meth : Method) (c : Code) (Q : State → Prop) (A : Nat → Prop) (dC : Nat → ClassId) (dI : Nat → Nat → Nat) (a : Nat → Nat) (ac : Nat → ClassId) (g : (St) → Option (Int64 × (St))) (r : Int64 × (St)) : Prop := ∀ (s0 : St) (H : Heap) (locs : List Loc) (ls : Array Slot), g s0 = some r → va_P (dC, dI) vwCl (dw_X13 a ac s0) H → va_D A (dw_X13 a ac s0) → va_S A s.heap H locs → lv_has ls 7 [] → W p l e (headSpec ow_dm_X13_packed ({ frames := 1, cells := 0, slots := 0, locals := 20 })).room s m args below meth c H locs 0 0 Q (F0 m 60 ls [])
def dj_X13_packed_102 (p : Program) (l : Launch) (e : Env) (s : State) (m : MethodId) (args : Array Value) (below : List Frame) (meth : Method) (c : Code) (Q : State → Prop) (A : Nat → Prop) (dC : Nat → ClassId) (dI : Nat → Nat → Nat) (a : Nat → Nat) (ac : Nat → ClassId) (g : Int32 → Int32 → Int64 → Int32 → (St) → Option (Int64 × (St))) (r : Int64 × (St)) : Prop := ∀ (x1 : Int32) (x5 : Int32) (y0 : Int64) (y1 : Int32) (s0 : St) (H : Heap) (locs : List Loc) (ls : Array Slot), g x1 x5 y0 y1 s0 = some r → va_P (dC, dI) vwCl (dw_X13 a ac s0) H → va_D A (dw_X13 a ac s0) → va_S A s.heap H locs → lv_has ls 7 [(0, .ref (a 0)), (1, .int x1), (5, .int x5)] → W p l e (headSpec ow_dm_X13_packed ({ frames := 1, cells := 0, slots := 0, locals := 20 })).room s m args below meth c H locs 0 0 Q (F0 m 102 ls [.int y1, .long y0])
def dj_X13_packed_46 (p : Program) (l : Launch) (e : Env) (s : State) (m : MethodId) (args : Array Value) (below : List Frame) (meth : Method) (c : Code) (Q : State → Prop) (A : Nat → Prop) (dC : Nat → ClassId) (dI : Nat → Nat → Nat) (a : Nat → Nat) (ac : Nat → ClassId) (g : Int32 → Int64 → Int32 → Int32 → (St) → Option (Int64 × (St))) (r : Int64 × (St)) : Prop := ∀ (x1 : Int32) (x3 : Int64) (x5 : Int32) (x6 : Int32) (s0 : St) (H : Heap) (locs : List Loc) (ls : Array Slot), g x1 x3 x5 x6 s0 = some r → va_P (dC, dI) vwCl (dw_X13 a ac s0) H → va_D A (dw_X13 a ac s0) → va_S A s.heap H locs → lv_has ls 7 [(0, .ref (a 0)), (1, .int x1), (3, .long x3), (5, .int x5), (6, .int x6)] → W p l e (headSpec ow_dm_X13_packed ({ frames := 1, cells := 0, slots := 0, locals := 20 })).room s m args below meth c H locs 0 0 Q (F0 m 46 ls [])
def dj_X13_packed_17 (p : Program) (l : Launch) (e : Env) (s : State) (m : MethodId) (args : Array Value) (below : List Frame) (meth : Method) (c : Code) (Q : State → Prop) (A : Nat → Prop) (dC : Nat → ClassId) (dI : Nat → Nat → Nat) (a : Nat → Nat) (ac : Nat → ClassId) (g : Int32 → Int64 → Int32 → (St) → Option (Int64 × (St))) (r : Int64 × (St)) : Prop := ∀ (x1 : Int32) (x3 : Int64) (x5 : Int32) (s0 : St) (H : Heap) (locs : List Loc) (ls : Array Slot), g x1 x3 x5 s0 = some r → va_P (dC, dI) vwCl (dw_X13 a ac s0) H → va_D A (dw_X13 a ac s0) → va_S A s.heap H locs → lv_has ls 7 [(0, .ref (a 0)), (1, .int x1), (3, .long x3), (5, .int x5)] → W p l e (headSpec ow_dm_X13_packed ({ frames := 1, cells := 0, slots := 0, locals := 20 })).room s m args below meth c H locs 0 0 Q (F0 m 17 ls [])
def dj_X13_packed_0 (p : Program) (l : Launch) (e : Env) (s : State) (m : MethodId) (args : Array Value) (below : List Frame) (meth : Method) (c : Code) (Q : State → Prop) (A : Nat → Prop) (dC : Nat → ClassId) (dI : Nat → Nat → Nat) (a : Nat → Nat) (ac : Nat → ClassId) (g : Int32 → Int32 → (St) → Option (Int64 × (St))) (r : Int64 × (St)) : Prop := ∀ (v0 : Int32) (v1 : Int32) (s0 : St) (H : Heap) (locs : List Loc) (ls : Array Slot), g v0 v1 s0 = some r → va_P (dC, dI) vwCl (dw_X13 a ac s0) H → va_D A (dw_X13 a ac s0) → va_S A s.heap H locs → lv_has ls 7 [(0, .ref (a 0)), (1, .int v0), (2, .int v1)] → W p l e (headSpec ow_dm_X13_packed ({ frames := 1, cells := 0, slots := 0, locals := 20 })).room s m args below meth c H locs 0 0 Q (F0 m 0 ls [])
set_option maxHeartbeats 40000000 in
set_option maxRecDepth 100000 in
theorem db_X13_packed_60 {p : Program} {l : Launch} {e : Env} {s : State} {m : MethodId} {args : Array Value} {below : List Frame} {meth : Method} {c : Code} {Q : State → Prop} {A : Nat → Prop} {dC : Nat → ClassId} {dI : Nat → Nat → Nat} {a : Nat → Nat} {ac : Nat → ClassId} {n : Nat} {r : Int64 × (St)} (C : nd_C p l s m args c A (dC, dI) cX13_packed 7 RX13 ow_dm_X13_packed (dk_X13 ac)) (K : nd_Kl p l e (headSpec ow_dm_X13_packed ({ frames := 1, cells := 0, slots := 0, locals := 20 })).room s m args below meth c Q A (dC, dI) cX13_packed (St) (dw_X13 a ac) r) : dj_X13_packed_60 p l e s m args below meth c Q A dC dI a ac (df_X13_packed_60 n) r := by
  obtain ⟨hlt, hx, hb, hml, hown, hts, hN, hA, hK⟩ := id C
  intro s0 H locs ls h hP hD hS hl
  unfold df_X13_packed_60 at h
  refine lv_lconst (v := 0) hx hb dX13_packed_60 (by decide) ?_
  exact K _ _ _ _ _ _ dX13_packed_61 (Option.some.inj h).symm hP hD hS
set_option maxHeartbeats 40000000 in
set_option maxRecDepth 100000 in
theorem db_X13_packed_102 {p : Program} {l : Launch} {e : Env} {s : State} {m : MethodId} {args : Array Value} {below : List Frame} {meth : Method} {c : Code} {Q : State → Prop} {A : Nat → Prop} {dC : Nat → ClassId} {dI : Nat → Nat → Nat} {a : Nat → Nat} {ac : Nat → ClassId} {n : Nat} {r : Int64 × (St)} (C : nd_C p l s m args c A (dC, dI) cX13_packed 7 RX13 ow_dm_X13_packed (dk_X13 ac)) (K : nd_Kl p l e (headSpec ow_dm_X13_packed ({ frames := 1, cells := 0, slots := 0, locals := 20 })).room s m args below meth c Q A (dC, dI) cX13_packed (St) (dw_X13 a ac) r) {g17 : Int32 → Int64 → Int32 → (St) → Option (Int64 × (St))} (J17 : dj_X13_packed_17 p l e s m args below meth c Q A dC dI a ac g17 r) : dj_X13_packed_102 p l e s m args below meth c Q A dC dI a ac (df_X13_packed_102 n g17) r := by
  obtain ⟨hlt, hx, hb, hml, hown, hts, hN, hA, hK⟩ := id C
  intro x1 x5 y0 y1 s0 H locs ls h hP hD hS hl
  unfold df_X13_packed_102 at h
  refine lv_i2l hx hb dX13_packed_102 rfl ?_
  refine lv_lor hx hb dX13_packed_103 ?_
  refine lv_topl (fun z14 ez14 => ?_)
  have h := nd_at h ez14
  refine lv_lstore_n (lv' := [(3, .long z14), (0, .ref (a 0)), (1, .int x1), (5, .int x5)]) hx hb dX13_packed_104 rfl hl (by decide) rfl (fun ls hl => ?_)
  obtain ⟨z15, ez15, h⟩ := nd_let_e h
  refine lv_iinc (v := z15) (lv' := [(5, .int z15), (3, .long z14), (0, .ref (a 0)), (1, .int x1)]) hx hb dX13_packed_105 hl (k := 3) rfl (by rw [ez15]) (by decide) rfl (fun ls hl => ?_)
  refine lv_goto (tgt := 17) hx hb dX13_packed_108 (by decide) ?_
  exact (J17) (x1) (z14) (z15) s0 _ _ _ h hP hD hS (lv_sub hl [2, 3, 1, 0] rfl)
set_option maxHeartbeats 40000000 in
set_option maxRecDepth 100000 in
theorem db_X13_packed_46 {p : Program} {l : Launch} {e : Env} {s : State} {m : MethodId} {args : Array Value} {below : List Frame} {meth : Method} {c : Code} {Q : State → Prop} {A : Nat → Prop} {dC : Nat → ClassId} {dI : Nat → Nat → Nat} {a : Nat → Nat} {ac : Nat → ClassId} {n : Nat} {r : Int64 × (St)} (C : nd_C p l s m args c A (dC, dI) cX13_packed 7 RX13 ow_dm_X13_packed (dk_X13 ac)) (K : nd_Kl p l e (headSpec ow_dm_X13_packed ({ frames := 1, cells := 0, slots := 0, locals := 20 })).room s m args below meth c Q A (dC, dI) cX13_packed (St) (dw_X13 a ac) r) {g17 : Int32 → Int64 → Int32 → (St) → Option (Int64 × (St))} (J17 : dj_X13_packed_17 p l e s m args below meth c Q A dC dI a ac g17 r) : dj_X13_packed_46 p l e s m args below meth c Q A dC dI a ac (df_X13_packed_46 n g17) r := by
  obtain ⟨hlt, hx, hb, hml, hown, hts, hN, hA, hK⟩ := id C
  intro x1 x3 x5 x6 s0 H locs ls h hP hD hS hl
  unfold df_X13_packed_46 at h
  refine lv_iload hx hb dX13_packed_46 (lv_at hl 4 rfl) ?_
  refine lv_bipush (v := 95) hx hb dX13_packed_48 (by decide) ?_
  refine lv_icmp_eq (tgt := 60) hx hb dX13_packed_50 (by decide) (fun c7 => ?_) (fun c7 => ?_)
  · have h := nd_pos h c7
    exact (db_X13_packed_60 C K)  s0 _ _ _ h hP hD hS (lv_sub hl [] rfl)
  · have h := nd_neg h c7
    refine lv_iload hx hb dX13_packed_53 (lv_at hl 4 rfl) ?_
    refine lv_bipush (v := 36) hx hb dX13_packed_55 (by decide) ?_
    refine lv_icmp_ne (tgt := 62) hx hb dX13_packed_57 (by decide) (fun c8 => ?_) (fun c8 => ?_)
    · have h := nd_neg h c8
      refine lv_lload_n hx hb dX13_packed_62 rfl (lv_at hl 2 rfl) ?_
      refine lv_bipush (v := 6) hx hb dX13_packed_63 (by decide) ?_
      refine lv_lshl hx hb dX13_packed_65 rfl ?_
      refine lv_iload hx hb dX13_packed_66 (lv_at hl 4 rfl) ?_
      refine lv_bipush (v := 46) hx hb dX13_packed_68 (by decide) ?_
      refine lv_icmp_ne (tgt := 78) hx hb dX13_packed_70 (by decide) (fun c9 => ?_) (fun c9 => ?_)
      · have h := nd_neg h c9
        refine lv_iload hx hb dX13_packed_78 (lv_at hl 4 rfl) ?_
        obtain ⟨q10, s11, hq, h⟩ := nd_b2_e h
        have hPc : va_P (dC, dI) vwCl (dw_P a ac ()) H := nd_p0
        have hDc : va_D A (dw_P a ac ()) := nd_d0
        have hKc : va_K (dC, dI) vwCl (dk_P ac) s := nd_y0 hK
        have hFc : ∀ q, va_A (dw_P a ac ()) H.size q → A q := nd_r0 hS hA
        refine nd_cSi (As := [.int x6]) (rest := [.long ((x3 : Int64) <<< ((6 : Int32).toInt64 &&& 63))]) (q := q10) (w' := dw_P a ac s11) ⟨hx, hb, hml, hown, hts⟩ (fun sz => dm_X13_isDigit l hlt dC dI a ac n (x6) () hq sz) (cwS 1 hts gi_dm_X13_packed_0 rfl rfl rfl (by decide +kernel) ⟨Nat.le_of_ble_eq_true rfl, Nat.le_of_ble_eq_true rfl⟩) hPc hDc hKc hS hA hN rfl hl.1 rfl (Nat.le_of_ble_eq_true rfl) dX13_packed_80 (fun H locs hP1 hD1 hk1 hS => ?_)
        have hP := nd_n0 hP hk1
        refine lv_if_eq (tgt := 97) hx hb dX13_packed_83 (by decide) (fun c13 => ?_) (fun c13 => ?_)
        · have h := nd_pos h c13
          refine lv_iload hx hb dX13_packed_97 (lv_at hl 4 rfl) ?_
          refine lv_bipush (v := 96) hx hb dX13_packed_99 (by decide) ?_
          refine lv_isub hx hb dX13_packed_101 ?_
          exact (db_X13_packed_102 C K J17) (x1) (x5) (((x3 : Int64) <<< ((6 : Int32).toInt64 &&& 63))) ((x6 - 96)) s0 _ _ _ h hP hD hS (lv_sub hl [0, 1, 3] rfl)
        · have h := nd_neg h c13
          refine lv_bipush (v := 27) hx hb dX13_packed_86 (by decide) ?_
          refine lv_iload hx hb dX13_packed_88 (lv_at hl 4 rfl) ?_
          refine lv_iadd hx hb dX13_packed_90 ?_
          refine lv_bipush (v := 48) hx hb dX13_packed_91 (by decide) ?_
          refine lv_isub hx hb dX13_packed_93 ?_
          refine lv_goto (tgt := 102) hx hb dX13_packed_94 (by decide) ?_
          exact (db_X13_packed_102 C K J17) (x1) (x5) (((x3 : Int64) <<< ((6 : Int32).toInt64 &&& 63))) (((27 + x6) - 48)) s0 _ _ _ h hP hD hS (lv_sub hl [0, 1, 3] rfl)
      · have h := nd_pos h c9
        refine lv_bipush (v := 37) hx hb dX13_packed_73 (by decide) ?_
        refine lv_goto (tgt := 102) hx hb dX13_packed_75 (by decide) ?_
        exact (db_X13_packed_102 C K J17) (x1) (x5) (((x3 : Int64) <<< ((6 : Int32).toInt64 &&& 63))) (37) s0 _ _ _ h hP hD hS (lv_sub hl [0, 1, 3] rfl)
    · have h := nd_pos h c8
      exact (db_X13_packed_60 C K)  s0 _ _ _ h hP hD hS (lv_sub hl [] rfl)
set_option maxHeartbeats 40000000 in
set_option maxRecDepth 100000 in
theorem dB_X13_packed_17 {p : Program} {l : Launch} {e : Env} {s : State} {m : MethodId} {args : Array Value} {below : List Frame} {meth : Method} {c : Code} {Q : State → Prop} {A : Nat → Prop} {dC : Nat → ClassId} {dI : Nat → Nat → Nat} {a : Nat → Nat} {ac : Nat → ClassId} {n : Nat} {r : Int64 × (St)} (C : nd_C p l s m args c A (dC, dI) cX13_packed 7 RX13 ow_dm_X13_packed (dk_X13 ac)) (K : nd_Kl p l e (headSpec ow_dm_X13_packed ({ frames := 1, cells := 0, slots := 0, locals := 20 })).room s m args below meth c Q A (dC, dI) cX13_packed (St) (dw_X13 a ac) r) {g17 : Int32 → Int64 → Int32 → (St) → Option (Int64 × (St))} (J17 : dj_X13_packed_17 p l e s m args below meth c Q A dC dI a ac g17 r) : dj_X13_packed_17 p l e s m args below meth c Q A dC dI a ac (dF_X13_packed_17 n g17) r := by
  obtain ⟨hlt, hx, hb, hml, hown, hts, hN, hA, hK⟩ := id C
  intro x1 x3 x5 s0 H locs ls h hP hD hS hl
  unfold dF_X13_packed_17 at h
  refine lv_iload hx hb dX13_packed_17 (lv_at hl 3 rfl) ?_
  refine lv_iload_n hx hb dX13_packed_19 rfl (lv_at hl 1 rfl) ?_
  refine lv_icmp_lt (tgt := 111) hx hb dX13_packed_20 (by decide) (fun c3 => ?_) (fun c3 => ?_)
  · have h := nd_pos h c3
    refine lv_lload_n hx hb dX13_packed_111 rfl (lv_at hl 2 rfl) ?_
    exact K _ _ _ _ _ _ dX13_packed_112 (Option.some.inj h).symm hP hD hS
  · have h := nd_neg h c3
    refine lv_aload_n hx hb dX13_packed_23 rfl (lv_at hl 0 rfl) ?_
    refine va_get (D := (dC, dI)) (ci := 14) (v := .ref (a 4)) (C := RX13) (T := TX13) (N := 37) hx hb hts hi_dm_X13_packed_X13 hown hK hP 0 rfl rfl 3 (by decide) (hts (.fieldLink RX13 324 "TimeMachineModel$Assembler" "text" "[C") (List.mem_of_getElem? (i := 1) rfl)) (fun _ h9 => h9) rfl dX13_packed_24 ?_
    refine lv_iload hx hb dX13_packed_27 (lv_at hl 3 rfl) ?_
    obtain ⟨i4, h⟩ := nd_ck_e h
    refine va_cald (i := x5) hx hb hK hP 4 3 rfl rfl i4 dX13_packed_29 ?_
    refine lv_topi (fun z5 ez5 => ?_)
    have h := nd_at h ez5
    refine lv_istore (lv' := [(6, .int z5), (0, .ref (a 0)), (1, .int x1), (3, .long x3), (5, .int x5)]) hx hb dX13_packed_30 hl (by decide) rfl (fun ls hl => ?_)
    refine lv_iload hx hb dX13_packed_32 (lv_at hl 0 rfl) ?_
    refine lv_bipush (v := 65) hx hb dX13_packed_34 (by decide) ?_
    refine lv_icmp_lt (tgt := 46) hx hb dX13_packed_36 (by decide) (fun c6 => ?_) (fun c6 => ?_)
    · have h := nd_pos h c6
      exact (db_X13_packed_46 C K J17) (x1) (x3) (x5) (z5) s0 _ _ _ h hP hD hS (lv_sub hl [1, 2, 3, 4, 0] rfl)
    · have h := nd_neg h c6
      refine lv_iload hx hb dX13_packed_39 (lv_at hl 0 rfl) ?_
      refine lv_bipush (v := 90) hx hb dX13_packed_41 (by decide) ?_
      refine lv_icmp_le (tgt := 60) hx hb dX13_packed_43 (by decide) (fun c16 => ?_) (fun c16 => ?_)
      · have h := nd_pos h c16
        exact (db_X13_packed_60 C K)  s0 _ _ _ h hP hD hS (lv_sub hl [] rfl)
      · have h := nd_neg h c16
        exact (db_X13_packed_46 C K J17) (x1) (x3) (x5) (z5) s0 _ _ _ h hP hD hS (lv_sub hl [1, 2, 3, 4, 0] rfl)
set_option maxHeartbeats 40000000 in
set_option maxRecDepth 100000 in
theorem db_X13_packed_17 {p : Program} {l : Launch} {e : Env} {s : State} {m : MethodId} {args : Array Value} {below : List Frame} {meth : Method} {c : Code} {Q : State → Prop} {A : Nat → Prop} {dC : Nat → ClassId} {dI : Nat → Nat → Nat} {a : Nat → Nat} {ac : Nat → ClassId} {n : Nat} {r : Int64 × (St)} (C : nd_C p l s m args c A (dC, dI) cX13_packed 7 RX13 ow_dm_X13_packed (dk_X13 ac)) (K : nd_Kl p l e (headSpec ow_dm_X13_packed ({ frames := 1, cells := 0, slots := 0, locals := 20 })).room s m args below meth c Q A (dC, dI) cX13_packed (St) (dw_X13 a ac) r) (k : Nat) : dj_X13_packed_17 p l e s m args below meth c Q A dC dI a ac (df_X13_packed_17 n k) r := by
  induction k with
  | zero => intro x1 x3 x5 s0 H locs ls h; exact nomatch (show (none : Option (Int64 × (St))) = some r from h)
  | succ k ih => exact dB_X13_packed_17 C K ih
set_option maxHeartbeats 40000000 in
set_option maxRecDepth 100000 in
theorem db_X13_packed_0 {p : Program} {l : Launch} {e : Env} {s : State} {m : MethodId} {args : Array Value} {below : List Frame} {meth : Method} {c : Code} {Q : State → Prop} {A : Nat → Prop} {dC : Nat → ClassId} {dI : Nat → Nat → Nat} {a : Nat → Nat} {ac : Nat → ClassId} {n : Nat} {r : Int64 × (St)} (C : nd_C p l s m args c A (dC, dI) cX13_packed 7 RX13 ow_dm_X13_packed (dk_X13 ac)) (K : nd_Kl p l e (headSpec ow_dm_X13_packed ({ frames := 1, cells := 0, slots := 0, locals := 20 })).room s m args below meth c Q A (dC, dI) cX13_packed (St) (dw_X13 a ac) r) : dj_X13_packed_0 p l e s m args below meth c Q A dC dI a ac (df_X13_packed_0 n) r := by
  obtain ⟨hlt, hx, hb, hml, hown, hts, hN, hA, hK⟩ := id C
  intro v0 v1 s0 H locs ls h hP hD hS hl
  unfold df_X13_packed_0 at h
  refine lv_iload_n hx hb dX13_packed_0 rfl (lv_at hl 2 rfl) ?_
  refine lv_iload_n hx hb dX13_packed_1 rfl (lv_at hl 1 rfl) ?_
  refine lv_isub hx hb dX13_packed_2 ?_
  refine lv_bipush (v := 10) hx hb dX13_packed_3 (by decide) ?_
  refine lv_icmp_le (tgt := 10) hx hb dX13_packed_5 (by decide) (fun c1 => ?_) (fun c1 => ?_)
  · have h := nd_pos h c1
    refine lv_lconst (v := 0) hx hb dX13_packed_10 (by decide) ?_
    refine lv_lstore_n (lv' := [(3, .long 0), (0, .ref (a 0)), (1, .int v0), (2, .int v1)]) hx hb dX13_packed_11 rfl hl (by decide) rfl (fun ls hl => ?_)
    refine lv_iload_n hx hb dX13_packed_12 rfl (lv_at hl 3 rfl) ?_
    refine lv_iconst (v := 1) hx hb dX13_packed_13 (by decide) ?_
    refine lv_isub hx hb dX13_packed_14 ?_
    refine lv_topi (fun z2 ez2 => ?_)
    have h := nd_at h ez2
    refine lv_istore (lv' := [(5, .int z2), (3, .long 0), (0, .ref (a 0)), (1, .int v0), (2, .int v1)]) hx hb dX13_packed_15 hl (by decide) rfl (fun ls hl => ?_)
    exact (db_X13_packed_17 C K n) (v0) (0) (z2) s0 _ _ _ h hP hD hS (lv_sub hl [2, 3, 1, 0] rfl)
  · have h := nd_neg h c1
    refine lv_lconst (v := 0) hx hb dX13_packed_8 (by decide) ?_
    exact K _ _ _ _ _ _ dX13_packed_9 (Option.some.inj h).symm hP hD hS
set_option maxHeartbeats 40000000 in
set_option maxRecDepth 100000 in
theorem dm_X13_packed (l : Launch) (hlt : l.stackTraces = false) (dC : Nat → ClassId) (dI : Nat → Nat → Nat) (a : Nat → Nat) (ac : Nat → ClassId) (n : Nat) (v0 : Int32) (v1 : Int32) (s0 : St) {r : Int64 × (St)} (h : df_X13_packed n v0 v1 s0 = some r) (sz : Nat) : Met l yX13_packed ow_dm_X13_packed ({ frames := 1, cells := 0, slots := 0, locals := 20 }) (va_Pc [.ref (a 0), .int v0, .int v1] (fun U => U.heap.size = sz ∧ va_P (dC, dI) vwCl (dw_X13 a ac s0) U.heap ∧ va_K (dC, dI) vwCl (dk_X13 ac) U ∧ va_D (fun _ => True) (dw_X13 a ac s0) ∧ nv_E dI (va_A (dw_X13 a ac s0) sz) U)) (va_Ql (fun x _ => x = r.1) (fun (_ : Unit) t => va_P (dC, dI) vwCl (dw_X13 a ac r.2) t.heap ∧ va_K (dC, dI) vwCl (dk_X13 ac) t ∧ va_D (va_A (dw_X13 a ac s0) sz) (dw_X13 a ac r.2)) (va_A (dw_X13 a ac s0) sz)) 0 0 (va_A (dw_X13 a ac s0) sz) := by
  refine Met.ofW (cc := cX13_packed) (maxL := 7) (ret := (some .long)) (by decide) rfl ?_
  intro p e s m args below meth c s₁ B hml hv
  obtain ⟨rfl, hsz, hP, hK, hD0, hN⟩ := hv
  have hx := B.exec
  have hb := B.bytes
  have hr := B.returns
  have hts := atoms_spec (ws := ow_dm_X13_packed) B.pre
  have hown : s.vm.findClass RX13 = some m.cls := findClass_of_methodNamed B.named
  have hlocks := B.notSynchronized
  subst hsz
  have hD := hD0.self (sz := s.heap.size)
  generalize hAe : va_A (dw_X13 a ac s0) s.heap.size = A at hD hN ⊢
  have hA : ∀ q : Nat, s.heap.size ≤ q → A q := fun q h => by rw [← hAe]; exact Or.inr h
  have hl := lv_entry ([.ref (a 0), .int v0, .int v1]) (n := 7) (Nat.le_of_ble_eq_true rfl)
  rw [lg_entry_eq]
  generalize (lg_sl ([.ref (a 0), .int v0, .int v1]) ++ List.replicate (7 - (lg_sl ([.ref (a 0), .int v0, .int v1])).length) Slot.unset).toArray = ls at hl ⊢
  have hl : lv_has ls 7 [(0, .ref (a 0)), (1, .int v0), (2, .int v1)] := hl
  exact db_X13_packed_0 (dC := dC) (dI := dI) (a := a) (ac := ac) (n := n) (r := r) ⟨hlt, hx, hb, hml, hown, hts, hN, hA, hK⟩ (fun pc v τ H locs ls d er hP hD hS => by subst er; exact W.lret (v := v) hx hb hr (fun t ht hW => ⟨⟨v, (), rfl, rfl, by rw [ht]; exact hP, va_K.moved hW.alike hK, hD⟩, hS.F ht⟩) hS.2.2 d) v0 v1 s0 _ _ _ h hP hD va_S.rf (lv_sub hl [0, 1, 2] rfl)
def ow_dm_X13_register : List Cond := Cond.code yX13_register cX13_register 7 (some .int) :: ([Cond.methodLink RX13 423 yX13_packed, Cond.instanceMethod yX13_packed, Cond.selects RX13 yX13_packed yX13_packed, Cond.initialized RX13, Cond.constantLong RX13 427 (4006234), Cond.constantLong RX13 429 (82), Cond.constantLong RX13 431 (1043), Cond.constantLong RX13 433 (1031), Cond.constantLong RX13 435 (1044), Cond.constantLong RX13 437 (1030), Cond.fieldLink RX13 324 "TimeMachineModel$Assembler" "text" "[C", Cond.methodLink RX13 351 yX13_isDigit, Cond.static yX13_isDigit] ++ (u_ws RX13 TX13 37 ++ (ow_dm_X13_packed ++ (ow_dm_X13_isDigit ++ []))))
theorem gd_dm_X13_register : ∀ w ∈ ow_dm_X13_register, (w.onTables && w.keeps) = true ∨ ∃ ty, w = Cond.arrayClass ty := List.forall_mem_cons.mpr ⟨good_of_word rfl, List.forall_mem_append.mpr ⟨fun w h => good_of_word (List.all_eq_true.mp (by decide +kernel) w h), List.forall_mem_append.mpr ⟨gu_X13, List.forall_mem_append.mpr ⟨gd_dm_X13_packed, List.forall_mem_append.mpr ⟨gd_dm_X13_isDigit, fun _ h => nomatch h⟩⟩⟩⟩⟩
theorem hi_dm_X13_register_X13 : ∀ w ∈ u_ws RX13 TX13 37, w ∈ ow_dm_X13_register := fun w h => List.mem_cons_of_mem _ (List.mem_append_right _ (List.mem_append_left _ h))
theorem gi_dm_X13_register_0 : GoodIn ow_dm_X13_register (wsV RX13 423 RX13 yX13_packed ow_dm_X13_packed) := goodIn_app (goodIn_of _ (by decide +kernel)) (fun w h => ⟨List.mem_cons_of_mem _ (List.mem_append_right _ (List.mem_append_right _ (List.mem_append_left _ h))), gd_dm_X13_packed w h⟩)
theorem gi_dm_X13_register_1 : GoodIn ow_dm_X13_register (wsS RX13 351 yX13_isDigit ow_dm_X13_isDigit) := goodIn_app (goodIn_of _ (by decide +kernel)) (fun w h => ⟨List.mem_cons_of_mem _ (List.mem_append_right _ (List.mem_append_right _ (List.mem_append_right _ (List.mem_append_left _ h)))), gd_dm_X13_isDigit w h⟩)
def dj_X13_register_96 (p : Program) (l : Launch) (e : Env) (s : State) (m : MethodId) (args : Array Value) (below : List Frame) (meth : Method) (c : Code) (Q : State → Prop) (A : Nat → Prop) (dC : Nat → ClassId) (dI : Nat → Nat → Nat) (a : Nat → Nat) (ac : Nat → ClassId) (g : (St) → Option (Int32 × (St))) (r : Int32 × (St)) : Prop := ∀ (s0 : St) (H : Heap) (locs : List Loc) (ls : Array Slot), g s0 = some r → va_P (dC, dI) vwCl (dw_X13 a ac s0) H → va_D A (dw_X13 a ac s0) → va_S A s.heap H locs → lv_has ls 7 [] → W p l e (headSpec ow_dm_X13_register ({ frames := 2, cells := 0, slots := 0, locals := 46 })).room s m args below meth c H locs 0 0 Q (F0 m 96 ls [])
def dj_X13_register_292 (p : Program) (l : Launch) (e : Env) (s : State) (m : MethodId) (args : Array Value) (below : List Frame) (meth : Method) (c : Code) (Q : State → Prop) (A : Nat → Prop) (dC : Nat → ClassId) (dI : Nat → Nat → Nat) (a : Nat → Nat) (ac : Nat → ClassId) (g : Int32 → (St) → Option (Int32 × (St))) (r : Int32 × (St)) : Prop := ∀ (y0 : Int32) (s0 : St) (H : Heap) (locs : List Loc) (ls : Array Slot), g y0 s0 = some r → va_P (dC, dI) vwCl (dw_X13 a ac s0) H → va_D A (dw_X13 a ac s0) → va_S A s.heap H locs → lv_has ls 7 [] → W p l e (headSpec ow_dm_X13_register ({ frames := 2, cells := 0, slots := 0, locals := 46 })).room s m args below meth c H locs 0 0 Q (F0 m 292 ls [.int y0])
def dj_X13_register_250 (p : Program) (l : Launch) (e : Env) (s : State) (m : MethodId) (args : Array Value) (below : List Frame) (meth : Method) (c : Code) (Q : State → Prop) (A : Nat → Prop) (dC : Nat → ClassId) (dI : Nat → Nat → Nat) (a : Nat → Nat) (ac : Nat → ClassId) (g : Int32 → (St) → Option (Int32 × (St))) (r : Int32 × (St)) : Prop := ∀ (y0 : Int32) (s0 : St) (H : Heap) (locs : List Loc) (ls : Array Slot), g y0 s0 = some r → va_P (dC, dI) vwCl (dw_X13 a ac s0) H → va_D A (dw_X13 a ac s0) → va_S A s.heap H locs → lv_has ls 7 [] → W p l e (headSpec ow_dm_X13_register ({ frames := 2, cells := 0, slots := 0, locals := 46 })).room s m args below meth c H locs 0 0 Q (F0 m 250 ls [.int y0])
def dj_X13_register_213 (p : Program) (l : Launch) (e : Env) (s : State) (m : MethodId) (args : Array Value) (below : List Frame) (meth : Method) (c : Code) (Q : State → Prop) (A : Nat → Prop) (dC : Nat → ClassId) (dI : Nat → Nat → Nat) (a : Nat → Nat) (ac : Nat → ClassId) (g : Int32 → (St) → Option (Int32 × (St))) (r : Int32 × (St)) : Prop := ∀ (y0 : Int32) (s0 : St) (H : Heap) (locs : List Loc) (ls : Array Slot), g y0 s0 = some r → va_P (dC, dI) vwCl (dw_X13 a ac s0) H → va_D A (dw_X13 a ac s0) → va_S A s.heap H locs → lv_has ls 7 [] → W p l e (headSpec ow_dm_X13_register ({ frames := 2, cells := 0, slots := 0, locals := 46 })).room s m args below meth c H locs 0 0 Q (F0 m 213 ls [.int y0])
def dj_X13_register_189 (p : Program) (l : Launch) (e : Env) (s : State) (m : MethodId) (args : Array Value) (below : List Frame) (meth : Method) (c : Code) (Q : State → Prop) (A : Nat → Prop) (dC : Nat → ClassId) (dI : Nat → Nat → Nat) (a : Nat → Nat) (ac : Nat → ClassId) (g : Int32 → (St) → Option (Int32 × (St))) (r : Int32 × (St)) : Prop := ∀ (y0 : Int32) (s0 : St) (H : Heap) (locs : List Loc) (ls : Array Slot), g y0 s0 = some r → va_P (dC, dI) vwCl (dw_X13 a ac s0) H → va_D A (dw_X13 a ac s0) → va_S A s.heap H locs → lv_has ls 7 [] → W p l e (headSpec ow_dm_X13_register ({ frames := 2, cells := 0, slots := 0, locals := 46 })).room s m args below meth c H locs 0 0 Q (F0 m 189 ls [.int y0])
def dj_X13_register_161 (p : Program) (l : Launch) (e : Env) (s : State) (m : MethodId) (args : Array Value) (below : List Frame) (meth : Method) (c : Code) (Q : State → Prop) (A : Nat → Prop) (dC : Nat → ClassId) (dI : Nat → Nat → Nat) (a : Nat → Nat) (ac : Nat → ClassId) (g : Int32 → Int32 → (St) → Option (Int32 × (St))) (r : Int32 × (St)) : Prop := ∀ (x1 : Int32) (x5 : Int32) (s0 : St) (H : Heap) (locs : List Loc) (ls : Array Slot), g x1 x5 s0 = some r → va_P (dC, dI) vwCl (dw_X13 a ac s0) H → va_D A (dw_X13 a ac s0) → va_S A s.heap H locs → lv_has ls 7 [(0, .ref (a 0)), (1, .int x1), (5, .int x5)] → W p l e (headSpec ow_dm_X13_register ({ frames := 2, cells := 0, slots := 0, locals := 46 })).room s m args below meth c H locs 0 0 Q (F0 m 161 ls [])
def dj_X13_register_159 (p : Program) (l : Launch) (e : Env) (s : State) (m : MethodId) (args : Array Value) (below : List Frame) (meth : Method) (c : Code) (Q : State → Prop) (A : Nat → Prop) (dC : Nat → ClassId) (dI : Nat → Nat → Nat) (a : Nat → Nat) (ac : Nat → ClassId) (g : Int32 → Int32 → (St) → Option (Int32 × (St))) (r : Int32 × (St)) : Prop := ∀ (x1 : Int32) (y0 : Int32) (s0 : St) (H : Heap) (locs : List Loc) (ls : Array Slot), g x1 y0 s0 = some r → va_P (dC, dI) vwCl (dw_X13 a ac s0) H → va_D A (dw_X13 a ac s0) → va_S A s.heap H locs → lv_has ls 7 [(0, .ref (a 0)), (1, .int x1)] → W p l e (headSpec ow_dm_X13_register ({ frames := 2, cells := 0, slots := 0, locals := 46 })).room s m args below meth c H locs 0 0 Q (F0 m 159 ls [.int y0])
def dj_X13_register_137 (p : Program) (l : Launch) (e : Env) (s : State) (m : MethodId) (args : Array Value) (below : List Frame) (meth : Method) (c : Code) (Q : State → Prop) (A : Nat → Prop) (dC : Nat → ClassId) (dI : Nat → Nat → Nat) (a : Nat → Nat) (ac : Nat → ClassId) (g : Int32 → (St) → Option (Int32 × (St))) (r : Int32 × (St)) : Prop := ∀ (x1 : Int32) (s0 : St) (H : Heap) (locs : List Loc) (ls : Array Slot), g x1 s0 = some r → va_P (dC, dI) vwCl (dw_X13 a ac s0) H → va_D A (dw_X13 a ac s0) → va_S A s.heap H locs → lv_has ls 7 [(0, .ref (a 0)), (1, .int x1)] → W p l e (headSpec ow_dm_X13_register ({ frames := 2, cells := 0, slots := 0, locals := 46 })).room s m args below meth c H locs 0 0 Q (F0 m 137 ls [])
def dj_X13_register_0 (p : Program) (l : Launch) (e : Env) (s : State) (m : MethodId) (args : Array Value) (below : List Frame) (meth : Method) (c : Code) (Q : State → Prop) (A : Nat → Prop) (dC : Nat → ClassId) (dI : Nat → Nat → Nat) (a : Nat → Nat) (ac : Nat → ClassId) (g : Int32 → Int32 → (St) → Option (Int32 × (St))) (r : Int32 × (St)) : Prop := ∀ (v0 : Int32) (v1 : Int32) (s0 : St) (H : Heap) (locs : List Loc) (ls : Array Slot), g v0 v1 s0 = some r → va_P (dC, dI) vwCl (dw_X13 a ac s0) H → va_D A (dw_X13 a ac s0) → va_S A s.heap H locs → lv_has ls 7 [(0, .ref (a 0)), (1, .int v0), (2, .int v1)] → W p l e (headSpec ow_dm_X13_register ({ frames := 2, cells := 0, slots := 0, locals := 46 })).room s m args below meth c H locs 0 0 Q (F0 m 0 ls [])
set_option maxHeartbeats 40000000 in
set_option maxRecDepth 100000 in
theorem db_X13_register_96 {p : Program} {l : Launch} {e : Env} {s : State} {m : MethodId} {args : Array Value} {below : List Frame} {meth : Method} {c : Code} {Q : State → Prop} {A : Nat → Prop} {dC : Nat → ClassId} {dI : Nat → Nat → Nat} {a : Nat → Nat} {ac : Nat → ClassId} {n : Nat} {r : Int32 × (St)} (C : nd_C p l s m args c A (dC, dI) cX13_register 7 RX13 ow_dm_X13_register (dk_X13 ac)) (K : nd_Ki p l e (headSpec ow_dm_X13_register ({ frames := 2, cells := 0, slots := 0, locals := 46 })).room s m args below meth c Q A (dC, dI) cX13_register .int (St) (dw_X13 a ac) r) : dj_X13_register_96 p l e s m args below meth c Q A dC dI a ac (df_X13_register_96 n) r := by
  obtain ⟨hlt, hx, hb, hml, hown, hts, hN, hA, hK⟩ := id C
  intro s0 H locs ls h hP hD hS hl
  unfold df_X13_register_96 at h
  refine lv_iconst (v := (-1)) hx hb dX13_register_96 (by decide) ?_
  exact K _ _ _ _ _ _ dX13_register_97 rfl (Option.some.inj h).symm hP hD hS
set_option maxHeartbeats 40000000 in
set_option maxRecDepth 100000 in
theorem db_X13_register_292 {p : Program} {l : Launch} {e : Env} {s : State} {m : MethodId} {args : Array Value} {below : List Frame} {meth : Method} {c : Code} {Q : State → Prop} {A : Nat → Prop} {dC : Nat → ClassId} {dI : Nat → Nat → Nat} {a : Nat → Nat} {ac : Nat → ClassId} {n : Nat} {r : Int32 × (St)} (C : nd_C p l s m args c A (dC, dI) cX13_register 7 RX13 ow_dm_X13_register (dk_X13 ac)) (K : nd_Ki p l e (headSpec ow_dm_X13_register ({ frames := 2, cells := 0, slots := 0, locals := 46 })).room s m args below meth c Q A (dC, dI) cX13_register .int (St) (dw_X13 a ac) r) : dj_X13_register_292 p l e s m args below meth c Q A dC dI a ac (df_X13_register_292 n) r := by
  obtain ⟨hlt, hx, hb, hml, hown, hts, hN, hA, hK⟩ := id C
  intro y0 s0 H locs ls h hP hD hS hl
  unfold df_X13_register_292 at h
  exact K _ _ _ _ _ _ dX13_register_292 rfl (Option.some.inj h).symm hP hD hS
set_option maxHeartbeats 40000000 in
set_option maxRecDepth 100000 in
theorem db_X13_register_250 {p : Program} {l : Launch} {e : Env} {s : State} {m : MethodId} {args : Array Value} {below : List Frame} {meth : Method} {c : Code} {Q : State → Prop} {A : Nat → Prop} {dC : Nat → ClassId} {dI : Nat → Nat → Nat} {a : Nat → Nat} {ac : Nat → ClassId} {n : Nat} {r : Int32 × (St)} (C : nd_C p l s m args c A (dC, dI) cX13_register 7 RX13 ow_dm_X13_register (dk_X13 ac)) (K : nd_Ki p l e (headSpec ow_dm_X13_register ({ frames := 2, cells := 0, slots := 0, locals := 46 })).room s m args below meth c Q A (dC, dI) cX13_register .int (St) (dw_X13 a ac) r) : dj_X13_register_250 p l e s m args below meth c Q A dC dI a ac (df_X13_register_250 n) r := by
  obtain ⟨hlt, hx, hb, hml, hown, hts, hN, hA, hK⟩ := id C
  intro y0 s0 H locs ls h hP hD hS hl
  unfold df_X13_register_250 at h
  exact K _ _ _ _ _ _ dX13_register_250 rfl (Option.some.inj h).symm hP hD hS
set_option maxHeartbeats 40000000 in
set_option maxRecDepth 100000 in
theorem db_X13_register_213 {p : Program} {l : Launch} {e : Env} {s : State} {m : MethodId} {args : Array Value} {below : List Frame} {meth : Method} {c : Code} {Q : State → Prop} {A : Nat → Prop} {dC : Nat → ClassId} {dI : Nat → Nat → Nat} {a : Nat → Nat} {ac : Nat → ClassId} {n : Nat} {r : Int32 × (St)} (C : nd_C p l s m args c A (dC, dI) cX13_register 7 RX13 ow_dm_X13_register (dk_X13 ac)) (K : nd_Ki p l e (headSpec ow_dm_X13_register ({ frames := 2, cells := 0, slots := 0, locals := 46 })).room s m args below meth c Q A (dC, dI) cX13_register .int (St) (dw_X13 a ac) r) : dj_X13_register_213 p l e s m args below meth c Q A dC dI a ac (df_X13_register_213 n) r := by
  obtain ⟨hlt, hx, hb, hml, hown, hts, hN, hA, hK⟩ := id C
  intro y0 s0 H locs ls h hP hD hS hl
  unfold df_X13_register_213 at h
  exact K _ _ _ _ _ _ dX13_register_213 rfl (Option.some.inj h).symm hP hD hS
set_option maxHeartbeats 40000000 in
set_option maxRecDepth 100000 in
theorem db_X13_register_189 {p : Program} {l : Launch} {e : Env} {s : State} {m : MethodId} {args : Array Value} {below : List Frame} {meth : Method} {c : Code} {Q : State → Prop} {A : Nat → Prop} {dC : Nat → ClassId} {dI : Nat → Nat → Nat} {a : Nat → Nat} {ac : Nat → ClassId} {n : Nat} {r : Int32 × (St)} (C : nd_C p l s m args c A (dC, dI) cX13_register 7 RX13 ow_dm_X13_register (dk_X13 ac)) (K : nd_Ki p l e (headSpec ow_dm_X13_register ({ frames := 2, cells := 0, slots := 0, locals := 46 })).room s m args below meth c Q A (dC, dI) cX13_register .int (St) (dw_X13 a ac) r) : dj_X13_register_189 p l e s m args below meth c Q A dC dI a ac (df_X13_register_189 n) r := by
  obtain ⟨hlt, hx, hb, hml, hown, hts, hN, hA, hK⟩ := id C
  intro y0 s0 H locs ls h hP hD hS hl
  unfold df_X13_register_189 at h
  exact K _ _ _ _ _ _ dX13_register_189 rfl (Option.some.inj h).symm hP hD hS
set_option maxHeartbeats 40000000 in
set_option maxRecDepth 100000 in
theorem db_X13_register_161 {p : Program} {l : Launch} {e : Env} {s : State} {m : MethodId} {args : Array Value} {below : List Frame} {meth : Method} {c : Code} {Q : State → Prop} {A : Nat → Prop} {dC : Nat → ClassId} {dI : Nat → Nat → Nat} {a : Nat → Nat} {ac : Nat → ClassId} {n : Nat} {r : Int32 × (St)} (C : nd_C p l s m args c A (dC, dI) cX13_register 7 RX13 ow_dm_X13_register (dk_X13 ac)) (K : nd_Ki p l e (headSpec ow_dm_X13_register ({ frames := 2, cells := 0, slots := 0, locals := 46 })).room s m args below meth c Q A (dC, dI) cX13_register .int (St) (dw_X13 a ac) r) : dj_X13_register_161 p l e s m args below meth c Q A dC dI a ac (df_X13_register_161 n) r := by
  obtain ⟨hlt, hx, hb, hml, hown, hts, hN, hA, hK⟩ := id C
  intro x1 x5 s0 H locs ls h hP hD hS hl
  unfold df_X13_register_161 at h
  refine lv_aload_n hx hb dX13_register_161 rfl (lv_at hl 0 rfl) ?_
  refine va_get (D := (dC, dI)) (ci := 14) (v := .ref (a 4)) (C := RX13) (T := TX13) (N := 37) hx hb hts hi_dm_X13_register_X13 hown hK hP 0 rfl rfl 3 (by decide) (hts (.fieldLink RX13 324 "TimeMachineModel$Assembler" "text" "[C") (List.mem_of_getElem? (i := 11) rfl)) (fun _ h9 => h9) rfl dX13_register_162 ?_
  refine lv_iload_n hx hb dX13_register_165 rfl (lv_at hl 1 rfl) ?_
  obtain ⟨i20, h⟩ := nd_ck_e h
  refine va_cald (i := x1) hx hb hK hP 4 3 rfl rfl i20 dX13_register_166 ?_
  refine lv_topi (fun z21 ez21 => ?_)
  have h := nd_at h ez21
  refine lv_istore (lv' := [(6, .int z21), (0, .ref (a 0)), (1, .int x1), (5, .int x5)]) hx hb dX13_register_167 hl (by decide) rfl (fun ls hl => ?_)
  refine lv_iload hx hb dX13_register_169 (lv_at hl 0 rfl) ?_
  refine lv_bipush (v := 120) hx hb dX13_register_171 (by decide) ?_
  refine lv_icmp_ne (tgt := 190) hx hb dX13_register_173 (by decide) (fun c22 => ?_) (fun c22 => ?_)
  · have h := nd_neg h c22
    refine lv_iload hx hb dX13_register_190 (lv_at hl 0 rfl) ?_
    refine lv_bipush (v := 97) hx hb dX13_register_192 (by decide) ?_
    refine lv_icmp_ne (tgt := 214) hx hb dX13_register_194 (by decide) (fun c23 => ?_) (fun c23 => ?_)
    · have h := nd_neg h c23
      refine lv_iload hx hb dX13_register_214 (lv_at hl 0 rfl) ?_
      refine lv_bipush (v := 116) hx hb dX13_register_216 (by decide) ?_
      refine lv_icmp_ne (tgt := 251) hx hb dX13_register_218 (by decide) (fun c24 => ?_) (fun c24 => ?_)
      · have h := nd_neg h c24
        refine lv_iload hx hb dX13_register_251 (lv_at hl 0 rfl) ?_
        refine lv_bipush (v := 115) hx hb dX13_register_253 (by decide) ?_
        refine lv_icmp_eq (tgt := 262) hx hb dX13_register_255 (by decide) (fun c25 => ?_) (fun c25 => ?_)
        · have h := nd_pos h c25
          refine lv_iload hx hb dX13_register_262 (lv_at hl 3 rfl) ?_
          refine lv_iconst (v := 2) hx hb dX13_register_264 (by decide) ?_
          refine lv_icmp_ge (tgt := 276) hx hb dX13_register_265 (by decide) (fun c26 => ?_) (fun c26 => ?_)
          · have h := nd_pos h c26
            refine lv_iload hx hb dX13_register_276 (lv_at hl 3 rfl) ?_
            refine lv_bipush (v := 12) hx hb dX13_register_278 (by decide) ?_
            refine lv_icmp_ge (tgt := 291) hx hb dX13_register_280 (by decide) (fun c27 => ?_) (fun c27 => ?_)
            · have h := nd_pos h c27
              refine lv_iconst (v := (-1)) hx hb dX13_register_291 (by decide) ?_
              exact (db_X13_register_292 C K) ((-1)) s0 _ _ _ h hP hD hS (lv_sub hl [] rfl)
            · have h := nd_neg h c27
              refine lv_bipush (v := 16) hx hb dX13_register_283 (by decide) ?_
              refine lv_iload hx hb dX13_register_285 (lv_at hl 3 rfl) ?_
              refine lv_iadd hx hb dX13_register_287 ?_
              refine lv_goto (tgt := 292) hx hb dX13_register_288 (by decide) ?_
              exact (db_X13_register_292 C K) ((16 + x5)) s0 _ _ _ h hP hD hS (lv_sub hl [] rfl)
          · have h := nd_neg h c26
            refine lv_bipush (v := 8) hx hb dX13_register_268 (by decide) ?_
            refine lv_iload hx hb dX13_register_270 (lv_at hl 3 rfl) ?_
            refine lv_iadd hx hb dX13_register_272 ?_
            refine lv_goto (tgt := 292) hx hb dX13_register_273 (by decide) ?_
            exact (db_X13_register_292 C K) ((8 + x5)) s0 _ _ _ h hP hD hS (lv_sub hl [] rfl)
        · have h := nd_neg h c25
          refine lv_iconst (v := (-1)) hx hb dX13_register_258 (by decide) ?_
          refine lv_goto (tgt := 292) hx hb dX13_register_259 (by decide) ?_
          exact (db_X13_register_292 C K) ((-1)) s0 _ _ _ h hP hD hS (lv_sub hl [] rfl)
      · have h := nd_pos h c24
        refine lv_iload hx hb dX13_register_221 (lv_at hl 3 rfl) ?_
        refine lv_iconst (v := 3) hx hb dX13_register_223 (by decide) ?_
        refine lv_icmp_ge (tgt := 234) hx hb dX13_register_224 (by decide) (fun c28 => ?_) (fun c28 => ?_)
        · have h := nd_pos h c28
          refine lv_iload hx hb dX13_register_234 (lv_at hl 3 rfl) ?_
          refine lv_bipush (v := 7) hx hb dX13_register_236 (by decide) ?_
          refine lv_icmp_ge (tgt := 249) hx hb dX13_register_238 (by decide) (fun c29 => ?_) (fun c29 => ?_)
          · have h := nd_pos h c29
            refine lv_iconst (v := (-1)) hx hb dX13_register_249 (by decide) ?_
            exact (db_X13_register_250 C K) ((-1)) s0 _ _ _ h hP hD hS (lv_sub hl [] rfl)
          · have h := nd_neg h c29
            refine lv_bipush (v := 25) hx hb dX13_register_241 (by decide) ?_
            refine lv_iload hx hb dX13_register_243 (lv_at hl 3 rfl) ?_
            refine lv_iadd hx hb dX13_register_245 ?_
            refine lv_goto (tgt := 250) hx hb dX13_register_246 (by decide) ?_
            exact (db_X13_register_250 C K) ((25 + x5)) s0 _ _ _ h hP hD hS (lv_sub hl [] rfl)
        · have h := nd_neg h c28
          refine lv_iconst (v := 5) hx hb dX13_register_227 (by decide) ?_
          refine lv_iload hx hb dX13_register_228 (lv_at hl 3 rfl) ?_
          refine lv_iadd hx hb dX13_register_230 ?_
          refine lv_goto (tgt := 250) hx hb dX13_register_231 (by decide) ?_
          exact (db_X13_register_250 C K) ((5 + x5)) s0 _ _ _ h hP hD hS (lv_sub hl [] rfl)
    · have h := nd_pos h c23
      refine lv_iload hx hb dX13_register_197 (lv_at hl 3 rfl) ?_
      refine lv_bipush (v := 8) hx hb dX13_register_199 (by decide) ?_
      refine lv_icmp_ge (tgt := 212) hx hb dX13_register_201 (by decide) (fun c30 => ?_) (fun c30 => ?_)
      · have h := nd_pos h c30
        refine lv_iconst (v := (-1)) hx hb dX13_register_212 (by decide) ?_
        exact (db_X13_register_213 C K) ((-1)) s0 _ _ _ h hP hD hS (lv_sub hl [] rfl)
      · have h := nd_neg h c30
        refine lv_bipush (v := 10) hx hb dX13_register_204 (by decide) ?_
        refine lv_iload hx hb dX13_register_206 (lv_at hl 3 rfl) ?_
        refine lv_iadd hx hb dX13_register_208 ?_
        refine lv_goto (tgt := 213) hx hb dX13_register_209 (by decide) ?_
        exact (db_X13_register_213 C K) ((10 + x5)) s0 _ _ _ h hP hD hS (lv_sub hl [] rfl)
  · have h := nd_pos h c22
    refine lv_iload hx hb dX13_register_176 (lv_at hl 3 rfl) ?_
    refine lv_bipush (v := 32) hx hb dX13_register_178 (by decide) ?_
    refine lv_icmp_ge (tgt := 188) hx hb dX13_register_180 (by decide) (fun c31 => ?_) (fun c31 => ?_)
    · have h := nd_pos h c31
      refine lv_iconst (v := (-1)) hx hb dX13_register_188 (by decide) ?_
      exact (db_X13_register_189 C K) ((-1)) s0 _ _ _ h hP hD hS (lv_sub hl [] rfl)
    · have h := nd_neg h c31
      refine lv_iload hx hb dX13_register_183 (lv_at hl 3 rfl) ?_
      refine lv_goto (tgt := 189) hx hb dX13_register_185 (by decide) ?_
      exact (db_X13_register_189 C K) (x5) s0 _ _ _ h hP hD hS (lv_sub hl [] rfl)
set_option maxHeartbeats 40000000 in
set_option maxRecDepth 100000 in
theorem db_X13_register_159 {p : Program} {l : Launch} {e : Env} {s : State} {m : MethodId} {args : Array Value} {below : List Frame} {meth : Method} {c : Code} {Q : State → Prop} {A : Nat → Prop} {dC : Nat → ClassId} {dI : Nat → Nat → Nat} {a : Nat → Nat} {ac : Nat → ClassId} {n : Nat} {r : Int32 × (St)} (C : nd_C p l s m args c A (dC, dI) cX13_register 7 RX13 ow_dm_X13_register (dk_X13 ac)) (K : nd_Ki p l e (headSpec ow_dm_X13_register ({ frames := 2, cells := 0, slots := 0, locals := 46 })).room s m args below meth c Q A (dC, dI) cX13_register .int (St) (dw_X13 a ac) r) : dj_X13_register_159 p l e s m args below meth c Q A dC dI a ac (df_X13_register_159 n) r := by
  obtain ⟨hlt, hx, hb, hml, hown, hts, hN, hA, hK⟩ := id C
  intro x1 y0 s0 H locs ls h hP hD hS hl
  unfold df_X13_register_159 at h
  refine lv_istore (lv' := [(5, .int y0), (0, .ref (a 0)), (1, .int x1)]) hx hb dX13_register_159 hl (by decide) rfl (fun ls hl => ?_)
  exact (db_X13_register_161 C K) (x1) (y0) s0 _ _ _ h hP hD hS (lv_sub hl [1, 2, 0] rfl)
set_option maxHeartbeats 40000000 in
set_option maxRecDepth 100000 in
theorem db_X13_register_137 {p : Program} {l : Launch} {e : Env} {s : State} {m : MethodId} {args : Array Value} {below : List Frame} {meth : Method} {c : Code} {Q : State → Prop} {A : Nat → Prop} {dC : Nat → ClassId} {dI : Nat → Nat → Nat} {a : Nat → Nat} {ac : Nat → ClassId} {n : Nat} {r : Int32 × (St)} (C : nd_C p l s m args c A (dC, dI) cX13_register 7 RX13 ow_dm_X13_register (dk_X13 ac)) (K : nd_Ki p l e (headSpec ow_dm_X13_register ({ frames := 2, cells := 0, slots := 0, locals := 46 })).room s m args below meth c Q A (dC, dI) cX13_register .int (St) (dw_X13 a ac) r) : dj_X13_register_137 p l e s m args below meth c Q A dC dI a ac (df_X13_register_137 n) r := by
  obtain ⟨hlt, hx, hb, hml, hown, hts, hN, hA, hK⟩ := id C
  intro x1 s0 H locs ls h hP hD hS hl
  unfold df_X13_register_137 at h
  refine lv_bipush (v := 99) hx hb dX13_register_137 (by decide) ?_
  refine lv_goto (tgt := 159) hx hb dX13_register_139 (by decide) ?_
  exact (db_X13_register_159 C K) (x1) (99) s0 _ _ _ h hP hD hS (lv_sub hl [0, 1] rfl)
set_option maxHeartbeats 40000000 in
set_option maxRecDepth 100000 in
theorem db_X13_register_0 {p : Program} {l : Launch} {e : Env} {s : State} {m : MethodId} {args : Array Value} {below : List Frame} {meth : Method} {c : Code} {Q : State → Prop} {A : Nat → Prop} {dC : Nat → ClassId} {dI : Nat → Nat → Nat} {a : Nat → Nat} {ac : Nat → ClassId} {n : Nat} {r : Int32 × (St)} (C : nd_C p l s m args c A (dC, dI) cX13_register 7 RX13 ow_dm_X13_register (dk_X13 ac)) (K : nd_Ki p l e (headSpec ow_dm_X13_register ({ frames := 2, cells := 0, slots := 0, locals := 46 })).room s m args below meth c Q A (dC, dI) cX13_register .int (St) (dw_X13 a ac) r) : dj_X13_register_0 p l e s m args below meth c Q A dC dI a ac (df_X13_register_0 n) r := by
  obtain ⟨hlt, hx, hb, hml, hown, hts, hN, hA, hK⟩ := id C
  intro v0 v1 s0 H locs ls h hP hD hS hl
  unfold df_X13_register_0 at h
  refine lv_aload_n hx hb dX13_register_0 rfl (lv_at hl 0 rfl) ?_
  refine lv_iload_n hx hb dX13_register_1 rfl (lv_at hl 1 rfl) ?_
  refine lv_iload_n hx hb dX13_register_2 rfl (lv_at hl 2 rfl) ?_
  obtain ⟨q1, s2, hq, h⟩ := nd_b2_e h
  have hPc := hP
  have hDc := hD
  have hKc := hK
  have hFc := nd_rs hD hS hA
  refine nd_cVl (As := [.int v0, .int v1]) (rest := []) (q := q1) (w' := dw_X13 a ac s2) ⟨hx, hb, hml, hown, hts⟩ (fun sz => dm_X13_packed l hlt dC dI a ac n (v0) (v1) s0 hq sz) (cwV 2 hts gi_dm_X13_register_0 rfl rfl rfl (by decide +kernel) ⟨Nat.le_of_ble_eq_true rfl, Nat.le_of_ble_eq_true rfl⟩) hPc hDc hKc hS hA hN (va_recv hKc hPc (ci := 14) (q0 := 0) rfl rfl) rfl hl.1 rfl (Nat.le_of_ble_eq_true rfl) dX13_register_3 (fun H locs hP1 hD1 hk1 hS => ?_)
  have hP := hP1
  have hD := hD1.weaken (fun k q _ h => hFc q.1 h)
  refine lv_lstore_n (lv' := [(3, .long q1), (0, .ref (a 0)), (1, .int v0), (2, .int v1)]) hx hb dX13_register_6 rfl hl (by decide) rfl (fun ls hl => ?_)
  refine lv_lload_n hx hb dX13_register_7 rfl (lv_at hl 0 rfl) ?_
  refine lv_ldc2 hx hb hown (hts (.constantLong RX13 427 (4006234)) (List.mem_of_getElem? (i := 5) rfl)) dX13_register_8 ?_
  refine W.lcmp hx hb dX13_register_11 ?_
  refine lv_if_ne (tgt := 17) hx hb dX13_register_12 (by decide) (fun c4 => ?_) (fun c4 => ?_)
  · have h := nd_neg h c4
    refine lv_lload_n hx hb dX13_register_17 rfl (lv_at hl 0 rfl) ?_
    refine lv_ldc2 hx hb hown (hts (.constantLong RX13 429 (82)) (List.mem_of_getElem? (i := 6) rfl)) dX13_register_18 ?_
    refine W.lcmp hx hb dX13_register_21 ?_
    refine lv_if_ne (tgt := 27) hx hb dX13_register_22 (by decide) (fun c5 => ?_) (fun c5 => ?_)
    · have h := nd_neg h c5
      refine lv_lload_n hx hb dX13_register_27 rfl (lv_at hl 0 rfl) ?_
      refine lv_ldc2 hx hb hown (hts (.constantLong RX13 431 (1043)) (List.mem_of_getElem? (i := 7) rfl)) dX13_register_28 ?_
      refine W.lcmp hx hb dX13_register_31 ?_
      refine lv_if_ne (tgt := 37) hx hb dX13_register_32 (by decide) (fun c6 => ?_) (fun c6 => ?_)
      · have h := nd_neg h c6
        refine lv_lload_n hx hb dX13_register_37 rfl (lv_at hl 0 rfl) ?_
        refine lv_ldc2 hx hb hown (hts (.constantLong RX13 433 (1031)) (List.mem_of_getElem? (i := 8) rfl)) dX13_register_38 ?_
        refine W.lcmp hx hb dX13_register_41 ?_
        refine lv_if_ne (tgt := 47) hx hb dX13_register_42 (by decide) (fun c7 => ?_) (fun c7 => ?_)
        · have h := nd_neg h c7
          refine lv_lload_n hx hb dX13_register_47 rfl (lv_at hl 0 rfl) ?_
          refine lv_ldc2 hx hb hown (hts (.constantLong RX13 435 (1044)) (List.mem_of_getElem? (i := 9) rfl)) dX13_register_48 ?_
          refine W.lcmp hx hb dX13_register_51 ?_
          refine lv_if_ne (tgt := 57) hx hb dX13_register_52 (by decide) (fun c8 => ?_) (fun c8 => ?_)
          · have h := nd_neg h c8
            refine lv_lload_n hx hb dX13_register_57 rfl (lv_at hl 0 rfl) ?_
            refine lv_ldc2 hx hb hown (hts (.constantLong RX13 437 (1030)) (List.mem_of_getElem? (i := 10) rfl)) dX13_register_58 ?_
            refine W.lcmp hx hb dX13_register_61 ?_
            refine lv_if_ne (tgt := 68) hx hb dX13_register_62 (by decide) (fun c9 => ?_) (fun c9 => ?_)
            · have h := nd_neg h c9
              refine lv_iload_n hx hb dX13_register_68 rfl (lv_at hl 3 rfl) ?_
              refine lv_iload_n hx hb dX13_register_69 rfl (lv_at hl 2 rfl) ?_
              refine lv_isub hx hb dX13_register_70 ?_
              refine lv_iconst (v := 2) hx hb dX13_register_71 (by decide) ?_
              refine lv_icmp_lt (tgt := 96) hx hb dX13_register_72 (by decide) (fun c10 => ?_) (fun c10 => ?_)
              · have h := nd_pos h c10
                exact (db_X13_register_96 C K)  s2 _ _ _ h hP hD hS (lv_sub hl [] rfl)
              · have h := nd_neg h c10
                refine lv_iload_n hx hb dX13_register_75 rfl (lv_at hl 3 rfl) ?_
                refine lv_iload_n hx hb dX13_register_76 rfl (lv_at hl 2 rfl) ?_
                refine lv_isub hx hb dX13_register_77 ?_
                refine lv_iconst (v := 3) hx hb dX13_register_78 (by decide) ?_
                refine lv_icmp_gt (tgt := 96) hx hb dX13_register_79 (by decide) (fun c11 => ?_) (fun c11 => ?_)
                · have h := nd_pos h c11
                  exact (db_X13_register_96 C K)  s2 _ _ _ h hP hD hS (lv_sub hl [] rfl)
                · have h := nd_neg h c11
                  refine lv_aload_n hx hb dX13_register_82 rfl (lv_at hl 1 rfl) ?_
                  refine va_get (D := (dC, dI)) (ci := 14) (v := .ref (a 4)) (C := RX13) (T := TX13) (N := 37) hx hb hts hi_dm_X13_register_X13 hown hK hP 0 rfl rfl 3 (by decide) (hts (.fieldLink RX13 324 "TimeMachineModel$Assembler" "text" "[C") (List.mem_of_getElem? (i := 11) rfl)) (fun _ h9 => h9) rfl dX13_register_83 ?_
                  refine lv_iload_n hx hb dX13_register_86 rfl (lv_at hl 2 rfl) ?_
                  refine lv_iconst (v := 1) hx hb dX13_register_87 (by decide) ?_
                  refine lv_iadd hx hb dX13_register_88 ?_
                  obtain ⟨i12, h⟩ := nd_ck_e h
                  refine va_cald (i := (v0 + 1)) hx hb hK hP 4 3 rfl rfl i12 dX13_register_89 ?_
                  obtain ⟨q13, s14, hq, h⟩ := nd_b2_e h
                  have hPc : va_P (dC, dI) vwCl (dw_P a ac ()) H := nd_p0
                  have hDc : va_D A (dw_P a ac ()) := nd_d0
                  have hKc : va_K (dC, dI) vwCl (dk_P ac) s := nd_y0 hK
                  have hFc : ∀ q, va_A (dw_P a ac ()) H.size q → A q := nd_r0 hS hA
                  refine nd_cSi (As := [.int (sR s2 2 (Int32.toNatClampNeg (v0 + 1)))]) (rest := []) (q := q13) (w' := dw_P a ac s14) ⟨hx, hb, hml, hown, hts⟩ (fun sz => dm_X13_isDigit l hlt dC dI a ac n ((sR s2 2 (Int32.toNatClampNeg (v0 + 1)))) () hq sz) (cwS 1 hts gi_dm_X13_register_1 rfl rfl rfl (by decide +kernel) ⟨Nat.le_of_ble_eq_true rfl, Nat.le_of_ble_eq_true rfl⟩) hPc hDc hKc hS hA hN rfl hl.1 rfl (Nat.le_of_ble_eq_true rfl) dX13_register_90 (fun H locs hP1 hD1 hk1 hS => ?_)
                  have hP := nd_n0 hP hk1
                  refine lv_if_ne (tgt := 98) hx hb dX13_register_93 (by decide) (fun c16 => ?_) (fun c16 => ?_)
                  · have h := nd_neg h c16
                    refine lv_aload_n hx hb dX13_register_98 rfl (lv_at hl 1 rfl) ?_
                    refine va_get (D := (dC, dI)) (ci := 14) (v := .ref (a 4)) (C := RX13) (T := TX13) (N := 37) hx hb hts hi_dm_X13_register_X13 hown hK hP 0 rfl rfl 3 (by decide) (hts (.fieldLink RX13 324 "TimeMachineModel$Assembler" "text" "[C") (List.mem_of_getElem? (i := 11) rfl)) (fun _ h9 => h9) rfl dX13_register_99 ?_
                    refine lv_iload_n hx hb dX13_register_102 rfl (lv_at hl 2 rfl) ?_
                    refine lv_iconst (v := 1) hx hb dX13_register_103 (by decide) ?_
                    refine lv_iadd hx hb dX13_register_104 ?_
                    obtain ⟨i17, h⟩ := nd_ck_e h
                    refine va_cald (i := (v0 + 1)) hx hb hK hP 4 3 rfl rfl i17 dX13_register_105 ?_
                    refine lv_bipush (v := 48) hx hb dX13_register_106 (by decide) ?_
                    refine lv_isub hx hb dX13_register_108 ?_
                    refine lv_topi (fun z18 ez18 => ?_)
                    have h := nd_at h ez18
                    refine lv_istore (lv' := [(5, .int z18), (3, .long q1), (0, .ref (a 0)), (1, .int v0), (2, .int v1)]) hx hb dX13_register_109 hl (by decide) rfl (fun ls hl => ?_)
                    refine lv_iload_n hx hb dX13_register_111 rfl (lv_at hl 4 rfl) ?_
                    refine lv_iload_n hx hb dX13_register_112 rfl (lv_at hl 3 rfl) ?_
                    refine lv_isub hx hb dX13_register_113 ?_
                    refine lv_iconst (v := 3) hx hb dX13_register_114 (by decide) ?_
                    refine lv_icmp_ne (tgt := 161) hx hb dX13_register_115 (by decide) (fun c19 => ?_) (fun c19 => ?_)
                    · have h := nd_neg h c19
                      exact (db_X13_register_161 C K) (v0) (z18) s2 _ _ _ h hP hD hS (lv_sub hl [2, 3, 0] rfl)
                    · have h := nd_pos h c19
                      refine lv_iload hx hb dX13_register_118 (lv_at hl 0 rfl) ?_
                      refine lv_if_eq (tgt := 137) hx hb dX13_register_120 (by decide) (fun c32 => ?_) (fun c32 => ?_)
                      · have h := nd_pos h c32
                        exact (db_X13_register_137 C K) (v0) s2 _ _ _ h hP hD hS (lv_sub hl [2, 3] rfl)
                      · have h := nd_neg h c32
                        refine lv_aload_n hx hb dX13_register_123 rfl (lv_at hl 2 rfl) ?_
                        refine va_get (D := (dC, dI)) (ci := 14) (v := .ref (a 4)) (C := RX13) (T := TX13) (N := 37) hx hb hts hi_dm_X13_register_X13 hown hK hP 0 rfl rfl 3 (by decide) (hts (.fieldLink RX13 324 "TimeMachineModel$Assembler" "text" "[C") (List.mem_of_getElem? (i := 11) rfl)) (fun _ h9 => h9) rfl dX13_register_124 ?_
                        refine lv_iload_n hx hb dX13_register_127 rfl (lv_at hl 3 rfl) ?_
                        refine lv_iconst (v := 2) hx hb dX13_register_128 (by decide) ?_
                        refine lv_iadd hx hb dX13_register_129 ?_
                        obtain ⟨i33, h⟩ := nd_ck_e h
                        refine va_cald (i := (v0 + 2)) hx hb hK hP 4 3 rfl rfl i33 dX13_register_130 ?_
                        obtain ⟨q34, s35, hq, h⟩ := nd_b2_e h
                        have hPc : va_P (dC, dI) vwCl (dw_P a ac ()) H := nd_p0
                        have hDc : va_D A (dw_P a ac ()) := nd_d0
                        have hKc : va_K (dC, dI) vwCl (dk_P ac) s := nd_y0 hK
                        have hFc : ∀ q, va_A (dw_P a ac ()) H.size q → A q := nd_r0 hS hA
                        refine nd_cSi (As := [.int (sR s2 2 (Int32.toNatClampNeg (v0 + 2)))]) (rest := []) (q := q34) (w' := dw_P a ac s35) ⟨hx, hb, hml, hown, hts⟩ (fun sz => dm_X13_isDigit l hlt dC dI a ac n ((sR s2 2 (Int32.toNatClampNeg (v0 + 2)))) () hq sz) (cwS 1 hts gi_dm_X13_register_1 rfl rfl rfl (by decide +kernel) ⟨Nat.le_of_ble_eq_true rfl, Nat.le_of_ble_eq_true rfl⟩) hPc hDc hKc hS hA hN rfl hl.1 rfl (Nat.le_of_ble_eq_true rfl) dX13_register_131 (fun H locs hP1 hD1 hk1 hS => ?_)
                        have hP := nd_n0 hP hk1
                        refine lv_if_ne (tgt := 142) hx hb dX13_register_134 (by decide) (fun c37 => ?_) (fun c37 => ?_)
                        · have h := nd_neg h c37
                          refine lv_bipush (v := 10) hx hb dX13_register_142 (by decide) ?_
                          refine lv_iload hx hb dX13_register_144 (lv_at hl 0 rfl) ?_
                          refine lv_imul hx hb dX13_register_146 ?_
                          refine lv_aload_n hx hb dX13_register_147 rfl (lv_at hl 2 rfl) ?_
                          refine va_get (D := (dC, dI)) (ci := 14) (v := .ref (a 4)) (C := RX13) (T := TX13) (N := 37) hx hb hts hi_dm_X13_register_X13 hown hK hP 0 rfl rfl 3 (by decide) (hts (.fieldLink RX13 324 "TimeMachineModel$Assembler" "text" "[C") (List.mem_of_getElem? (i := 11) rfl)) (fun _ h9 => h9) rfl dX13_register_148 ?_
                          refine lv_iload_n hx hb dX13_register_151 rfl (lv_at hl 3 rfl) ?_
                          refine lv_iconst (v := 2) hx hb dX13_register_152 (by decide) ?_
                          refine lv_iadd hx hb dX13_register_153 ?_
                          obtain ⟨i38, h⟩ := nd_ck_e h
                          refine va_cald (i := (v0 + 2)) hx hb hK hP 4 3 rfl rfl i38 dX13_register_154 ?_
                          refine lv_iadd hx hb dX13_register_155 ?_
                          refine lv_bipush (v := 48) hx hb dX13_register_156 (by decide) ?_
                          refine lv_isub hx hb dX13_register_158 ?_
                          exact (db_X13_register_159 C K) (v0) ((((10 * z18) + (sR s2 2 (Int32.toNatClampNeg (v0 + 2)))) - 48)) s2 _ _ _ h hP hD hS (lv_sub hl [2, 3] rfl)
                        · have h := nd_pos h c37
                          exact (db_X13_register_137 C K) (v0) s2 _ _ _ h hP hD hS (lv_sub hl [2, 3] rfl)
                  · have h := nd_pos h c16
                    exact (db_X13_register_96 C K)  s2 _ _ _ h hP hD hS (lv_sub hl [] rfl)
            · have h := nd_pos h c9
              refine lv_bipush (v := 8) hx hb dX13_register_65 (by decide) ?_
              exact K _ _ _ _ _ _ dX13_register_67 rfl (Option.some.inj h).symm hP hD hS
          · have h := nd_pos h c8
            refine lv_iconst (v := 4) hx hb dX13_register_55 (by decide) ?_
            exact K _ _ _ _ _ _ dX13_register_56 rfl (Option.some.inj h).symm hP hD hS
        · have h := nd_pos h c7
          refine lv_iconst (v := 3) hx hb dX13_register_45 (by decide) ?_
          exact K _ _ _ _ _ _ dX13_register_46 rfl (Option.some.inj h).symm hP hD hS
      · have h := nd_pos h c6
        refine lv_iconst (v := 2) hx hb dX13_register_35 (by decide) ?_
        exact K _ _ _ _ _ _ dX13_register_36 rfl (Option.some.inj h).symm hP hD hS
    · have h := nd_pos h c5
      refine lv_iconst (v := 1) hx hb dX13_register_25 (by decide) ?_
      exact K _ _ _ _ _ _ dX13_register_26 rfl (Option.some.inj h).symm hP hD hS
  · have h := nd_pos h c4
    refine lv_iconst (v := 0) hx hb dX13_register_15 (by decide) ?_
    exact K _ _ _ _ _ _ dX13_register_16 rfl (Option.some.inj h).symm hP hD hS
set_option maxHeartbeats 40000000 in
set_option maxRecDepth 100000 in
theorem dm_X13_register (l : Launch) (hlt : l.stackTraces = false) (dC : Nat → ClassId) (dI : Nat → Nat → Nat) (a : Nat → Nat) (ac : Nat → ClassId) (n : Nat) (v0 : Int32) (v1 : Int32) (s0 : St) {r : Int32 × (St)} (h : df_X13_register n v0 v1 s0 = some r) (sz : Nat) : Met l yX13_register ow_dm_X13_register ({ frames := 2, cells := 0, slots := 0, locals := 46 }) (va_Pc [.ref (a 0), .int v0, .int v1] (fun U => U.heap.size = sz ∧ va_P (dC, dI) vwCl (dw_X13 a ac s0) U.heap ∧ va_K (dC, dI) vwCl (dk_X13 ac) U ∧ va_D (fun _ => True) (dw_X13 a ac s0) ∧ nv_E dI (va_A (dw_X13 a ac s0) sz) U)) (va_Qi (fun x _ => x = r.1) (fun (_ : Unit) t => va_P (dC, dI) vwCl (dw_X13 a ac r.2) t.heap ∧ va_K (dC, dI) vwCl (dk_X13 ac) t ∧ va_D (va_A (dw_X13 a ac s0) sz) (dw_X13 a ac r.2)) (va_A (dw_X13 a ac s0) sz)) 0 0 (va_A (dw_X13 a ac s0) sz) := by
  refine Met.ofW (cc := cX13_register) (maxL := 7) (ret := (some .int)) (by decide) rfl ?_
  intro p e s m args below meth c s₁ B hml hv
  obtain ⟨rfl, hsz, hP, hK, hD0, hN⟩ := hv
  have hx := B.exec
  have hb := B.bytes
  have hr := B.returns
  have hts := atoms_spec (ws := ow_dm_X13_register) B.pre
  have hown : s.vm.findClass RX13 = some m.cls := findClass_of_methodNamed B.named
  have hlocks := B.notSynchronized
  subst hsz
  have hD := hD0.self (sz := s.heap.size)
  generalize hAe : va_A (dw_X13 a ac s0) s.heap.size = A at hD hN ⊢
  have hA : ∀ q : Nat, s.heap.size ≤ q → A q := fun q h => by rw [← hAe]; exact Or.inr h
  have hl := lv_entry ([.ref (a 0), .int v0, .int v1]) (n := 7) (Nat.le_of_ble_eq_true rfl)
  rw [lg_entry_eq]
  generalize (lg_sl ([.ref (a 0), .int v0, .int v1]) ++ List.replicate (7 - (lg_sl ([.ref (a 0), .int v0, .int v1])).length) Slot.unset).toArray = ls at hl ⊢
  have hl : lv_has ls 7 [(0, .ref (a 0)), (1, .int v0), (2, .int v1)] := hl
  exact db_X13_register_0 (dC := dC) (dI := dI) (a := a) (ac := ac) (n := n) (r := r) ⟨hlt, hx, hb, hml, hown, hts, hN, hA, hK⟩ (fun pc v τ H locs ls d z er hP hD hS => by subst er; exact W.zret (v := v) hx hb hr z (fun t ht hW => ⟨⟨v, (), rfl, rfl, by rw [ht]; exact hP, va_K.moved hW.alike hK, hD⟩, hS.F ht⟩) hS.2.2 d) v0 v1 s0 _ _ _ h hP hD va_S.rf (lv_sub hl [0, 1, 2] rfl)
def ow_dm_X13_isAlike : List Cond := Cond.code yX13_isAlike cX13_isAlike 5 (some .boolean) :: ([Cond.methodLink RX13 358 yX13_charAt, Cond.instanceMethod yX13_charAt, Cond.selects RX13 yX13_charAt yX13_charAt, Cond.initialized RX13, Cond.methodLink RX13 362 yX13_isPlain, Cond.static yX13_isPlain, Cond.fieldLink RX13 324 "TimeMachineModel$Assembler" "text" "[C"] ++ (u_ws RX13 TX13 37 ++ (ow_dm_X13_charAt ++ (ow_dm_X13_isPlain ++ []))))
theorem gd_dm_X13_isAlike : ∀ w ∈ ow_dm_X13_isAlike, (w.onTables && w.keeps) = true ∨ ∃ ty, w = Cond.arrayClass ty := List.forall_mem_cons.mpr ⟨good_of_word rfl, List.forall_mem_append.mpr ⟨fun w h => good_of_word (List.all_eq_true.mp (by decide +kernel) w h), List.forall_mem_append.mpr ⟨gu_X13, List.forall_mem_append.mpr ⟨gd_dm_X13_charAt, List.forall_mem_append.mpr ⟨gd_dm_X13_isPlain, fun _ h => nomatch h⟩⟩⟩⟩⟩
theorem hi_dm_X13_isAlike_X13 : ∀ w ∈ u_ws RX13 TX13 37, w ∈ ow_dm_X13_isAlike := fun w h => List.mem_cons_of_mem _ (List.mem_append_right _ (List.mem_append_left _ h))
theorem gi_dm_X13_isAlike_0 : GoodIn ow_dm_X13_isAlike (wsV RX13 358 RX13 yX13_charAt ow_dm_X13_charAt) := goodIn_app (goodIn_of _ (by decide +kernel)) (fun w h => ⟨List.mem_cons_of_mem _ (List.mem_append_right _ (List.mem_append_right _ (List.mem_append_left _ h))), gd_dm_X13_charAt w h⟩)
theorem gi_dm_X13_isAlike_1 : GoodIn ow_dm_X13_isAlike (wsS RX13 362 yX13_isPlain ow_dm_X13_isPlain) := goodIn_app (goodIn_of _ (by decide +kernel)) (fun w h => ⟨List.mem_cons_of_mem _ (List.mem_append_right _ (List.mem_append_right _ (List.mem_append_right _ (List.mem_append_left _ h)))), gd_dm_X13_isPlain w h⟩)
def dj_X13_isAlike_57 (p : Program) (l : Launch) (e : Env) (s : State) (m : MethodId) (args : Array Value) (below : List Frame) (meth : Method) (c : Code) (Q : State → Prop) (A : Nat → Prop) (dC : Nat → ClassId) (dI : Nat → Nat → Nat) (a : Nat → Nat) (ac : Nat → ClassId) (g : Int32 → (St) → Option (Int32 × (St))) (r : Int32 × (St)) : Prop := ∀ (y0 : Int32) (s0 : St) (H : Heap) (locs : List Loc) (ls : Array Slot), g y0 s0 = some r → va_P (dC, dI) vwCl (dw_X13 a ac s0) H → va_D A (dw_X13 a ac s0) → va_S A s.heap H locs → lv_has ls 5 [] → W p l e (headSpec ow_dm_X13_isAlike ({ frames := 2, cells := 0, slots := 0, locals := 40 })).room s m args below meth c H locs 0 0 Q (F0 m 57 ls [.int y0])
def dj_X13_isAlike_3 (p : Program) (l : Launch) (e : Env) (s : State) (m : MethodId) (args : Array Value) (below : List Frame) (meth : Method) (c : Code) (Q : State → Prop) (A : Nat → Prop) (dC : Nat → ClassId) (dI : Nat → Nat → Nat) (a : Nat → Nat) (ac : Nat → ClassId) (g : Int32 → Int32 → Int32 → Int32 → (St) → Option (Int32 × (St))) (r : Int32 × (St)) : Prop := ∀ (x1 : Int32) (x2 : Int32) (x3 : Int32) (x4 : Int32) (s0 : St) (H : Heap) (locs : List Loc) (ls : Array Slot), g x1 x2 x3 x4 s0 = some r → va_P (dC, dI) vwCl (dw_X13 a ac s0) H → va_D A (dw_X13 a ac s0) → va_S A s.heap H locs → lv_has ls 5 [(0, .ref (a 0)), (1, .int x1), (2, .int x2), (3, .int x3), (4, .int x4)] → W p l e (headSpec ow_dm_X13_isAlike ({ frames := 2, cells := 0, slots := 0, locals := 40 })).room s m args below meth c H locs 0 0 Q (F0 m 3 ls [])
def dj_X13_isAlike_0 (p : Program) (l : Launch) (e : Env) (s : State) (m : MethodId) (args : Array Value) (below : List Frame) (meth : Method) (c : Code) (Q : State → Prop) (A : Nat → Prop) (dC : Nat → ClassId) (dI : Nat → Nat → Nat) (a : Nat → Nat) (ac : Nat → ClassId) (g : Int32 → Int32 → Int32 → (St) → Option (Int32 × (St))) (r : Int32 × (St)) : Prop := ∀ (v0 : Int32) (v1 : Int32) (v2 : Int32) (s0 : St) (H : Heap) (locs : List Loc) (ls : Array Slot), g v0 v1 v2 s0 = some r → va_P (dC, dI) vwCl (dw_X13 a ac s0) H → va_D A (dw_X13 a ac s0) → va_S A s.heap H locs → lv_has ls 5 [(0, .ref (a 0)), (1, .int v0), (2, .int v1), (3, .int v2)] → W p l e (headSpec ow_dm_X13_isAlike ({ frames := 2, cells := 0, slots := 0, locals := 40 })).room s m args below meth c H locs 0 0 Q (F0 m 0 ls [])
set_option maxHeartbeats 40000000 in
set_option maxRecDepth 100000 in
theorem db_X13_isAlike_57 {p : Program} {l : Launch} {e : Env} {s : State} {m : MethodId} {args : Array Value} {below : List Frame} {meth : Method} {c : Code} {Q : State → Prop} {A : Nat → Prop} {dC : Nat → ClassId} {dI : Nat → Nat → Nat} {a : Nat → Nat} {ac : Nat → ClassId} {n : Nat} {r : Int32 × (St)} (C : nd_C p l s m args c A (dC, dI) cX13_isAlike 5 RX13 ow_dm_X13_isAlike (dk_X13 ac)) (K : nd_Ki p l e (headSpec ow_dm_X13_isAlike ({ frames := 2, cells := 0, slots := 0, locals := 40 })).room s m args below meth c Q A (dC, dI) cX13_isAlike .boolean (St) (dw_X13 a ac) r) : dj_X13_isAlike_57 p l e s m args below meth c Q A dC dI a ac (df_X13_isAlike_57 n) r := by
  obtain ⟨hlt, hx, hb, hml, hown, hts, hN, hA, hK⟩ := id C
  intro y0 s0 H locs ls h hP hD hS hl
  unfold df_X13_isAlike_57 at h
  obtain ⟨n9, h⟩ := nd_z_e ⟨_, rfl⟩ h
  exact K _ _ _ _ _ _ dX13_isAlike_57 n9 (Option.some.inj h).symm hP hD hS
set_option maxHeartbeats 40000000 in
set_option maxRecDepth 100000 in
theorem dB_X13_isAlike_3 {p : Program} {l : Launch} {e : Env} {s : State} {m : MethodId} {args : Array Value} {below : List Frame} {meth : Method} {c : Code} {Q : State → Prop} {A : Nat → Prop} {dC : Nat → ClassId} {dI : Nat → Nat → Nat} {a : Nat → Nat} {ac : Nat → ClassId} {n : Nat} {r : Int32 × (St)} (C : nd_C p l s m args c A (dC, dI) cX13_isAlike 5 RX13 ow_dm_X13_isAlike (dk_X13 ac)) (K : nd_Ki p l e (headSpec ow_dm_X13_isAlike ({ frames := 2, cells := 0, slots := 0, locals := 40 })).room s m args below meth c Q A (dC, dI) cX13_isAlike .boolean (St) (dw_X13 a ac) r) {g3 : Int32 → Int32 → Int32 → Int32 → (St) → Option (Int32 × (St))} (J3 : dj_X13_isAlike_3 p l e s m args below meth c Q A dC dI a ac g3 r) : dj_X13_isAlike_3 p l e s m args below meth c Q A dC dI a ac (dF_X13_isAlike_3 n g3) r := by
  obtain ⟨hlt, hx, hb, hml, hown, hts, hN, hA, hK⟩ := id C
  intro x1 x2 x3 x4 s0 H locs ls h hP hD hS hl
  unfold dF_X13_isAlike_3 at h
  refine lv_iload hx hb dX13_isAlike_3 (lv_at hl 4 rfl) ?_
  refine lv_iload_n hx hb dX13_isAlike_5 rfl (lv_at hl 2 rfl) ?_
  refine lv_icmp_ge (tgt := 37) hx hb dX13_isAlike_6 (by decide) (fun c1 => ?_) (fun c1 => ?_)
  · have h := nd_pos h c1
    refine lv_aload_n hx hb dX13_isAlike_37 rfl (lv_at hl 0 rfl) ?_
    refine lv_iload_n hx hb dX13_isAlike_38 rfl (lv_at hl 3 rfl) ?_
    refine lv_iload_n hx hb dX13_isAlike_39 rfl (lv_at hl 2 rfl) ?_
    refine lv_iadd hx hb dX13_isAlike_40 ?_
    refine lv_iload_n hx hb dX13_isAlike_41 rfl (lv_at hl 1 rfl) ?_
    refine lv_isub hx hb dX13_isAlike_42 ?_
    obtain ⟨q2, s3, hq, h⟩ := nd_b2_e h
    have hPc := hP
    have hDc := hD
    have hKc := hK
    have hFc := nd_rs hD hS hA
    refine nd_cVi (As := [.int ((x3 + x2) - x1)]) (rest := []) (q := q2) (w' := dw_X13 a ac s3) ⟨hx, hb, hml, hown, hts⟩ (fun sz => dm_X13_charAt l hlt dC dI a ac n (((x3 + x2) - x1)) s0 hq sz) (cwV 1 hts gi_dm_X13_isAlike_0 rfl rfl rfl (by decide +kernel) ⟨Nat.le_of_ble_eq_true rfl, Nat.le_of_ble_eq_true rfl⟩) hPc hDc hKc hS hA hN (va_recv hKc hPc (ci := 14) (q0 := 0) rfl rfl) rfl hl.1 rfl (Nat.le_of_ble_eq_true rfl) dX13_isAlike_43 (fun H locs hP1 hD1 hk1 hS => ?_)
    have hP := hP1
    have hD := hD1.weaken (fun k q _ h => hFc q.1 h)
    obtain ⟨q5, s6, hq, h⟩ := nd_b2_e h
    have hPc : va_P (dC, dI) vwCl (dw_P a ac ()) H := nd_p0
    have hDc : va_D A (dw_P a ac ()) := nd_d0
    have hKc : va_K (dC, dI) vwCl (dk_P ac) s := nd_y0 hK
    have hFc : ∀ q, va_A (dw_P a ac ()) H.size q → A q := nd_r0 hS hA
    refine nd_cSi (As := [.int q2]) (rest := []) (q := q5) (w' := dw_P a ac s6) ⟨hx, hb, hml, hown, hts⟩ (fun sz => dm_X13_isPlain l hlt dC dI a ac n (q2) () hq sz) (cwS 1 hts gi_dm_X13_isAlike_1 rfl rfl rfl (by decide +kernel) ⟨Nat.le_of_ble_eq_true rfl, Nat.le_of_ble_eq_true rfl⟩) hPc hDc hKc hS hA hN rfl hl.1 rfl (Nat.le_of_ble_eq_true rfl) dX13_isAlike_46 (fun H locs hP1 hD1 hk1 hS => ?_)
    have hP := nd_n0 hP hk1
    refine lv_if_ne (tgt := 56) hx hb dX13_isAlike_49 (by decide) (fun c8 => ?_) (fun c8 => ?_)
    · have h := nd_neg h c8
      refine lv_iconst (v := 0) hx hb dX13_isAlike_56 (by decide) ?_
      exact (db_X13_isAlike_57 C K) (0) s3 _ _ _ h hP hD hS (lv_sub hl [] rfl)
    · have h := nd_pos h c8
      refine lv_iconst (v := 1) hx hb dX13_isAlike_52 (by decide) ?_
      refine lv_goto (tgt := 57) hx hb dX13_isAlike_53 (by decide) ?_
      exact (db_X13_isAlike_57 C K) (1) s3 _ _ _ h hP hD hS (lv_sub hl [] rfl)
  · have h := nd_neg h c1
    refine lv_aload_n hx hb dX13_isAlike_9 rfl (lv_at hl 0 rfl) ?_
    refine lv_iload_n hx hb dX13_isAlike_10 rfl (lv_at hl 3 rfl) ?_
    refine lv_iload hx hb dX13_isAlike_11 (lv_at hl 4 rfl) ?_
    refine lv_iadd hx hb dX13_isAlike_13 ?_
    refine lv_iload_n hx hb dX13_isAlike_14 rfl (lv_at hl 1 rfl) ?_
    refine lv_isub hx hb dX13_isAlike_15 ?_
    obtain ⟨q10, s11, hq, h⟩ := nd_b2_e h
    have hPc := hP
    have hDc := hD
    have hKc := hK
    have hFc := nd_rs hD hS hA
    refine nd_cVi (As := [.int ((x3 + x4) - x1)]) (rest := []) (q := q10) (w' := dw_X13 a ac s11) ⟨hx, hb, hml, hown, hts⟩ (fun sz => dm_X13_charAt l hlt dC dI a ac n (((x3 + x4) - x1)) s0 hq sz) (cwV 1 hts gi_dm_X13_isAlike_0 rfl rfl rfl (by decide +kernel) ⟨Nat.le_of_ble_eq_true rfl, Nat.le_of_ble_eq_true rfl⟩) hPc hDc hKc hS hA hN (va_recv hKc hPc (ci := 14) (q0 := 0) rfl rfl) rfl hl.1 rfl (Nat.le_of_ble_eq_true rfl) dX13_isAlike_16 (fun H locs hP1 hD1 hk1 hS => ?_)
    have hP := hP1
    have hD := hD1.weaken (fun k q _ h => hFc q.1 h)
    refine lv_aload_n hx hb dX13_isAlike_19 rfl (lv_at hl 0 rfl) ?_
    refine va_get (D := (dC, dI)) (ci := 14) (v := .ref (a 4)) (C := RX13) (T := TX13) (N := 37) hx hb hts hi_dm_X13_isAlike_X13 hown hK hP 0 rfl rfl 3 (by decide) (hts (.fieldLink RX13 324 "TimeMachineModel$Assembler" "text" "[C") (List.mem_of_getElem? (i := 7) rfl)) (fun _ h9 => h9) rfl dX13_isAlike_20 ?_
    refine lv_iload hx hb dX13_isAlike_23 (lv_at hl 4 rfl) ?_
    obtain ⟨i13, h⟩ := nd_ck_e h
    refine va_cald (i := x4) hx hb hK hP 4 3 rfl rfl i13 dX13_isAlike_25 ?_
    refine lv_icmp_eq (tgt := 31) hx hb dX13_isAlike_26 (by decide) (fun c14 => ?_) (fun c14 => ?_)
    · have h := nd_pos h c14
      obtain ⟨z15, ez15, h⟩ := nd_let_e h
      refine lv_iinc (v := z15) (lv' := [(4, .int z15), (0, .ref (a 0)), (1, .int x1), (2, .int x2), (3, .int x3)]) hx hb dX13_isAlike_31 hl (k := 4) rfl (by rw [ez15]) (by decide) rfl (fun ls hl => ?_)
      refine lv_goto (tgt := 3) hx hb dX13_isAlike_34 (by decide) ?_
      exact (J3) (x1) (x2) (x3) (z15) s11 _ _ _ h hP hD hS (lv_sub hl [1, 2, 3, 4, 0] rfl)
    · have h := nd_neg h c14
      refine lv_iconst (v := 0) hx hb dX13_isAlike_29 (by decide) ?_
      exact K _ _ _ _ _ _ dX13_isAlike_30 (by first | rfl | decide) (Option.some.inj h).symm hP hD hS
set_option maxHeartbeats 40000000 in
set_option maxRecDepth 100000 in
theorem db_X13_isAlike_3 {p : Program} {l : Launch} {e : Env} {s : State} {m : MethodId} {args : Array Value} {below : List Frame} {meth : Method} {c : Code} {Q : State → Prop} {A : Nat → Prop} {dC : Nat → ClassId} {dI : Nat → Nat → Nat} {a : Nat → Nat} {ac : Nat → ClassId} {n : Nat} {r : Int32 × (St)} (C : nd_C p l s m args c A (dC, dI) cX13_isAlike 5 RX13 ow_dm_X13_isAlike (dk_X13 ac)) (K : nd_Ki p l e (headSpec ow_dm_X13_isAlike ({ frames := 2, cells := 0, slots := 0, locals := 40 })).room s m args below meth c Q A (dC, dI) cX13_isAlike .boolean (St) (dw_X13 a ac) r) (k : Nat) : dj_X13_isAlike_3 p l e s m args below meth c Q A dC dI a ac (df_X13_isAlike_3 n k) r := by
  induction k with
  | zero => intro x1 x2 x3 x4 s0 H locs ls h; exact nomatch (show (none : Option (Int32 × (St))) = some r from h)
  | succ k ih => exact dB_X13_isAlike_3 C K ih
set_option maxHeartbeats 40000000 in
set_option maxRecDepth 100000 in
theorem db_X13_isAlike_0 {p : Program} {l : Launch} {e : Env} {s : State} {m : MethodId} {args : Array Value} {below : List Frame} {meth : Method} {c : Code} {Q : State → Prop} {A : Nat → Prop} {dC : Nat → ClassId} {dI : Nat → Nat → Nat} {a : Nat → Nat} {ac : Nat → ClassId} {n : Nat} {r : Int32 × (St)} (C : nd_C p l s m args c A (dC, dI) cX13_isAlike 5 RX13 ow_dm_X13_isAlike (dk_X13 ac)) (K : nd_Ki p l e (headSpec ow_dm_X13_isAlike ({ frames := 2, cells := 0, slots := 0, locals := 40 })).room s m args below meth c Q A (dC, dI) cX13_isAlike .boolean (St) (dw_X13 a ac) r) : dj_X13_isAlike_0 p l e s m args below meth c Q A dC dI a ac (df_X13_isAlike_0 n) r := by
  obtain ⟨hlt, hx, hb, hml, hown, hts, hN, hA, hK⟩ := id C
  intro v0 v1 v2 s0 H locs ls h hP hD hS hl
  unfold df_X13_isAlike_0 at h
  refine lv_iload_n hx hb dX13_isAlike_0 rfl (lv_at hl 1 rfl) ?_
  refine lv_istore (lv' := [(4, .int v0), (0, .ref (a 0)), (1, .int v0), (2, .int v1), (3, .int v2)]) hx hb dX13_isAlike_1 hl (by decide) rfl (fun ls hl => ?_)
  exact (db_X13_isAlike_3 C K n) (v0) (v1) (v2) (v0) s0 _ _ _ h hP hD hS (lv_sub hl [1, 2, 3, 4, 0] rfl)
set_option maxHeartbeats 40000000 in
set_option maxRecDepth 100000 in
theorem dm_X13_isAlike (l : Launch) (hlt : l.stackTraces = false) (dC : Nat → ClassId) (dI : Nat → Nat → Nat) (a : Nat → Nat) (ac : Nat → ClassId) (n : Nat) (v0 : Int32) (v1 : Int32) (v2 : Int32) (s0 : St) {r : Int32 × (St)} (h : df_X13_isAlike n v0 v1 v2 s0 = some r) (sz : Nat) : Met l yX13_isAlike ow_dm_X13_isAlike ({ frames := 2, cells := 0, slots := 0, locals := 40 }) (va_Pc [.ref (a 0), .int v0, .int v1, .int v2] (fun U => U.heap.size = sz ∧ va_P (dC, dI) vwCl (dw_X13 a ac s0) U.heap ∧ va_K (dC, dI) vwCl (dk_X13 ac) U ∧ va_D (fun _ => True) (dw_X13 a ac s0) ∧ nv_E dI (va_A (dw_X13 a ac s0) sz) U)) (va_Qi (fun x _ => x = r.1) (fun (_ : Unit) t => va_P (dC, dI) vwCl (dw_X13 a ac r.2) t.heap ∧ va_K (dC, dI) vwCl (dk_X13 ac) t ∧ va_D (va_A (dw_X13 a ac s0) sz) (dw_X13 a ac r.2)) (va_A (dw_X13 a ac s0) sz)) 0 0 (va_A (dw_X13 a ac s0) sz) := by
  refine Met.ofW (cc := cX13_isAlike) (maxL := 5) (ret := (some .boolean)) (by decide) rfl ?_
  intro p e s m args below meth c s₁ B hml hv
  obtain ⟨rfl, hsz, hP, hK, hD0, hN⟩ := hv
  have hx := B.exec
  have hb := B.bytes
  have hr := B.returns
  have hts := atoms_spec (ws := ow_dm_X13_isAlike) B.pre
  have hown : s.vm.findClass RX13 = some m.cls := findClass_of_methodNamed B.named
  have hlocks := B.notSynchronized
  subst hsz
  have hD := hD0.self (sz := s.heap.size)
  generalize hAe : va_A (dw_X13 a ac s0) s.heap.size = A at hD hN ⊢
  have hA : ∀ q : Nat, s.heap.size ≤ q → A q := fun q h => by rw [← hAe]; exact Or.inr h
  have hl := lv_entry ([.ref (a 0), .int v0, .int v1, .int v2]) (n := 5) (Nat.le_of_ble_eq_true rfl)
  rw [lg_entry_eq]
  generalize (lg_sl ([.ref (a 0), .int v0, .int v1, .int v2]) ++ List.replicate (5 - (lg_sl ([.ref (a 0), .int v0, .int v1, .int v2])).length) Slot.unset).toArray = ls at hl ⊢
  have hl : lv_has ls 5 [(0, .ref (a 0)), (1, .int v0), (2, .int v1), (3, .int v2)] := hl
  exact db_X13_isAlike_0 (dC := dC) (dI := dI) (a := a) (ac := ac) (n := n) (r := r) ⟨hlt, hx, hb, hml, hown, hts, hN, hA, hK⟩ (fun pc v τ H locs ls d z er hP hD hS => by subst er; exact W.zret (v := v) hx hb hr z (fun t ht hW => ⟨⟨v, (), rfl, rfl, by rw [ht]; exact hP, va_K.moved hW.alike hK, hD⟩, hS.F ht⟩) hS.2.2 d) v0 v1 v2 s0 _ _ _ h hP hD va_S.rf (lv_sub hl [0, 1, 2, 3] rfl)
def ow_dm_X13_find : List Cond := Cond.code yX13_find cX13_find 4 (some .int) :: ([Cond.fieldLink RX13 439 "TimeMachineModel$Assembler" "labels" "I", Cond.fieldLink RX13 337 "TimeMachineModel$Assembler" "label" "[I", Cond.constant RX13 442 (131071), Cond.methodLink RX13 443 yX13_isAlike, Cond.instanceMethod yX13_isAlike, Cond.selects RX13 yX13_isAlike yX13_isAlike, Cond.initialized RX13] ++ (u_ws RX13 TX13 37 ++ (ow_dm_X13_isAlike ++ [])))
theorem gd_dm_X13_find : ∀ w ∈ ow_dm_X13_find, (w.onTables && w.keeps) = true ∨ ∃ ty, w = Cond.arrayClass ty := List.forall_mem_cons.mpr ⟨good_of_word rfl, List.forall_mem_append.mpr ⟨fun w h => good_of_word (List.all_eq_true.mp (by decide +kernel) w h), List.forall_mem_append.mpr ⟨gu_X13, List.forall_mem_append.mpr ⟨gd_dm_X13_isAlike, fun _ h => nomatch h⟩⟩⟩⟩
theorem hi_dm_X13_find_X13 : ∀ w ∈ u_ws RX13 TX13 37, w ∈ ow_dm_X13_find := fun w h => List.mem_cons_of_mem _ (List.mem_append_right _ (List.mem_append_left _ h))
theorem gi_dm_X13_find_0 : GoodIn ow_dm_X13_find (wsV RX13 443 RX13 yX13_isAlike ow_dm_X13_isAlike) := goodIn_app (goodIn_of _ (by decide +kernel)) (fun w h => ⟨List.mem_cons_of_mem _ (List.mem_append_right _ (List.mem_append_right _ (List.mem_append_left _ h))), gd_dm_X13_isAlike w h⟩)
def dj_X13_find_44 (p : Program) (l : Launch) (e : Env) (s : State) (m : MethodId) (args : Array Value) (below : List Frame) (meth : Method) (c : Code) (Q : State → Prop) (A : Nat → Prop) (dC : Nat → ClassId) (dI : Nat → Nat → Nat) (a : Nat → Nat) (ac : Nat → ClassId) (g : Int32 → Int32 → Int32 → (St) → Option (Int32 × (St))) (r : Int32 × (St)) : Prop := ∀ (x1 : Int32) (x2 : Int32) (x3 : Int32) (s0 : St) (H : Heap) (locs : List Loc) (ls : Array Slot), g x1 x2 x3 s0 = some r → va_P (dC, dI) vwCl (dw_X13 a ac s0) H → va_D A (dw_X13 a ac s0) → va_S A s.heap H locs → lv_has ls 4 [(0, .ref (a 0)), (1, .int x1), (2, .int x2), (3, .int x3)] → W p l e (headSpec ow_dm_X13_find ({ frames := 3, cells := 0, slots := 0, locals := 64 })).room s m args below meth c H locs 0 0 Q (F0 m 44 ls [])
def dj_X13_find_2 (p : Program) (l : Launch) (e : Env) (s : State) (m : MethodId) (args : Array Value) (below : List Frame) (meth : Method) (c : Code) (Q : State → Prop) (A : Nat → Prop) (dC : Nat → ClassId) (dI : Nat → Nat → Nat) (a : Nat → Nat) (ac : Nat → ClassId) (g : Int32 → Int32 → Int32 → (St) → Option (Int32 × (St))) (r : Int32 × (St)) : Prop := ∀ (x1 : Int32) (x2 : Int32) (x3 : Int32) (s0 : St) (H : Heap) (locs : List Loc) (ls : Array Slot), g x1 x2 x3 s0 = some r → va_P (dC, dI) vwCl (dw_X13 a ac s0) H → va_D A (dw_X13 a ac s0) → va_S A s.heap H locs → lv_has ls 4 [(0, .ref (a 0)), (1, .int x1), (2, .int x2), (3, .int x3)] → W p l e (headSpec ow_dm_X13_find ({ frames := 3, cells := 0, slots := 0, locals := 64 })).room s m args below meth c H locs 0 0 Q (F0 m 2 ls [])
def dj_X13_find_0 (p : Program) (l : Launch) (e : Env) (s : State) (m : MethodId) (args : Array Value) (below : List Frame) (meth : Method) (c : Code) (Q : State → Prop) (A : Nat → Prop) (dC : Nat → ClassId) (dI : Nat → Nat → Nat) (a : Nat → Nat) (ac : Nat → ClassId) (g : Int32 → Int32 → (St) → Option (Int32 × (St))) (r : Int32 × (St)) : Prop := ∀ (v0 : Int32) (v1 : Int32) (s0 : St) (H : Heap) (locs : List Loc) (ls : Array Slot), g v0 v1 s0 = some r → va_P (dC, dI) vwCl (dw_X13 a ac s0) H → va_D A (dw_X13 a ac s0) → va_S A s.heap H locs → lv_has ls 4 [(0, .ref (a 0)), (1, .int v0), (2, .int v1)] → W p l e (headSpec ow_dm_X13_find ({ frames := 3, cells := 0, slots := 0, locals := 64 })).room s m args below meth c H locs 0 0 Q (F0 m 0 ls [])
set_option maxHeartbeats 40000000 in
set_option maxRecDepth 100000 in
theorem db_X13_find_44 {p : Program} {l : Launch} {e : Env} {s : State} {m : MethodId} {args : Array Value} {below : List Frame} {meth : Method} {c : Code} {Q : State → Prop} {A : Nat → Prop} {dC : Nat → ClassId} {dI : Nat → Nat → Nat} {a : Nat → Nat} {ac : Nat → ClassId} {n : Nat} {r : Int32 × (St)} (C : nd_C p l s m args c A (dC, dI) cX13_find 4 RX13 ow_dm_X13_find (dk_X13 ac)) (K : nd_Ki p l e (headSpec ow_dm_X13_find ({ frames := 3, cells := 0, slots := 0, locals := 64 })).room s m args below meth c Q A (dC, dI) cX13_find .int (St) (dw_X13 a ac) r) {g2 : Int32 → Int32 → Int32 → (St) → Option (Int32 × (St))} (J2 : dj_X13_find_2 p l e s m args below meth c Q A dC dI a ac g2 r) : dj_X13_find_44 p l e s m args below meth c Q A dC dI a ac (df_X13_find_44 n g2) r := by
  obtain ⟨hlt, hx, hb, hml, hown, hts, hN, hA, hK⟩ := id C
  intro x1 x2 x3 s0 H locs ls h hP hD hS hl
  unfold df_X13_find_44 at h
  obtain ⟨z4, ez4, h⟩ := nd_let_e h
  refine lv_iinc (v := z4) (lv' := [(3, .int z4), (0, .ref (a 0)), (1, .int x1), (2, .int x2)]) hx hb dX13_find_44 hl (k := 3) rfl (by rw [ez4]) (by decide) rfl (fun ls hl => ?_)
  refine lv_goto (tgt := 2) hx hb dX13_find_47 (by decide) ?_
  exact (J2) (x1) (x2) (z4) s0 _ _ _ h hP hD hS (lv_sub hl [1, 2, 3, 0] rfl)
set_option maxHeartbeats 40000000 in
set_option maxRecDepth 100000 in
theorem dB_X13_find_2 {p : Program} {l : Launch} {e : Env} {s : State} {m : MethodId} {args : Array Value} {below : List Frame} {meth : Method} {c : Code} {Q : State → Prop} {A : Nat → Prop} {dC : Nat → ClassId} {dI : Nat → Nat → Nat} {a : Nat → Nat} {ac : Nat → ClassId} {n : Nat} {r : Int32 × (St)} (C : nd_C p l s m args c A (dC, dI) cX13_find 4 RX13 ow_dm_X13_find (dk_X13 ac)) (K : nd_Ki p l e (headSpec ow_dm_X13_find ({ frames := 3, cells := 0, slots := 0, locals := 64 })).room s m args below meth c Q A (dC, dI) cX13_find .int (St) (dw_X13 a ac) r) {g2 : Int32 → Int32 → Int32 → (St) → Option (Int32 × (St))} (J2 : dj_X13_find_2 p l e s m args below meth c Q A dC dI a ac g2 r) : dj_X13_find_2 p l e s m args below meth c Q A dC dI a ac (dF_X13_find_2 n g2) r := by
  obtain ⟨hlt, hx, hb, hml, hown, hts, hN, hA, hK⟩ := id C
  intro x1 x2 x3 s0 H locs ls h hP hD hS hl
  unfold dF_X13_find_2 at h
  refine lv_iload_n hx hb dX13_find_2 rfl (lv_at hl 3 rfl) ?_
  refine lv_aload_n hx hb dX13_find_3 rfl (lv_at hl 0 rfl) ?_
  refine va_get (D := (dC, dI)) (ci := 14) (v := .int (sI s0 3)) (C := RX13) (T := TX13) (N := 37) hx hb hts hi_dm_X13_find_X13 hown hK hP 0 rfl rfl 10 (by decide) (hts (.fieldLink RX13 439 "TimeMachineModel$Assembler" "labels" "I") (List.mem_of_getElem? (i := 1) rfl)) (fun _ h9 => h9) rfl dX13_find_4 ?_
  refine lv_icmp_ge (tgt := 50) hx hb dX13_find_7 (by decide) (fun c1 => ?_) (fun c1 => ?_)
  · have h := nd_pos h c1
    refine lv_iconst (v := (-1)) hx hb dX13_find_50 (by decide) ?_
    exact K _ _ _ _ _ _ dX13_find_51 rfl (Option.some.inj h).symm hP hD hS
  · have h := nd_neg h c1
    refine lv_aload_n hx hb dX13_find_10 rfl (lv_at hl 0 rfl) ?_
    refine va_get (D := (dC, dI)) (ci := 14) (v := .ref (a 8)) (C := RX13) (T := TX13) (N := 37) hx hb hts hi_dm_X13_find_X13 hown hK hP 0 rfl rfl 11 (by decide) (hts (.fieldLink RX13 337 "TimeMachineModel$Assembler" "label" "[I") (List.mem_of_getElem? (i := 2) rfl)) (fun _ h9 => h9) rfl dX13_find_11 ?_
    refine lv_iload_n hx hb dX13_find_14 rfl (lv_at hl 3 rfl) ?_
    obtain ⟨i2, h⟩ := nd_ck_e h
    refine va_iald (i := x3) hx hb hK hP 8 7 rfl rfl i2 dX13_find_15 ?_
    refine lv_bipush (v := 17) hx hb dX13_find_16 (by decide) ?_
    refine lv_ishr hx hb dX13_find_18 ?_
    refine lv_iconst (v := 3) hx hb dX13_find_19 (by decide) ?_
    refine lv_icmp_ge (tgt := 44) hx hb dX13_find_20 (by decide) (fun c3 => ?_) (fun c3 => ?_)
    · have h := nd_pos h c3
      exact (db_X13_find_44 C K J2) (x1) (x2) (x3) s0 _ _ _ h hP hD hS (lv_sub hl [0, 1, 2, 3] rfl)
    · have h := nd_neg h c3
      refine lv_aload_n hx hb dX13_find_23 rfl (lv_at hl 0 rfl) ?_
      refine lv_iload_n hx hb dX13_find_24 rfl (lv_at hl 1 rfl) ?_
      refine lv_iload_n hx hb dX13_find_25 rfl (lv_at hl 2 rfl) ?_
      refine lv_aload_n hx hb dX13_find_26 rfl (lv_at hl 0 rfl) ?_
      refine va_get (D := (dC, dI)) (ci := 14) (v := .ref (a 8)) (C := RX13) (T := TX13) (N := 37) hx hb hts hi_dm_X13_find_X13 hown hK hP 0 rfl rfl 11 (by decide) (hts (.fieldLink RX13 337 "TimeMachineModel$Assembler" "label" "[I") (List.mem_of_getElem? (i := 2) rfl)) (fun _ h9 => h9) rfl dX13_find_27 ?_
      refine lv_iload_n hx hb dX13_find_30 rfl (lv_at hl 3 rfl) ?_
      obtain ⟨i5, h⟩ := nd_ck_e h
      refine va_iald (i := x3) hx hb hK hP 8 7 rfl rfl i5 dX13_find_31 ?_
      refine lv_ldcw hx hb hown (hts (.constant RX13 442 (131071)) (List.mem_of_getElem? (i := 3) rfl)) dX13_find_32 ?_
      refine lv_iand hx hb dX13_find_35 ?_
      obtain ⟨q6, s7, hq, h⟩ := nd_b2_e h
      have hPc := hP
      have hDc := hD
      have hKc := hK
      have hFc := nd_rs hD hS hA
      refine nd_cVi (As := [.int x1, .int x2, .int ((sR s0 6 (Int32.toNatClampNeg x3)) &&& 131071)]) (rest := []) (q := q6) (w' := dw_X13 a ac s7) ⟨hx, hb, hml, hown, hts⟩ (fun sz => dm_X13_isAlike l hlt dC dI a ac n (x1) (x2) (((sR s0 6 (Int32.toNatClampNeg x3)) &&& 131071)) s0 hq sz) (cwV 3 hts gi_dm_X13_find_0 rfl rfl rfl (by decide +kernel) ⟨Nat.le_of_ble_eq_true rfl, Nat.le_of_ble_eq_true rfl⟩) hPc hDc hKc hS hA hN (va_recv hKc hPc (ci := 14) (q0 := 0) rfl rfl) rfl hl.1 rfl (Nat.le_of_ble_eq_true rfl) dX13_find_36 (fun H locs hP1 hD1 hk1 hS => ?_)
      have hP := hP1
      have hD := hD1.weaken (fun k q _ h => hFc q.1 h)
      refine lv_if_eq (tgt := 44) hx hb dX13_find_39 (by decide) (fun c9 => ?_) (fun c9 => ?_)
      · have h := nd_pos h c9
        exact (db_X13_find_44 C K J2) (x1) (x2) (x3) s7 _ _ _ h hP hD hS (lv_sub hl [0, 1, 2, 3] rfl)
      · have h := nd_neg h c9
        refine lv_iload_n hx hb dX13_find_42 rfl (lv_at hl 3 rfl) ?_
        exact K _ _ _ _ _ _ dX13_find_43 rfl (Option.some.inj h).symm hP hD hS
set_option maxHeartbeats 40000000 in
set_option maxRecDepth 100000 in
theorem db_X13_find_2 {p : Program} {l : Launch} {e : Env} {s : State} {m : MethodId} {args : Array Value} {below : List Frame} {meth : Method} {c : Code} {Q : State → Prop} {A : Nat → Prop} {dC : Nat → ClassId} {dI : Nat → Nat → Nat} {a : Nat → Nat} {ac : Nat → ClassId} {n : Nat} {r : Int32 × (St)} (C : nd_C p l s m args c A (dC, dI) cX13_find 4 RX13 ow_dm_X13_find (dk_X13 ac)) (K : nd_Ki p l e (headSpec ow_dm_X13_find ({ frames := 3, cells := 0, slots := 0, locals := 64 })).room s m args below meth c Q A (dC, dI) cX13_find .int (St) (dw_X13 a ac) r) (k : Nat) : dj_X13_find_2 p l e s m args below meth c Q A dC dI a ac (df_X13_find_2 n k) r := by
  induction k with
  | zero => intro x1 x2 x3 s0 H locs ls h; exact nomatch (show (none : Option (Int32 × (St))) = some r from h)
  | succ k ih => exact dB_X13_find_2 C K ih
set_option maxHeartbeats 40000000 in
set_option maxRecDepth 100000 in
theorem db_X13_find_0 {p : Program} {l : Launch} {e : Env} {s : State} {m : MethodId} {args : Array Value} {below : List Frame} {meth : Method} {c : Code} {Q : State → Prop} {A : Nat → Prop} {dC : Nat → ClassId} {dI : Nat → Nat → Nat} {a : Nat → Nat} {ac : Nat → ClassId} {n : Nat} {r : Int32 × (St)} (C : nd_C p l s m args c A (dC, dI) cX13_find 4 RX13 ow_dm_X13_find (dk_X13 ac)) (K : nd_Ki p l e (headSpec ow_dm_X13_find ({ frames := 3, cells := 0, slots := 0, locals := 64 })).room s m args below meth c Q A (dC, dI) cX13_find .int (St) (dw_X13 a ac) r) : dj_X13_find_0 p l e s m args below meth c Q A dC dI a ac (df_X13_find_0 n) r := by
  obtain ⟨hlt, hx, hb, hml, hown, hts, hN, hA, hK⟩ := id C
  intro v0 v1 s0 H locs ls h hP hD hS hl
  unfold df_X13_find_0 at h
  refine lv_iconst (v := 0) hx hb dX13_find_0 (by decide) ?_
  refine lv_istore_n (lv' := [(3, .int 0), (0, .ref (a 0)), (1, .int v0), (2, .int v1)]) hx hb dX13_find_1 rfl hl (by decide) rfl (fun ls hl => ?_)
  exact (db_X13_find_2 C K n) (v0) (v1) (0) s0 _ _ _ h hP hD hS (lv_sub hl [1, 2, 3, 0] rfl)
set_option maxHeartbeats 40000000 in
set_option maxRecDepth 100000 in
theorem dm_X13_find (l : Launch) (hlt : l.stackTraces = false) (dC : Nat → ClassId) (dI : Nat → Nat → Nat) (a : Nat → Nat) (ac : Nat → ClassId) (n : Nat) (v0 : Int32) (v1 : Int32) (s0 : St) {r : Int32 × (St)} (h : df_X13_find n v0 v1 s0 = some r) (sz : Nat) : Met l yX13_find ow_dm_X13_find ({ frames := 3, cells := 0, slots := 0, locals := 64 }) (va_Pc [.ref (a 0), .int v0, .int v1] (fun U => U.heap.size = sz ∧ va_P (dC, dI) vwCl (dw_X13 a ac s0) U.heap ∧ va_K (dC, dI) vwCl (dk_X13 ac) U ∧ va_D (fun _ => True) (dw_X13 a ac s0) ∧ nv_E dI (va_A (dw_X13 a ac s0) sz) U)) (va_Qi (fun x _ => x = r.1) (fun (_ : Unit) t => va_P (dC, dI) vwCl (dw_X13 a ac r.2) t.heap ∧ va_K (dC, dI) vwCl (dk_X13 ac) t ∧ va_D (va_A (dw_X13 a ac s0) sz) (dw_X13 a ac r.2)) (va_A (dw_X13 a ac s0) sz)) 0 0 (va_A (dw_X13 a ac s0) sz) := by
  refine Met.ofW (cc := cX13_find) (maxL := 4) (ret := (some .int)) (by decide) rfl ?_
  intro p e s m args below meth c s₁ B hml hv
  obtain ⟨rfl, hsz, hP, hK, hD0, hN⟩ := hv
  have hx := B.exec
  have hb := B.bytes
  have hr := B.returns
  have hts := atoms_spec (ws := ow_dm_X13_find) B.pre
  have hown : s.vm.findClass RX13 = some m.cls := findClass_of_methodNamed B.named
  have hlocks := B.notSynchronized
  subst hsz
  have hD := hD0.self (sz := s.heap.size)
  generalize hAe : va_A (dw_X13 a ac s0) s.heap.size = A at hD hN ⊢
  have hA : ∀ q : Nat, s.heap.size ≤ q → A q := fun q h => by rw [← hAe]; exact Or.inr h
  have hl := lv_entry ([.ref (a 0), .int v0, .int v1]) (n := 4) (Nat.le_of_ble_eq_true rfl)
  rw [lg_entry_eq]
  generalize (lg_sl ([.ref (a 0), .int v0, .int v1]) ++ List.replicate (4 - (lg_sl ([.ref (a 0), .int v0, .int v1])).length) Slot.unset).toArray = ls at hl ⊢
  have hl : lv_has ls 4 [(0, .ref (a 0)), (1, .int v0), (2, .int v1)] := hl
  exact db_X13_find_0 (dC := dC) (dI := dI) (a := a) (ac := ac) (n := n) (r := r) ⟨hlt, hx, hb, hml, hown, hts, hN, hA, hK⟩ (fun pc v τ H locs ls d z er hP hD hS => by subst er; exact W.zret (v := v) hx hb hr z (fun t ht hW => ⟨⟨v, (), rfl, rfl, by rw [ht]; exact hP, va_K.moved hW.alike hK, hD⟩, hS.F ht⟩) hS.2.2 d) v0 v1 s0 _ _ _ h hP hD va_S.rf (lv_sub hl [0, 1, 2] rfl)
def ow_dm_X13_define : List Cond := Cond.code yX13_define cX13_define 5 none :: ([Cond.fieldLink RX13 337 "TimeMachineModel$Assembler" "label" "[I", Cond.fieldLink RX13 439 "TimeMachineModel$Assembler" "labels" "I", Cond.fieldLink RX13 340 "TimeMachineModel$Assembler" "where" "[I"] ++ (u_ws RX13 TX13 37 ++ []))
theorem gd_dm_X13_define : ∀ w ∈ ow_dm_X13_define, (w.onTables && w.keeps) = true ∨ ∃ ty, w = Cond.arrayClass ty := List.forall_mem_cons.mpr ⟨good_of_word rfl, List.forall_mem_append.mpr ⟨fun w h => good_of_word (List.all_eq_true.mp (by decide +kernel) w h), List.forall_mem_append.mpr ⟨gu_X13, fun _ h => nomatch h⟩⟩⟩
theorem hi_dm_X13_define_X13 : ∀ w ∈ u_ws RX13 TX13 37, w ∈ ow_dm_X13_define := fun w h => List.mem_cons_of_mem _ (List.mem_append_right _ (List.mem_append_left _ h))
def dj_X13_define_0 (p : Program) (l : Launch) (e : Env) (s : State) (m : MethodId) (args : Array Value) (below : List Frame) (meth : Method) (c : Code) (Q : State → Prop) (A : Nat → Prop) (dC : Nat → ClassId) (dI : Nat → Nat → Nat) (a : Nat → Nat) (ac : Nat → ClassId) (g : Int32 → Int32 → Int32 → Int32 → (St) → Option (St)) (r : St) : Prop := ∀ (v0 : Int32) (v1 : Int32) (v2 : Int32) (v3 : Int32) (s0 : St) (H : Heap) (locs : List Loc) (ls : Array Slot), g v0 v1 v2 v3 s0 = some r → va_P (dC, dI) vwCl (dw_X13 a ac s0) H → va_D A (dw_X13 a ac s0) → va_S A s.heap H locs → lv_has ls 5 [(0, .ref (a 0)), (1, .int v0), (2, .int v1), (3, .int v2), (4, .int v3)] → W p l e (headSpec ow_dm_X13_define ({ frames := 0, cells := 0, slots := 0, locals := 0 })).room s m args below meth c H locs 0 0 Q (F0 m 0 ls [])
set_option maxHeartbeats 40000000 in
set_option maxRecDepth 100000 in
theorem db_X13_define_0 {p : Program} {l : Launch} {e : Env} {s : State} {m : MethodId} {args : Array Value} {below : List Frame} {meth : Method} {c : Code} {Q : State → Prop} {A : Nat → Prop} {dC : Nat → ClassId} {dI : Nat → Nat → Nat} {a : Nat → Nat} {ac : Nat → ClassId} {n : Nat} {r : St} (C : nd_C p l s m args c A (dC, dI) cX13_define 5 RX13 ow_dm_X13_define (dk_X13 ac)) (K : nd_Kv p l e (headSpec ow_dm_X13_define ({ frames := 0, cells := 0, slots := 0, locals := 0 })).room s m args below meth c Q A (dC, dI) cX13_define (St) (dw_X13 a ac) r) : dj_X13_define_0 p l e s m args below meth c Q A dC dI a ac (df_X13_define_0 n) r := by
  obtain ⟨hlt, hx, hb, hml, hown, hts, hN, hA, hK⟩ := id C
  intro v0 v1 v2 v3 s0 H locs ls h hP hD hS hl
  unfold df_X13_define_0 at h
  refine lv_aload_n hx hb dX13_define_0 rfl (lv_at hl 0 rfl) ?_
  refine va_get (D := (dC, dI)) (ci := 14) (v := .ref (a 8)) (C := RX13) (T := TX13) (N := 37) hx hb hts hi_dm_X13_define_X13 hown hK hP 0 rfl rfl 11 (by decide) (hts (.fieldLink RX13 337 "TimeMachineModel$Assembler" "label" "[I") (List.mem_of_getElem? (i := 1) rfl)) (fun _ h9 => h9) rfl dX13_define_1 ?_
  refine lv_aload_n hx hb dX13_define_4 rfl (lv_at hl 0 rfl) ?_
  refine va_get (D := (dC, dI)) (ci := 14) (v := .int (sI s0 3)) (C := RX13) (T := TX13) (N := 37) hx hb hts hi_dm_X13_define_X13 hown hK hP 0 rfl rfl 10 (by decide) (hts (.fieldLink RX13 439 "TimeMachineModel$Assembler" "labels" "I") (List.mem_of_getElem? (i := 2) rfl)) (fun _ h9 => h9) rfl dX13_define_5 ?_
  refine lv_iload_n hx hb dX13_define_8 rfl (lv_at hl 1 rfl) ?_
  refine lv_iload_n hx hb dX13_define_9 rfl (lv_at hl 3 rfl) ?_
  refine lv_bipush (v := 17) hx hb dX13_define_10 (by decide) ?_
  refine lv_ishl hx hb dX13_define_12 ?_
  refine lv_ior hx hb dX13_define_13 ?_
  obtain ⟨i1, h⟩ := nd_ck_e h
  refine va_iast (i := (sI s0 3)) (x := (v0 ||| ((v2 : Int32) <<< ((17 : Int32) &&& 31)))) hx hb hK hP hD hS 8 7 rfl rfl i1 dX13_define_14 (fun H locs hP hD hS => ?_)
  obtain ⟨s2, es2, h⟩ := nd_let_e h
  have hP : va_P (dC, dI) vwCl (dw_X13 a ac s2) H := by rw [es2]; exact hP
  have hD : va_D A (dw_X13 a ac s2) := by rw [es2]; exact hD
  refine lv_aload_n hx hb dX13_define_15 rfl (lv_at hl 0 rfl) ?_
  refine va_get (D := (dC, dI)) (ci := 14) (v := .ref (a 9)) (C := RX13) (T := TX13) (N := 37) hx hb hts hi_dm_X13_define_X13 hown hK hP 0 rfl rfl 12 (by decide) (hts (.fieldLink RX13 340 "TimeMachineModel$Assembler" "where" "[I") (List.mem_of_getElem? (i := 3) rfl)) (fun _ h9 => h9) rfl dX13_define_16 ?_
  refine lv_aload_n hx hb dX13_define_19 rfl (lv_at hl 0 rfl) ?_
  refine va_get (D := (dC, dI)) (ci := 14) (v := .int (sI s2 3)) (C := RX13) (T := TX13) (N := 37) hx hb hts hi_dm_X13_define_X13 hown hK hP 0 rfl rfl 10 (by decide) (hts (.fieldLink RX13 439 "TimeMachineModel$Assembler" "labels" "I") (List.mem_of_getElem? (i := 2) rfl)) (fun _ h9 => h9) rfl dX13_define_20 ?_
  refine lv_iload hx hb dX13_define_23 (lv_at hl 4 rfl) ?_
  obtain ⟨i3, h⟩ := nd_ck_e h
  refine va_iast (i := (sI s2 3)) (x := v3) hx hb hK hP hD hS 9 8 rfl rfl i3 dX13_define_25 (fun H locs hP hD hS => ?_)
  obtain ⟨s4, es4, h⟩ := nd_let_e h
  have hP : va_P (dC, dI) vwCl (dw_X13 a ac s4) H := by rw [es4]; exact hP
  have hD : va_D A (dw_X13 a ac s4) := by rw [es4]; exact hD
  refine lv_aload_n hx hb dX13_define_26 rfl (lv_at hl 0 rfl) ?_
  refine lv_dup hx hb dX13_define_27 rfl ?_
  refine va_get (D := (dC, dI)) (ci := 14) (v := .int (sI s4 3)) (C := RX13) (T := TX13) (N := 37) hx hb hts hi_dm_X13_define_X13 hown hK hP 0 rfl rfl 10 (by decide) (hts (.fieldLink RX13 439 "TimeMachineModel$Assembler" "labels" "I") (List.mem_of_getElem? (i := 2) rfl)) (fun _ h9 => h9) rfl dX13_define_28 ?_
  refine lv_iconst (v := 1) hx hb dX13_define_31 (by decide) ?_
  refine lv_iadd hx hb dX13_define_32 ?_
  refine va_put (D := (dC, dI)) (ci := 14) (v := .int ((sI s4 3) + 1)) (ty := .int) (C := RX13) (T := TX13) (N := 37) hx hb hts hi_dm_X13_define_X13 tyX13 tyX13_ok nmX13 hown hK hP hD hS 0 rfl rfl 10 (by decide) (hts (.fieldLink RX13 439 "TimeMachineModel$Assembler" "labels" "I") (List.mem_of_getElem? (i := 2) rfl)) (fun _ h9 => h9) rfl (by decide +kernel) rfl rfl (Nat.le_of_ble_eq_true rfl) dX13_define_33 (fun H locs hP hD hS => ?_)
  obtain ⟨s5, es5, h⟩ := nd_let_e h
  have hP : va_P (dC, dI) vwCl (dw_X13 a ac s5) H := by rw [es5]; exact hP
  have hD : va_D A (dw_X13 a ac s5) := by rw [es5]; exact hD
  exact K _ _ _ _ _ dX13_define_36 (Option.some.inj h).symm hP hD hS
set_option maxHeartbeats 40000000 in
set_option maxRecDepth 100000 in
theorem dm_X13_define (l : Launch) (hlt : l.stackTraces = false) (dC : Nat → ClassId) (dI : Nat → Nat → Nat) (a : Nat → Nat) (ac : Nat → ClassId) (n : Nat) (v0 : Int32) (v1 : Int32) (v2 : Int32) (v3 : Int32) (s0 : St) {r : St} (h : df_X13_define n v0 v1 v2 v3 s0 = some r) (sz : Nat) : Met l yX13_define ow_dm_X13_define ({ frames := 0, cells := 0, slots := 0, locals := 0 }) (va_Pc [.ref (a 0), .int v0, .int v1, .int v2, .int v3] (fun U => U.heap.size = sz ∧ va_P (dC, dI) vwCl (dw_X13 a ac s0) U.heap ∧ va_K (dC, dI) vwCl (dk_X13 ac) U ∧ va_D (fun _ => True) (dw_X13 a ac s0) ∧ nv_E dI (va_A (dw_X13 a ac s0) sz) U)) (va_Qv (fun _ => True) (fun (_ : Unit) t => va_P (dC, dI) vwCl (dw_X13 a ac r) t.heap ∧ va_K (dC, dI) vwCl (dk_X13 ac) t ∧ va_D (va_A (dw_X13 a ac s0) sz) (dw_X13 a ac r)) (va_A (dw_X13 a ac s0) sz)) 0 0 (va_A (dw_X13 a ac s0) sz) := by
  refine Met.ofW (cc := cX13_define) (maxL := 5) (ret := none) (by decide) rfl ?_
  intro p e s m args below meth c s₁ B hml hv
  obtain ⟨rfl, hsz, hP, hK, hD0, hN⟩ := hv
  have hx := B.exec
  have hb := B.bytes
  have hr := B.returns
  have hts := atoms_spec (ws := ow_dm_X13_define) B.pre
  have hown : s.vm.findClass RX13 = some m.cls := findClass_of_methodNamed B.named
  have hlocks := B.notSynchronized
  subst hsz
  have hD := hD0.self (sz := s.heap.size)
  generalize hAe : va_A (dw_X13 a ac s0) s.heap.size = A at hD hN ⊢
  have hA : ∀ q : Nat, s.heap.size ≤ q → A q := fun q h => by rw [← hAe]; exact Or.inr h
  have hl := lv_entry ([.ref (a 0), .int v0, .int v1, .int v2, .int v3]) (n := 5) (Nat.le_of_ble_eq_true rfl)
  rw [lg_entry_eq]
  generalize (lg_sl ([.ref (a 0), .int v0, .int v1, .int v2, .int v3]) ++ List.replicate (5 - (lg_sl ([.ref (a 0), .int v0, .int v1, .int v2, .int v3])).length) Slot.unset).toArray = ls at hl ⊢
  have hl : lv_has ls 5 [(0, .ref (a 0)), (1, .int v0), (2, .int v1), (3, .int v2), (4, .int v3)] := hl
  exact db_X13_define_0 (dC := dC) (dI := dI) (a := a) (ac := ac) (n := n) (r := r) ⟨hlt, hx, hb, hml, hown, hts, hN, hA, hK⟩ (fun pc τ H locs ls d er hP hD hS => by subst er; exact W.vret hx hb hr (fun t ht hW => ⟨⟨(), rfl, trivial, by rw [ht]; exact hP, va_K.moved hW.alike hK, hD⟩, hS.F ht⟩) hS.2.2 d) v0 v1 v2 v3 s0 _ _ _ h hP hD va_S.rf (lv_sub hl [0, 1, 2, 3, 4] rfl)
def ow_dm_X13_base : List Cond := Cond.code yX13_base cX13_base 1 (some .int) :: ([Cond.fieldLink RX13 447 "TimeMachineModel$Assembler" "textSize" "I"] ++ (u_ws RX13 TX13 37 ++ []))
theorem gd_dm_X13_base : ∀ w ∈ ow_dm_X13_base, (w.onTables && w.keeps) = true ∨ ∃ ty, w = Cond.arrayClass ty := List.forall_mem_cons.mpr ⟨good_of_word rfl, List.forall_mem_append.mpr ⟨fun w h => good_of_word (List.all_eq_true.mp (by decide +kernel) w h), List.forall_mem_append.mpr ⟨gu_X13, fun _ h => nomatch h⟩⟩⟩
theorem hi_dm_X13_base_X13 : ∀ w ∈ u_ws RX13 TX13 37, w ∈ ow_dm_X13_base := fun w h => List.mem_cons_of_mem _ (List.mem_append_right _ (List.mem_append_left _ h))
def dj_X13_base_0 (p : Program) (l : Launch) (e : Env) (s : State) (m : MethodId) (args : Array Value) (below : List Frame) (meth : Method) (c : Code) (Q : State → Prop) (A : Nat → Prop) (dC : Nat → ClassId) (dI : Nat → Nat → Nat) (a : Nat → Nat) (ac : Nat → ClassId) (g : (St) → Option (Int32 × (St))) (r : Int32 × (St)) : Prop := ∀ (s0 : St) (H : Heap) (locs : List Loc) (ls : Array Slot), g s0 = some r → va_P (dC, dI) vwCl (dw_X13 a ac s0) H → va_D A (dw_X13 a ac s0) → va_S A s.heap H locs → lv_has ls 1 [(0, .ref (a 0))] → W p l e (headSpec ow_dm_X13_base ({ frames := 0, cells := 0, slots := 0, locals := 0 })).room s m args below meth c H locs 0 0 Q (F0 m 0 ls [])
set_option maxHeartbeats 40000000 in
set_option maxRecDepth 100000 in
theorem db_X13_base_0 {p : Program} {l : Launch} {e : Env} {s : State} {m : MethodId} {args : Array Value} {below : List Frame} {meth : Method} {c : Code} {Q : State → Prop} {A : Nat → Prop} {dC : Nat → ClassId} {dI : Nat → Nat → Nat} {a : Nat → Nat} {ac : Nat → ClassId} {n : Nat} {r : Int32 × (St)} (C : nd_C p l s m args c A (dC, dI) cX13_base 1 RX13 ow_dm_X13_base (dk_X13 ac)) (K : nd_Ki p l e (headSpec ow_dm_X13_base ({ frames := 0, cells := 0, slots := 0, locals := 0 })).room s m args below meth c Q A (dC, dI) cX13_base .int (St) (dw_X13 a ac) r) : dj_X13_base_0 p l e s m args below meth c Q A dC dI a ac (df_X13_base_0 n) r := by
  obtain ⟨hlt, hx, hb, hml, hown, hts, hN, hA, hK⟩ := id C
  intro s0 H locs ls h hP hD hS hl
  unfold df_X13_base_0 at h
  refine lv_aload_n hx hb dX13_base_0 rfl (lv_at hl 0 rfl) ?_
  refine va_get (D := (dC, dI)) (ci := 14) (v := .int (sI s0 4)) (C := RX13) (T := TX13) (N := 37) hx hb hts hi_dm_X13_base_X13 hown hK hP 0 rfl rfl 13 (by decide) (hts (.fieldLink RX13 447 "TimeMachineModel$Assembler" "textSize" "I") (List.mem_of_getElem? (i := 1) rfl)) (fun _ h9 => h9) rfl dX13_base_1 ?_
  refine lv_sipush (v := 1023) hx hb dX13_base_4 (by decide) ?_
  refine lv_iadd hx hb dX13_base_7 ?_
  refine lv_sipush (v := 1024) hx hb dX13_base_8 (by decide) ?_
  refine lv_idiv hx hb dX13_base_11 (by decide) ?_
  refine lv_sipush (v := 1024) hx hb dX13_base_12 (by decide) ?_
  refine lv_imul hx hb dX13_base_15 ?_
  exact K _ _ _ _ _ _ dX13_base_16 rfl (Option.some.inj h).symm hP hD hS
set_option maxHeartbeats 40000000 in
set_option maxRecDepth 100000 in
theorem dm_X13_base (l : Launch) (hlt : l.stackTraces = false) (dC : Nat → ClassId) (dI : Nat → Nat → Nat) (a : Nat → Nat) (ac : Nat → ClassId) (n : Nat) (s0 : St) {r : Int32 × (St)} (h : df_X13_base n s0 = some r) (sz : Nat) : Met l yX13_base ow_dm_X13_base ({ frames := 0, cells := 0, slots := 0, locals := 0 }) (va_Pc [.ref (a 0)] (fun U => U.heap.size = sz ∧ va_P (dC, dI) vwCl (dw_X13 a ac s0) U.heap ∧ va_K (dC, dI) vwCl (dk_X13 ac) U ∧ va_D (fun _ => True) (dw_X13 a ac s0) ∧ nv_E dI (va_A (dw_X13 a ac s0) sz) U)) (va_Qi (fun x _ => x = r.1) (fun (_ : Unit) t => va_P (dC, dI) vwCl (dw_X13 a ac r.2) t.heap ∧ va_K (dC, dI) vwCl (dk_X13 ac) t ∧ va_D (va_A (dw_X13 a ac s0) sz) (dw_X13 a ac r.2)) (va_A (dw_X13 a ac s0) sz)) 0 0 (va_A (dw_X13 a ac s0) sz) := by
  refine Met.ofW (cc := cX13_base) (maxL := 1) (ret := (some .int)) (by decide) rfl ?_
  intro p e s m args below meth c s₁ B hml hv
  obtain ⟨rfl, hsz, hP, hK, hD0, hN⟩ := hv
  have hx := B.exec
  have hb := B.bytes
  have hr := B.returns
  have hts := atoms_spec (ws := ow_dm_X13_base) B.pre
  have hown : s.vm.findClass RX13 = some m.cls := findClass_of_methodNamed B.named
  have hlocks := B.notSynchronized
  subst hsz
  have hD := hD0.self (sz := s.heap.size)
  generalize hAe : va_A (dw_X13 a ac s0) s.heap.size = A at hD hN ⊢
  have hA : ∀ q : Nat, s.heap.size ≤ q → A q := fun q h => by rw [← hAe]; exact Or.inr h
  have hl := lv_entry ([.ref (a 0)]) (n := 1) (Nat.le_of_ble_eq_true rfl)
  rw [lg_entry_eq]
  generalize (lg_sl ([.ref (a 0)]) ++ List.replicate (1 - (lg_sl ([.ref (a 0)])).length) Slot.unset).toArray = ls at hl ⊢
  have hl : lv_has ls 1 [(0, .ref (a 0))] := hl
  exact db_X13_base_0 (dC := dC) (dI := dI) (a := a) (ac := ac) (n := n) (r := r) ⟨hlt, hx, hb, hml, hown, hts, hN, hA, hK⟩ (fun pc v τ H locs ls d z er hP hD hS => by subst er; exact W.zret (v := v) hx hb hr z (fun t ht hW => ⟨⟨v, (), rfl, rfl, by rw [ht]; exact hP, va_K.moved hW.alike hK, hD⟩, hS.F ht⟩) hS.2.2 d) s0 _ _ _ h hP hD va_S.rf (lv_sub hl [0] rfl)
def ow_dm_X13_valueOf : List Cond := Cond.code yX13_valueOf cX13_valueOf 3 (some .int) :: ([Cond.fieldLink RX13 337 "TimeMachineModel$Assembler" "label" "[I", Cond.methodLink RX13 450 yX13_base, Cond.instanceMethod yX13_base, Cond.selects RX13 yX13_base yX13_base, Cond.initialized RX13, Cond.fieldLink RX13 340 "TimeMachineModel$Assembler" "where" "[I"] ++ (u_ws RX13 TX13 37 ++ (ow_dm_X13_base ++ [])))
theorem gd_dm_X13_valueOf : ∀ w ∈ ow_dm_X13_valueOf, (w.onTables && w.keeps) = true ∨ ∃ ty, w = Cond.arrayClass ty := List.forall_mem_cons.mpr ⟨good_of_word rfl, List.forall_mem_append.mpr ⟨fun w h => good_of_word (List.all_eq_true.mp (by decide +kernel) w h), List.forall_mem_append.mpr ⟨gu_X13, List.forall_mem_append.mpr ⟨gd_dm_X13_base, fun _ h => nomatch h⟩⟩⟩⟩
theorem hi_dm_X13_valueOf_X13 : ∀ w ∈ u_ws RX13 TX13 37, w ∈ ow_dm_X13_valueOf := fun w h => List.mem_cons_of_mem _ (List.mem_append_right _ (List.mem_append_left _ h))
theorem gi_dm_X13_valueOf_0 : GoodIn ow_dm_X13_valueOf (wsV RX13 450 RX13 yX13_base ow_dm_X13_base) := goodIn_app (goodIn_of _ (by decide +kernel)) (fun w h => ⟨List.mem_cons_of_mem _ (List.mem_append_right _ (List.mem_append_right _ (List.mem_append_left _ h))), gd_dm_X13_base w h⟩)
def dj_X13_valueOf_54 (p : Program) (l : Launch) (e : Env) (s : State) (m : MethodId) (args : Array Value) (below : List Frame) (meth : Method) (c : Code) (Q : State → Prop) (A : Nat → Prop) (dC : Nat → ClassId) (dI : Nat → Nat → Nat) (a : Nat → Nat) (ac : Nat → ClassId) (g : Int32 → (St) → Option (Int32 × (St))) (r : Int32 × (St)) : Prop := ∀ (y0 : Int32) (s0 : St) (H : Heap) (locs : List Loc) (ls : Array Slot), g y0 s0 = some r → va_P (dC, dI) vwCl (dw_X13 a ac s0) H → va_D A (dw_X13 a ac s0) → va_S A s.heap H locs → lv_has ls 3 [] → W p l e (headSpec ow_dm_X13_valueOf ({ frames := 1, cells := 0, slots := 0, locals := 20 })).room s m args below meth c H locs 0 0 Q (F0 m 54 ls [.int y0])
def dj_X13_valueOf_34 (p : Program) (l : Launch) (e : Env) (s : State) (m : MethodId) (args : Array Value) (below : List Frame) (meth : Method) (c : Code) (Q : State → Prop) (A : Nat → Prop) (dC : Nat → ClassId) (dI : Nat → Nat → Nat) (a : Nat → Nat) (ac : Nat → ClassId) (g : Int32 → (St) → Option (Int32 × (St))) (r : Int32 × (St)) : Prop := ∀ (x1 : Int32) (s0 : St) (H : Heap) (locs : List Loc) (ls : Array Slot), g x1 s0 = some r → va_P (dC, dI) vwCl (dw_X13 a ac s0) H → va_D A (dw_X13 a ac s0) → va_S A s.heap H locs → lv_has ls 3 [(0, .ref (a 0)), (1, .int x1)] → W p l e (headSpec ow_dm_X13_valueOf ({ frames := 1, cells := 0, slots := 0, locals := 20 })).room s m args below meth c H locs 0 0 Q (F0 m 34 ls [])
def dj_X13_valueOf_0 (p : Program) (l : Launch) (e : Env) (s : State) (m : MethodId) (args : Array Value) (below : List Frame) (meth : Method) (c : Code) (Q : State → Prop) (A : Nat → Prop) (dC : Nat → ClassId) (dI : Nat → Nat → Nat) (a : Nat → Nat) (ac : Nat → ClassId) (g : Int32 → (St) → Option (Int32 × (St))) (r : Int32 × (St)) : Prop := ∀ (v0 : Int32) (s0 : St) (H : Heap) (locs : List Loc) (ls : Array Slot), g v0 s0 = some r → va_P (dC, dI) vwCl (dw_X13 a ac s0) H → va_D A (dw_X13 a ac s0) → va_S A s.heap H locs → lv_has ls 3 [(0, .ref (a 0)), (1, .int v0)] → W p l e (headSpec ow_dm_X13_valueOf ({ frames := 1, cells := 0, slots := 0, locals := 20 })).room s m args below meth c H locs 0 0 Q (F0 m 0 ls [])
set_option maxHeartbeats 40000000 in
set_option maxRecDepth 100000 in
theorem db_X13_valueOf_54 {p : Program} {l : Launch} {e : Env} {s : State} {m : MethodId} {args : Array Value} {below : List Frame} {meth : Method} {c : Code} {Q : State → Prop} {A : Nat → Prop} {dC : Nat → ClassId} {dI : Nat → Nat → Nat} {a : Nat → Nat} {ac : Nat → ClassId} {n : Nat} {r : Int32 × (St)} (C : nd_C p l s m args c A (dC, dI) cX13_valueOf 3 RX13 ow_dm_X13_valueOf (dk_X13 ac)) (K : nd_Ki p l e (headSpec ow_dm_X13_valueOf ({ frames := 1, cells := 0, slots := 0, locals := 20 })).room s m args below meth c Q A (dC, dI) cX13_valueOf .int (St) (dw_X13 a ac) r) : dj_X13_valueOf_54 p l e s m args below meth c Q A dC dI a ac (df_X13_valueOf_54 n) r := by
  obtain ⟨hlt, hx, hb, hml, hown, hts, hN, hA, hK⟩ := id C
  intro y0 s0 H locs ls h hP hD hS hl
  unfold df_X13_valueOf_54 at h
  exact K _ _ _ _ _ _ dX13_valueOf_54 rfl (Option.some.inj h).symm hP hD hS
set_option maxHeartbeats 40000000 in
set_option maxRecDepth 100000 in
theorem db_X13_valueOf_34 {p : Program} {l : Launch} {e : Env} {s : State} {m : MethodId} {args : Array Value} {below : List Frame} {meth : Method} {c : Code} {Q : State → Prop} {A : Nat → Prop} {dC : Nat → ClassId} {dI : Nat → Nat → Nat} {a : Nat → Nat} {ac : Nat → ClassId} {n : Nat} {r : Int32 × (St)} (C : nd_C p l s m args c A (dC, dI) cX13_valueOf 3 RX13 ow_dm_X13_valueOf (dk_X13 ac)) (K : nd_Ki p l e (headSpec ow_dm_X13_valueOf ({ frames := 1, cells := 0, slots := 0, locals := 20 })).room s m args below meth c Q A (dC, dI) cX13_valueOf .int (St) (dw_X13 a ac) r) : dj_X13_valueOf_34 p l e s m args below meth c Q A dC dI a ac (df_X13_valueOf_34 n) r := by
  obtain ⟨hlt, hx, hb, hml, hown, hts, hN, hA, hK⟩ := id C
  intro x1 s0 H locs ls h hP hD hS hl
  unfold df_X13_valueOf_34 at h
  refine lv_aload_n hx hb dX13_valueOf_34 rfl (lv_at hl 0 rfl) ?_
  obtain ⟨q5, s6, hq, h⟩ := nd_b2_e h
  have hPc := hP
  have hDc := hD
  have hKc := hK
  have hFc := nd_rs hD hS hA
  refine nd_cVi (As := []) (rest := []) (q := q5) (w' := dw_X13 a ac s6) ⟨hx, hb, hml, hown, hts⟩ (fun sz => dm_X13_base l hlt dC dI a ac n  s0 hq sz) (cwV 0 hts gi_dm_X13_valueOf_0 rfl rfl rfl (by decide +kernel) ⟨Nat.le_of_ble_eq_true rfl, Nat.le_of_ble_eq_true rfl⟩) hPc hDc hKc hS hA hN (va_recv hKc hPc (ci := 14) (q0 := 0) rfl rfl) rfl hl.1 rfl (Nat.le_of_ble_eq_true rfl) dX13_valueOf_35 (fun H locs hP1 hD1 hk1 hS => ?_)
  have hP := hP1
  have hD := hD1.weaken (fun k q _ h => hFc q.1 h)
  refine lv_aload_n hx hb dX13_valueOf_38 rfl (lv_at hl 0 rfl) ?_
  refine va_get (D := (dC, dI)) (ci := 14) (v := .ref (a 9)) (C := RX13) (T := TX13) (N := 37) hx hb hts hi_dm_X13_valueOf_X13 hown hK hP 0 rfl rfl 12 (by decide) (hts (.fieldLink RX13 340 "TimeMachineModel$Assembler" "where" "[I") (List.mem_of_getElem? (i := 6) rfl)) (fun _ h9 => h9) rfl dX13_valueOf_39 ?_
  refine lv_iload_n hx hb dX13_valueOf_42 rfl (lv_at hl 1 rfl) ?_
  obtain ⟨i8, h⟩ := nd_ck_e h
  refine va_iald (i := x1) hx hb hK hP 9 8 rfl rfl i8 dX13_valueOf_43 ?_
  refine lv_iadd hx hb dX13_valueOf_44 ?_
  refine lv_goto (tgt := 54) hx hb dX13_valueOf_45 (by decide) ?_
  exact (db_X13_valueOf_54 C K) ((q5 + (sR s6 7 (Int32.toNatClampNeg x1)))) s6 _ _ _ h hP hD hS (lv_sub hl [] rfl)
set_option maxHeartbeats 40000000 in
set_option maxRecDepth 100000 in
theorem db_X13_valueOf_0 {p : Program} {l : Launch} {e : Env} {s : State} {m : MethodId} {args : Array Value} {below : List Frame} {meth : Method} {c : Code} {Q : State → Prop} {A : Nat → Prop} {dC : Nat → ClassId} {dI : Nat → Nat → Nat} {a : Nat → Nat} {ac : Nat → ClassId} {n : Nat} {r : Int32 × (St)} (C : nd_C p l s m args c A (dC, dI) cX13_valueOf 3 RX13 ow_dm_X13_valueOf (dk_X13 ac)) (K : nd_Ki p l e (headSpec ow_dm_X13_valueOf ({ frames := 1, cells := 0, slots := 0, locals := 20 })).room s m args below meth c Q A (dC, dI) cX13_valueOf .int (St) (dw_X13 a ac) r) : dj_X13_valueOf_0 p l e s m args below meth c Q A dC dI a ac (df_X13_valueOf_0 n) r := by
  obtain ⟨hlt, hx, hb, hml, hown, hts, hN, hA, hK⟩ := id C
  intro v0 s0 H locs ls h hP hD hS hl
  unfold df_X13_valueOf_0 at h
  refine lv_aload_n hx hb dX13_valueOf_0 rfl (lv_at hl 0 rfl) ?_
  refine va_get (D := (dC, dI)) (ci := 14) (v := .ref (a 8)) (C := RX13) (T := TX13) (N := 37) hx hb hts hi_dm_X13_valueOf_X13 hown hK hP 0 rfl rfl 11 (by decide) (hts (.fieldLink RX13 337 "TimeMachineModel$Assembler" "label" "[I") (List.mem_of_getElem? (i := 1) rfl)) (fun _ h9 => h9) rfl dX13_valueOf_1 ?_
  refine lv_iload_n hx hb dX13_valueOf_4 rfl (lv_at hl 1 rfl) ?_
  obtain ⟨i1, h⟩ := nd_ck_e h
  refine va_iald (i := v0) hx hb hK hP 8 7 rfl rfl i1 dX13_valueOf_5 ?_
  refine lv_bipush (v := 17) hx hb dX13_valueOf_6 (by decide) ?_
  refine lv_ishr hx hb dX13_valueOf_8 ?_
  refine lv_topi (fun z2 ez2 => ?_)
  have h := nd_at h ez2
  refine lv_istore_n (lv' := [(2, .int z2), (0, .ref (a 0)), (1, .int v0)]) hx hb dX13_valueOf_9 rfl hl (by decide) rfl (fun ls hl => ?_)
  refine lv_iload_n hx hb dX13_valueOf_10 rfl (lv_at hl 0 rfl) ?_
  refine lv_iconst (v := 2) hx hb dX13_valueOf_11 (by decide) ?_
  refine lv_icmp_ne (tgt := 24) hx hb dX13_valueOf_12 (by decide) (fun c3 => ?_) (fun c3 => ?_)
  · have h := nd_neg h c3
    refine lv_iload_n hx hb dX13_valueOf_24 rfl (lv_at hl 0 rfl) ?_
    refine lv_iconst (v := 1) hx hb dX13_valueOf_25 (by decide) ?_
    refine lv_icmp_eq (tgt := 34) hx hb dX13_valueOf_26 (by decide) (fun c4 => ?_) (fun c4 => ?_)
    · have h := nd_pos h c4
      exact (db_X13_valueOf_34 C K) (v0) s0 _ _ _ h hP hD hS (lv_sub hl [1, 2] rfl)
    · have h := nd_neg h c4
      refine lv_iload_n hx hb dX13_valueOf_29 rfl (lv_at hl 0 rfl) ?_
      refine lv_iconst (v := 4) hx hb dX13_valueOf_30 (by decide) ?_
      refine lv_icmp_ne (tgt := 48) hx hb dX13_valueOf_31 (by decide) (fun c9 => ?_) (fun c9 => ?_)
      · have h := nd_neg h c9
        refine lv_aload_n hx hb dX13_valueOf_48 rfl (lv_at hl 1 rfl) ?_
        refine va_get (D := (dC, dI)) (ci := 14) (v := .ref (a 9)) (C := RX13) (T := TX13) (N := 37) hx hb hts hi_dm_X13_valueOf_X13 hown hK hP 0 rfl rfl 12 (by decide) (hts (.fieldLink RX13 340 "TimeMachineModel$Assembler" "where" "[I") (List.mem_of_getElem? (i := 6) rfl)) (fun _ h9 => h9) rfl dX13_valueOf_49 ?_
        refine lv_iload_n hx hb dX13_valueOf_52 rfl (lv_at hl 2 rfl) ?_
        obtain ⟨i10, h⟩ := nd_ck_e h
        refine va_iald (i := v0) hx hb hK hP 9 8 rfl rfl i10 dX13_valueOf_53 ?_
        exact (db_X13_valueOf_54 C K) ((sR s0 7 (Int32.toNatClampNeg v0))) s0 _ _ _ h hP hD hS (lv_sub hl [] rfl)
      · have h := nd_pos h c9
        exact (db_X13_valueOf_34 C K) (v0) s0 _ _ _ h hP hD hS (lv_sub hl [1, 2] rfl)
  · have h := nd_pos h c3
    refine lv_aload_n hx hb dX13_valueOf_15 rfl (lv_at hl 1 rfl) ?_
    refine va_get (D := (dC, dI)) (ci := 14) (v := .ref (a 9)) (C := RX13) (T := TX13) (N := 37) hx hb hts hi_dm_X13_valueOf_X13 hown hK hP 0 rfl rfl 12 (by decide) (hts (.fieldLink RX13 340 "TimeMachineModel$Assembler" "where" "[I") (List.mem_of_getElem? (i := 6) rfl)) (fun _ h9 => h9) rfl dX13_valueOf_16 ?_
    refine lv_iload_n hx hb dX13_valueOf_19 rfl (lv_at hl 2 rfl) ?_
    obtain ⟨i11, h⟩ := nd_ck_e h
    refine va_iald (i := v0) hx hb hK hP 9 8 rfl rfl i11 dX13_valueOf_20 ?_
    refine lv_goto (tgt := 54) hx hb dX13_valueOf_21 (by decide) ?_
    exact (db_X13_valueOf_54 C K) ((sR s0 7 (Int32.toNatClampNeg v0))) s0 _ _ _ h hP hD hS (lv_sub hl [] rfl)
set_option maxHeartbeats 40000000 in
set_option maxRecDepth 100000 in
theorem dm_X13_valueOf (l : Launch) (hlt : l.stackTraces = false) (dC : Nat → ClassId) (dI : Nat → Nat → Nat) (a : Nat → Nat) (ac : Nat → ClassId) (n : Nat) (v0 : Int32) (s0 : St) {r : Int32 × (St)} (h : df_X13_valueOf n v0 s0 = some r) (sz : Nat) : Met l yX13_valueOf ow_dm_X13_valueOf ({ frames := 1, cells := 0, slots := 0, locals := 20 }) (va_Pc [.ref (a 0), .int v0] (fun U => U.heap.size = sz ∧ va_P (dC, dI) vwCl (dw_X13 a ac s0) U.heap ∧ va_K (dC, dI) vwCl (dk_X13 ac) U ∧ va_D (fun _ => True) (dw_X13 a ac s0) ∧ nv_E dI (va_A (dw_X13 a ac s0) sz) U)) (va_Qi (fun x _ => x = r.1) (fun (_ : Unit) t => va_P (dC, dI) vwCl (dw_X13 a ac r.2) t.heap ∧ va_K (dC, dI) vwCl (dk_X13 ac) t ∧ va_D (va_A (dw_X13 a ac s0) sz) (dw_X13 a ac r.2)) (va_A (dw_X13 a ac s0) sz)) 0 0 (va_A (dw_X13 a ac s0) sz) := by
  refine Met.ofW (cc := cX13_valueOf) (maxL := 3) (ret := (some .int)) (by decide) rfl ?_
  intro p e s m args below meth c s₁ B hml hv
  obtain ⟨rfl, hsz, hP, hK, hD0, hN⟩ := hv
  have hx := B.exec
  have hb := B.bytes
  have hr := B.returns
  have hts := atoms_spec (ws := ow_dm_X13_valueOf) B.pre
  have hown : s.vm.findClass RX13 = some m.cls := findClass_of_methodNamed B.named
  have hlocks := B.notSynchronized
  subst hsz
  have hD := hD0.self (sz := s.heap.size)
  generalize hAe : va_A (dw_X13 a ac s0) s.heap.size = A at hD hN ⊢
  have hA : ∀ q : Nat, s.heap.size ≤ q → A q := fun q h => by rw [← hAe]; exact Or.inr h
  have hl := lv_entry ([.ref (a 0), .int v0]) (n := 3) (Nat.le_of_ble_eq_true rfl)
  rw [lg_entry_eq]
  generalize (lg_sl ([.ref (a 0), .int v0]) ++ List.replicate (3 - (lg_sl ([.ref (a 0), .int v0])).length) Slot.unset).toArray = ls at hl ⊢
  have hl : lv_has ls 3 [(0, .ref (a 0)), (1, .int v0)] := hl
  exact db_X13_valueOf_0 (dC := dC) (dI := dI) (a := a) (ac := ac) (n := n) (r := r) ⟨hlt, hx, hb, hml, hown, hts, hN, hA, hK⟩ (fun pc v τ H locs ls d z er hP hD hS => by subst er; exact W.zret (v := v) hx hb hr z (fun t ht hW => ⟨⟨v, (), rfl, rfl, by rw [ht]; exact hP, va_K.moved hW.alike hK, hD⟩, hS.F ht⟩) hS.2.2 d) v0 s0 _ _ _ h hP hD va_S.rf (lv_sub hl [0, 1] rfl)
def ow_dm_X13_near : List Cond := Cond.code yX13_near cX13_near 7 (some .int) :: ([Cond.fieldLink RX13 328 "TimeMachineModel$Assembler" "place" "[I", Cond.fieldLink RX13 454 "TimeMachineModel$Assembler" "current" "I", Cond.constant RX13 442 (131071), Cond.fieldLink RX13 439 "TimeMachineModel$Assembler" "labels" "I", Cond.fieldLink RX13 457 "TimeMachineModel$Assembler" "missing" "Z", Cond.methodLink RX13 461 yX13_valueOf, Cond.instanceMethod yX13_valueOf, Cond.selects RX13 yX13_valueOf yX13_valueOf, Cond.initialized RX13, Cond.fieldLink RX13 337 "TimeMachineModel$Assembler" "label" "[I", Cond.fieldLink RX13 324 "TimeMachineModel$Assembler" "text" "[C"] ++ (u_ws RX13 TX13 37 ++ (ow_dm_X13_valueOf ++ [])))
theorem gd_dm_X13_near : ∀ w ∈ ow_dm_X13_near, (w.onTables && w.keeps) = true ∨ ∃ ty, w = Cond.arrayClass ty := List.forall_mem_cons.mpr ⟨good_of_word rfl, List.forall_mem_append.mpr ⟨fun w h => good_of_word (List.all_eq_true.mp (by decide +kernel) w h), List.forall_mem_append.mpr ⟨gu_X13, List.forall_mem_append.mpr ⟨gd_dm_X13_valueOf, fun _ h => nomatch h⟩⟩⟩⟩
theorem hi_dm_X13_near_X13 : ∀ w ∈ u_ws RX13 TX13 37, w ∈ ow_dm_X13_near := fun w h => List.mem_cons_of_mem _ (List.mem_append_right _ (List.mem_append_left _ h))
theorem gi_dm_X13_near_0 : GoodIn ow_dm_X13_near (wsV RX13 461 RX13 yX13_valueOf ow_dm_X13_valueOf) := goodIn_app (goodIn_of _ (by decide +kernel)) (fun w h => ⟨List.mem_cons_of_mem _ (List.mem_append_right _ (List.mem_append_right _ (List.mem_append_left _ h))), gd_dm_X13_valueOf w h⟩)
def dj_X13_near_143 (p : Program) (l : Launch) (e : Env) (s : State) (m : MethodId) (args : Array Value) (below : List Frame) (meth : Method) (c : Code) (Q : State → Prop) (A : Nat → Prop) (dC : Nat → ClassId) (dI : Nat → Nat → Nat) (a : Nat → Nat) (ac : Nat → ClassId) (g : Int32 → (St) → Option (Int32 × (St))) (r : Int32 × (St)) : Prop := ∀ (y0 : Int32) (s0 : St) (H : Heap) (locs : List Loc) (ls : Array Slot), g y0 s0 = some r → va_P (dC, dI) vwCl (dw_X13 a ac s0) H → va_D A (dw_X13 a ac s0) → va_S A s.heap H locs → lv_has ls 7 [] → W p l e (headSpec ow_dm_X13_near ({ frames := 2, cells := 0, slots := 0, locals := 42 })).room s m args below meth c H locs 0 0 Q (F0 m 143 ls [.int y0])
def dj_X13_near_125 (p : Program) (l : Launch) (e : Env) (s : State) (m : MethodId) (args : Array Value) (below : List Frame) (meth : Method) (c : Code) (Q : State → Prop) (A : Nat → Prop) (dC : Nat → ClassId) (dI : Nat → Nat → Nat) (a : Nat → Nat) (ac : Nat → ClassId) (g : Int32 → Int32 → (St) → Option (Int32 × (St))) (r : Int32 × (St)) : Prop := ∀ (x4 : Int32) (y1 : Int32) (s0 : St) (H : Heap) (locs : List Loc) (ls : Array Slot), g x4 y1 s0 = some r → va_P (dC, dI) vwCl (dw_X13 a ac s0) H → va_D A (dw_X13 a ac s0) → va_S A s.heap H locs → lv_has ls 7 [(0, .ref (a 0)), (4, .int x4)] → W p l e (headSpec ow_dm_X13_near ({ frames := 2, cells := 0, slots := 0, locals := 42 })).room s m args below meth c H locs 0 0 Q (F0 m 125 ls [.int y1, .ref (a 0)])
def dj_X13_near_120 (p : Program) (l : Launch) (e : Env) (s : State) (m : MethodId) (args : Array Value) (below : List Frame) (meth : Method) (c : Code) (Q : State → Prop) (A : Nat → Prop) (dC : Nat → ClassId) (dI : Nat → Nat → Nat) (a : Nat → Nat) (ac : Nat → ClassId) (g : Int32 → (St) → Option (Int32 × (St))) (r : Int32 × (St)) : Prop := ∀ (x4 : Int32) (s0 : St) (H : Heap) (locs : List Loc) (ls : Array Slot), g x4 s0 = some r → va_P (dC, dI) vwCl (dw_X13 a ac s0) H → va_D A (dw_X13 a ac s0) → va_S A s.heap H locs → lv_has ls 7 [(0, .ref (a 0)), (4, .int x4)] → W p l e (headSpec ow_dm_X13_near ({ frames := 2, cells := 0, slots := 0, locals := 42 })).room s m args below meth c H locs 0 0 Q (F0 m 120 ls [.ref (a 0)])
def dj_X13_near_101 (p : Program) (l : Launch) (e : Env) (s : State) (m : MethodId) (args : Array Value) (below : List Frame) (meth : Method) (c : Code) (Q : State → Prop) (A : Nat → Prop) (dC : Nat → ClassId) (dI : Nat → Nat → Nat) (a : Nat → Nat) (ac : Nat → ClassId) (g : Int32 → Int32 → Int32 → Int32 → Int32 → (St) → Option (Int32 × (St))) (r : Int32 × (St)) : Prop := ∀ (x1 : Int32) (x2 : Int32) (x3 : Int32) (x4 : Int32) (x5 : Int32) (s0 : St) (H : Heap) (locs : List Loc) (ls : Array Slot), g x1 x2 x3 x4 x5 s0 = some r → va_P (dC, dI) vwCl (dw_X13 a ac s0) H → va_D A (dw_X13 a ac s0) → va_S A s.heap H locs → lv_has ls 7 [(0, .ref (a 0)), (1, .int x1), (2, .int x2), (3, .int x3), (4, .int x4), (5, .int x5)] → W p l e (headSpec ow_dm_X13_near ({ frames := 2, cells := 0, slots := 0, locals := 42 })).room s m args below meth c H locs 0 0 Q (F0 m 101 ls [])
def dj_X13_near_97 (p : Program) (l : Launch) (e : Env) (s : State) (m : MethodId) (args : Array Value) (below : List Frame) (meth : Method) (c : Code) (Q : State → Prop) (A : Nat → Prop) (dC : Nat → ClassId) (dI : Nat → Nat → Nat) (a : Nat → Nat) (ac : Nat → ClassId) (g : Int32 → Int32 → Int32 → Int32 → (St) → Option (Int32 × (St))) (r : Int32 × (St)) : Prop := ∀ (x1 : Int32) (x2 : Int32) (x3 : Int32) (x5 : Int32) (s0 : St) (H : Heap) (locs : List Loc) (ls : Array Slot), g x1 x2 x3 x5 s0 = some r → va_P (dC, dI) vwCl (dw_X13 a ac s0) H → va_D A (dw_X13 a ac s0) → va_S A s.heap H locs → lv_has ls 7 [(0, .ref (a 0)), (1, .int x1), (2, .int x2), (3, .int x3), (5, .int x5)] → W p l e (headSpec ow_dm_X13_near ({ frames := 2, cells := 0, slots := 0, locals := 42 })).room s m args below meth c H locs 0 0 Q (F0 m 97 ls [])
def dj_X13_near_82 (p : Program) (l : Launch) (e : Env) (s : State) (m : MethodId) (args : Array Value) (below : List Frame) (meth : Method) (c : Code) (Q : State → Prop) (A : Nat → Prop) (dC : Nat → ClassId) (dI : Nat → Nat → Nat) (a : Nat → Nat) (ac : Nat → ClassId) (g : Int32 → Int32 → Int32 → Int32 → Int32 → Int32 → Int32 → (St) → Option (Int32 × (St))) (r : Int32 × (St)) : Prop := ∀ (x1 : Int32) (x2 : Int32) (x3 : Int32) (x4 : Int32) (x5 : Int32) (y0 : Int32) (y1 : Int32) (s0 : St) (H : Heap) (locs : List Loc) (ls : Array Slot), g x1 x2 x3 x4 x5 y0 y1 s0 = some r → va_P (dC, dI) vwCl (dw_X13 a ac s0) H → va_D A (dw_X13 a ac s0) → va_S A s.heap H locs → lv_has ls 7 [(0, .ref (a 0)), (1, .int x1), (2, .int x2), (3, .int x3), (4, .int x4), (5, .int x5)] → W p l e (headSpec ow_dm_X13_near ({ frames := 2, cells := 0, slots := 0, locals := 42 })).room s m args below meth c H locs 0 0 Q (F0 m 82 ls [.int y1, .int y0])
def dj_X13_near_20 (p : Program) (l : Launch) (e : Env) (s : State) (m : MethodId) (args : Array Value) (below : List Frame) (meth : Method) (c : Code) (Q : State → Prop) (A : Nat → Prop) (dC : Nat → ClassId) (dI : Nat → Nat → Nat) (a : Nat → Nat) (ac : Nat → ClassId) (g : Int32 → Int32 → Int32 → Int32 → Int32 → (St) → Option (Int32 × (St))) (r : Int32 × (St)) : Prop := ∀ (x1 : Int32) (x2 : Int32) (x3 : Int32) (x4 : Int32) (x5 : Int32) (s0 : St) (H : Heap) (locs : List Loc) (ls : Array Slot), g x1 x2 x3 x4 x5 s0 = some r → va_P (dC, dI) vwCl (dw_X13 a ac s0) H → va_D A (dw_X13 a ac s0) → va_S A s.heap H locs → lv_has ls 7 [(0, .ref (a 0)), (1, .int x1), (2, .int x2), (3, .int x3), (4, .int x4), (5, .int x5)] → W p l e (headSpec ow_dm_X13_near ({ frames := 2, cells := 0, slots := 0, locals := 42 })).room s m args below meth c H locs 0 0 Q (F0 m 20 ls [])
def dj_X13_near_0 (p : Program) (l : Launch) (e : Env) (s : State) (m : MethodId) (args : Array Value) (below : List Frame) (meth : Method) (c : Code) (Q : State → Prop) (A : Nat → Prop) (dC : Nat → ClassId) (dI : Nat → Nat → Nat) (a : Nat → Nat) (ac : Nat → ClassId) (g : Int32 → Int32 → (St) → Option (Int32 × (St))) (r : Int32 × (St)) : Prop := ∀ (v0 : Int32) (v1 : Int32) (s0 : St) (H : Heap) (locs : List Loc) (ls : Array Slot), g v0 v1 s0 = some r → va_P (dC, dI) vwCl (dw_X13 a ac s0) H → va_D A (dw_X13 a ac s0) → va_S A s.heap H locs → lv_has ls 7 [(0, .ref (a 0)), (1, .int v0), (2, .int v1)] → W p l e (headSpec ow_dm_X13_near ({ frames := 2, cells := 0, slots := 0, locals := 42 })).room s m args below meth c H locs 0 0 Q (F0 m 0 ls [])
set_option maxHeartbeats 40000000 in
set_option maxRecDepth 100000 in
theorem db_X13_near_143 {p : Program} {l : Launch} {e : Env} {s : State} {m : MethodId} {args : Array Value} {below : List Frame} {meth : Method} {c : Code} {Q : State → Prop} {A : Nat → Prop} {dC : Nat → ClassId} {dI : Nat → Nat → Nat} {a : Nat → Nat} {ac : Nat → ClassId} {n : Nat} {r : Int32 × (St)} (C : nd_C p l s m args c A (dC, dI) cX13_near 7 RX13 ow_dm_X13_near (dk_X13 ac)) (K : nd_Ki p l e (headSpec ow_dm_X13_near ({ frames := 2, cells := 0, slots := 0, locals := 42 })).room s m args below meth c Q A (dC, dI) cX13_near .int (St) (dw_X13 a ac) r) : dj_X13_near_143 p l e s m args below meth c Q A dC dI a ac (df_X13_near_143 n) r := by
  obtain ⟨hlt, hx, hb, hml, hown, hts, hN, hA, hK⟩ := id C
  intro y0 s0 H locs ls h hP hD hS hl
  unfold df_X13_near_143 at h
  exact K _ _ _ _ _ _ dX13_near_143 rfl (Option.some.inj h).symm hP hD hS
set_option maxHeartbeats 40000000 in
set_option maxRecDepth 100000 in
theorem db_X13_near_125 {p : Program} {l : Launch} {e : Env} {s : State} {m : MethodId} {args : Array Value} {below : List Frame} {meth : Method} {c : Code} {Q : State → Prop} {A : Nat → Prop} {dC : Nat → ClassId} {dI : Nat → Nat → Nat} {a : Nat → Nat} {ac : Nat → ClassId} {n : Nat} {r : Int32 × (St)} (C : nd_C p l s m args c A (dC, dI) cX13_near 7 RX13 ow_dm_X13_near (dk_X13 ac)) (K : nd_Ki p l e (headSpec ow_dm_X13_near ({ frames := 2, cells := 0, slots := 0, locals := 42 })).room s m args below meth c Q A (dC, dI) cX13_near .int (St) (dw_X13 a ac) r) : dj_X13_near_125 p l e s m args below meth c Q A dC dI a ac (df_X13_near_125 n) r := by
  obtain ⟨hlt, hx, hb, hml, hown, hts, hN, hA, hK⟩ := id C
  intro x4 y1 s0 H locs ls h hP hD hS hl
  unfold df_X13_near_125 at h
  obtain ⟨n5, h⟩ := nd_f_e h
  obtain ⟨n6, h⟩ := nd_z_e ⟨_, rfl⟩ h
  refine va_put (D := (dC, dI)) (ci := 14) (v := .int y1) (ty := .boolean) (C := RX13) (T := TX13) (N := 37) hx hb hts hi_dm_X13_near_X13 tyX13 tyX13_ok nmX13 hown hK hP hD hS 0 rfl rfl 31 (by decide) (hts (.fieldLink RX13 457 "TimeMachineModel$Assembler" "missing" "Z") (List.mem_of_getElem? (i := 5) rfl)) (fun _ h9 => h9) rfl (by decide +kernel) n6 n5 (Nat.le_of_ble_eq_true rfl) dX13_near_125 (fun H locs hP hD hS => ?_)
  obtain ⟨s7, es7, h⟩ := nd_let_e h
  have hP : va_P (dC, dI) vwCl (dw_X13 a ac s7) H := by rw [es7]; exact hP
  have hD : va_D A (dw_X13 a ac s7) := by rw [es7]; exact hD
  refine lv_iload hx hb dX13_near_128 (lv_at hl 1 rfl) ?_
  refine lv_if_ge (tgt := 137) hx hb dX13_near_130 (by decide) (fun c8 => ?_) (fun c8 => ?_)
  · have h := nd_pos h c8
    refine lv_aload_n hx hb dX13_near_137 rfl (lv_at hl 0 rfl) ?_
    refine lv_iload hx hb dX13_near_138 (lv_at hl 1 rfl) ?_
    obtain ⟨q9, s10, hq, h⟩ := nd_b2_e h
    have hPc := hP
    have hDc := hD
    have hKc := hK
    have hFc := nd_rs hD hS hA
    refine nd_cVi (As := [.int x4]) (rest := []) (q := q9) (w' := dw_X13 a ac s10) ⟨hx, hb, hml, hown, hts⟩ (fun sz => dm_X13_valueOf l hlt dC dI a ac n (x4) s7 hq sz) (cwV 1 hts gi_dm_X13_near_0 rfl rfl rfl (by decide +kernel) ⟨Nat.le_of_ble_eq_true rfl, Nat.le_of_ble_eq_true rfl⟩) hPc hDc hKc hS hA hN (va_recv hKc hPc (ci := 14) (q0 := 0) rfl rfl) rfl hl.1 rfl (Nat.le_of_ble_eq_true rfl) dX13_near_140 (fun H locs hP1 hD1 hk1 hS => ?_)
    have hP := hP1
    have hD := hD1.weaken (fun k q _ h => hFc q.1 h)
    exact (db_X13_near_143 C K) (q9) s10 _ _ _ h hP hD hS (lv_sub hl [] rfl)
  · have h := nd_neg h c8
    refine lv_iconst (v := 0) hx hb dX13_near_133 (by decide) ?_
    refine lv_goto (tgt := 143) hx hb dX13_near_134 (by decide) ?_
    exact (db_X13_near_143 C K) (0) s7 _ _ _ h hP hD hS (lv_sub hl [] rfl)
set_option maxHeartbeats 40000000 in
set_option maxRecDepth 100000 in
theorem db_X13_near_120 {p : Program} {l : Launch} {e : Env} {s : State} {m : MethodId} {args : Array Value} {below : List Frame} {meth : Method} {c : Code} {Q : State → Prop} {A : Nat → Prop} {dC : Nat → ClassId} {dI : Nat → Nat → Nat} {a : Nat → Nat} {ac : Nat → ClassId} {n : Nat} {r : Int32 × (St)} (C : nd_C p l s m args c A (dC, dI) cX13_near 7 RX13 ow_dm_X13_near (dk_X13 ac)) (K : nd_Ki p l e (headSpec ow_dm_X13_near ({ frames := 2, cells := 0, slots := 0, locals := 42 })).room s m args below meth c Q A (dC, dI) cX13_near .int (St) (dw_X13 a ac) r) : dj_X13_near_120 p l e s m args below meth c Q A dC dI a ac (df_X13_near_120 n) r := by
  obtain ⟨hlt, hx, hb, hml, hown, hts, hN, hA, hK⟩ := id C
  intro x4 s0 H locs ls h hP hD hS hl
  unfold df_X13_near_120 at h
  refine lv_iconst (v := 1) hx hb dX13_near_120 (by decide) ?_
  refine lv_goto (tgt := 125) hx hb dX13_near_121 (by decide) ?_
  exact (db_X13_near_125 C K) (x4) (1) s0 _ _ _ h hP hD hS (lv_sub hl [0, 1] rfl)
set_option maxHeartbeats 40000000 in
set_option maxRecDepth 100000 in
theorem db_X13_near_101 {p : Program} {l : Launch} {e : Env} {s : State} {m : MethodId} {args : Array Value} {below : List Frame} {meth : Method} {c : Code} {Q : State → Prop} {A : Nat → Prop} {dC : Nat → ClassId} {dI : Nat → Nat → Nat} {a : Nat → Nat} {ac : Nat → ClassId} {n : Nat} {r : Int32 × (St)} (C : nd_C p l s m args c A (dC, dI) cX13_near 7 RX13 ow_dm_X13_near (dk_X13 ac)) (K : nd_Ki p l e (headSpec ow_dm_X13_near ({ frames := 2, cells := 0, slots := 0, locals := 42 })).room s m args below meth c Q A (dC, dI) cX13_near .int (St) (dw_X13 a ac) r) {g20 : Int32 → Int32 → Int32 → Int32 → Int32 → (St) → Option (Int32 × (St))} (J20 : dj_X13_near_20 p l e s m args below meth c Q A dC dI a ac g20 r) : dj_X13_near_101 p l e s m args below meth c Q A dC dI a ac (df_X13_near_101 n g20) r := by
  obtain ⟨hlt, hx, hb, hml, hown, hts, hN, hA, hK⟩ := id C
  intro x1 x2 x3 x4 x5 s0 H locs ls h hP hD hS hl
  unfold df_X13_near_101 at h
  obtain ⟨z17, ez17, h⟩ := nd_let_e h
  refine lv_iinc (v := z17) (lv' := [(5, .int z17), (0, .ref (a 0)), (1, .int x1), (2, .int x2), (3, .int x3), (4, .int x4)]) hx hb dX13_near_101 hl (k := 5) rfl (by rw [ez17]) (by decide) rfl (fun ls hl => ?_)
  refine lv_goto (tgt := 20) hx hb dX13_near_104 (by decide) ?_
  exact (J20) (x1) (x2) (x3) (x4) (z17) s0 _ _ _ h hP hD hS (lv_sub hl [1, 2, 3, 4, 5, 0] rfl)
set_option maxHeartbeats 40000000 in
set_option maxRecDepth 100000 in
theorem db_X13_near_97 {p : Program} {l : Launch} {e : Env} {s : State} {m : MethodId} {args : Array Value} {below : List Frame} {meth : Method} {c : Code} {Q : State → Prop} {A : Nat → Prop} {dC : Nat → ClassId} {dI : Nat → Nat → Nat} {a : Nat → Nat} {ac : Nat → ClassId} {n : Nat} {r : Int32 × (St)} (C : nd_C p l s m args c A (dC, dI) cX13_near 7 RX13 ow_dm_X13_near (dk_X13 ac)) (K : nd_Ki p l e (headSpec ow_dm_X13_near ({ frames := 2, cells := 0, slots := 0, locals := 42 })).room s m args below meth c Q A (dC, dI) cX13_near .int (St) (dw_X13 a ac) r) {g20 : Int32 → Int32 → Int32 → Int32 → Int32 → (St) → Option (Int32 × (St))} (J20 : dj_X13_near_20 p l e s m args below meth c Q A dC dI a ac g20 r) : dj_X13_near_97 p l e s m args below meth c Q A dC dI a ac (df_X13_near_97 n g20) r := by
  obtain ⟨hlt, hx, hb, hml, hown, hts, hN, hA, hK⟩ := id C
  intro x1 x2 x3 x5 s0 H locs ls h hP hD hS hl
  unfold df_X13_near_97 at h
  refine lv_iload hx hb dX13_near_97 (lv_at hl 4 rfl) ?_
  refine lv_istore (lv' := [(4, .int x5), (0, .ref (a 0)), (1, .int x1), (2, .int x2), (3, .int x3), (5, .int x5)]) hx hb dX13_near_99 hl (by decide) rfl (fun ls hl => ?_)
  exact (db_X13_near_101 C K J20) (x1) (x2) (x3) (x5) (x5) s0 _ _ _ h hP hD hS (lv_sub hl [1, 2, 3, 4, 0, 5] rfl)
set_option maxHeartbeats 40000000 in
set_option maxRecDepth 100000 in
theorem db_X13_near_82 {p : Program} {l : Launch} {e : Env} {s : State} {m : MethodId} {args : Array Value} {below : List Frame} {meth : Method} {c : Code} {Q : State → Prop} {A : Nat → Prop} {dC : Nat → ClassId} {dI : Nat → Nat → Nat} {a : Nat → Nat} {ac : Nat → ClassId} {n : Nat} {r : Int32 × (St)} (C : nd_C p l s m args c A (dC, dI) cX13_near 7 RX13 ow_dm_X13_near (dk_X13 ac)) (K : nd_Ki p l e (headSpec ow_dm_X13_near ({ frames := 2, cells := 0, slots := 0, locals := 42 })).room s m args below meth c Q A (dC, dI) cX13_near .int (St) (dw_X13 a ac) r) {g20 : Int32 → Int32 → Int32 → Int32 → Int32 → (St) → Option (Int32 × (St))} (J20 : dj_X13_near_20 p l e s m args below meth c Q A dC dI a ac g20 r) : dj_X13_near_82 p l e s m args below meth c Q A dC dI a ac (df_X13_near_82 n g20) r := by
  obtain ⟨hlt, hx, hb, hml, hown, hts, hN, hA, hK⟩ := id C
  intro x1 x2 x3 x4 x5 y0 y1 s0 H locs ls h hP hD hS hl
  unfold df_X13_near_82 at h
  refine lv_icmp_ne (tgt := 101) hx hb dX13_near_82 (by decide) (fun c21 => ?_) (fun c21 => ?_)
  · have h := nd_neg h c21
    exact (db_X13_near_101 C K J20) (x1) (x2) (x3) (x4) (x5) s0 _ _ _ h hP hD hS (lv_sub hl [0, 1, 2, 3, 4, 5] rfl)
  · have h := nd_pos h c21
    refine lv_iload_n hx hb dX13_near_85 rfl (lv_at hl 2 rfl) ?_
    refine lv_if_eq (tgt := 97) hx hb dX13_near_86 (by decide) (fun c22 => ?_) (fun c22 => ?_)
    · have h := nd_pos h c22
      exact (db_X13_near_97 C K J20) (x1) (x2) (x3) (x5) s0 _ _ _ h hP hD hS (lv_sub hl [0, 1, 2, 3, 5] rfl)
    · have h := nd_neg h c22
      refine lv_iload hx hb dX13_near_89 (lv_at hl 4 rfl) ?_
      refine lv_if_lt (tgt := 97) hx hb dX13_near_91 (by decide) (fun c23 => ?_) (fun c23 => ?_)
      · have h := nd_pos h c23
        exact (db_X13_near_97 C K J20) (x1) (x2) (x3) (x5) s0 _ _ _ h hP hD hS (lv_sub hl [0, 1, 2, 3, 5] rfl)
      · have h := nd_neg h c23
        refine lv_goto (tgt := 101) hx hb dX13_near_94 (by decide) ?_
        exact (db_X13_near_101 C K J20) (x1) (x2) (x3) (x4) (x5) s0 _ _ _ h hP hD hS (lv_sub hl [0, 1, 2, 3, 4, 5] rfl)

