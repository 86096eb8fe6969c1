def ow_dm_X15_charAt : List Cond := .code yX15_charAt cX15_charAt 2 (some .int) :: ([.fieldLink RX15 65 "TimeMachineModel$Conditions" "size" "I", .fieldLink RX15 7 "TimeMachineModel$Conditions" "text" "[C"] ++ (u_ws RX15 TX15 28 ++ []))
theorem gd_dm_X15_charAt : ∀ w ∈ ow_dm_X15_charAt, (w.onTables && w.keeps) = true ∨ ∃ ty, w = Cond.arrayClass ty := List.forall_mem_cons.mpr ⟨good_of_word rfl, List.forall_mem_append.mpr ⟨fun w h => good_of_word (List.all_eq_true.mp (by decide +kernel) w h), List.forall_mem_append.mpr ⟨gu_X15, fun _ h => nomatch h⟩⟩⟩
theorem hi_dm_X15_charAt_X15 : ∀ w ∈ u_ws RX15 TX15 28, w ∈ ow_dm_X15_charAt := fun w h => List.mem_cons_of_mem _ (List.mem_append_right _ (List.mem_append_left _ h))
def dj_X15_charAt_18 (p : Program) (l : Launch) (e : Env) (s : State) (m : MethodId) (args : Array Value) (below : List Frame) (meth : Method) (c : Code) (Q : State → Prop) (A : Nat → Prop) (dC : Nat → ClassId) (dI : Nat → Nat → Nat) (a : Nat → Nat) (ac : Nat → ClassId) (g : Int32 → (St × (St × (St))) → Option (Int32 × (St × (St × (St))))) (r : Int32 × (St × (St × (St)))) : Prop := ∀ (y0 : Int32) (s0 : St × (St × (St))) (H : Heap) (locs : List Loc) (ls : Array Slot), g y0 s0 = some r → va_P (dC, dI) vwCl (dw_X15 a ac s0) H → va_D A (dw_X15 a ac s0) → va_S A s.heap H locs → lv_has ls 2 [] → W p l e (headSpec ow_dm_X15_charAt ({ frames := 0, cells := 0, slots := 0, locals := 0 })).room s m args below meth c H locs 0 0 Q (F0 m 18 ls [.int y0])
def dj_X15_charAt_0 (p : Program) (l : Launch) (e : Env) (s : State) (m : MethodId) (args : Array Value) (below : List Frame) (meth : Method) (c : Code) (Q : State → Prop) (A : Nat → Prop) (dC : Nat → ClassId) (dI : Nat → Nat → Nat) (a : Nat → Nat) (ac : Nat → ClassId) (g : Int32 → (St × (St × (St))) → Option (Int32 × (St × (St × (St))))) (r : Int32 × (St × (St × (St)))) : Prop := ∀ (v0 : Int32) (s0 : St × (St × (St))) (H : Heap) (locs : List Loc) (ls : Array Slot), g v0 s0 = some r → va_P (dC, dI) vwCl (dw_X15 a ac s0) H → va_D A (dw_X15 a ac s0) → va_S A s.heap H locs → lv_has ls 2 [(0, .ref (a 0)), (1, .int v0)] → W p l e (headSpec ow_dm_X15_charAt ({ frames := 0, cells := 0, slots := 0, locals := 0 })).room s m args below meth c H locs 0 0 Q (F0 m 0 ls [])
set_option maxHeartbeats 40000000 in
set_option maxRecDepth 100000 in
theorem db_X15_charAt_18 {p : Program} {l : Launch} {e : Env} {s : State} {m : MethodId} {args : Array Value} {below : List Frame} {meth : Method} {c : Code} {Q : State → Prop} {A : Nat → Prop} {dC : Nat → ClassId} {dI : Nat → Nat → Nat} {a : Nat → Nat} {ac : Nat → ClassId} {n : Nat} {r : Int32 × (St × (St × (St)))} (C : nd_C p l s m args c A (dC, dI) cX15_charAt 2 RX15 ow_dm_X15_charAt (dk_X15 ac)) (K : nd_Ki p l e (headSpec ow_dm_X15_charAt ({ frames := 0, cells := 0, slots := 0, locals := 0 })).room s m args below meth c Q A (dC, dI) cX15_charAt .int (St × (St × (St))) (dw_X15 a ac) r) : dj_X15_charAt_18 p l e s m args below meth c Q A dC dI a ac (df_X15_charAt_18 n) r := by
  obtain ⟨hlt, hx, hb, hml, hown, hts, hN, hA, hK⟩ := id C
  intro y0 s0 H locs ls h hP hD hS hl
  unfold df_X15_charAt_18 at h
  exact K _ _ _ _ _ _ dX15_charAt_18 rfl (Option.some.inj h).symm hP hD hS
set_option maxHeartbeats 40000000 in
set_option maxRecDepth 100000 in
theorem db_X15_charAt_0 {p : Program} {l : Launch} {e : Env} {s : State} {m : MethodId} {args : Array Value} {below : List Frame} {meth : Method} {c : Code} {Q : State → Prop} {A : Nat → Prop} {dC : Nat → ClassId} {dI : Nat → Nat → Nat} {a : Nat → Nat} {ac : Nat → ClassId} {n : Nat} {r : Int32 × (St × (St × (St)))} (C : nd_C p l s m args c A (dC, dI) cX15_charAt 2 RX15 ow_dm_X15_charAt (dk_X15 ac)) (K : nd_Ki p l e (headSpec ow_dm_X15_charAt ({ frames := 0, cells := 0, slots := 0, locals := 0 })).room s m args below meth c Q A (dC, dI) cX15_charAt .int (St × (St × (St))) (dw_X15 a ac) r) : dj_X15_charAt_0 p l e s m args below meth c Q A dC dI a ac (df_X15_charAt_0 n) r := by
  obtain ⟨hlt, hx, hb, hml, hown, hts, hN, hA, hK⟩ := id C
  intro v0 s0 H locs ls h hP hD hS hl
  unfold df_X15_charAt_0 at h
  refine lv_iload_n hx hb dX15_charAt_0 rfl (lv_at hl 1 rfl) ?_
  refine lv_aload_n hx hb dX15_charAt_1 rfl (lv_at hl 0 rfl) ?_
  refine va_get (D := (dC, dI)) (ci := 16) (v := .int (sI s0.1 0)) (C := RX15) (T := TX15) (N := 28) hx hb hts hi_dm_X15_charAt_X15 hown hK hP 0 rfl rfl 1 (by decide) (hts (.fieldLink RX15 65 "TimeMachineModel$Conditions" "size" "I") (List.mem_of_getElem? (i := 1) rfl)) (fun _ h9 => h9) rfl dX15_charAt_2 ?_
  refine lv_icmp_ge (tgt := 17) hx hb dX15_charAt_5 (by decide) (fun c1 => ?_) (fun c1 => ?_)
  · have h := nd_pos h c1
    refine lv_iconst (v := 0) hx hb dX15_charAt_17 (by decide) ?_
    exact (db_X15_charAt_18 C K) (0) s0 _ _ _ h hP hD hS (lv_sub hl [] rfl)
  · have h := nd_neg h c1
    refine lv_aload_n hx hb dX15_charAt_8 rfl (lv_at hl 0 rfl) ?_
    refine va_get (D := (dC, dI)) (ci := 16) (v := .ref (a 1)) (C := RX15) (T := TX15) (N := 28) hx hb hts hi_dm_X15_charAt_X15 hown hK hP 0 rfl rfl 2 (by decide) (hts (.fieldLink RX15 7 "TimeMachineModel$Conditions" "text" "[C") (List.mem_of_getElem? (i := 2) rfl)) (fun _ h9 => h9) rfl dX15_charAt_9 ?_
    refine lv_iload_n hx hb dX15_charAt_12 rfl (lv_at hl 1 rfl) ?_
    obtain ⟨i2, h⟩ := nd_ck_e h
    refine va_cald (i := v0) hx hb hK hP 1 0 rfl rfl i2 dX15_charAt_13 ?_
    refine lv_goto (tgt := 18) hx hb dX15_charAt_14 (by decide) ?_
    exact (db_X15_charAt_18 C K) ((sR s0.1 0 (Int32.toNatClampNeg v0))) s0 _ _ _ h hP hD hS (lv_sub hl [] rfl)
set_option maxHeartbeats 40000000 in
set_option maxRecDepth 100000 in
theorem dm_X15_charAt (l : Launch) (hlt : l.stackTraces = false) (dC : Nat → ClassId) (dI : Nat → Nat → Nat) (a : Nat → Nat) (ac : Nat → ClassId) (n : Nat) (v0 : Int32) (s0 : St × (St × (St))) {r : Int32 × (St × (St × (St)))} (h : df_X15_charAt n v0 s0 = some r) (sz : Nat) : Met l yX15_charAt ow_dm_X15_charAt ({ frames := 0, cells := 0, slots := 0, locals := 0 }) (va_Pc [.ref (a 0), .int v0] (fun U => U.heap.size = sz ∧ va_P (dC, dI) vwCl (dw_X15 a ac s0) U.heap ∧ va_K (dC, dI) vwCl (dk_X15 ac) U ∧ va_D (fun _ => True) (dw_X15 a ac s0) ∧ nv_E (va_A (dw_X15 a ac s0) sz) U)) (va_Qi (fun x _ => x = r.1) (fun (_ : Unit) t => va_P (dC, dI) vwCl (dw_X15 a ac r.2) t.heap ∧ va_K (dC, dI) vwCl (dk_X15 ac) t ∧ va_D (va_A (dw_X15 a ac s0) sz) (dw_X15 a ac r.2)) (va_A (dw_X15 a ac s0) sz)) 0 0 (va_A (dw_X15 a ac s0) sz) := by
  refine Met.ofW (cc := cX15_charAt) (maxL := 2) (ret := (some .int)) (by decide) rfl ?_
  intro p e s m args below meth c s₁ B hml hv
  obtain ⟨rfl, hsz, hP, hK, hD0, hN⟩ := hv
  have hx := B.exec
  have hb := B.bytes
  have hr := B.returns
  have hts := atoms_spec (ws := ow_dm_X15_charAt) B.pre
  have hown : s.vm.findClass RX15 = some m.cls := findClass_of_methodNamed B.named
  have hlocks := B.notSynchronized
  subst hsz
  have hD := hD0.self (sz := s.heap.size)
  generalize hAe : va_A (dw_X15 a ac s0) s.heap.size = A at hD hN ⊢
  have hA : ∀ q : Nat, s.heap.size ≤ q → A q := fun q h => by rw [← hAe]; exact Or.inr h
  have hl := lv_entry ([.ref (a 0), .int v0]) (n := 2) (Nat.le_of_ble_eq_true rfl)
  rw [lg_entry_eq]
  generalize (lg_sl ([.ref (a 0), .int v0]) ++ List.replicate (2 - (lg_sl ([.ref (a 0), .int v0])).length) Slot.unset).toArray = ls at hl ⊢
  have hl : lv_has ls 2 [(0, .ref (a 0)), (1, .int v0)] := hl
  exact db_X15_charAt_0 (dC := dC) (dI := dI) (a := a) (ac := ac) (n := n) (r := r) ⟨hlt, hx, hb, hml, hown, hts, hN, hA, hK⟩ (fun pc v τ H locs ls d z er hP hD hS => by subst er; exact W.zret (v := v) hx hb hr z (fun t ht hW => ⟨⟨v, (), rfl, rfl, by rw [ht]; exact hP, va_K.moved hW.alike hK, hD⟩, hS.F ht⟩) hS.2.2 d) v0 s0 _ _ _ h hP hD va_S.rf (lv_sub hl [0, 1] rfl)
def ow_dm_X15_isDigit : List Cond := .code yX15_isDigit cX15_isDigit 1 (some .boolean) :: ([] ++ [])
theorem gd_dm_X15_isDigit : ∀ w ∈ ow_dm_X15_isDigit, (w.onTables && w.keeps) = true ∨ ∃ ty, w = Cond.arrayClass ty := List.forall_mem_cons.mpr ⟨good_of_word rfl, List.forall_mem_append.mpr ⟨fun w h => good_of_word (List.all_eq_true.mp (by decide +kernel) w h), fun _ h => nomatch h⟩⟩
def dj_X15_isDigit_17 (p : Program) (l : Launch) (e : Env) (s : State) (m : MethodId) (args : Array Value) (below : List Frame) (meth : Method) (c : Code) (Q : State → Prop) (A : Nat → Prop) (dC : Nat → ClassId) (dI : Nat → Nat → Nat) (a : Nat → Nat) (ac : Nat → ClassId) (g : Int32 → (Unit) → Option (Int32 × (Unit))) (r : Int32 × (Unit)) : Prop := ∀ (y0 : Int32) (s0 : Unit) (H : Heap) (locs : List Loc) (ls : Array Slot), g y0 s0 = some r → va_P (dC, dI) vwCl (dw_P a ac s0) H → va_D A (dw_P a ac s0) → va_S A s.heap H locs → lv_has ls 1 [] → W p l e (headSpec ow_dm_X15_isDigit ({ frames := 0, cells := 0, slots := 0, locals := 0 })).room s m args below meth c H locs 0 0 Q (F0 m 17 ls [.int y0])
def dj_X15_isDigit_16 (p : Program) (l : Launch) (e : Env) (s : State) (m : MethodId) (args : Array Value) (below : List Frame) (meth : Method) (c : Code) (Q : State → Prop) (A : Nat → Prop) (dC : Nat → ClassId) (dI : Nat → Nat → Nat) (a : Nat → Nat) (ac : Nat → ClassId) (g : (Unit) → Option (Int32 × (Unit))) (r : Int32 × (Unit)) : Prop := ∀ (s0 : Unit) (H : Heap) (locs : List Loc) (ls : Array Slot), g s0 = some r → va_P (dC, dI) vwCl (dw_P a ac s0) H → va_D A (dw_P a ac s0) → va_S A s.heap H locs → lv_has ls 1 [] → W p l e (headSpec ow_dm_X15_isDigit ({ frames := 0, cells := 0, slots := 0, locals := 0 })).room s m args below meth c H locs 0 0 Q (F0 m 16 ls [])
def dj_X15_isDigit_0 (p : Program) (l : Launch) (e : Env) (s : State) (m : MethodId) (args : Array Value) (below : List Frame) (meth : Method) (c : Code) (Q : State → Prop) (A : Nat → Prop) (dC : Nat → ClassId) (dI : Nat → Nat → Nat) (a : Nat → Nat) (ac : Nat → ClassId) (g : Int32 → (Unit) → Option (Int32 × (Unit))) (r : Int32 × (Unit)) : Prop := ∀ (v0 : Int32) (s0 : Unit) (H : Heap) (locs : List Loc) (ls : Array Slot), g v0 s0 = some r → va_P (dC, dI) vwCl (dw_P a ac s0) H → va_D A (dw_P a ac s0) → va_S A s.heap H locs → lv_has ls 1 [(0, .int v0)] → W p l e (headSpec ow_dm_X15_isDigit ({ frames := 0, cells := 0, slots := 0, locals := 0 })).room s m args below meth c H locs 0 0 Q (F0 m 0 ls [])
set_option maxHeartbeats 40000000 in
set_option maxRecDepth 100000 in
theorem db_X15_isDigit_17 {p : Program} {l : Launch} {e : Env} {s : State} {m : MethodId} {args : Array Value} {below : List Frame} {meth : Method} {c : Code} {Q : State → Prop} {A : Nat → Prop} {dC : Nat → ClassId} {dI : Nat → Nat → Nat} {a : Nat → Nat} {ac : Nat → ClassId} {n : Nat} {r : Int32 × (Unit)} (C : nd_C p l s m args c A (dC, dI) cX15_isDigit 1 RX15 ow_dm_X15_isDigit (dk_P ac)) (K : nd_Ki p l e (headSpec ow_dm_X15_isDigit ({ frames := 0, cells := 0, slots := 0, locals := 0 })).room s m args below meth c Q A (dC, dI) cX15_isDigit .boolean (Unit) (dw_P a ac) r) : dj_X15_isDigit_17 p l e s m args below meth c Q A dC dI a ac (df_X15_isDigit_17 n) r := by
  obtain ⟨hlt, hx, hb, hml, hown, hts, hN, hA, hK⟩ := id C
  intro y0 s0 H locs ls h hP hD hS hl
  unfold df_X15_isDigit_17 at h
  obtain ⟨n2, h⟩ := nd_z_e ⟨_, rfl⟩ h
  exact K _ _ _ _ _ _ dX15_isDigit_17 n2 (Option.some.inj h).symm hP hD hS
set_option maxHeartbeats 40000000 in
set_option maxRecDepth 100000 in
theorem db_X15_isDigit_16 {p : Program} {l : Launch} {e : Env} {s : State} {m : MethodId} {args : Array Value} {below : List Frame} {meth : Method} {c : Code} {Q : State → Prop} {A : Nat → Prop} {dC : Nat → ClassId} {dI : Nat → Nat → Nat} {a : Nat → Nat} {ac : Nat → ClassId} {n : Nat} {r : Int32 × (Unit)} (C : nd_C p l s m args c A (dC, dI) cX15_isDigit 1 RX15 ow_dm_X15_isDigit (dk_P ac)) (K : nd_Ki p l e (headSpec ow_dm_X15_isDigit ({ frames := 0, cells := 0, slots := 0, locals := 0 })).room s m args below meth c Q A (dC, dI) cX15_isDigit .boolean (Unit) (dw_P a ac) r) : dj_X15_isDigit_16 p l e s m args below meth c Q A dC dI a ac (df_X15_isDigit_16 n) r := by
  obtain ⟨hlt, hx, hb, hml, hown, hts, hN, hA, hK⟩ := id C
  intro s0 H locs ls h hP hD hS hl
  unfold df_X15_isDigit_16 at h
  refine lv_iconst (v := 0) hx hb dX15_isDigit_16 (by decide) ?_
  exact (db_X15_isDigit_17 C K) (0) s0 _ _ _ h hP hD hS (lv_sub hl [] rfl)
set_option maxHeartbeats 40000000 in
set_option maxRecDepth 100000 in
theorem db_X15_isDigit_0 {p : Program} {l : Launch} {e : Env} {s : State} {m : MethodId} {args : Array Value} {below : List Frame} {meth : Method} {c : Code} {Q : State → Prop} {A : Nat → Prop} {dC : Nat → ClassId} {dI : Nat → Nat → Nat} {a : Nat → Nat} {ac : Nat → ClassId} {n : Nat} {r : Int32 × (Unit)} (C : nd_C p l s m args c A (dC, dI) cX15_isDigit 1 RX15 ow_dm_X15_isDigit (dk_P ac)) (K : nd_Ki p l e (headSpec ow_dm_X15_isDigit ({ frames := 0, cells := 0, slots := 0, locals := 0 })).room s m args below meth c Q A (dC, dI) cX15_isDigit .boolean (Unit) (dw_P a ac) r) : dj_X15_isDigit_0 p l e s m args below meth c Q A dC dI a ac (df_X15_isDigit_0 n) r := by
  obtain ⟨hlt, hx, hb, hml, hown, hts, hN, hA, hK⟩ := id C
  intro v0 s0 H locs ls h hP hD hS hl
  unfold df_X15_isDigit_0 at h
  refine lv_iload_n hx hb dX15_isDigit_0 rfl (lv_at hl 0 rfl) ?_
  refine lv_bipush (v := 48) hx hb dX15_isDigit_1 (by decide) ?_
  refine lv_icmp_lt (tgt := 16) hx hb dX15_isDigit_3 (by decide) (fun c1 => ?_) (fun c1 => ?_)
  · have h := nd_pos h c1
    exact (db_X15_isDigit_16 C K)  s0 _ _ _ h hP hD hS (lv_sub hl [] rfl)
  · have h := nd_neg h c1
    refine lv_iload_n hx hb dX15_isDigit_6 rfl (lv_at hl 0 rfl) ?_
    refine lv_bipush (v := 57) hx hb dX15_isDigit_7 (by decide) ?_
    refine lv_icmp_gt (tgt := 16) hx hb dX15_isDigit_9 (by decide) (fun c3 => ?_) (fun c3 => ?_)
    · have h := nd_pos h c3
      exact (db_X15_isDigit_16 C K)  s0 _ _ _ h hP hD hS (lv_sub hl [] rfl)
    · have h := nd_neg h c3
      refine lv_iconst (v := 1) hx hb dX15_isDigit_12 (by decide) ?_
      refine lv_goto (tgt := 17) hx hb dX15_isDigit_13 (by decide) ?_
      exact (db_X15_isDigit_17 C K) (1) s0 _ _ _ h hP hD hS (lv_sub hl [] rfl)
set_option maxHeartbeats 40000000 in
set_option maxRecDepth 100000 in
theorem dm_X15_isDigit (l : Launch) (hlt : l.stackTraces = false) (dC : Nat → ClassId) (dI : Nat → Nat → Nat) (a : Nat → Nat) (ac : Nat → ClassId) (n : Nat) (v0 : Int32) (s0 : Unit) {r : Int32 × (Unit)} (h : df_X15_isDigit n v0 s0 = some r) (sz : Nat) : Met l yX15_isDigit ow_dm_X15_isDigit ({ frames := 0, cells := 0, slots := 0, locals := 0 }) (va_Pc [.int v0] (fun U => U.heap.size = sz ∧ va_P (dC, dI) vwCl (dw_P a ac s0) U.heap ∧ va_K (dC, dI) vwCl (dk_P ac) U ∧ va_D (fun _ => True) (dw_P a ac s0) ∧ nv_E (va_A (dw_P a ac s0) sz) U)) (va_Qi (fun x _ => x = r.1) (fun (_ : Unit) t => va_P (dC, dI) vwCl (dw_P a ac r.2) t.heap ∧ va_K (dC, dI) vwCl (dk_P ac) t ∧ va_D (va_A (dw_P a ac s0) sz) (dw_P a ac r.2)) (va_A (dw_P a ac s0) sz)) 0 0 (va_A (dw_P a ac s0) sz) := by
  refine Met.ofW (cc := cX15_isDigit) (maxL := 1) (ret := (some .boolean)) (by decide) rfl ?_
  intro p e s m args below meth c s₁ B hml hv
  obtain ⟨rfl, hsz, hP, hK, hD0, hN⟩ := hv
  have hx := B.exec
  have hb := B.bytes
  have hr := B.returns
  have hts := atoms_spec (ws := ow_dm_X15_isDigit) B.pre
  have hown : s.vm.findClass RX15 = some m.cls := findClass_of_methodNamed B.named
  have hlocks := B.notSynchronized
  subst hsz
  have hD := hD0.self (sz := s.heap.size)
  generalize hAe : va_A (dw_P a ac s0) s.heap.size = A at hD hN ⊢
  have hA : ∀ q : Nat, s.heap.size ≤ q → A q := fun q h => by rw [← hAe]; exact Or.inr h
  have hl := lv_entry ([.int v0]) (n := 1) (Nat.le_of_ble_eq_true rfl)
  rw [lg_entry_eq]
  generalize (lg_sl ([.int v0]) ++ List.replicate (1 - (lg_sl ([.int v0])).length) Slot.unset).toArray = ls at hl ⊢
  have hl : lv_has ls 1 [(0, .int v0)] := hl
  exact db_X15_isDigit_0 (dC := dC) (dI := dI) (a := a) (ac := ac) (n := n) (r := r) ⟨hlt, hx, hb, hml, hown, hts, hN, hA, hK⟩ (fun pc v τ H locs ls d z er hP hD hS => by subst er; exact W.zret (v := v) hx hb hr z (fun t ht hW => ⟨⟨v, (), rfl, rfl, by rw [ht]; exact hP, va_K.moved hW.alike hK, hD⟩, hS.F ht⟩) hS.2.2 d) v0 s0 _ _ _ h hP hD va_S.rf (lv_sub hl [0] rfl)
def ow_dm_X15_isPlain : List Cond := .code yX15_isPlain cX15_isPlain 1 (some .boolean) :: ([.methodLink RX15 69 yX15_isDigit, .static yX15_isDigit, .initialized RX15] ++ (ow_dm_X15_isDigit ++ []))
theorem gd_dm_X15_isPlain : ∀ w ∈ ow_dm_X15_isPlain, (w.onTables && w.keeps) = true ∨ ∃ ty, w = Cond.arrayClass ty := List.forall_mem_cons.mpr ⟨good_of_word rfl, List.forall_mem_append.mpr ⟨fun w h => good_of_word (List.all_eq_true.mp (by decide +kernel) w h), List.forall_mem_append.mpr ⟨gd_dm_X15_isDigit, fun _ h => nomatch h⟩⟩⟩
theorem gi_dm_X15_isPlain_0 : GoodIn ow_dm_X15_isPlain (wsS RX15 69 yX15_isDigit ow_dm_X15_isDigit) := goodIn_app (goodIn_of _ (by decide +kernel)) (fun w h => ⟨List.mem_cons_of_mem _ (List.mem_append_right _ (List.mem_append_left _ h)), gd_dm_X15_isDigit w h⟩)
def dj_X15_isPlain_36 (p : Program) (l : Launch) (e : Env) (s : State) (m : MethodId) (args : Array Value) (below : List Frame) (meth : Method) (c : Code) (Q : State → Prop) (A : Nat → Prop) (dC : Nat → ClassId) (dI : Nat → Nat → Nat) (a : Nat → Nat) (ac : Nat → ClassId) (g : Int32 → (Unit) → Option (Int32 × (Unit))) (r : Int32 × (Unit)) : Prop := ∀ (y0 : Int32) (s0 : Unit) (H : Heap) (locs : List Loc) (ls : Array Slot), g y0 s0 = some r → va_P (dC, dI) vwCl (dw_P a ac s0) H → va_D A (dw_P a ac s0) → va_S A s.heap H locs → lv_has ls 1 [] → W p l e (headSpec ow_dm_X15_isPlain ({ frames := 1, cells := 0, slots := 0, locals := 20 })).room s m args below meth c H locs 0 0 Q (F0 m 36 ls [.int y0])
def dj_X15_isPlain_31 (p : Program) (l : Launch) (e : Env) (s : State) (m : MethodId) (args : Array Value) (below : List Frame) (meth : Method) (c : Code) (Q : State → Prop) (A : Nat → Prop) (dC : Nat → ClassId) (dI : Nat → Nat → Nat) (a : Nat → Nat) (ac : Nat → ClassId) (g : (Unit) → Option (Int32 × (Unit))) (r : Int32 × (Unit)) : Prop := ∀ (s0 : Unit) (H : Heap) (locs : List Loc) (ls : Array Slot), g s0 = some r → va_P (dC, dI) vwCl (dw_P a ac s0) H → va_D A (dw_P a ac s0) → va_S A s.heap H locs → lv_has ls 1 [] → W p l e (headSpec ow_dm_X15_isPlain ({ frames := 1, cells := 0, slots := 0, locals := 20 })).room s m args below meth c H locs 0 0 Q (F0 m 31 ls [])
def dj_X15_isPlain_35 (p : Program) (l : Launch) (e : Env) (s : State) (m : MethodId) (args : Array Value) (below : List Frame) (meth : Method) (c : Code) (Q : State → Prop) (A : Nat → Prop) (dC : Nat → ClassId) (dI : Nat → Nat → Nat) (a : Nat → Nat) (ac : Nat → ClassId) (g : (Unit) → Option (Int32 × (Unit))) (r : Int32 × (Unit)) : Prop := ∀ (s0 : Unit) (H : Heap) (locs : List Loc) (ls : Array Slot), g s0 = some r → va_P (dC, dI) vwCl (dw_P a ac s0) H → va_D A (dw_P a ac s0) → va_S A s.heap H locs → lv_has ls 1 [] → W p l e (headSpec ow_dm_X15_isPlain ({ frames := 1, cells := 0, slots := 0, locals := 20 })).room s m args below meth c H locs 0 0 Q (F0 m 35 ls [])
def dj_X15_isPlain_19 (p : Program) (l : Launch) (e : Env) (s : State) (m : MethodId) (args : Array Value) (below : List Frame) (meth : Method) (c : Code) (Q : State → Prop) (A : Nat → Prop) (dC : Nat → ClassId) (dI : Nat → Nat → Nat) (a : Nat → Nat) (ac : Nat → ClassId) (g : Int32 → (Unit) → Option (Int32 × (Unit))) (r : Int32 × (Unit)) : Prop := ∀ (x0 : Int32) (s0 : Unit) (H : Heap) (locs : List Loc) (ls : Array Slot), g x0 s0 = some r → va_P (dC, dI) vwCl (dw_P a ac s0) H → va_D A (dw_P a ac s0) → va_S A s.heap H locs → lv_has ls 1 [(0, .int x0)] → W p l e (headSpec ow_dm_X15_isPlain ({ frames := 1, cells := 0, slots := 0, locals := 20 })).room s m args below meth c H locs 0 0 Q (F0 m 19 ls [])
def dj_X15_isPlain_0 (p : Program) (l : Launch) (e : Env) (s : State) (m : MethodId) (args : Array Value) (below : List Frame) (meth : Method) (c : Code) (Q : State → Prop) (A : Nat → Prop) (dC : Nat → ClassId) (dI : Nat → Nat → Nat) (a : Nat → Nat) (ac : Nat → ClassId) (g : Int32 → (Unit) → Option (Int32 × (Unit))) (r : Int32 × (Unit)) : Prop := ∀ (v0 : Int32) (s0 : Unit) (H : Heap) (locs : List Loc) (ls : Array Slot), g v0 s0 = some r → va_P (dC, dI) vwCl (dw_P a ac s0) H → va_D A (dw_P a ac s0) → va_S A s.heap H locs → lv_has ls 1 [(0, .int v0)] → W p l e (headSpec ow_dm_X15_isPlain ({ frames := 1, cells := 0, slots := 0, locals := 20 })).room s m args below meth c H locs 0 0 Q (F0 m 0 ls [])
set_option maxHeartbeats 40000000 in
set_option maxRecDepth 100000 in
theorem db_X15_isPlain_36 {p : Program} {l : Launch} {e : Env} {s : State} {m : MethodId} {args : Array Value} {below : List Frame} {meth : Method} {c : Code} {Q : State → Prop} {A : Nat → Prop} {dC : Nat → ClassId} {dI : Nat → Nat → Nat} {a : Nat → Nat} {ac : Nat → ClassId} {n : Nat} {r : Int32 × (Unit)} (C : nd_C p l s m args c A (dC, dI) cX15_isPlain 1 RX15 ow_dm_X15_isPlain (dk_P ac)) (K : nd_Ki p l e (headSpec ow_dm_X15_isPlain ({ frames := 1, cells := 0, slots := 0, locals := 20 })).room s m args below meth c Q A (dC, dI) cX15_isPlain .boolean (Unit) (dw_P a ac) r) : dj_X15_isPlain_36 p l e s m args below meth c Q A dC dI a ac (df_X15_isPlain_36 n) r := by
  obtain ⟨hlt, hx, hb, hml, hown, hts, hN, hA, hK⟩ := id C
  intro y0 s0 H locs ls h hP hD hS hl
  unfold df_X15_isPlain_36 at h
  obtain ⟨n5, h⟩ := nd_z_e ⟨_, rfl⟩ h
  exact K _ _ _ _ _ _ dX15_isPlain_36 n5 (Option.some.inj h).symm hP hD hS
set_option maxHeartbeats 40000000 in
set_option maxRecDepth 100000 in
theorem db_X15_isPlain_31 {p : Program} {l : Launch} {e : Env} {s : State} {m : MethodId} {args : Array Value} {below : List Frame} {meth : Method} {c : Code} {Q : State → Prop} {A : Nat → Prop} {dC : Nat → ClassId} {dI : Nat → Nat → Nat} {a : Nat → Nat} {ac : Nat → ClassId} {n : Nat} {r : Int32 × (Unit)} (C : nd_C p l s m args c A (dC, dI) cX15_isPlain 1 RX15 ow_dm_X15_isPlain (dk_P ac)) (K : nd_Ki p l e (headSpec ow_dm_X15_isPlain ({ frames := 1, cells := 0, slots := 0, locals := 20 })).room s m args below meth c Q A (dC, dI) cX15_isPlain .boolean (Unit) (dw_P a ac) r) : dj_X15_isPlain_31 p l e s m args below meth c Q A dC dI a ac (df_X15_isPlain_31 n) r := by
  obtain ⟨hlt, hx, hb, hml, hown, hts, hN, hA, hK⟩ := id C
  intro s0 H locs ls h hP hD hS hl
  unfold df_X15_isPlain_31 at h
  refine lv_iconst (v := 1) hx hb dX15_isPlain_31 (by decide) ?_
  refine lv_goto (tgt := 36) hx hb dX15_isPlain_32 (by decide) ?_
  exact (db_X15_isPlain_36 C K) (1) s0 _ _ _ h hP hD hS (lv_sub hl [] rfl)
set_option maxHeartbeats 40000000 in
set_option maxRecDepth 100000 in
theorem db_X15_isPlain_35 {p : Program} {l : Launch} {e : Env} {s : State} {m : MethodId} {args : Array Value} {below : List Frame} {meth : Method} {c : Code} {Q : State → Prop} {A : Nat → Prop} {dC : Nat → ClassId} {dI : Nat → Nat → Nat} {a : Nat → Nat} {ac : Nat → ClassId} {n : Nat} {r : Int32 × (Unit)} (C : nd_C p l s m args c A (dC, dI) cX15_isPlain 1 RX15 ow_dm_X15_isPlain (dk_P ac)) (K : nd_Ki p l e (headSpec ow_dm_X15_isPlain ({ frames := 1, cells := 0, slots := 0, locals := 20 })).room s m args below meth c Q A (dC, dI) cX15_isPlain .boolean (Unit) (dw_P a ac) r) : dj_X15_isPlain_35 p l e s m args below meth c Q A dC dI a ac (df_X15_isPlain_35 n) r := by
  obtain ⟨hlt, hx, hb, hml, hown, hts, hN, hA, hK⟩ := id C
  intro s0 H locs ls h hP hD hS hl
  unfold df_X15_isPlain_35 at h
  refine lv_iconst (v := 0) hx hb dX15_isPlain_35 (by decide) ?_
  exact (db_X15_isPlain_36 C K) (0) s0 _ _ _ h hP hD hS (lv_sub hl [] rfl)
set_option maxHeartbeats 40000000 in
set_option maxRecDepth 100000 in
theorem db_X15_isPlain_19 {p : Program} {l : Launch} {e : Env} {s : State} {m : MethodId} {args : Array Value} {below : List Frame} {meth : Method} {c : Code} {Q : State → Prop} {A : Nat → Prop} {dC : Nat → ClassId} {dI : Nat → Nat → Nat} {a : Nat → Nat} {ac : Nat → ClassId} {n : Nat} {r : Int32 × (Unit)} (C : nd_C p l s m args c A (dC, dI) cX15_isPlain 1 RX15 ow_dm_X15_isPlain (dk_P ac)) (K : nd_Ki p l e (headSpec ow_dm_X15_isPlain ({ frames := 1, cells := 0, slots := 0, locals := 20 })).room s m args below meth c Q A (dC, dI) cX15_isPlain .boolean (Unit) (dw_P a ac) r) : dj_X15_isPlain_19 p l e s m args below meth c Q A dC dI a ac (df_X15_isPlain_19 n) r := by
  obtain ⟨hlt, hx, hb, hml, hown, hts, hN, hA, hK⟩ := id C
  intro x0 s0 H locs ls h hP hD hS hl
  unfold df_X15_isPlain_19 at h
  refine lv_iload_n hx hb dX15_isPlain_19 rfl (lv_at hl 0 rfl) ?_
  refine lv_bipush (v := 65) hx hb dX15_isPlain_20 (by decide) ?_
  refine lv_icmp_lt (tgt := 35) hx hb dX15_isPlain_22 (by decide) (fun c7 => ?_) (fun c7 => ?_)
  · have h := nd_pos h c7
    exact (db_X15_isPlain_35 C K)  s0 _ _ _ h hP hD hS (lv_sub hl [] rfl)
  · have h := nd_neg h c7
    refine lv_iload_n hx hb dX15_isPlain_25 rfl (lv_at hl 0 rfl) ?_
    refine lv_bipush (v := 90) hx hb dX15_isPlain_26 (by decide) ?_
    refine lv_icmp_gt (tgt := 35) hx hb dX15_isPlain_28 (by decide) (fun c8 => ?_) (fun c8 => ?_)
    · have h := nd_pos h c8
      exact (db_X15_isPlain_35 C K)  s0 _ _ _ h hP hD hS (lv_sub hl [] rfl)
    · have h := nd_neg h c8
      exact (db_X15_isPlain_31 C K)  s0 _ _ _ h hP hD hS (lv_sub hl [] rfl)
set_option maxHeartbeats 40000000 in
set_option maxRecDepth 100000 in
theorem db_X15_isPlain_0 {p : Program} {l : Launch} {e : Env} {s : State} {m : MethodId} {args : Array Value} {below : List Frame} {meth : Method} {c : Code} {Q : State → Prop} {A : Nat → Prop} {dC : Nat → ClassId} {dI : Nat → Nat → Nat} {a : Nat → Nat} {ac : Nat → ClassId} {n : Nat} {r : Int32 × (Unit)} (C : nd_C p l s m args c A (dC, dI) cX15_isPlain 1 RX15 ow_dm_X15_isPlain (dk_P ac)) (K : nd_Ki p l e (headSpec ow_dm_X15_isPlain ({ frames := 1, cells := 0, slots := 0, locals := 20 })).room s m args below meth c Q A (dC, dI) cX15_isPlain .boolean (Unit) (dw_P a ac) r) : dj_X15_isPlain_0 p l e s m args below meth c Q A dC dI a ac (df_X15_isPlain_0 n) r := by
  obtain ⟨hlt, hx, hb, hml, hown, hts, hN, hA, hK⟩ := id C
  intro v0 s0 H locs ls h hP hD hS hl
  unfold df_X15_isPlain_0 at h
  refine lv_iload_n hx hb dX15_isPlain_0 rfl (lv_at hl 0 rfl) ?_
  obtain ⟨q1, s2, hq, h⟩ := nd_b2_e h
  have hPc : va_P (dC, dI) vwCl (dw_P a ac ()) H := nd_p0
  have hDc : va_D A (dw_P a ac ()) := nd_d0
  have hKc : va_K (dC, dI) vwCl (dk_P ac) s := nd_y0 hK
  have hFc : ∀ q, va_A (dw_P a ac ()) H.size q → A q := nd_r0 hS hA
  refine nd_cSi (As := [.int v0]) (rest := []) (q := q1) (w' := dw_P a ac s2) ⟨hx, hb, hml, hown, hts⟩ (fun sz => dm_X15_isDigit l hlt dC dI a ac n (v0) () hq sz) (cwS 1 hts gi_dm_X15_isPlain_0 rfl rfl rfl (by decide +kernel) ⟨Nat.le_of_ble_eq_true rfl, Nat.le_of_ble_eq_true rfl⟩) hPc hDc hKc hS hA hN rfl hl.1 rfl (Nat.le_of_ble_eq_true rfl) dX15_isPlain_1 (fun H locs hP1 hD1 hk1 hS => ?_)
  have hP := nd_n0 hP hk1
  refine lv_if_ne (tgt := 31) hx hb dX15_isPlain_4 (by decide) (fun c4 => ?_) (fun c4 => ?_)
  · have h := nd_neg h c4
    exact (db_X15_isPlain_31 C K)  s0 _ _ _ h hP hD hS (lv_sub hl [] rfl)
  · have h := nd_pos h c4
    refine lv_iload_n hx hb dX15_isPlain_7 rfl (lv_at hl 0 rfl) ?_
    refine lv_bipush (v := 97) hx hb dX15_isPlain_8 (by decide) ?_
    refine lv_icmp_lt (tgt := 19) hx hb dX15_isPlain_10 (by decide) (fun c6 => ?_) (fun c6 => ?_)
    · have h := nd_pos h c6
      exact (db_X15_isPlain_19 C K) (v0) s0 _ _ _ h hP hD hS (lv_sub hl [0] rfl)
    · have h := nd_neg h c6
      refine lv_iload_n hx hb dX15_isPlain_13 rfl (lv_at hl 0 rfl) ?_
      refine lv_bipush (v := 122) hx hb dX15_isPlain_14 (by decide) ?_
      refine lv_icmp_le (tgt := 31) hx hb dX15_isPlain_16 (by decide) (fun c9 => ?_) (fun c9 => ?_)
      · have h := nd_pos h c9
        exact (db_X15_isPlain_31 C K)  s0 _ _ _ h hP hD hS (lv_sub hl [] rfl)
      · have h := nd_neg h c9
        exact (db_X15_isPlain_19 C K) (v0) s0 _ _ _ h hP hD hS (lv_sub hl [0] rfl)
set_option maxHeartbeats 40000000 in
set_option maxRecDepth 100000 in
theorem dm_X15_isPlain (l : Launch) (hlt : l.stackTraces = false) (dC : Nat → ClassId) (dI : Nat → Nat → Nat) (a : Nat → Nat) (ac : Nat → ClassId) (n : Nat) (v0 : Int32) (s0 : Unit) {r : Int32 × (Unit)} (h : df_X15_isPlain n v0 s0 = some r) (sz : Nat) : Met l yX15_isPlain ow_dm_X15_isPlain ({ frames := 1, cells := 0, slots := 0, locals := 20 }) (va_Pc [.int v0] (fun U => U.heap.size = sz ∧ va_P (dC, dI) vwCl (dw_P a ac s0) U.heap ∧ va_K (dC, dI) vwCl (dk_P ac) U ∧ va_D (fun _ => True) (dw_P a ac s0) ∧ nv_E (va_A (dw_P a ac s0) sz) U)) (va_Qi (fun x _ => x = r.1) (fun (_ : Unit) t => va_P (dC, dI) vwCl (dw_P a ac r.2) t.heap ∧ va_K (dC, dI) vwCl (dk_P ac) t ∧ va_D (va_A (dw_P a ac s0) sz) (dw_P a ac r.2)) (va_A (dw_P a ac s0) sz)) 0 0 (va_A (dw_P a ac s0) sz) := by
  refine Met.ofW (cc := cX15_isPlain) (maxL := 1) (ret := (some .boolean)) (by decide) rfl ?_
  intro p e s m args below meth c s₁ B hml hv
  obtain ⟨rfl, hsz, hP, hK, hD0, hN⟩ := hv
  have hx := B.exec
  have hb := B.bytes
  have hr := B.returns
  have hts := atoms_spec (ws := ow_dm_X15_isPlain) B.pre
  have hown : s.vm.findClass RX15 = some m.cls := findClass_of_methodNamed B.named
  have hlocks := B.notSynchronized
  subst hsz
  have hD := hD0.self (sz := s.heap.size)
  generalize hAe : va_A (dw_P a ac s0) s.heap.size = A at hD hN ⊢
  have hA : ∀ q : Nat, s.heap.size ≤ q → A q := fun q h => by rw [← hAe]; exact Or.inr h
  have hl := lv_entry ([.int v0]) (n := 1) (Nat.le_of_ble_eq_true rfl)
  rw [lg_entry_eq]
  generalize (lg_sl ([.int v0]) ++ List.replicate (1 - (lg_sl ([.int v0])).length) Slot.unset).toArray = ls at hl ⊢
  have hl : lv_has ls 1 [(0, .int v0)] := hl
  exact db_X15_isPlain_0 (dC := dC) (dI := dI) (a := a) (ac := ac) (n := n) (r := r) ⟨hlt, hx, hb, hml, hown, hts, hN, hA, hK⟩ (fun pc v τ H locs ls d z er hP hD hS => by subst er; exact W.zret (v := v) hx hb hr z (fun t ht hW => ⟨⟨v, (), rfl, rfl, by rw [ht]; exact hP, va_K.moved hW.alike hK, hD⟩, hS.F ht⟩) hS.2.2 d) v0 s0 _ _ _ h hP hD va_S.rf (lv_sub hl [0] rfl)
def ow_dm_X15_is : List Cond := .code yX15_is cX15_is 8 (some .boolean) :: ([.fieldLink RX15 7 "TimeMachineModel$Conditions" "text" "[C"] ++ (u_ws RX15 TX15 28 ++ []))
theorem gd_dm_X15_is : ∀ w ∈ ow_dm_X15_is, (w.onTables && w.keeps) = true ∨ ∃ ty, w = Cond.arrayClass ty := List.forall_mem_cons.mpr ⟨good_of_word rfl, List.forall_mem_append.mpr ⟨fun w h => good_of_word (List.all_eq_true.mp (by decide +kernel) w h), List.forall_mem_append.mpr ⟨gu_X15, fun _ h => nomatch h⟩⟩⟩
theorem hi_dm_X15_is_X15 : ∀ w ∈ u_ws RX15 TX15 28, w ∈ ow_dm_X15_is := fun w h => List.mem_cons_of_mem _ (List.mem_append_right _ (List.mem_append_left _ h))
def dj_X15_is_56 (p : Program) (l : Launch) (e : Env) (s : State) (m : MethodId) (args : Array Value) (below : List Frame) (meth : Method) (c : Code) (Q : State → Prop) (A : Nat → Prop) (dC : Nat → ClassId) (dI : Nat → Nat → Nat) (a : Nat → Nat) (ac : Nat → ClassId) (g : Int32 → (St × (St × (St))) → Option (Int32 × (St × (St × (St))))) (r : Int32 × (St × (St × (St)))) : Prop := ∀ (y0 : Int32) (s0 : St × (St × (St))) (H : Heap) (locs : List Loc) (ls : Array Slot), g y0 s0 = some r → va_P (dC, dI) vwCl (dw_X15 a ac s0) H → va_D A (dw_X15 a ac s0) → va_S A s.heap H locs → lv_has ls 8 [] → W p l e (headSpec ow_dm_X15_is ({ frames := 0, cells := 0, slots := 0, locals := 0 })).room s m args below meth c H locs 0 0 Q (F0 m 56 ls [.int y0])
def dj_X15_is_55 (p : Program) (l : Launch) (e : Env) (s : State) (m : MethodId) (args : Array Value) (below : List Frame) (meth : Method) (c : Code) (Q : State → Prop) (A : Nat → Prop) (dC : Nat → ClassId) (dI : Nat → Nat → Nat) (a : Nat → Nat) (ac : Nat → ClassId) (g : (St × (St × (St))) → Option (Int32 × (St × (St × (St))))) (r : Int32 × (St × (St × (St)))) : Prop := ∀ (s0 : St × (St × (St))) (H : Heap) (locs : List Loc) (ls : Array Slot), g s0 = some r → va_P (dC, dI) vwCl (dw_X15 a ac s0) H → va_D A (dw_X15 a ac s0) → va_S A s.heap H locs → lv_has ls 8 [] → W p l e (headSpec ow_dm_X15_is ({ frames := 0, cells := 0, slots := 0, locals := 0 })).room s m args below meth c H locs 0 0 Q (F0 m 55 ls [])
def dj_X15_is_8 (p : Program) (l : Launch) (e : Env) (s : State) (m : MethodId) (args : Array Value) (below : List Frame) (meth : Method) (c : Code) (Q : State → Prop) (A : Nat → Prop) (dC : Nat → ClassId) (dI : Nat → Nat → Nat) (a : Nat → Nat) (ac : Nat → ClassId) (g : Int32 → Int32 → Int64 → Int64 → Int32 → (St × (St × (St))) → Option (Int32 × (St × (St × (St))))) (r : Int32 × (St × (St × (St)))) : Prop := ∀ (x1 : Int32) (x2 : Int32) (x3 : Int64) (x5 : Int64) (x7 : Int32) (s0 : St × (St × (St))) (H : Heap) (locs : List Loc) (ls : Array Slot), g x1 x2 x3 x5 x7 s0 = some r → va_P (dC, dI) vwCl (dw_X15 a ac s0) H → va_D A (dw_X15 a ac s0) → va_S A s.heap H locs → lv_has ls 8 [(0, .ref (a 0)), (1, .int x1), (2, .int x2), (3, .long x3), (5, .long x5), (7, .int x7)] → W p l e (headSpec ow_dm_X15_is ({ frames := 0, cells := 0, slots := 0, locals := 0 })).room s m args below meth c H locs 0 0 Q (F0 m 8 ls [])
def dj_X15_is_0 (p : Program) (l : Launch) (e : Env) (s : State) (m : MethodId) (args : Array Value) (below : List Frame) (meth : Method) (c : Code) (Q : State → Prop) (A : Nat → Prop) (dC : Nat → ClassId) (dI : Nat → Nat → Nat) (a : Nat → Nat) (ac : Nat → ClassId) (g : Int32 → Int32 → Int64 → (St × (St × (St))) → Option (Int32 × (St × (St × (St))))) (r : Int32 × (St × (St × (St)))) : Prop := ∀ (v0 : Int32) (v1 : Int32) (v2 : Int64) (s0 : St × (St × (St))) (H : Heap) (locs : List Loc) (ls : Array Slot), g v0 v1 v2 s0 = some r → va_P (dC, dI) vwCl (dw_X15 a ac s0) H → va_D A (dw_X15 a ac s0) → va_S A s.heap H locs → lv_has ls 8 [(0, .ref (a 0)), (1, .int v0), (2, .int v1), (3, .long v2)] → W p l e (headSpec ow_dm_X15_is ({ frames := 0, cells := 0, slots := 0, locals := 0 })).room s m args below meth c H locs 0 0 Q (F0 m 0 ls [])
set_option maxHeartbeats 40000000 in
set_option maxRecDepth 100000 in
theorem db_X15_is_56 {p : Program} {l : Launch} {e : Env} {s : State} {m : MethodId} {args : Array Value} {below : List Frame} {meth : Method} {c : Code} {Q : State → Prop} {A : Nat → Prop} {dC : Nat → ClassId} {dI : Nat → Nat → Nat} {a : Nat → Nat} {ac : Nat → ClassId} {n : Nat} {r : Int32 × (St × (St × (St)))} (C : nd_C p l s m args c A (dC, dI) cX15_is 8 RX15 ow_dm_X15_is (dk_X15 ac)) (K : nd_Ki p l e (headSpec ow_dm_X15_is ({ frames := 0, cells := 0, slots := 0, locals := 0 })).room s m args below meth c Q A (dC, dI) cX15_is .boolean (St × (St × (St))) (dw_X15 a ac) r) : dj_X15_is_56 p l e s m args below meth c Q A dC dI a ac (df_X15_is_56 n) r := by
  obtain ⟨hlt, hx, hb, hml, hown, hts, hN, hA, hK⟩ := id C
  intro y0 s0 H locs ls h hP hD hS hl
  unfold df_X15_is_56 at h
  obtain ⟨n4, h⟩ := nd_z_e ⟨_, rfl⟩ h
  exact K _ _ _ _ _ _ dX15_is_56 n4 (Option.some.inj h).symm hP hD hS
set_option maxHeartbeats 40000000 in
set_option maxRecDepth 100000 in
theorem db_X15_is_55 {p : Program} {l : Launch} {e : Env} {s : State} {m : MethodId} {args : Array Value} {below : List Frame} {meth : Method} {c : Code} {Q : State → Prop} {A : Nat → Prop} {dC : Nat → ClassId} {dI : Nat → Nat → Nat} {a : Nat → Nat} {ac : Nat → ClassId} {n : Nat} {r : Int32 × (St × (St × (St)))} (C : nd_C p l s m args c A (dC, dI) cX15_is 8 RX15 ow_dm_X15_is (dk_X15 ac)) (K : nd_Ki p l e (headSpec ow_dm_X15_is ({ frames := 0, cells := 0, slots := 0, locals := 0 })).room s m args below meth c Q A (dC, dI) cX15_is .boolean (St × (St × (St))) (dw_X15 a ac) r) : dj_X15_is_55 p l e s m args below meth c Q A dC dI a ac (df_X15_is_55 n) r := by
  obtain ⟨hlt, hx, hb, hml, hown, hts, hN, hA, hK⟩ := id C
  intro s0 H locs ls h hP hD hS hl
  unfold df_X15_is_55 at h
  refine lv_iconst (v := 0) hx hb dX15_is_55 (by decide) ?_
  exact (db_X15_is_56 C K) (0) s0 _ _ _ h hP hD hS (lv_sub hl [] rfl)
set_option maxHeartbeats 40000000 in
set_option maxRecDepth 100000 in
theorem dB_X15_is_8 {p : Program} {l : Launch} {e : Env} {s : State} {m : MethodId} {args : Array Value} {below : List Frame} {meth : Method} {c : Code} {Q : State → Prop} {A : Nat → Prop} {dC : Nat → ClassId} {dI : Nat → Nat → Nat} {a : Nat → Nat} {ac : Nat → ClassId} {n : Nat} {r : Int32 × (St × (St × (St)))} (C : nd_C p l s m args c A (dC, dI) cX15_is 8 RX15 ow_dm_X15_is (dk_X15 ac)) (K : nd_Ki p l e (headSpec ow_dm_X15_is ({ frames := 0, cells := 0, slots := 0, locals := 0 })).room s m args below meth c Q A (dC, dI) cX15_is .boolean (St × (St × (St))) (dw_X15 a ac) r) {g8 : Int32 → Int32 → Int64 → Int64 → Int32 → (St × (St × (St))) → Option (Int32 × (St × (St × (St))))} (J8 : dj_X15_is_8 p l e s m args below meth c Q A dC dI a ac g8 r) : dj_X15_is_8 p l e s m args below meth c Q A dC dI a ac (dF_X15_is_8 n g8) r := by
  obtain ⟨hlt, hx, hb, hml, hown, hts, hN, hA, hK⟩ := id C
  intro x1 x2 x3 x5 x7 s0 H locs ls h hP hD hS hl
  unfold dF_X15_is_8 at h
  refine lv_iload hx hb dX15_is_8 (lv_at hl 5 rfl) ?_
  refine lv_iload_n hx hb dX15_is_10 rfl (lv_at hl 1 rfl) ?_
  refine lv_icmp_lt (tgt := 36) hx hb dX15_is_11 (by decide) (fun c2 => ?_) (fun c2 => ?_)
  · have h := nd_pos h c2
    refine lv_iload_n hx hb dX15_is_36 rfl (lv_at hl 2 rfl) ?_
    refine lv_iload_n hx hb dX15_is_37 rfl (lv_at hl 1 rfl) ?_
    refine lv_isub hx hb dX15_is_38 ?_
    refine lv_bipush (v := 8) hx hb dX15_is_39 (by decide) ?_
    refine lv_icmp_ge (tgt := 55) hx hb dX15_is_41 (by decide) (fun c3 => ?_) (fun c3 => ?_)
    · have h := nd_pos h c3
      exact (db_X15_is_55 C K)  s0 _ _ _ h hP hD hS (lv_sub hl [] rfl)
    · have h := nd_neg h c3
      refine lv_lload hx hb dX15_is_44 (lv_at hl 4 rfl) ?_
      refine lv_lload_n hx hb dX15_is_46 rfl (lv_at hl 3 rfl) ?_
      refine W.lcmp hx hb dX15_is_47 ?_
      refine lv_if_ne (tgt := 55) hx hb dX15_is_48 (by decide) (fun c5 => ?_) (fun c5 => ?_)
      · have h := nd_neg h c5
        exact (db_X15_is_55 C K)  s0 _ _ _ h hP hD hS (lv_sub hl [] rfl)
      · have h := nd_pos h c5
        refine lv_iconst (v := 1) hx hb dX15_is_51 (by decide) ?_
        refine lv_goto (tgt := 56) hx hb dX15_is_52 (by decide) ?_
        exact (db_X15_is_56 C K) (1) s0 _ _ _ h hP hD hS (lv_sub hl [] rfl)
  · have h := nd_neg h c2
    refine lv_lload hx hb dX15_is_14 (lv_at hl 4 rfl) ?_
    refine lv_bipush (v := 8) hx hb dX15_is_16 (by decide) ?_
    refine lv_lshl hx hb dX15_is_18 rfl ?_
    refine lv_aload_n hx hb dX15_is_19 rfl (lv_at hl 0 rfl) ?_
    refine va_get (D := (dC, dI)) (ci := 16) (v := .ref (a 1)) (C := RX15) (T := TX15) (N := 28) hx hb hts hi_dm_X15_is_X15 hown hK hP 0 rfl rfl 2 (by decide) (hts (.fieldLink RX15 7 "TimeMachineModel$Conditions" "text" "[C") (List.mem_of_getElem? (i := 1) rfl)) (fun _ h9 => h9) rfl dX15_is_20 ?_
    refine lv_iload hx hb dX15_is_23 (lv_at hl 5 rfl) ?_
    obtain ⟨i6, h⟩ := nd_ck_e h
    refine va_cald (i := x7) hx hb hK hP 1 0 rfl rfl i6 dX15_is_25 ?_
    refine lv_i2l hx hb dX15_is_26 rfl ?_
    refine lv_lor hx hb dX15_is_27 ?_
    refine lv_topl (fun z7 ez7 => ?_)
    have h := nd_at h ez7
    refine lv_lstore (lv' := [(5, .long z7), (0, .ref (a 0)), (1, .int x1), (2, .int x2), (3, .long x3), (7, .int x7)]) hx hb dX15_is_28 hl (by decide) rfl (fun ls hl => ?_)
    obtain ⟨z8, ez8, h⟩ := nd_let_e h
    refine lv_iinc (v := z8) (lv' := [(7, .int z8), (5, .long z7), (0, .ref (a 0)), (1, .int x1), (2, .int x2), (3, .long x3)]) hx hb dX15_is_30 hl (k := 5) rfl (by rw [ez8]) (by decide) rfl (fun ls hl => ?_)
    refine lv_goto (tgt := 8) hx hb dX15_is_33 (by decide) ?_
    exact (J8) (x1) (x2) (x3) (z7) (z8) s0 _ _ _ h hP hD hS (lv_sub hl [2, 3, 4, 5, 1, 0] rfl)
set_option maxHeartbeats 40000000 in
set_option maxRecDepth 100000 in
theorem db_X15_is_8 {p : Program} {l : Launch} {e : Env} {s : State} {m : MethodId} {args : Array Value} {below : List Frame} {meth : Method} {c : Code} {Q : State → Prop} {A : Nat → Prop} {dC : Nat → ClassId} {dI : Nat → Nat → Nat} {a : Nat → Nat} {ac : Nat → ClassId} {n : Nat} {r : Int32 × (St × (St × (St)))} (C : nd_C p l s m args c A (dC, dI) cX15_is 8 RX15 ow_dm_X15_is (dk_X15 ac)) (K : nd_Ki p l e (headSpec ow_dm_X15_is ({ frames := 0, cells := 0, slots := 0, locals := 0 })).room s m args below meth c Q A (dC, dI) cX15_is .boolean (St × (St × (St))) (dw_X15 a ac) r) (k : Nat) : dj_X15_is_8 p l e s m args below meth c Q A dC dI a ac (df_X15_is_8 n k) r := by
  induction k with
  | zero => intro x1 x2 x3 x5 x7 s0 H locs ls h; exact nomatch (show (none : Option (Int32 × (St × (St × (St))))) = some r from h)
  | succ k ih => exact dB_X15_is_8 C K ih
set_option maxHeartbeats 40000000 in
set_option maxRecDepth 100000 in
theorem db_X15_is_0 {p : Program} {l : Launch} {e : Env} {s : State} {m : MethodId} {args : Array Value} {below : List Frame} {meth : Method} {c : Code} {Q : State → Prop} {A : Nat → Prop} {dC : Nat → ClassId} {dI : Nat → Nat → Nat} {a : Nat → Nat} {ac : Nat → ClassId} {n : Nat} {r : Int32 × (St × (St × (St)))} (C : nd_C p l s m args c A (dC, dI) cX15_is 8 RX15 ow_dm_X15_is (dk_X15 ac)) (K : nd_Ki p l e (headSpec ow_dm_X15_is ({ frames := 0, cells := 0, slots := 0, locals := 0 })).room s m args below meth c Q A (dC, dI) cX15_is .boolean (St × (St × (St))) (dw_X15 a ac) r) : dj_X15_is_0 p l e s m args below meth c Q A dC dI a ac (df_X15_is_0 n) r := by
  obtain ⟨hlt, hx, hb, hml, hown, hts, hN, hA, hK⟩ := id C
  intro v0 v1 v2 s0 H locs ls h hP hD hS hl
  unfold df_X15_is_0 at h
  refine lv_lconst (v := 0) hx hb dX15_is_0 (by decide) ?_
  refine lv_lstore (lv' := [(5, .long 0), (0, .ref (a 0)), (1, .int v0), (2, .int v1), (3, .long v2)]) hx hb dX15_is_1 hl (by decide) rfl (fun ls hl => ?_)
  refine lv_iload_n hx hb dX15_is_3 rfl (lv_at hl 3 rfl) ?_
  refine lv_iconst (v := 1) hx hb dX15_is_4 (by decide) ?_
  refine lv_isub hx hb dX15_is_5 ?_
  refine lv_topi (fun z1 ez1 => ?_)
  have h := nd_at h ez1
  refine lv_istore (lv' := [(7, .int z1), (5, .long 0), (0, .ref (a 0)), (1, .int v0), (2, .int v1), (3, .long v2)]) hx hb dX15_is_6 hl (by decide) rfl (fun ls hl => ?_)
  exact (db_X15_is_8 C K n) (v0) (v1) (v2) (0) (z1) s0 _ _ _ h hP hD hS (lv_sub hl [2, 3, 4, 5, 1, 0] rfl)
set_option maxHeartbeats 40000000 in
set_option maxRecDepth 100000 in
theorem dm_X15_is (l : Launch) (hlt : l.stackTraces = false) (dC : Nat → ClassId) (dI : Nat → Nat → Nat) (a : Nat → Nat) (ac : Nat → ClassId) (n : Nat) (v0 : Int32) (v1 : Int32) (v2 : Int64) (s0 : St × (St × (St))) {r : Int32 × (St × (St × (St)))} (h : df_X15_is n v0 v1 v2 s0 = some r) (sz : Nat) : Met l yX15_is ow_dm_X15_is ({ frames := 0, cells := 0, slots := 0, locals := 0 }) (va_Pc [.ref (a 0), .int v0, .int v1, .long v2] (fun U => U.heap.size = sz ∧ va_P (dC, dI) vwCl (dw_X15 a ac s0) U.heap ∧ va_K (dC, dI) vwCl (dk_X15 ac) U ∧ va_D (fun _ => True) (dw_X15 a ac s0) ∧ nv_E (va_A (dw_X15 a ac s0) sz) U)) (va_Qi (fun x _ => x = r.1) (fun (_ : Unit) t => va_P (dC, dI) vwCl (dw_X15 a ac r.2) t.heap ∧ va_K (dC, dI) vwCl (dk_X15 ac) t ∧ va_D (va_A (dw_X15 a ac s0) sz) (dw_X15 a ac r.2)) (va_A (dw_X15 a ac s0) sz)) 0 0 (va_A (dw_X15 a ac s0) sz) := by
  refine Met.ofW (cc := cX15_is) (maxL := 8) (ret := (some .boolean)) (by decide) rfl ?_
  intro p e s m args below meth c s₁ B hml hv
  obtain ⟨rfl, hsz, hP, hK, hD0, hN⟩ := hv
  have hx := B.exec
  have hb := B.bytes
  have hr := B.returns
  have hts := atoms_spec (ws := ow_dm_X15_is) B.pre
  have hown : s.vm.findClass RX15 = some m.cls := findClass_of_methodNamed B.named
  have hlocks := B.notSynchronized
  subst hsz
  have hD := hD0.self (sz := s.heap.size)
  generalize hAe : va_A (dw_X15 a ac s0) s.heap.size = A at hD hN ⊢
  have hA : ∀ q : Nat, s.heap.size ≤ q → A q := fun q h => by rw [← hAe]; exact Or.inr h
  have hl := lv_entry ([.ref (a 0), .int v0, .int v1, .long v2]) (n := 8) (Nat.le_of_ble_eq_true rfl)
  rw [lg_entry_eq]
  generalize (lg_sl ([.ref (a 0), .int v0, .int v1, .long v2]) ++ List.replicate (8 - (lg_sl ([.ref (a 0), .int v0, .int v1, .long v2])).length) Slot.unset).toArray = ls at hl ⊢
  have hl : lv_has ls 8 [(0, .ref (a 0)), (1, .int v0), (2, .int v1), (3, .long v2)] := hl
  exact db_X15_is_0 (dC := dC) (dI := dI) (a := a) (ac := ac) (n := n) (r := r) ⟨hlt, hx, hb, hml, hown, hts, hN, hA, hK⟩ (fun pc v τ H locs ls d z er hP hD hS => by subst er; exact W.zret (v := v) hx hb hr z (fun t ht hW => ⟨⟨v, (), rfl, rfl, by rw [ht]; exact hP, va_K.moved hW.alike hK, hD⟩, hS.F ht⟩) hS.2.2 d) v0 v1 v2 s0 _ _ _ h hP hD va_S.rf (lv_sub hl [0, 1, 2, 3] rfl)
def ow_dm_X15_scanWord : List Cond := .code yX15_scanWord cX15_scanWord 3 none :: ([.fieldLink RX15 73 "TimeMachineModel$Conditions" "at" "I", .fieldLink RX15 80 "TimeMachineModel$Conditions" "start" "I", .fieldLink RX15 7 "TimeMachineModel$Conditions" "text" "[C", .fieldLink RX15 95 "TimeMachineModel$Conditions" "tokenValue" "J", .constantLong RX15 107 (25456), .methodLink RX15 109 yX15_is, .instanceMethod yX15_is, .selects RX15 yX15_is yX15_is, .initialized RX15, .constantLong RX15 113 (6580592), .constantLong RX15 115 (500069396323), .constantLong RX15 117 (1702132066), .constantLong RX15 119 (1718378856), .constantLong RX15 121 (6581359), .constantLong RX15 123 (28258992578979939), .fieldLink RX15 92 "TimeMachineModel$Conditions" "token" "I", .constantLong RX15 105 (32), .methodLink RX15 69 yX15_isDigit, .static yX15_isDigit] ++ (u_ws RX15 TX15 28 ++ (ow_dm_X15_is ++ (ow_dm_X15_isDigit ++ []))))
theorem gd_dm_X15_scanWord : ∀ w ∈ ow_dm_X15_scanWord, (w.onTables && w.keeps) = true ∨ ∃ ty, w = Cond.arrayClass ty := List.forall_mem_cons.mpr ⟨good_of_word rfl, List.forall_mem_append.mpr ⟨fun w h => good_of_word (List.all_eq_true.mp (by decide +kernel) w h), List.forall_mem_append.mpr ⟨gu_X15, List.forall_mem_append.mpr ⟨gd_dm_X15_is, List.forall_mem_append.mpr ⟨gd_dm_X15_isDigit, fun _ h => nomatch h⟩⟩⟩⟩⟩
theorem hi_dm_X15_scanWord_X15 : ∀ w ∈ u_ws RX15 TX15 28, w ∈ ow_dm_X15_scanWord := fun w h => List.mem_cons_of_mem _ (List.mem_append_right _ (List.mem_append_left _ h))
theorem gi_dm_X15_scanWord_0 : GoodIn ow_dm_X15_scanWord (wsV RX15 109 RX15 yX15_is ow_dm_X15_is) := goodIn_app (goodIn_of _ (by decide +kernel)) (fun w h => ⟨List.mem_cons_of_mem _ (List.mem_append_right _ (List.mem_append_right _ (List.mem_append_left _ h))), gd_dm_X15_is w h⟩)
theorem gi_dm_X15_scanWord_1 : GoodIn ow_dm_X15_scanWord (wsS RX15 69 yX15_isDigit ow_dm_X15_isDigit) := goodIn_app (goodIn_of _ (by decide +kernel)) (fun w h => ⟨List.mem_cons_of_mem _ (List.mem_append_right _ (List.mem_append_right _ (List.mem_append_right _ (List.mem_append_left _ h)))), gd_dm_X15_isDigit w h⟩)
def dj_X15_scanWord_354 (p : Program) (l : Launch) (e : Env) (s : State) (m : MethodId) (args : Array Value) (below : List Frame) (meth : Method) (c : Code) (Q : State → Prop) (A : Nat → Prop) (dC : Nat → ClassId) (dI : Nat → Nat → Nat) (a : Nat → Nat) (ac : Nat → ClassId) (g : Int32 → (St × (St × (St))) → Option (St × (St × (St)))) (r : St × (St × (St))) : Prop := ∀ (y1 : Int32) (s0 : St × (St × (St))) (H : Heap) (locs : List Loc) (ls : Array Slot), g y1 s0 = some r → va_P (dC, dI) vwCl (dw_X15 a ac s0) H → va_D A (dw_X15 a ac s0) → va_S A s.heap H locs → lv_has ls 3 [] → W p l e (headSpec ow_dm_X15_scanWord ({ frames := 1, cells := 0, slots := 0, locals := 27 })).room s m args below meth c H locs 0 0 Q (F0 m 354 ls [.int y1, .ref (a 0)])
def dj_X15_scanWord_195 (p : Program) (l : Launch) (e : Env) (s : State) (m : MethodId) (args : Array Value) (below : List Frame) (meth : Method) (c : Code) (Q : State → Prop) (A : Nat → Prop) (dC : Nat → ClassId) (dI : Nat → Nat → Nat) (a : Nat → Nat) (ac : Nat → ClassId) (g : (St × (St × (St))) → Option (St × (St × (St)))) (r : St × (St × (St))) : Prop := ∀ (s0 : St × (St × (St))) (H : Heap) (locs : List Loc) (ls : Array Slot), g s0 = some r → va_P (dC, dI) vwCl (dw_X15 a ac s0) H → va_D A (dw_X15 a ac s0) → va_S A s.heap H locs → lv_has ls 3 [(0, .ref (a 0))] → W p l e (headSpec ow_dm_X15_scanWord ({ frames := 1, cells := 0, slots := 0, locals := 27 })).room s m args below meth c H locs 0 0 Q (F0 m 195 ls [.ref (a 0)])
def dj_X15_scanWord_172 (p : Program) (l : Launch) (e : Env) (s : State) (m : MethodId) (args : Array Value) (below : List Frame) (meth : Method) (c : Code) (Q : State → Prop) (A : Nat → Prop) (dC : Nat → ClassId) (dI : Nat → Nat → Nat) (a : Nat → Nat) (ac : Nat → ClassId) (g : Int32 → Int64 → (St × (St × (St))) → Option (St × (St × (St)))) (r : St × (St × (St))) : Prop := ∀ (x2 : Int32) (y1 : Int64) (s0 : St × (St × (St))) (H : Heap) (locs : List Loc) (ls : Array Slot), g x2 y1 s0 = some r → va_P (dC, dI) vwCl (dw_X15 a ac s0) H → va_D A (dw_X15 a ac s0) → va_S A s.heap H locs → lv_has ls 3 [(0, .ref (a 0)), (2, .int x2)] → W p l e (headSpec ow_dm_X15_scanWord ({ frames := 1, cells := 0, slots := 0, locals := 27 })).room s m args below meth c H locs 0 0 Q (F0 m 172 ls [.long y1, .ref (a 0)])
def dj_X15_scanWord_106 (p : Program) (l : Launch) (e : Env) (s : State) (m : MethodId) (args : Array Value) (below : List Frame) (meth : Method) (c : Code) (Q : State → Prop) (A : Nat → Prop) (dC : Nat → ClassId) (dI : Nat → Nat → Nat) (a : Nat → Nat) (ac : Nat → ClassId) (g : Int32 → Int32 → (St × (St × (St))) → Option (St × (St × (St)))) (r : St × (St × (St))) : Prop := ∀ (x1 : Int32) (y0 : Int32) (s0 : St × (St × (St))) (H : Heap) (locs : List Loc) (ls : Array Slot), g x1 y0 s0 = some r → va_P (dC, dI) vwCl (dw_X15 a ac s0) H → va_D A (dw_X15 a ac s0) → va_S A s.heap H locs → lv_has ls 3 [(0, .ref (a 0)), (1, .int x1)] → W p l e (headSpec ow_dm_X15_scanWord ({ frames := 1, cells := 0, slots := 0, locals := 27 })).room s m args below meth c H locs 0 0 Q (F0 m 106 ls [.int y0])
def dj_X15_scanWord_105 (p : Program) (l : Launch) (e : Env) (s : State) (m : MethodId) (args : Array Value) (below : List Frame) (meth : Method) (c : Code) (Q : State → Prop) (A : Nat → Prop) (dC : Nat → ClassId) (dI : Nat → Nat → Nat) (a : Nat → Nat) (ac : Nat → ClassId) (g : Int32 → (St × (St × (St))) → Option (St × (St × (St)))) (r : St × (St × (St))) : Prop := ∀ (x1 : Int32) (s0 : St × (St × (St))) (H : Heap) (locs : List Loc) (ls : Array Slot), g x1 s0 = some r → va_P (dC, dI) vwCl (dw_X15 a ac s0) H → va_D A (dw_X15 a ac s0) → va_S A s.heap H locs → lv_has ls 3 [(0, .ref (a 0)), (1, .int x1)] → W p l e (headSpec ow_dm_X15_scanWord ({ frames := 1, cells := 0, slots := 0, locals := 27 })).room s m args below meth c H locs 0 0 Q (F0 m 105 ls [])
def dj_X15_scanWord_101 (p : Program) (l : Launch) (e : Env) (s : State) (m : MethodId) (args : Array Value) (below : List Frame) (meth : Method) (c : Code) (Q : State → Prop) (A : Nat → Prop) (dC : Nat → ClassId) (dI : Nat → Nat → Nat) (a : Nat → Nat) (ac : Nat → ClassId) (g : Int32 → (St × (St × (St))) → Option (St × (St × (St)))) (r : St × (St × (St))) : Prop := ∀ (x1 : Int32) (s0 : St × (St × (St))) (H : Heap) (locs : List Loc) (ls : Array Slot), g x1 s0 = some r → va_P (dC, dI) vwCl (dw_X15 a ac s0) H → va_D A (dw_X15 a ac s0) → va_S A s.heap H locs → lv_has ls 3 [(0, .ref (a 0)), (1, .int x1)] → W p l e (headSpec ow_dm_X15_scanWord ({ frames := 1, cells := 0, slots := 0, locals := 27 })).room s m args below meth c H locs 0 0 Q (F0 m 101 ls [])
def dj_X15_scanWord_46 (p : Program) (l : Launch) (e : Env) (s : State) (m : MethodId) (args : Array Value) (below : List Frame) (meth : Method) (c : Code) (Q : State → Prop) (A : Nat → Prop) (dC : Nat → ClassId) (dI : Nat → Nat → Nat) (a : Nat → Nat) (ac : Nat → ClassId) (g : Int32 → (St × (St × (St))) → Option (St × (St × (St)))) (r : St × (St × (St))) : Prop := ∀ (x1 : Int32) (s0 : St × (St × (St))) (H : Heap) (locs : List Loc) (ls : Array Slot), g x1 s0 = some r → va_P (dC, dI) vwCl (dw_X15 a ac s0) H → va_D A (dw_X15 a ac s0) → va_S A s.heap H locs → lv_has ls 3 [(0, .ref (a 0)), (1, .int x1)] → W p l e (headSpec ow_dm_X15_scanWord ({ frames := 1, cells := 0, slots := 0, locals := 27 })).room s m args below meth c H locs 0 0 Q (F0 m 46 ls [])
def dj_X15_scanWord_0 (p : Program) (l : Launch) (e : Env) (s : State) (m : MethodId) (args : Array Value) (below : List Frame) (meth : Method) (c : Code) (Q : State → Prop) (A : Nat → Prop) (dC : Nat → ClassId) (dI : Nat → Nat → Nat) (a : Nat → Nat) (ac : Nat → ClassId) (g : (St × (St × (St))) → Option (St × (St × (St)))) (r : St × (St × (St))) : Prop := ∀ (s0 : St × (St × (St))) (H : Heap) (locs : List Loc) (ls : Array Slot), g s0 = some r → va_P (dC, dI) vwCl (dw_X15 a ac s0) H → va_D A (dw_X15 a ac s0) → va_S A s.heap H locs → lv_has ls 3 [(0, .ref (a 0))] → W p l e (headSpec ow_dm_X15_scanWord ({ frames := 1, cells := 0, slots := 0, locals := 27 })).room s m args below meth c H locs 0 0 Q (F0 m 0 ls [])
set_option maxHeartbeats 40000000 in
set_option maxRecDepth 100000 in
theorem db_X15_scanWord_354 {p : Program} {l : Launch} {e : Env} {s : State} {m : MethodId} {args : Array Value} {below : List Frame} {meth : Method} {c : Code} {Q : State → Prop} {A : Nat → Prop} {dC : Nat → ClassId} {dI : Nat → Nat → Nat} {a : Nat → Nat} {ac : Nat → ClassId} {n : Nat} {r : St × (St × (St))} (C : nd_C p l s m args c A (dC, dI) cX15_scanWord 3 RX15 ow_dm_X15_scanWord (dk_X15 ac)) (K : nd_Kv p l e (headSpec ow_dm_X15_scanWord ({ frames := 1, cells := 0, slots := 0, locals := 27 })).room s m args below meth c Q A (dC, dI) cX15_scanWord (St × (St × (St))) (dw_X15 a ac) r) : dj_X15_scanWord_354 p l e s m args below meth c Q A dC dI a ac (df_X15_scanWord_354 n) r := by
  obtain ⟨hlt, hx, hb, hml, hown, hts, hN, hA, hK⟩ := id C
  intro y1 s0 H locs ls h hP hD hS hl
  unfold df_X15_scanWord_354 at h
  refine va_put (D := (dC, dI)) (ci := 16) (v := .int y1) (ty := .int) (C := RX15) (T := TX15) (N := 28) hx hb hts hi_dm_X15_scanWord_X15 tyX15 tyX15_ok nmX15 hown hK hP hD hS 0 rfl rfl 10 (by decide) (hts (.fieldLink RX15 92 "TimeMachineModel$Conditions" "token" "I") (List.mem_of_getElem? (i := 16) rfl)) (fun _ h9 => h9) rfl (by decide +kernel) rfl rfl (Nat.le_of_ble_eq_true rfl) dX15_scanWord_354 (fun H locs hP hD hS => ?_)
  obtain ⟨s35, es35, h⟩ := nd_let_e h
  have hP : va_P (dC, dI) vwCl (dw_X15 a ac s35) H := by rw [es35]; exact hP
  have hD : va_D A (dw_X15 a ac s35) := by rw [es35]; exact hD
  exact K _ _ _ _ _ dX15_scanWord_357 (Option.some.inj h).symm hP hD hS
set_option maxHeartbeats 40000000 in
set_option maxRecDepth 100000 in
theorem db_X15_scanWord_195 {p : Program} {l : Launch} {e : Env} {s : State} {m : MethodId} {args : Array Value} {below : List Frame} {meth : Method} {c : Code} {Q : State → Prop} {A : Nat → Prop} {dC : Nat → ClassId} {dI : Nat → Nat → Nat} {a : Nat → Nat} {ac : Nat → ClassId} {n : Nat} {r : St × (St × (St))} (C : nd_C p l s m args c A (dC, dI) cX15_scanWord 3 RX15 ow_dm_X15_scanWord (dk_X15 ac)) (K : nd_Kv p l e (headSpec ow_dm_X15_scanWord ({ frames := 1, cells := 0, slots := 0, locals := 27 })).room s m args below meth c Q A (dC, dI) cX15_scanWord (St × (St × (St))) (dw_X15 a ac) r) : dj_X15_scanWord_195 p l e s m args below meth c Q A dC dI a ac (df_X15_scanWord_195 n) r := by
  obtain ⟨hlt, hx, hb, hml, hown, hts, hN, hA, hK⟩ := id C
  intro s0 H locs ls h hP hD hS hl
  unfold df_X15_scanWord_195 at h
  refine lv_aload_n hx hb dX15_scanWord_195 rfl (lv_at hl 0 rfl) ?_
  refine lv_aload_n hx hb dX15_scanWord_196 rfl (lv_at hl 0 rfl) ?_
  refine va_get (D := (dC, dI)) (ci := 16) (v := .int (sI s0.1 3)) (C := RX15) (T := TX15) (N := 28) hx hb hts hi_dm_X15_scanWord_X15 hown hK hP 0 rfl rfl 11 (by decide) (hts (.fieldLink RX15 80 "TimeMachineModel$Conditions" "start" "I") (List.mem_of_getElem? (i := 2) rfl)) (fun _ h9 => h9) rfl dX15_scanWord_197 ?_
  refine lv_aload_n hx hb dX15_scanWord_200 rfl (lv_at hl 0 rfl) ?_
  refine va_get (D := (dC, dI)) (ci := 16) (v := .int (sI s0.1 1)) (C := RX15) (T := TX15) (N := 28) hx hb hts hi_dm_X15_scanWord_X15 hown hK hP 0 rfl rfl 9 (by decide) (hts (.fieldLink RX15 73 "TimeMachineModel$Conditions" "at" "I") (List.mem_of_getElem? (i := 1) rfl)) (fun _ h9 => h9) rfl dX15_scanWord_201 ?_
  refine lv_ldc2 hx hb hown (hts (.constantLong RX15 107 (25456)) (List.mem_of_getElem? (i := 5) rfl)) dX15_scanWord_204 ?_
  obtain ⟨q7, s8, hq, h⟩ := nd_b2_e h
  have hPc := hP
  have hDc := hD
  have hKc := hK
  have hFc := nd_rs hD hS hA
  refine nd_cVi (As := [.int (sI s0.1 3), .int (sI s0.1 1), .long 25456]) (rest := [.ref (a 0)]) (q := q7) (w' := dw_X15 a ac s8) ⟨hx, hb, hml, hown, hts⟩ (fun sz => dm_X15_is l hlt dC dI a ac n ((sI s0.1 3)) ((sI s0.1 1)) (25456) s0 hq sz) (cwV 3 hts gi_dm_X15_scanWord_0 rfl rfl rfl (by decide +kernel) ⟨Nat.le_of_ble_eq_true rfl, Nat.le_of_ble_eq_true rfl⟩) hPc hDc hKc hS hA hN (va_recv hKc hPc (ci := 16) (q0 := 0) rfl rfl) rfl hl.1 rfl (Nat.le_of_ble_eq_true rfl) dX15_scanWord_207 (fun H locs hP1 hD1 hk1 hS => ?_)
  have hP := hP1
  have hD := hD1.weaken (fun k q _ h => hFc q.1 h)
  refine lv_if_eq (tgt := 217) hx hb dX15_scanWord_210 (by decide) (fun c10 => ?_) (fun c10 => ?_)
  · have h := nd_pos h c10
    refine lv_aload_n hx hb dX15_scanWord_217 rfl (lv_at hl 0 rfl) ?_
    refine lv_aload_n hx hb dX15_scanWord_218 rfl (lv_at hl 0 rfl) ?_
    refine va_get (D := (dC, dI)) (ci := 16) (v := .int (sI s8.1 3)) (C := RX15) (T := TX15) (N := 28) hx hb hts hi_dm_X15_scanWord_X15 hown hK hP 0 rfl rfl 11 (by decide) (hts (.fieldLink RX15 80 "TimeMachineModel$Conditions" "start" "I") (List.mem_of_getElem? (i := 2) rfl)) (fun _ h9 => h9) rfl dX15_scanWord_219 ?_
    refine lv_aload_n hx hb dX15_scanWord_222 rfl (lv_at hl 0 rfl) ?_
    refine va_get (D := (dC, dI)) (ci := 16) (v := .int (sI s8.1 1)) (C := RX15) (T := TX15) (N := 28) hx hb hts hi_dm_X15_scanWord_X15 hown hK hP 0 rfl rfl 9 (by decide) (hts (.fieldLink RX15 73 "TimeMachineModel$Conditions" "at" "I") (List.mem_of_getElem? (i := 1) rfl)) (fun _ h9 => h9) rfl dX15_scanWord_223 ?_
    refine lv_ldc2 hx hb hown (hts (.constantLong RX15 113 (6580592)) (List.mem_of_getElem? (i := 10) rfl)) dX15_scanWord_226 ?_
    obtain ⟨q11, s12, hq, h⟩ := nd_b2_e h
    have hPc := hP
    have hDc := hD
    have hKc := hK
    have hFc := nd_rs hD hS hA
    refine nd_cVi (As := [.int (sI s8.1 3), .int (sI s8.1 1), .long 6580592]) (rest := [.ref (a 0)]) (q := q11) (w' := dw_X15 a ac s12) ⟨hx, hb, hml, hown, hts⟩ (fun sz => dm_X15_is l hlt dC dI a ac n ((sI s8.1 3)) ((sI s8.1 1)) (6580592) s8 hq sz) (cwV 3 hts gi_dm_X15_scanWord_0 rfl rfl rfl (by decide +kernel) ⟨Nat.le_of_ble_eq_true rfl, Nat.le_of_ble_eq_true rfl⟩) hPc hDc hKc hS hA hN (va_recv hKc hPc (ci := 16) (q0 := 0) rfl rfl) rfl hl.1 rfl (Nat.le_of_ble_eq_true rfl) dX15_scanWord_229 (fun H locs hP1 hD1 hk1 hS => ?_)
    have hP := hP1
    have hD := hD1.weaken (fun k q _ h => hFc q.1 h)
    refine lv_if_eq (tgt := 239) hx hb dX15_scanWord_232 (by decide) (fun c14 => ?_) (fun c14 => ?_)
    · have h := nd_pos h c14
      refine lv_aload_n hx hb dX15_scanWord_239 rfl (lv_at hl 0 rfl) ?_
      refine lv_aload_n hx hb dX15_scanWord_240 rfl (lv_at hl 0 rfl) ?_
      refine va_get (D := (dC, dI)) (ci := 16) (v := .int (sI s12.1 3)) (C := RX15) (T := TX15) (N := 28) hx hb hts hi_dm_X15_scanWord_X15 hown hK hP 0 rfl rfl 11 (by decide) (hts (.fieldLink RX15 80 "TimeMachineModel$Conditions" "start" "I") (List.mem_of_getElem? (i := 2) rfl)) (fun _ h9 => h9) rfl dX15_scanWord_241 ?_
      refine lv_aload_n hx hb dX15_scanWord_244 rfl (lv_at hl 0 rfl) ?_
      refine va_get (D := (dC, dI)) (ci := 16) (v := .int (sI s12.1 1)) (C := RX15) (T := TX15) (N := 28) hx hb hts hi_dm_X15_scanWord_X15 hown hK hP 0 rfl rfl 9 (by decide) (hts (.fieldLink RX15 73 "TimeMachineModel$Conditions" "at" "I") (List.mem_of_getElem? (i := 1) rfl)) (fun _ h9 => h9) rfl dX15_scanWord_245 ?_
      refine lv_ldc2 hx hb hown (hts (.constantLong RX15 115 (500069396323)) (List.mem_of_getElem? (i := 11) rfl)) dX15_scanWord_248 ?_
      obtain ⟨q15, s16, hq, h⟩ := nd_b2_e h
      have hPc := hP
      have hDc := hD
      have hKc := hK
      have hFc := nd_rs hD hS hA
      refine nd_cVi (As := [.int (sI s12.1 3), .int (sI s12.1 1), .long 500069396323]) (rest := [.ref (a 0)]) (q := q15) (w' := dw_X15 a ac s16) ⟨hx, hb, hml, hown, hts⟩ (fun sz => dm_X15_is l hlt dC dI a ac n ((sI s12.1 3)) ((sI s12.1 1)) (500069396323) s12 hq sz) (cwV 3 hts gi_dm_X15_scanWord_0 rfl rfl rfl (by decide +kernel) ⟨Nat.le_of_ble_eq_true rfl, Nat.le_of_ble_eq_true rfl⟩) hPc hDc hKc hS hA hN (va_recv hKc hPc (ci := 16) (q0 := 0) rfl rfl) rfl hl.1 rfl (Nat.le_of_ble_eq_true rfl) dX15_scanWord_251 (fun H locs hP1 hD1 hk1 hS => ?_)
      have hP := hP1
      have hD := hD1.weaken (fun k q _ h => hFc q.1 h)
      refine lv_if_eq (tgt := 261) hx hb dX15_scanWord_254 (by decide) (fun c18 => ?_) (fun c18 => ?_)
      · have h := nd_pos h c18
        refine lv_aload_n hx hb dX15_scanWord_261 rfl (lv_at hl 0 rfl) ?_
        refine lv_aload_n hx hb dX15_scanWord_262 rfl (lv_at hl 0 rfl) ?_
        refine va_get (D := (dC, dI)) (ci := 16) (v := .int (sI s16.1 3)) (C := RX15) (T := TX15) (N := 28) hx hb hts hi_dm_X15_scanWord_X15 hown hK hP 0 rfl rfl 11 (by decide) (hts (.fieldLink RX15 80 "TimeMachineModel$Conditions" "start" "I") (List.mem_of_getElem? (i := 2) rfl)) (fun _ h9 => h9) rfl dX15_scanWord_263 ?_
        refine lv_aload_n hx hb dX15_scanWord_266 rfl (lv_at hl 0 rfl) ?_
        refine va_get (D := (dC, dI)) (ci := 16) (v := .int (sI s16.1 1)) (C := RX15) (T := TX15) (N := 28) hx hb hts hi_dm_X15_scanWord_X15 hown hK hP 0 rfl rfl 9 (by decide) (hts (.fieldLink RX15 73 "TimeMachineModel$Conditions" "at" "I") (List.mem_of_getElem? (i := 1) rfl)) (fun _ h9 => h9) rfl dX15_scanWord_267 ?_
        refine lv_ldc2 hx hb hown (hts (.constantLong RX15 117 (1702132066)) (List.mem_of_getElem? (i := 12) rfl)) dX15_scanWord_270 ?_
        obtain ⟨q19, s20, hq, h⟩ := nd_b2_e h
        have hPc := hP
        have hDc := hD
        have hKc := hK
        have hFc := nd_rs hD hS hA
        refine nd_cVi (As := [.int (sI s16.1 3), .int (sI s16.1 1), .long 1702132066]) (rest := [.ref (a 0)]) (q := q19) (w' := dw_X15 a ac s20) ⟨hx, hb, hml, hown, hts⟩ (fun sz => dm_X15_is l hlt dC dI a ac n ((sI s16.1 3)) ((sI s16.1 1)) (1702132066) s16 hq sz) (cwV 3 hts gi_dm_X15_scanWord_0 rfl rfl rfl (by decide +kernel) ⟨Nat.le_of_ble_eq_true rfl, Nat.le_of_ble_eq_true rfl⟩) hPc hDc hKc hS hA hN (va_recv hKc hPc (ci := 16) (q0 := 0) rfl rfl) rfl hl.1 rfl (Nat.le_of_ble_eq_true rfl) dX15_scanWord_273 (fun H locs hP1 hD1 hk1 hS => ?_)
        have hP := hP1
        have hD := hD1.weaken (fun k q _ h => hFc q.1 h)
        refine lv_if_eq (tgt := 284) hx hb dX15_scanWord_276 (by decide) (fun c22 => ?_) (fun c22 => ?_)
        · have h := nd_pos h c22
          refine lv_aload_n hx hb dX15_scanWord_284 rfl (lv_at hl 0 rfl) ?_
          refine lv_aload_n hx hb dX15_scanWord_285 rfl (lv_at hl 0 rfl) ?_
          refine va_get (D := (dC, dI)) (ci := 16) (v := .int (sI s20.1 3)) (C := RX15) (T := TX15) (N := 28) hx hb hts hi_dm_X15_scanWord_X15 hown hK hP 0 rfl rfl 11 (by decide) (hts (.fieldLink RX15 80 "TimeMachineModel$Conditions" "start" "I") (List.mem_of_getElem? (i := 2) rfl)) (fun _ h9 => h9) rfl dX15_scanWord_286 ?_
          refine lv_aload_n hx hb dX15_scanWord_289 rfl (lv_at hl 0 rfl) ?_
          refine va_get (D := (dC, dI)) (ci := 16) (v := .int (sI s20.1 1)) (C := RX15) (T := TX15) (N := 28) hx hb hts hi_dm_X15_scanWord_X15 hown hK hP 0 rfl rfl 9 (by decide) (hts (.fieldLink RX15 73 "TimeMachineModel$Conditions" "at" "I") (List.mem_of_getElem? (i := 1) rfl)) (fun _ h9 => h9) rfl dX15_scanWord_290 ?_
          refine lv_ldc2 hx hb hown (hts (.constantLong RX15 119 (1718378856)) (List.mem_of_getElem? (i := 13) rfl)) dX15_scanWord_293 ?_
          obtain ⟨q23, s24, hq, h⟩ := nd_b2_e h
          have hPc := hP
          have hDc := hD
          have hKc := hK
          have hFc := nd_rs hD hS hA
          refine nd_cVi (As := [.int (sI s20.1 3), .int (sI s20.1 1), .long 1718378856]) (rest := [.ref (a 0)]) (q := q23) (w' := dw_X15 a ac s24) ⟨hx, hb, hml, hown, hts⟩ (fun sz => dm_X15_is l hlt dC dI a ac n ((sI s20.1 3)) ((sI s20.1 1)) (1718378856) s20 hq sz) (cwV 3 hts gi_dm_X15_scanWord_0 rfl rfl rfl (by decide +kernel) ⟨Nat.le_of_ble_eq_true rfl, Nat.le_of_ble_eq_true rfl⟩) hPc hDc hKc hS hA hN (va_recv hKc hPc (ci := 16) (q0 := 0) rfl rfl) rfl hl.1 rfl (Nat.le_of_ble_eq_true rfl) dX15_scanWord_296 (fun H locs hP1 hD1 hk1 hS => ?_)
          have hP := hP1
          have hD := hD1.weaken (fun k q _ h => hFc q.1 h)
          refine lv_if_eq (tgt := 307) hx hb dX15_scanWord_299 (by decide) (fun c26 => ?_) (fun c26 => ?_)
          · have h := nd_pos h c26
            refine lv_aload_n hx hb dX15_scanWord_307 rfl (lv_at hl 0 rfl) ?_
            refine lv_aload_n hx hb dX15_scanWord_308 rfl (lv_at hl 0 rfl) ?_
            refine va_get (D := (dC, dI)) (ci := 16) (v := .int (sI s24.1 3)) (C := RX15) (T := TX15) (N := 28) hx hb hts hi_dm_X15_scanWord_X15 hown hK hP 0 rfl rfl 11 (by decide) (hts (.fieldLink RX15 80 "TimeMachineModel$Conditions" "start" "I") (List.mem_of_getElem? (i := 2) rfl)) (fun _ h9 => h9) rfl dX15_scanWord_309 ?_
            refine lv_aload_n hx hb dX15_scanWord_312 rfl (lv_at hl 0 rfl) ?_
            refine va_get (D := (dC, dI)) (ci := 16) (v := .int (sI s24.1 1)) (C := RX15) (T := TX15) (N := 28) hx hb hts hi_dm_X15_scanWord_X15 hown hK hP 0 rfl rfl 9 (by decide) (hts (.fieldLink RX15 73 "TimeMachineModel$Conditions" "at" "I") (List.mem_of_getElem? (i := 1) rfl)) (fun _ h9 => h9) rfl dX15_scanWord_313 ?_
            refine lv_ldc2 hx hb hown (hts (.constantLong RX15 121 (6581359)) (List.mem_of_getElem? (i := 14) rfl)) dX15_scanWord_316 ?_
            obtain ⟨q27, s28, hq, h⟩ := nd_b2_e h
            have hPc := hP
            have hDc := hD
            have hKc := hK
            have hFc := nd_rs hD hS hA
            refine nd_cVi (As := [.int (sI s24.1 3), .int (sI s24.1 1), .long 6581359]) (rest := [.ref (a 0)]) (q := q27) (w' := dw_X15 a ac s28) ⟨hx, hb, hml, hown, hts⟩ (fun sz => dm_X15_is l hlt dC dI a ac n ((sI s24.1 3)) ((sI s24.1 1)) (6581359) s24 hq sz) (cwV 3 hts gi_dm_X15_scanWord_0 rfl rfl rfl (by decide +kernel) ⟨Nat.le_of_ble_eq_true rfl, Nat.le_of_ble_eq_true rfl⟩) hPc hDc hKc hS hA hN (va_recv hKc hPc (ci := 16) (q0 := 0) rfl rfl) rfl hl.1 rfl (Nat.le_of_ble_eq_true rfl) dX15_scanWord_319 (fun H locs hP1 hD1 hk1 hS => ?_)
            have hP := hP1
            have hD := hD1.weaken (fun k q _ h => hFc q.1 h)
            refine lv_if_eq (tgt := 330) hx hb dX15_scanWord_322 (by decide) (fun c30 => ?_) (fun c30 => ?_)
            · have h := nd_pos h c30
              refine lv_aload_n hx hb dX15_scanWord_330 rfl (lv_at hl 0 rfl) ?_
              refine lv_aload_n hx hb dX15_scanWord_331 rfl (lv_at hl 0 rfl) ?_
              refine va_get (D := (dC, dI)) (ci := 16) (v := .int (sI s28.1 3)) (C := RX15) (T := TX15) (N := 28) hx hb hts hi_dm_X15_scanWord_X15 hown hK hP 0 rfl rfl 11 (by decide) (hts (.fieldLink RX15 80 "TimeMachineModel$Conditions" "start" "I") (List.mem_of_getElem? (i := 2) rfl)) (fun _ h9 => h9) rfl dX15_scanWord_332 ?_
              refine lv_aload_n hx hb dX15_scanWord_335 rfl (lv_at hl 0 rfl) ?_
              refine va_get (D := (dC, dI)) (ci := 16) (v := .int (sI s28.1 1)) (C := RX15) (T := TX15) (N := 28) hx hb hts hi_dm_X15_scanWord_X15 hown hK hP 0 rfl rfl 9 (by decide) (hts (.fieldLink RX15 73 "TimeMachineModel$Conditions" "at" "I") (List.mem_of_getElem? (i := 1) rfl)) (fun _ h9 => h9) rfl dX15_scanWord_336 ?_
              refine lv_ldc2 hx hb hown (hts (.constantLong RX15 123 (28258992578979939)) (List.mem_of_getElem? (i := 15) rfl)) dX15_scanWord_339 ?_
              obtain ⟨q31, s32, hq, h⟩ := nd_b2_e h
              have hPc := hP
              have hDc := hD
              have hKc := hK
              have hFc := nd_rs hD hS hA
              refine nd_cVi (As := [.int (sI s28.1 3), .int (sI s28.1 1), .long 28258992578979939]) (rest := [.ref (a 0)]) (q := q31) (w' := dw_X15 a ac s32) ⟨hx, hb, hml, hown, hts⟩ (fun sz => dm_X15_is l hlt dC dI a ac n ((sI s28.1 3)) ((sI s28.1 1)) (28258992578979939) s28 hq sz) (cwV 3 hts gi_dm_X15_scanWord_0 rfl rfl rfl (by decide +kernel) ⟨Nat.le_of_ble_eq_true rfl, Nat.le_of_ble_eq_true rfl⟩) hPc hDc hKc hS hA hN (va_recv hKc hPc (ci := 16) (q0 := 0) rfl rfl) rfl hl.1 rfl (Nat.le_of_ble_eq_true rfl) dX15_scanWord_342 (fun H locs hP1 hD1 hk1 hS => ?_)
              have hP := hP1
              have hD := hD1.weaken (fun k q _ h => hFc q.1 h)
              refine lv_if_eq (tgt := 353) hx hb dX15_scanWord_345 (by decide) (fun c34 => ?_) (fun c34 => ?_)
              · have h := nd_pos h c34
                refine lv_iconst (v := 0) hx hb dX15_scanWord_353 (by decide) ?_
                exact (db_X15_scanWord_354 C K) (0) s32 _ _ _ h hP hD hS (lv_sub hl [] rfl)
              · have h := nd_neg h c34
                refine lv_bipush (v := 9) hx hb dX15_scanWord_348 (by decide) ?_
                refine lv_goto (tgt := 354) hx hb dX15_scanWord_350 (by decide) ?_
                exact (db_X15_scanWord_354 C K) (9) s32 _ _ _ h hP hD hS (lv_sub hl [] rfl)
            · have h := nd_neg h c30
              refine lv_bipush (v := 8) hx hb dX15_scanWord_325 (by decide) ?_
              refine lv_goto (tgt := 354) hx hb dX15_scanWord_327 (by decide) ?_
              exact (db_X15_scanWord_354 C K) (8) s28 _ _ _ h hP hD hS (lv_sub hl [] rfl)
          · have h := nd_neg h c26
            refine lv_bipush (v := 7) hx hb dX15_scanWord_302 (by decide) ?_
            refine lv_goto (tgt := 354) hx hb dX15_scanWord_304 (by decide) ?_
            exact (db_X15_scanWord_354 C K) (7) s24 _ _ _ h hP hD hS (lv_sub hl [] rfl)
        · have h := nd_neg h c22
          refine lv_bipush (v := 6) hx hb dX15_scanWord_279 (by decide) ?_
          refine lv_goto (tgt := 354) hx hb dX15_scanWord_281 (by decide) ?_
          exact (db_X15_scanWord_354 C K) (6) s20 _ _ _ h hP hD hS (lv_sub hl [] rfl)
      · have h := nd_neg h c18
        refine lv_iconst (v := 5) hx hb dX15_scanWord_257 (by decide) ?_
        refine lv_goto (tgt := 354) hx hb dX15_scanWord_258 (by decide) ?_
        exact (db_X15_scanWord_354 C K) (5) s16 _ _ _ h hP hD hS (lv_sub hl [] rfl)
    · have h := nd_neg h c14
      refine lv_iconst (v := 4) hx hb dX15_scanWord_235 (by decide) ?_
      refine lv_goto (tgt := 354) hx hb dX15_scanWord_236 (by decide) ?_
      exact (db_X15_scanWord_354 C K) (4) s12 _ _ _ h hP hD hS (lv_sub hl [] rfl)
  · have h := nd_neg h c10
    refine lv_iconst (v := 3) hx hb dX15_scanWord_213 (by decide) ?_
    refine lv_goto (tgt := 354) hx hb dX15_scanWord_214 (by decide) ?_
    exact (db_X15_scanWord_354 C K) (3) s8 _ _ _ h hP hD hS (lv_sub hl [] rfl)
set_option maxHeartbeats 40000000 in
set_option maxRecDepth 100000 in
theorem db_X15_scanWord_172 {p : Program} {l : Launch} {e : Env} {s : State} {m : MethodId} {args : Array Value} {below : List Frame} {meth : Method} {c : Code} {Q : State → Prop} {A : Nat → Prop} {dC : Nat → ClassId} {dI : Nat → Nat → Nat} {a : Nat → Nat} {ac : Nat → ClassId} {n : Nat} {r : St × (St × (St))} (C : nd_C p l s m args c A (dC, dI) cX15_scanWord 3 RX15 ow_dm_X15_scanWord (dk_X15 ac)) (K : nd_Kv p l e (headSpec ow_dm_X15_scanWord ({ frames := 1, cells := 0, slots := 0, locals := 27 })).room s m args below meth c Q A (dC, dI) cX15_scanWord (St × (St × (St))) (dw_X15 a ac) r) : dj_X15_scanWord_172 p l e s m args below meth c Q A dC dI a ac (df_X15_scanWord_172 n) r := by
  obtain ⟨hlt, hx, hb, hml, hown, hts, hN, hA, hK⟩ := id C
  intro x2 y1 s0 H locs ls h hP hD hS hl
  unfold df_X15_scanWord_172 at h
  refine va_put (D := (dC, dI)) (ci := 16) (v := .long y1) (ty := .long) (C := RX15) (T := TX15) (N := 28) hx hb hts hi_dm_X15_scanWord_X15 tyX15 tyX15_ok nmX15 hown hK hP hD hS 0 rfl rfl 15 (by decide) (hts (.fieldLink RX15 95 "TimeMachineModel$Conditions" "tokenValue" "J") (List.mem_of_getElem? (i := 4) rfl)) (fun _ h9 => h9) rfl (by decide +kernel) rfl rfl (Nat.le_of_ble_eq_true rfl) dX15_scanWord_172 (fun H locs hP hD hS => ?_)
  obtain ⟨s5, es5, h⟩ := nd_let_e h
  have hP : va_P (dC, dI) vwCl (dw_X15 a ac s5) H := by rw [es5]; exact hP
  have hD : va_D A (dw_X15 a ac s5) := by rw [es5]; exact hD
  refine lv_aload_n hx hb dX15_scanWord_175 rfl (lv_at hl 0 rfl) ?_
  refine lv_iload_n hx hb dX15_scanWord_176 rfl (lv_at hl 1 rfl) ?_
  refine lv_if_eq (tgt := 195) hx hb dX15_scanWord_177 (by decide) (fun c6 => ?_) (fun c6 => ?_)
  · have h := nd_pos h c6
    exact (db_X15_scanWord_195 C K)  s5 _ _ _ h hP hD hS (lv_sub hl [0] rfl)
  · have h := nd_neg h c6
    refine lv_aload_n hx hb dX15_scanWord_180 rfl (lv_at hl 0 rfl) ?_
    refine va_get (D := (dC, dI)) (ci := 16) (v := .long (sL s5.1 0)) (C := RX15) (T := TX15) (N := 28) hx hb hts hi_dm_X15_scanWord_X15 hown hK hP 0 rfl rfl 15 (by decide) (hts (.fieldLink RX15 95 "TimeMachineModel$Conditions" "tokenValue" "J") (List.mem_of_getElem? (i := 4) rfl)) (fun _ h9 => h9) rfl dX15_scanWord_181 ?_
    refine lv_ldc2 hx hb hown (hts (.constantLong RX15 105 (32)) (List.mem_of_getElem? (i := 17) rfl)) dX15_scanWord_184 ?_
    refine W.lcmp hx hb dX15_scanWord_187 ?_
    refine lv_if_ge (tgt := 195) hx hb dX15_scanWord_188 (by decide) (fun c36 => ?_) (fun c36 => ?_)
    · have h := nd_pos h c36
      exact (db_X15_scanWord_195 C K)  s5 _ _ _ h hP hD hS (lv_sub hl [0] rfl)
    · have h := nd_neg h c36
      refine lv_iconst (v := 2) hx hb dX15_scanWord_191 (by decide) ?_
      refine lv_goto (tgt := 354) hx hb dX15_scanWord_192 (by decide) ?_
      exact (db_X15_scanWord_354 C K) (2) s5 _ _ _ h hP hD hS (lv_sub hl [] rfl)
set_option maxHeartbeats 40000000 in
set_option maxRecDepth 100000 in
theorem db_X15_scanWord_106 {p : Program} {l : Launch} {e : Env} {s : State} {m : MethodId} {args : Array Value} {below : List Frame} {meth : Method} {c : Code} {Q : State → Prop} {A : Nat → Prop} {dC : Nat → ClassId} {dI : Nat → Nat → Nat} {a : Nat → Nat} {ac : Nat → ClassId} {n : Nat} {r : St × (St × (St))} (C : nd_C p l s m args c A (dC, dI) cX15_scanWord 3 RX15 ow_dm_X15_scanWord (dk_X15 ac)) (K : nd_Kv p l e (headSpec ow_dm_X15_scanWord ({ frames := 1, cells := 0, slots := 0, locals := 27 })).room s m args below meth c Q A (dC, dI) cX15_scanWord (St × (St × (St))) (dw_X15 a ac) r) : dj_X15_scanWord_106 p l e s m args below meth c Q A dC dI a ac (df_X15_scanWord_106 n) r := by
  obtain ⟨hlt, hx, hb, hml, hown, hts, hN, hA, hK⟩ := id C
  intro x1 y0 s0 H locs ls h hP hD hS hl
  unfold df_X15_scanWord_106 at h
  refine lv_istore_n (lv' := [(2, .int y0), (0, .ref (a 0)), (1, .int x1)]) hx hb dX15_scanWord_106 rfl hl (by decide) rfl (fun ls hl => ?_)
  refine lv_aload_n hx hb dX15_scanWord_107 rfl (lv_at hl 1 rfl) ?_
  refine lv_iload_n hx hb dX15_scanWord_108 rfl (lv_at hl 0 rfl) ?_
  refine lv_if_eq (tgt := 171) hx hb dX15_scanWord_109 (by decide) (fun c4 => ?_) (fun c4 => ?_)
  · have h := nd_pos h c4
    refine lv_lconst (v := 0) hx hb dX15_scanWord_171 (by decide) ?_
    exact (db_X15_scanWord_172 C K) (y0) (0) s0 _ _ _ h hP hD hS (lv_sub hl [1, 0] rfl)
  · have h := nd_neg h c4
    refine lv_iload_n hx hb dX15_scanWord_112 rfl (lv_at hl 2 rfl) ?_
    refine lv_iconst (v := 2) hx hb dX15_scanWord_113 (by decide) ?_
    refine lv_icmp_ne (tgt := 135) hx hb dX15_scanWord_114 (by decide) (fun c37 => ?_) (fun c37 => ?_)
    · have h := nd_neg h c37
      refine lv_bipush (v := 10) hx hb dX15_scanWord_135 (by decide) ?_
      refine lv_aload_n hx hb dX15_scanWord_137 rfl (lv_at hl 1 rfl) ?_
      refine va_get (D := (dC, dI)) (ci := 16) (v := .ref (a 1)) (C := RX15) (T := TX15) (N := 28) hx hb hts hi_dm_X15_scanWord_X15 hown hK hP 0 rfl rfl 2 (by decide) (hts (.fieldLink RX15 7 "TimeMachineModel$Conditions" "text" "[C") (List.mem_of_getElem? (i := 3) rfl)) (fun _ h9 => h9) rfl dX15_scanWord_138 ?_
      refine lv_aload_n hx hb dX15_scanWord_141 rfl (lv_at hl 1 rfl) ?_
      refine va_get (D := (dC, dI)) (ci := 16) (v := .int (sI s0.1 3)) (C := RX15) (T := TX15) (N := 28) hx hb hts hi_dm_X15_scanWord_X15 hown hK hP 0 rfl rfl 11 (by decide) (hts (.fieldLink RX15 80 "TimeMachineModel$Conditions" "start" "I") (List.mem_of_getElem? (i := 2) rfl)) (fun _ h9 => h9) rfl dX15_scanWord_142 ?_
      refine lv_iconst (v := 1) hx hb dX15_scanWord_145 (by decide) ?_
      refine lv_iadd hx hb dX15_scanWord_146 ?_
      obtain ⟨i38, h⟩ := nd_ck_e h
      refine va_cald (i := ((sI s0.1 3) + 1)) hx hb hK hP 1 0 rfl rfl i38 dX15_scanWord_147 ?_
      refine lv_bipush (v := 48) hx hb dX15_scanWord_148 (by decide) ?_
      refine lv_isub hx hb dX15_scanWord_150 ?_
      refine lv_imul hx hb dX15_scanWord_151 ?_
      refine lv_aload_n hx hb dX15_scanWord_152 rfl (lv_at hl 1 rfl) ?_
      refine va_get (D := (dC, dI)) (ci := 16) (v := .ref (a 1)) (C := RX15) (T := TX15) (N := 28) hx hb hts hi_dm_X15_scanWord_X15 hown hK hP 0 rfl rfl 2 (by decide) (hts (.fieldLink RX15 7 "TimeMachineModel$Conditions" "text" "[C") (List.mem_of_getElem? (i := 3) rfl)) (fun _ h9 => h9) rfl dX15_scanWord_153 ?_
      refine lv_aload_n hx hb dX15_scanWord_156 rfl (lv_at hl 1 rfl) ?_
      refine va_get (D := (dC, dI)) (ci := 16) (v := .int (sI s0.1 3)) (C := RX15) (T := TX15) (N := 28) hx hb hts hi_dm_X15_scanWord_X15 hown hK hP 0 rfl rfl 11 (by decide) (hts (.fieldLink RX15 80 "TimeMachineModel$Conditions" "start" "I") (List.mem_of_getElem? (i := 2) rfl)) (fun _ h9 => h9) rfl dX15_scanWord_157 ?_
      refine lv_iconst (v := 2) hx hb dX15_scanWord_160 (by decide) ?_
      refine lv_iadd hx hb dX15_scanWord_161 ?_
      obtain ⟨i39, h⟩ := nd_ck_e h
      refine va_cald (i := ((sI s0.1 3) + 2)) hx hb hK hP 1 0 rfl rfl i39 dX15_scanWord_162 ?_
      refine lv_iadd hx hb dX15_scanWord_163 ?_
      refine lv_bipush (v := 48) hx hb dX15_scanWord_164 (by decide) ?_
      refine lv_isub hx hb dX15_scanWord_166 ?_
      refine lv_i2l hx hb dX15_scanWord_167 rfl ?_
      refine lv_goto (tgt := 172) hx hb dX15_scanWord_168 (by decide) ?_
      exact (db_X15_scanWord_172 C K) (y0) ((((((10 * ((sR s0.1 0 (Int32.toNatClampNeg ((sI s0.1 3) + 1))) - 48)) + (sR s0.1 0 (Int32.toNatClampNeg ((sI s0.1 3) + 2)))) - 48) : Int32).toInt64)) s0 _ _ _ h hP hD hS (lv_sub hl [1, 0] rfl)
    · have h := nd_pos h c37
      refine lv_aload_n hx hb dX15_scanWord_117 rfl (lv_at hl 1 rfl) ?_
      refine va_get (D := (dC, dI)) (ci := 16) (v := .ref (a 1)) (C := RX15) (T := TX15) (N := 28) hx hb hts hi_dm_X15_scanWord_X15 hown hK hP 0 rfl rfl 2 (by decide) (hts (.fieldLink RX15 7 "TimeMachineModel$Conditions" "text" "[C") (List.mem_of_getElem? (i := 3) rfl)) (fun _ h9 => h9) rfl dX15_scanWord_118 ?_
      refine lv_aload_n hx hb dX15_scanWord_121 rfl (lv_at hl 1 rfl) ?_
      refine va_get (D := (dC, dI)) (ci := 16) (v := .int (sI s0.1 3)) (C := RX15) (T := TX15) (N := 28) hx hb hts hi_dm_X15_scanWord_X15 hown hK hP 0 rfl rfl 11 (by decide) (hts (.fieldLink RX15 80 "TimeMachineModel$Conditions" "start" "I") (List.mem_of_getElem? (i := 2) rfl)) (fun _ h9 => h9) rfl dX15_scanWord_122 ?_
      refine lv_iconst (v := 1) hx hb dX15_scanWord_125 (by decide) ?_
      refine lv_iadd hx hb dX15_scanWord_126 ?_
      obtain ⟨i40, h⟩ := nd_ck_e h
      refine va_cald (i := ((sI s0.1 3) + 1)) hx hb hK hP 1 0 rfl rfl i40 dX15_scanWord_127 ?_
      refine lv_bipush (v := 48) hx hb dX15_scanWord_128 (by decide) ?_
      refine lv_isub hx hb dX15_scanWord_130 ?_
      refine lv_i2l hx hb dX15_scanWord_131 rfl ?_
      refine lv_goto (tgt := 172) hx hb dX15_scanWord_132 (by decide) ?_
      exact (db_X15_scanWord_172 C K) (y0) (((((sR s0.1 0 (Int32.toNatClampNeg ((sI s0.1 3) + 1))) - 48) : Int32).toInt64)) s0 _ _ _ h hP hD hS (lv_sub hl [1, 0] rfl)
set_option maxHeartbeats 40000000 in
set_option maxRecDepth 100000 in
theorem db_X15_scanWord_105 {p : Program} {l : Launch} {e : Env} {s : State} {m : MethodId} {args : Array Value} {below : List Frame} {meth : Method} {c : Code} {Q : State → Prop} {A : Nat → Prop} {dC : Nat → ClassId} {dI : Nat → Nat → Nat} {a : Nat → Nat} {ac : Nat → ClassId} {n : Nat} {r : St × (St × (St))} (C : nd_C p l s m args c A (dC, dI) cX15_scanWord 3 RX15 ow_dm_X15_scanWord (dk_X15 ac)) (K : nd_Kv p l e (headSpec ow_dm_X15_scanWord ({ frames := 1, cells := 0, slots := 0, locals := 27 })).room s m args below meth c Q A (dC, dI) cX15_scanWord (St × (St × (St))) (dw_X15 a ac) r) : dj_X15_scanWord_105 p l e s m args below meth c Q A dC dI a ac (df_X15_scanWord_105 n) r := by
  obtain ⟨hlt, hx, hb, hml, hown, hts, hN, hA, hK⟩ := id C
  intro x1 s0 H locs ls h hP hD hS hl
  unfold df_X15_scanWord_105 at h
  refine lv_iconst (v := 0) hx hb dX15_scanWord_105 (by decide) ?_
  exact (db_X15_scanWord_106 C K) (x1) (0) s0 _ _ _ h hP hD hS (lv_sub hl [0, 1] rfl)
set_option maxHeartbeats 40000000 in
set_option maxRecDepth 100000 in
theorem db_X15_scanWord_101 {p : Program} {l : Launch} {e : Env} {s : State} {m : MethodId} {args : Array Value} {below : List Frame} {meth : Method} {c : Code} {Q : State → Prop} {A : Nat → Prop} {dC : Nat → ClassId} {dI : Nat → Nat → Nat} {a : Nat → Nat} {ac : Nat → ClassId} {n : Nat} {r : St × (St × (St))} (C : nd_C p l s m args c A (dC, dI) cX15_scanWord 3 RX15 ow_dm_X15_scanWord (dk_X15 ac)) (K : nd_Kv p l e (headSpec ow_dm_X15_scanWord ({ frames := 1, cells := 0, slots := 0, locals := 27 })).room s m args below meth c Q A (dC, dI) cX15_scanWord (St × (St × (St))) (dw_X15 a ac) r) : dj_X15_scanWord_101 p l e s m args below meth c Q A dC dI a ac (df_X15_scanWord_101 n) r := by
  obtain ⟨hlt, hx, hb, hml, hown, hts, hN, hA, hK⟩ := id C
  intro x1 s0 H locs ls h hP hD hS hl
  unfold df_X15_scanWord_101 at h
  refine lv_iconst (v := 1) hx hb dX15_scanWord_101 (by decide) ?_
  refine lv_goto (tgt := 106) hx hb dX15_scanWord_102 (by decide) ?_
  exact (db_X15_scanWord_106 C K) (x1) (1) s0 _ _ _ h hP hD hS (lv_sub hl [0, 1] rfl)
set_option maxHeartbeats 40000000 in
set_option maxRecDepth 100000 in
theorem db_X15_scanWord_46 {p : Program} {l : Launch} {e : Env} {s : State} {m : MethodId} {args : Array Value} {below : List Frame} {meth : Method} {c : Code} {Q : State → Prop} {A : Nat → Prop} {dC : Nat → ClassId} {dI : Nat → Nat → Nat} {a : Nat → Nat} {ac : Nat → ClassId} {n : Nat} {r : St × (St × (St))} (C : nd_C p l s m args c A (dC, dI) cX15_scanWord 3 RX15 ow_dm_X15_scanWord (dk_X15 ac)) (K : nd_Kv p l e (headSpec ow_dm_X15_scanWord ({ frames := 1, cells := 0, slots := 0, locals := 27 })).room s m args below meth c Q A (dC, dI) cX15_scanWord (St × (St × (St))) (dw_X15 a ac) r) : dj_X15_scanWord_46 p l e s m args below meth c Q A dC dI a ac (df_X15_scanWord_46 n) r := by
  obtain ⟨hlt, hx, hb, hml, hown, hts, hN, hA, hK⟩ := id C
  intro x1 s0 H locs ls h hP hD hS hl
  unfold df_X15_scanWord_46 at h
  refine lv_iload_n hx hb dX15_scanWord_46 rfl (lv_at hl 1 rfl) ?_
  refine lv_iconst (v := 3) hx hb dX15_scanWord_47 (by decide) ?_
  refine lv_icmp_ne (tgt := 105) hx hb dX15_scanWord_48 (by decide) (fun c42 => ?_) (fun c42 => ?_)
  · have h := nd_neg h c42
    exact (db_X15_scanWord_105 C K) (x1) s0 _ _ _ h hP hD hS (lv_sub hl [0, 1] rfl)
  · have h := nd_pos h c42
    refine lv_aload_n hx hb dX15_scanWord_51 rfl (lv_at hl 0 rfl) ?_
    refine va_get (D := (dC, dI)) (ci := 16) (v := .ref (a 1)) (C := RX15) (T := TX15) (N := 28) hx hb hts hi_dm_X15_scanWord_X15 hown hK hP 0 rfl rfl 2 (by decide) (hts (.fieldLink RX15 7 "TimeMachineModel$Conditions" "text" "[C") (List.mem_of_getElem? (i := 3) rfl)) (fun _ h9 => h9) rfl dX15_scanWord_52 ?_
    refine lv_aload_n hx hb dX15_scanWord_55 rfl (lv_at hl 0 rfl) ?_
    refine va_get (D := (dC, dI)) (ci := 16) (v := .int (sI s0.1 3)) (C := RX15) (T := TX15) (N := 28) hx hb hts hi_dm_X15_scanWord_X15 hown hK hP 0 rfl rfl 11 (by decide) (hts (.fieldLink RX15 80 "TimeMachineModel$Conditions" "start" "I") (List.mem_of_getElem? (i := 2) rfl)) (fun _ h9 => h9) rfl dX15_scanWord_56 ?_
    refine lv_iconst (v := 1) hx hb dX15_scanWord_59 (by decide) ?_
    refine lv_iadd hx hb dX15_scanWord_60 ?_
    obtain ⟨i43, h⟩ := nd_ck_e h
    refine va_cald (i := ((sI s0.1 3) + 1)) hx hb hK hP 1 0 rfl rfl i43 dX15_scanWord_61 ?_
    obtain ⟨q44, s45, hq, h⟩ := nd_b2_e h
    have hPc : va_P (dC, dI) vwCl (dw_P a ac ()) H := nd_p0
    have hDc : va_D A (dw_P a ac ()) := nd_d0
    have hKc : va_K (dC, dI) vwCl (dk_P ac) s := nd_y0 hK
    have hFc : ∀ q, va_A (dw_P a ac ()) H.size q → A q := nd_r0 hS hA
    refine nd_cSi (As := [.int (sR s0.1 0 (Int32.toNatClampNeg ((sI s0.1 3) + 1)))]) (rest := []) (q := q44) (w' := dw_P a ac s45) ⟨hx, hb, hml, hown, hts⟩ (fun sz => dm_X15_isDigit l hlt dC dI a ac n ((sR s0.1 0 (Int32.toNatClampNeg ((sI s0.1 3) + 1)))) () hq sz) (cwS 1 hts gi_dm_X15_scanWord_1 rfl rfl rfl (by decide +kernel) ⟨Nat.le_of_ble_eq_true rfl, Nat.le_of_ble_eq_true rfl⟩) hPc hDc hKc hS hA hN rfl hl.1 rfl (Nat.le_of_ble_eq_true rfl) dX15_scanWord_62 (fun H locs hP1 hD1 hk1 hS => ?_)
    have hP := nd_n0 hP hk1
    refine lv_if_eq (tgt := 105) hx hb dX15_scanWord_65 (by decide) (fun c47 => ?_) (fun c47 => ?_)
    · have h := nd_pos h c47
      exact (db_X15_scanWord_105 C K) (x1) s0 _ _ _ h hP hD hS (lv_sub hl [0, 1] rfl)
    · have h := nd_neg h c47
      refine lv_aload_n hx hb dX15_scanWord_68 rfl (lv_at hl 0 rfl) ?_
      refine va_get (D := (dC, dI)) (ci := 16) (v := .ref (a 1)) (C := RX15) (T := TX15) (N := 28) hx hb hts hi_dm_X15_scanWord_X15 hown hK hP 0 rfl rfl 2 (by decide) (hts (.fieldLink RX15 7 "TimeMachineModel$Conditions" "text" "[C") (List.mem_of_getElem? (i := 3) rfl)) (fun _ h9 => h9) rfl dX15_scanWord_69 ?_
      refine lv_aload_n hx hb dX15_scanWord_72 rfl (lv_at hl 0 rfl) ?_
      refine va_get (D := (dC, dI)) (ci := 16) (v := .int (sI s0.1 3)) (C := RX15) (T := TX15) (N := 28) hx hb hts hi_dm_X15_scanWord_X15 hown hK hP 0 rfl rfl 11 (by decide) (hts (.fieldLink RX15 80 "TimeMachineModel$Conditions" "start" "I") (List.mem_of_getElem? (i := 2) rfl)) (fun _ h9 => h9) rfl dX15_scanWord_73 ?_
      refine lv_iconst (v := 1) hx hb dX15_scanWord_76 (by decide) ?_
      refine lv_iadd hx hb dX15_scanWord_77 ?_
      obtain ⟨i48, h⟩ := nd_ck_e h
      refine va_cald (i := ((sI s0.1 3) + 1)) hx hb hK hP 1 0 rfl rfl i48 dX15_scanWord_78 ?_
      refine lv_bipush (v := 48) hx hb dX15_scanWord_79 (by decide) ?_
      refine lv_icmp_le (tgt := 105) hx hb dX15_scanWord_81 (by decide) (fun c49 => ?_) (fun c49 => ?_)
      · have h := nd_pos h c49
        exact (db_X15_scanWord_105 C K) (x1) s0 _ _ _ h hP hD hS (lv_sub hl [0, 1] rfl)
      · have h := nd_neg h c49
        refine lv_aload_n hx hb dX15_scanWord_84 rfl (lv_at hl 0 rfl) ?_
        refine va_get (D := (dC, dI)) (ci := 16) (v := .ref (a 1)) (C := RX15) (T := TX15) (N := 28) hx hb hts hi_dm_X15_scanWord_X15 hown hK hP 0 rfl rfl 2 (by decide) (hts (.fieldLink RX15 7 "TimeMachineModel$Conditions" "text" "[C") (List.mem_of_getElem? (i := 3) rfl)) (fun _ h9 => h9) rfl dX15_scanWord_85 ?_
        refine lv_aload_n hx hb dX15_scanWord_88 rfl (lv_at hl 0 rfl) ?_
        refine va_get (D := (dC, dI)) (ci := 16) (v := .int (sI s0.1 3)) (C := RX15) (T := TX15) (N := 28) hx hb hts hi_dm_X15_scanWord_X15 hown hK hP 0 rfl rfl 11 (by decide) (hts (.fieldLink RX15 80 "TimeMachineModel$Conditions" "start" "I") (List.mem_of_getElem? (i := 2) rfl)) (fun _ h9 => h9) rfl dX15_scanWord_89 ?_
        refine lv_iconst (v := 2) hx hb dX15_scanWord_92 (by decide) ?_
        refine lv_iadd hx hb dX15_scanWord_93 ?_
        obtain ⟨i50, h⟩ := nd_ck_e h
        refine va_cald (i := ((sI s0.1 3) + 2)) hx hb hK hP 1 0 rfl rfl i50 dX15_scanWord_94 ?_
        obtain ⟨q51, s52, hq, h⟩ := nd_b2_e h
        have hPc : va_P (dC, dI) vwCl (dw_P a ac ()) H := nd_p0
        have hDc : va_D A (dw_P a ac ()) := nd_d0
        have hKc : va_K (dC, dI) vwCl (dk_P ac) s := nd_y0 hK
        have hFc : ∀ q, va_A (dw_P a ac ()) H.size q → A q := nd_r0 hS hA
        refine nd_cSi (As := [.int (sR s0.1 0 (Int32.toNatClampNeg ((sI s0.1 3) + 2)))]) (rest := []) (q := q51) (w' := dw_P a ac s52) ⟨hx, hb, hml, hown, hts⟩ (fun sz => dm_X15_isDigit l hlt dC dI a ac n ((sR s0.1 0 (Int32.toNatClampNeg ((sI s0.1 3) + 2)))) () hq sz) (cwS 1 hts gi_dm_X15_scanWord_1 rfl rfl rfl (by decide +kernel) ⟨Nat.le_of_ble_eq_true rfl, Nat.le_of_ble_eq_true rfl⟩) hPc hDc hKc hS hA hN rfl hl.1 rfl (Nat.le_of_ble_eq_true rfl) dX15_scanWord_95 (fun H locs hP1 hD1 hk1 hS => ?_)
        have hP := nd_n0 hP hk1
        refine lv_if_eq (tgt := 105) hx hb dX15_scanWord_98 (by decide) (fun c54 => ?_) (fun c54 => ?_)
        · have h := nd_pos h c54
          exact (db_X15_scanWord_105 C K) (x1) s0 _ _ _ h hP hD hS (lv_sub hl [0, 1] rfl)
        · have h := nd_neg h c54
          exact (db_X15_scanWord_101 C K) (x1) s0 _ _ _ h hP hD hS (lv_sub hl [0, 1] rfl)
set_option maxHeartbeats 40000000 in
set_option maxRecDepth 100000 in
theorem db_X15_scanWord_0 {p : Program} {l : Launch} {e : Env} {s : State} {m : MethodId} {args : Array Value} {below : List Frame} {meth : Method} {c : Code} {Q : State → Prop} {A : Nat → Prop} {dC : Nat → ClassId} {dI : Nat → Nat → Nat} {a : Nat → Nat} {ac : Nat → ClassId} {n : Nat} {r : St × (St × (St))} (C : nd_C p l s m args c A (dC, dI) cX15_scanWord 3 RX15 ow_dm_X15_scanWord (dk_X15 ac)) (K : nd_Kv p l e (headSpec ow_dm_X15_scanWord ({ frames := 1, cells := 0, slots := 0, locals := 27 })).room s m args below meth c Q A (dC, dI) cX15_scanWord (St × (St × (St))) (dw_X15 a ac) r) : dj_X15_scanWord_0 p l e s m args below meth c Q A dC dI a ac (df_X15_scanWord_0 n) r := by
  obtain ⟨hlt, hx, hb, hml, hown, hts, hN, hA, hK⟩ := id C
  intro s0 H locs ls h hP hD hS hl
  unfold df_X15_scanWord_0 at h
  refine lv_aload_n hx hb dX15_scanWord_0 rfl (lv_at hl 0 rfl) ?_
  refine va_get (D := (dC, dI)) (ci := 16) (v := .int (sI s0.1 1)) (C := RX15) (T := TX15) (N := 28) hx hb hts hi_dm_X15_scanWord_X15 hown hK hP 0 rfl rfl 9 (by decide) (hts (.fieldLink RX15 73 "TimeMachineModel$Conditions" "at" "I") (List.mem_of_getElem? (i := 1) rfl)) (fun _ h9 => h9) rfl dX15_scanWord_1 ?_
  refine lv_aload_n hx hb dX15_scanWord_4 rfl (lv_at hl 0 rfl) ?_
  refine va_get (D := (dC, dI)) (ci := 16) (v := .int (sI s0.1 3)) (C := RX15) (T := TX15) (N := 28) hx hb hts hi_dm_X15_scanWord_X15 hown hK hP 0 rfl rfl 11 (by decide) (hts (.fieldLink RX15 80 "TimeMachineModel$Conditions" "start" "I") (List.mem_of_getElem? (i := 2) rfl)) (fun _ h9 => h9) rfl dX15_scanWord_5 ?_
  refine lv_isub hx hb dX15_scanWord_8 ?_
  refine lv_topi (fun z1 ez1 => ?_)
  have h := nd_at h ez1
  refine lv_istore_n (lv' := [(1, .int z1), (0, .ref (a 0))]) hx hb dX15_scanWord_9 rfl hl (by decide) rfl (fun ls hl => ?_)
  refine lv_aload_n hx hb dX15_scanWord_10 rfl (lv_at hl 1 rfl) ?_
  refine va_get (D := (dC, dI)) (ci := 16) (v := .ref (a 1)) (C := RX15) (T := TX15) (N := 28) hx hb hts hi_dm_X15_scanWord_X15 hown hK hP 0 rfl rfl 2 (by decide) (hts (.fieldLink RX15 7 "TimeMachineModel$Conditions" "text" "[C") (List.mem_of_getElem? (i := 3) rfl)) (fun _ h9 => h9) rfl dX15_scanWord_11 ?_
  refine lv_aload_n hx hb dX15_scanWord_14 rfl (lv_at hl 1 rfl) ?_
  refine va_get (D := (dC, dI)) (ci := 16) (v := .int (sI s0.1 3)) (C := RX15) (T := TX15) (N := 28) hx hb hts hi_dm_X15_scanWord_X15 hown hK hP 0 rfl rfl 11 (by decide) (hts (.fieldLink RX15 80 "TimeMachineModel$Conditions" "start" "I") (List.mem_of_getElem? (i := 2) rfl)) (fun _ h9 => h9) rfl dX15_scanWord_15 ?_
  obtain ⟨i2, h⟩ := nd_ck_e h
  refine va_cald (i := (sI s0.1 3)) hx hb hK hP 1 0 rfl rfl i2 dX15_scanWord_18 ?_
  refine lv_bipush (v := 120) hx hb dX15_scanWord_19 (by decide) ?_
  refine lv_icmp_ne (tgt := 105) hx hb dX15_scanWord_21 (by decide) (fun c3 => ?_) (fun c3 => ?_)
  · have h := nd_neg h c3
    exact (db_X15_scanWord_105 C K) (z1) s0 _ _ _ h hP hD hS (lv_sub hl [1, 0] rfl)
  · have h := nd_pos h c3
    refine lv_iload_n hx hb dX15_scanWord_24 rfl (lv_at hl 0 rfl) ?_
    refine lv_iconst (v := 2) hx hb dX15_scanWord_25 (by decide) ?_
    refine lv_icmp_ne (tgt := 46) hx hb dX15_scanWord_26 (by decide) (fun c41 => ?_) (fun c41 => ?_)
    · have h := nd_neg h c41
      exact (db_X15_scanWord_46 C K) (z1) s0 _ _ _ h hP hD hS (lv_sub hl [1, 0] rfl)
    · have h := nd_pos h c41
      refine lv_aload_n hx hb dX15_scanWord_29 rfl (lv_at hl 1 rfl) ?_
      refine va_get (D := (dC, dI)) (ci := 16) (v := .ref (a 1)) (C := RX15) (T := TX15) (N := 28) hx hb hts hi_dm_X15_scanWord_X15 hown hK hP 0 rfl rfl 2 (by decide) (hts (.fieldLink RX15 7 "TimeMachineModel$Conditions" "text" "[C") (List.mem_of_getElem? (i := 3) rfl)) (fun _ h9 => h9) rfl dX15_scanWord_30 ?_
      refine lv_aload_n hx hb dX15_scanWord_33 rfl (lv_at hl 1 rfl) ?_
      refine va_get (D := (dC, dI)) (ci := 16) (v := .int (sI s0.1 3)) (C := RX15) (T := TX15) (N := 28) hx hb hts hi_dm_X15_scanWord_X15 hown hK hP 0 rfl rfl 11 (by decide) (hts (.fieldLink RX15 80 "TimeMachineModel$Conditions" "start" "I") (List.mem_of_getElem? (i := 2) rfl)) (fun _ h9 => h9) rfl dX15_scanWord_34 ?_
      refine lv_iconst (v := 1) hx hb dX15_scanWord_37 (by decide) ?_
      refine lv_iadd hx hb dX15_scanWord_38 ?_
      obtain ⟨i55, h⟩ := nd_ck_e h
      refine va_cald (i := ((sI s0.1 3) + 1)) hx hb hK hP 1 0 rfl rfl i55 dX15_scanWord_39 ?_
      obtain ⟨q56, s57, hq, h⟩ := nd_b2_e h
      have hPc : va_P (dC, dI) vwCl (dw_P a ac ()) H := nd_p0
      have hDc : va_D A (dw_P a ac ()) := nd_d0
      have hKc : va_K (dC, dI) vwCl (dk_P ac) s := nd_y0 hK
      have hFc : ∀ q, va_A (dw_P a ac ()) H.size q → A q := nd_r0 hS hA
      refine nd_cSi (As := [.int (sR s0.1 0 (Int32.toNatClampNeg ((sI s0.1 3) + 1)))]) (rest := []) (q := q56) (w' := dw_P a ac s57) ⟨hx, hb, hml, hown, hts⟩ (fun sz => dm_X15_isDigit l hlt dC dI a ac n ((sR s0.1 0 (Int32.toNatClampNeg ((sI s0.1 3) + 1)))) () hq sz) (cwS 1 hts gi_dm_X15_scanWord_1 rfl rfl rfl (by decide +kernel) ⟨Nat.le_of_ble_eq_true rfl, Nat.le_of_ble_eq_true rfl⟩) hPc hDc hKc hS hA hN rfl hl.1 rfl (Nat.le_of_ble_eq_true rfl) dX15_scanWord_40 (fun H locs hP1 hD1 hk1 hS => ?_)
      have hP := nd_n0 hP hk1
      refine lv_if_ne (tgt := 101) hx hb dX15_scanWord_43 (by decide) (fun c59 => ?_) (fun c59 => ?_)
      · have h := nd_neg h c59
        exact (db_X15_scanWord_101 C K) (z1) s0 _ _ _ h hP hD hS (lv_sub hl [1, 0] rfl)
      · have h := nd_pos h c59
        exact (db_X15_scanWord_46 C K) (z1) s0 _ _ _ h hP hD hS (lv_sub hl [1, 0] rfl)
set_option maxHeartbeats 40000000 in
set_option maxRecDepth 100000 in
theorem dm_X15_scanWord (l : Launch) (hlt : l.stackTraces = false) (dC : Nat → ClassId) (dI : Nat → Nat → Nat) (a : Nat → Nat) (ac : Nat → ClassId) (n : Nat) (s0 : St × (St × (St))) {r : St × (St × (St))} (h : df_X15_scanWord n s0 = some r) (sz : Nat) : Met l yX15_scanWord ow_dm_X15_scanWord ({ frames := 1, cells := 0, slots := 0, locals := 27 }) (va_Pc [.ref (a 0)] (fun U => U.heap.size = sz ∧ va_P (dC, dI) vwCl (dw_X15 a ac s0) U.heap ∧ va_K (dC, dI) vwCl (dk_X15 ac) U ∧ va_D (fun _ => True) (dw_X15 a ac s0) ∧ nv_E (va_A (dw_X15 a ac s0) sz) U)) (va_Qv (fun _ => True) (fun (_ : Unit) t => va_P (dC, dI) vwCl (dw_X15 a ac r) t.heap ∧ va_K (dC, dI) vwCl (dk_X15 ac) t ∧ va_D (va_A (dw_X15 a ac s0) sz) (dw_X15 a ac r)) (va_A (dw_X15 a ac s0) sz)) 0 0 (va_A (dw_X15 a ac s0) sz) := by
  refine Met.ofW (cc := cX15_scanWord) (maxL := 3) (ret := none) (by decide) rfl ?_
  intro p e s m args below meth c s₁ B hml hv
  obtain ⟨rfl, hsz, hP, hK, hD0, hN⟩ := hv
  have hx := B.exec
  have hb := B.bytes
  have hr := B.returns
  have hts := atoms_spec (ws := ow_dm_X15_scanWord) B.pre
  have hown : s.vm.findClass RX15 = some m.cls := findClass_of_methodNamed B.named
  have hlocks := B.notSynchronized
  subst hsz
  have hD := hD0.self (sz := s.heap.size)
  generalize hAe : va_A (dw_X15 a ac s0) s.heap.size = A at hD hN ⊢
  have hA : ∀ q : Nat, s.heap.size ≤ q → A q := fun q h => by rw [← hAe]; exact Or.inr h
  have hl := lv_entry ([.ref (a 0)]) (n := 3) (Nat.le_of_ble_eq_true rfl)
  rw [lg_entry_eq]
  generalize (lg_sl ([.ref (a 0)]) ++ List.replicate (3 - (lg_sl ([.ref (a 0)])).length) Slot.unset).toArray = ls at hl ⊢
  have hl : lv_has ls 3 [(0, .ref (a 0))] := hl
  exact db_X15_scanWord_0 (dC := dC) (dI := dI) (a := a) (ac := ac) (n := n) (r := r) ⟨hlt, hx, hb, hml, hown, hts, hN, hA, hK⟩ (fun pc τ H locs ls d er hP hD hS => by subst er; exact W.vret hx hb hr (fun t ht hW => ⟨⟨(), rfl, trivial, by rw [ht]; exact hP, va_K.moved hW.alike hK, hD⟩, hS.F ht⟩) hS.2.2 d) s0 _ _ _ h hP hD va_S.rf (lv_sub hl [0] rfl)
def ow_dm_X15_scanNumber : List Cond := .code yX15_scanNumber cX15_scanNumber 5 none :: ([.fieldLink RX15 73 "TimeMachineModel$Conditions" "at" "I", .fieldLink RX15 80 "TimeMachineModel$Conditions" "start" "I", .fieldLink RX15 92 "TimeMachineModel$Conditions" "token" "I", .fieldLink RX15 95 "TimeMachineModel$Conditions" "tokenValue" "J", .fieldLink RX15 7 "TimeMachineModel$Conditions" "text" "[C", .methodLink RX15 69 yX15_isDigit, .static yX15_isDigit, .initialized RX15, .constantLong RX15 101 (10), .constantLong RX15 103 (4294967296), .constantLong RX15 99 (16)] ++ (u_ws RX15 TX15 28 ++ (ow_dm_X15_isDigit ++ [])))
theorem gd_dm_X15_scanNumber : ∀ w ∈ ow_dm_X15_scanNumber, (w.onTables && w.keeps) = true ∨ ∃ ty, w = Cond.arrayClass ty := List.forall_mem_cons.mpr ⟨good_of_word rfl, List.forall_mem_append.mpr ⟨fun w h => good_of_word (List.all_eq_true.mp (by decide +kernel) w h), List.forall_mem_append.mpr ⟨gu_X15, List.forall_mem_append.mpr ⟨gd_dm_X15_isDigit, fun _ h => nomatch h⟩⟩⟩⟩
theorem hi_dm_X15_scanNumber_X15 : ∀ w ∈ u_ws RX15 TX15 28, w ∈ ow_dm_X15_scanNumber := fun w h => List.mem_cons_of_mem _ (List.mem_append_right _ (List.mem_append_left _ h))
theorem gi_dm_X15_scanNumber_0 : GoodIn ow_dm_X15_scanNumber (wsS RX15 69 yX15_isDigit ow_dm_X15_isDigit) := goodIn_app (goodIn_of _ (by decide +kernel)) (fun w h => ⟨List.mem_cons_of_mem _ (List.mem_append_right _ (List.mem_append_right _ (List.mem_append_left _ h))), gd_dm_X15_isDigit w h⟩)
def dj_X15_scanNumber_204 (p : Program) (l : Launch) (e : Env) (s : State) (m : MethodId) (args : Array Value) (below : List Frame) (meth : Method) (c : Code) (Q : State → Prop) (A : Nat → Prop) (dC : Nat → ClassId) (dI : Nat → Nat → Nat) (a : Nat → Nat) (ac : Nat → ClassId) (g : Int32 → Int32 → Int64 → (St × (St × (St))) → Option (St × (St × (St)))) (r : St × (St × (St))) : Prop := ∀ (x1 : Int32) (x2 : Int32) (y1 : Int64) (s0 : St × (St × (St))) (H : Heap) (locs : List Loc) (ls : Array Slot), g x1 x2 y1 s0 = some r → va_P (dC, dI) vwCl (dw_X15 a ac s0) H → va_D A (dw_X15 a ac s0) → va_S A s.heap H locs → lv_has ls 5 [(0, .ref (a 0)), (1, .int x1), (2, .int x2)] → W p l e (headSpec ow_dm_X15_scanNumber ({ frames := 1, cells := 0, slots := 0, locals := 20 })).room s m args below meth c H locs 0 0 Q (F0 m 204 ls [.long y1, .ref (a 0)])
def dj_X15_scanNumber_186 (p : Program) (l : Launch) (e : Env) (s : State) (m : MethodId) (args : Array Value) (below : List Frame) (meth : Method) (c : Code) (Q : State → Prop) (A : Nat → Prop) (dC : Nat → ClassId) (dI : Nat → Nat → Nat) (a : Nat → Nat) (ac : Nat → ClassId) (g : Int32 → Int32 → (St × (St × (St))) → Option (St × (St × (St)))) (r : St × (St × (St))) : Prop := ∀ (x1 : Int32) (x2 : Int32) (s0 : St × (St × (St))) (H : Heap) (locs : List Loc) (ls : Array Slot), g x1 x2 s0 = some r → va_P (dC, dI) vwCl (dw_X15 a ac s0) H → va_D A (dw_X15 a ac s0) → va_S A s.heap H locs → lv_has ls 5 [(0, .ref (a 0)), (1, .int x1), (2, .int x2)] → W p l e (headSpec ow_dm_X15_scanNumber ({ frames := 1, cells := 0, slots := 0, locals := 20 })).room s m args below meth c H locs 0 0 Q (F0 m 186 ls [])
def dj_X15_scanNumber_180 (p : Program) (l : Launch) (e : Env) (s : State) (m : MethodId) (args : Array Value) (below : List Frame) (meth : Method) (c : Code) (Q : State → Prop) (A : Nat → Prop) (dC : Nat → ClassId) (dI : Nat → Nat → Nat) (a : Nat → Nat) (ac : Nat → ClassId) (g : Int32 → Int32 → (St × (St × (St))) → Option (St × (St × (St)))) (r : St × (St × (St))) : Prop := ∀ (x1 : Int32) (x2 : Int32) (s0 : St × (St × (St))) (H : Heap) (locs : List Loc) (ls : Array Slot), g x1 x2 s0 = some r → va_P (dC, dI) vwCl (dw_X15 a ac s0) H → va_D A (dw_X15 a ac s0) → va_S A s.heap H locs → lv_has ls 5 [(0, .ref (a 0)), (1, .int x1), (2, .int x2)] → W p l e (headSpec ow_dm_X15_scanNumber ({ frames := 1, cells := 0, slots := 0, locals := 20 })).room s m args below meth c H locs 0 0 Q (F0 m 180 ls [])
def dj_X15_scanNumber_154 (p : Program) (l : Launch) (e : Env) (s : State) (m : MethodId) (args : Array Value) (below : List Frame) (meth : Method) (c : Code) (Q : State → Prop) (A : Nat → Prop) (dC : Nat → ClassId) (dI : Nat → Nat → Nat) (a : Nat → Nat) (ac : Nat → ClassId) (g : Int32 → Int32 → Int32 → Int64 → Int64 → (St × (St × (St))) → Option (St × (St × (St)))) (r : St × (St × (St))) : Prop := ∀ (x1 : Int32) (x2 : Int32) (x4 : Int32) (y1 : Int64) (y2 : Int64) (s0 : St × (St × (St))) (H : Heap) (locs : List Loc) (ls : Array Slot), g x1 x2 x4 y1 y2 s0 = some r → va_P (dC, dI) vwCl (dw_X15 a ac s0) H → va_D A (dw_X15 a ac s0) → va_S A s.heap H locs → lv_has ls 5 [(0, .ref (a 0)), (1, .int x1), (2, .int x2), (4, .int x4)] → W p l e (headSpec ow_dm_X15_scanNumber ({ frames := 1, cells := 0, slots := 0, locals := 20 })).room s m args below meth c H locs 0 0 Q (F0 m 154 ls [.long y2, .long y1, .ref (a 0)])
def dj_X15_scanNumber_134 (p : Program) (l : Launch) (e : Env) (s : State) (m : MethodId) (args : Array Value) (below : List Frame) (meth : Method) (c : Code) (Q : State → Prop) (A : Nat → Prop) (dC : Nat → ClassId) (dI : Nat → Nat → Nat) (a : Nat → Nat) (ac : Nat → ClassId) (g : Int32 → Int32 → Int32 → (St × (St × (St))) → Option (St × (St × (St)))) (r : St × (St × (St))) : Prop := ∀ (x1 : Int32) (x2 : Int32) (y0 : Int32) (s0 : St × (St × (St))) (H : Heap) (locs : List Loc) (ls : Array Slot), g x1 x2 y0 s0 = some r → va_P (dC, dI) vwCl (dw_X15 a ac s0) H → va_D A (dw_X15 a ac s0) → va_S A s.heap H locs → lv_has ls 5 [(0, .ref (a 0)), (1, .int x1), (2, .int x2)] → W p l e (headSpec ow_dm_X15_scanNumber ({ frames := 1, cells := 0, slots := 0, locals := 20 })).room s m args below meth c H locs 0 0 Q (F0 m 134 ls [.int y0])
def dj_X15_scanNumber_132 (p : Program) (l : Launch) (e : Env) (s : State) (m : MethodId) (args : Array Value) (below : List Frame) (meth : Method) (c : Code) (Q : State → Prop) (A : Nat → Prop) (dC : Nat → ClassId) (dI : Nat → Nat → Nat) (a : Nat → Nat) (ac : Nat → ClassId) (g : Int32 → Int32 → (St × (St × (St))) → Option (St × (St × (St)))) (r : St × (St × (St))) : Prop := ∀ (x1 : Int32) (x2 : Int32) (s0 : St × (St × (St))) (H : Heap) (locs : List Loc) (ls : Array Slot), g x1 x2 s0 = some r → va_P (dC, dI) vwCl (dw_X15 a ac s0) H → va_D A (dw_X15 a ac s0) → va_S A s.heap H locs → lv_has ls 5 [(0, .ref (a 0)), (1, .int x1), (2, .int x2)] → W p l e (headSpec ow_dm_X15_scanNumber ({ frames := 1, cells := 0, slots := 0, locals := 20 })).room s m args below meth c H locs 0 0 Q (F0 m 132 ls [])
def dj_X15_scanNumber_77 (p : Program) (l : Launch) (e : Env) (s : State) (m : MethodId) (args : Array Value) (below : List Frame) (meth : Method) (c : Code) (Q : State → Prop) (A : Nat → Prop) (dC : Nat → ClassId) (dI : Nat → Nat → Nat) (a : Nat → Nat) (ac : Nat → ClassId) (g : Int32 → Int32 → (St × (St × (St))) → Option (St × (St × (St)))) (r : St × (St × (St))) : Prop := ∀ (x1 : Int32) (x2 : Int32) (s0 : St × (St × (St))) (H : Heap) (locs : List Loc) (ls : Array Slot), g x1 x2 s0 = some r → va_P (dC, dI) vwCl (dw_X15 a ac s0) H → va_D A (dw_X15 a ac s0) → va_S A s.heap H locs → lv_has ls 5 [(0, .ref (a 0)), (1, .int x1), (2, .int x2)] → W p l e (headSpec ow_dm_X15_scanNumber ({ frames := 1, cells := 0, slots := 0, locals := 20 })).room s m args below meth c H locs 0 0 Q (F0 m 77 ls [])
def dj_X15_scanNumber_76 (p : Program) (l : Launch) (e : Env) (s : State) (m : MethodId) (args : Array Value) (below : List Frame) (meth : Method) (c : Code) (Q : State → Prop) (A : Nat → Prop) (dC : Nat → ClassId) (dI : Nat → Nat → Nat) (a : Nat → Nat) (ac : Nat → ClassId) (g : Int32 → Int32 → (St × (St × (St))) → Option (St × (St × (St)))) (r : St × (St × (St))) : Prop := ∀ (x1 : Int32) (y0 : Int32) (s0 : St × (St × (St))) (H : Heap) (locs : List Loc) (ls : Array Slot), g x1 y0 s0 = some r → va_P (dC, dI) vwCl (dw_X15 a ac s0) H → va_D A (dw_X15 a ac s0) → va_S A s.heap H locs → lv_has ls 5 [(0, .ref (a 0)), (1, .int x1)] → W p l e (headSpec ow_dm_X15_scanNumber ({ frames := 1, cells := 0, slots := 0, locals := 20 })).room s m args below meth c H locs 0 0 Q (F0 m 76 ls [.int y0])
def dj_X15_scanNumber_48 (p : Program) (l : Launch) (e : Env) (s : State) (m : MethodId) (args : Array Value) (below : List Frame) (meth : Method) (c : Code) (Q : State → Prop) (A : Nat → Prop) (dC : Nat → ClassId) (dI : Nat → Nat → Nat) (a : Nat → Nat) (ac : Nat → ClassId) (g : Int32 → (St × (St × (St))) → Option (St × (St × (St)))) (r : St × (St × (St))) : Prop := ∀ (y0 : Int32) (s0 : St × (St × (St))) (H : Heap) (locs : List Loc) (ls : Array Slot), g y0 s0 = some r → va_P (dC, dI) vwCl (dw_X15 a ac s0) H → va_D A (dw_X15 a ac s0) → va_S A s.heap H locs → lv_has ls 5 [(0, .ref (a 0))] → W p l e (headSpec ow_dm_X15_scanNumber ({ frames := 1, cells := 0, slots := 0, locals := 20 })).room s m args below meth c H locs 0 0 Q (F0 m 48 ls [.int y0])
def dj_X15_scanNumber_47 (p : Program) (l : Launch) (e : Env) (s : State) (m : MethodId) (args : Array Value) (below : List Frame) (meth : Method) (c : Code) (Q : State → Prop) (A : Nat → Prop) (dC : Nat → ClassId) (dI : Nat → Nat → Nat) (a : Nat → Nat) (ac : Nat → ClassId) (g : (St × (St × (St))) → Option (St × (St × (St)))) (r : St × (St × (St))) : Prop := ∀ (s0 : St × (St × (St))) (H : Heap) (locs : List Loc) (ls : Array Slot), g s0 = some r → va_P (dC, dI) vwCl (dw_X15 a ac s0) H → va_D A (dw_X15 a ac s0) → va_S A s.heap H locs → lv_has ls 5 [(0, .ref (a 0))] → W p l e (headSpec ow_dm_X15_scanNumber ({ frames := 1, cells := 0, slots := 0, locals := 20 })).room s m args below meth c H locs 0 0 Q (F0 m 47 ls [])
def dj_X15_scanNumber_0 (p : Program) (l : Launch) (e : Env) (s : State) (m : MethodId) (args : Array Value) (below : List Frame) (meth : Method) (c : Code) (Q : State → Prop) (A : Nat → Prop) (dC : Nat → ClassId) (dI : Nat → Nat → Nat) (a : Nat → Nat) (ac : Nat → ClassId) (g : (St × (St × (St))) → Option (St × (St × (St)))) (r : St × (St × (St))) : Prop := ∀ (s0 : St × (St × (St))) (H : Heap) (locs : List Loc) (ls : Array Slot), g s0 = some r → va_P (dC, dI) vwCl (dw_X15 a ac s0) H → va_D A (dw_X15 a ac s0) → va_S A s.heap H locs → lv_has ls 5 [(0, .ref (a 0))] → W p l e (headSpec ow_dm_X15_scanNumber ({ frames := 1, cells := 0, slots := 0, locals := 20 })).room s m args below meth c H locs 0 0 Q (F0 m 0 ls [])
set_option maxHeartbeats 40000000 in
set_option maxRecDepth 100000 in
theorem db_X15_scanNumber_204 {p : Program} {l : Launch} {e : Env} {s : State} {m : MethodId} {args : Array Value} {below : List Frame} {meth : Method} {c : Code} {Q : State → Prop} {A : Nat → Prop} {dC : Nat → ClassId} {dI : Nat → Nat → Nat} {a : Nat → Nat} {ac : Nat → ClassId} {n : Nat} {r : St × (St × (St))} (C : nd_C p l s m args c A (dC, dI) cX15_scanNumber 5 RX15 ow_dm_X15_scanNumber (dk_X15 ac)) (K : nd_Kv p l e (headSpec ow_dm_X15_scanNumber ({ frames := 1, cells := 0, slots := 0, locals := 20 })).room s m args below meth c Q A (dC, dI) cX15_scanNumber (St × (St × (St))) (dw_X15 a ac) r) {g77 : Int32 → Int32 → (St × (St × (St))) → Option (St × (St × (St)))} (J77 : dj_X15_scanNumber_77 p l e s m args below meth c Q A dC dI a ac g77 r) : dj_X15_scanNumber_204 p l e s m args below meth c Q A dC dI a ac (df_X15_scanNumber_204 n g77) r := by
  obtain ⟨hlt, hx, hb, hml, hown, hts, hN, hA, hK⟩ := id C
  intro x1 x2 y1 s0 H locs ls h hP hD hS hl
  unfold df_X15_scanNumber_204 at h
  refine va_put (D := (dC, dI)) (ci := 16) (v := .long y1) (ty := .long) (C := RX15) (T := TX15) (N := 28) hx hb hts hi_dm_X15_scanNumber_X15 tyX15 tyX15_ok nmX15 hown hK hP hD hS 0 rfl rfl 15 (by decide) (hts (.fieldLink RX15 95 "TimeMachineModel$Conditions" "tokenValue" "J") (List.mem_of_getElem? (i := 4) rfl)) (fun _ h9 => h9) rfl (by decide +kernel) rfl rfl (Nat.le_of_ble_eq_true rfl) dX15_scanNumber_204 (fun H locs hP hD hS => ?_)
  obtain ⟨s18, es18, h⟩ := nd_let_e h
  have hP : va_P (dC, dI) vwCl (dw_X15 a ac s18) H := by rw [es18]; exact hP
  have hD : va_D A (dw_X15 a ac s18) := by rw [es18]; exact hD
  obtain ⟨z19, ez19, h⟩ := nd_let_e h
  refine lv_iinc (v := z19) (lv' := [(2, .int z19), (0, .ref (a 0)), (1, .int x1)]) hx hb dX15_scanNumber_207 hl (k := 2) rfl (by rw [ez19]) (by decide) rfl (fun ls hl => ?_)
  refine lv_goto (tgt := 77) hx hb dX15_scanNumber_210 (by decide) ?_
  exact (J77) (x1) (z19) s18 _ _ _ h hP hD hS (lv_sub hl [1, 2, 0] rfl)
set_option maxHeartbeats 40000000 in
set_option maxRecDepth 100000 in
theorem db_X15_scanNumber_186 {p : Program} {l : Launch} {e : Env} {s : State} {m : MethodId} {args : Array Value} {below : List Frame} {meth : Method} {c : Code} {Q : State → Prop} {A : Nat → Prop} {dC : Nat → ClassId} {dI : Nat → Nat → Nat} {a : Nat → Nat} {ac : Nat → ClassId} {n : Nat} {r : St × (St × (St))} (C : nd_C p l s m args c A (dC, dI) cX15_scanNumber 5 RX15 ow_dm_X15_scanNumber (dk_X15 ac)) (K : nd_Kv p l e (headSpec ow_dm_X15_scanNumber ({ frames := 1, cells := 0, slots := 0, locals := 20 })).room s m args below meth c Q A (dC, dI) cX15_scanNumber (St × (St × (St))) (dw_X15 a ac) r) {g77 : Int32 → Int32 → (St × (St × (St))) → Option (St × (St × (St)))} (J77 : dj_X15_scanNumber_77 p l e s m args below meth c Q A dC dI a ac g77 r) : dj_X15_scanNumber_186 p l e s m args below meth c Q A dC dI a ac (df_X15_scanNumber_186 n g77) r := by
  obtain ⟨hlt, hx, hb, hml, hown, hts, hN, hA, hK⟩ := id C
  intro x1 x2 s0 H locs ls h hP hD hS hl
  unfold df_X15_scanNumber_186 at h
  refine lv_aload_n hx hb dX15_scanNumber_186 rfl (lv_at hl 0 rfl) ?_
  refine lv_aload_n hx hb dX15_scanNumber_187 rfl (lv_at hl 0 rfl) ?_
  refine va_get (D := (dC, dI)) (ci := 16) (v := .int (sI s0.1 2)) (C := RX15) (T := TX15) (N := 28) hx hb hts hi_dm_X15_scanNumber_X15 hown hK hP 0 rfl rfl 10 (by decide) (hts (.fieldLink RX15 92 "TimeMachineModel$Conditions" "token" "I") (List.mem_of_getElem? (i := 3) rfl)) (fun _ h9 => h9) rfl dX15_scanNumber_188 ?_
  refine lv_bipush (v := 34) hx hb dX15_scanNumber_191 (by decide) ?_
  refine lv_icmp_ne (tgt := 200) hx hb dX15_scanNumber_193 (by decide) (fun c17 => ?_) (fun c17 => ?_)
  · have h := nd_neg h c17
    refine lv_aload_n hx hb dX15_scanNumber_200 rfl (lv_at hl 0 rfl) ?_
    refine va_get (D := (dC, dI)) (ci := 16) (v := .long (sL s0.1 0)) (C := RX15) (T := TX15) (N := 28) hx hb hts hi_dm_X15_scanNumber_X15 hown hK hP 0 rfl rfl 15 (by decide) (hts (.fieldLink RX15 95 "TimeMachineModel$Conditions" "tokenValue" "J") (List.mem_of_getElem? (i := 4) rfl)) (fun _ h9 => h9) rfl dX15_scanNumber_201 ?_
    exact (db_X15_scanNumber_204 C K J77) (x1) (x2) ((sL s0.1 0)) s0 _ _ _ h hP hD hS (lv_sub hl [0, 1, 2] rfl)
  · have h := nd_pos h c17
    refine lv_lconst (v := 0) hx hb dX15_scanNumber_196 (by decide) ?_
    refine lv_goto (tgt := 204) hx hb dX15_scanNumber_197 (by decide) ?_
    exact (db_X15_scanNumber_204 C K J77) (x1) (x2) (0) s0 _ _ _ h hP hD hS (lv_sub hl [0, 1, 2] rfl)
set_option maxHeartbeats 40000000 in
set_option maxRecDepth 100000 in
theorem db_X15_scanNumber_180 {p : Program} {l : Launch} {e : Env} {s : State} {m : MethodId} {args : Array Value} {below : List Frame} {meth : Method} {c : Code} {Q : State → Prop} {A : Nat → Prop} {dC : Nat → ClassId} {dI : Nat → Nat → Nat} {a : Nat → Nat} {ac : Nat → ClassId} {n : Nat} {r : St × (St × (St))} (C : nd_C p l s m args c A (dC, dI) cX15_scanNumber 5 RX15 ow_dm_X15_scanNumber (dk_X15 ac)) (K : nd_Kv p l e (headSpec ow_dm_X15_scanNumber ({ frames := 1, cells := 0, slots := 0, locals := 20 })).room s m args below meth c Q A (dC, dI) cX15_scanNumber (St × (St × (St))) (dw_X15 a ac) r) {g77 : Int32 → Int32 → (St × (St × (St))) → Option (St × (St × (St)))} (J77 : dj_X15_scanNumber_77 p l e s m args below meth c Q A dC dI a ac g77 r) : dj_X15_scanNumber_180 p l e s m args below meth c Q A dC dI a ac (df_X15_scanNumber_180 n g77) r := by
  obtain ⟨hlt, hx, hb, hml, hown, hts, hN, hA, hK⟩ := id C
  intro x1 x2 s0 H locs ls h hP hD hS hl
  unfold df_X15_scanNumber_180 at h
  refine lv_aload_n hx hb dX15_scanNumber_180 rfl (lv_at hl 0 rfl) ?_
  refine lv_bipush (v := 34) hx hb dX15_scanNumber_181 (by decide) ?_
  refine va_put (D := (dC, dI)) (ci := 16) (v := .int 34) (ty := .int) (C := RX15) (T := TX15) (N := 28) hx hb hts hi_dm_X15_scanNumber_X15 tyX15 tyX15_ok nmX15 hown hK hP hD hS 0 rfl rfl 10 (by decide) (hts (.fieldLink RX15 92 "TimeMachineModel$Conditions" "token" "I") (List.mem_of_getElem? (i := 3) rfl)) (fun _ h9 => h9) rfl (by decide +kernel) rfl rfl (Nat.le_of_ble_eq_true rfl) dX15_scanNumber_183 (fun H locs hP hD hS => ?_)
  obtain ⟨s16, es16, h⟩ := nd_let_e h
  have hP : va_P (dC, dI) vwCl (dw_X15 a ac s16) H := by rw [es16]; exact hP
  have hD : va_D A (dw_X15 a ac s16) := by rw [es16]; exact hD
  exact (db_X15_scanNumber_186 C K J77) (x1) (x2) s16 _ _ _ h hP hD hS (lv_sub hl [0, 1, 2] rfl)
set_option maxHeartbeats 40000000 in
set_option maxRecDepth 100000 in
theorem db_X15_scanNumber_154 {p : Program} {l : Launch} {e : Env} {s : State} {m : MethodId} {args : Array Value} {below : List Frame} {meth : Method} {c : Code} {Q : State → Prop} {A : Nat → Prop} {dC : Nat → ClassId} {dI : Nat → Nat → Nat} {a : Nat → Nat} {ac : Nat → ClassId} {n : Nat} {r : St × (St × (St))} (C : nd_C p l s m args c A (dC, dI) cX15_scanNumber 5 RX15 ow_dm_X15_scanNumber (dk_X15 ac)) (K : nd_Kv p l e (headSpec ow_dm_X15_scanNumber ({ frames := 1, cells := 0, slots := 0, locals := 20 })).room s m args below meth c Q A (dC, dI) cX15_scanNumber (St × (St × (St))) (dw_X15 a ac) r) {g77 : Int32 → Int32 → (St × (St × (St))) → Option (St × (St × (St)))} (J77 : dj_X15_scanNumber_77 p l e s m args below meth c Q A dC dI a ac g77 r) : dj_X15_scanNumber_154 p l e s m args below meth c Q A dC dI a ac (df_X15_scanNumber_154 n g77) r := by
  obtain ⟨hlt, hx, hb, hml, hown, hts, hN, hA, hK⟩ := id C
  intro x1 x2 x4 y1 y2 s0 H locs ls h hP hD hS hl
  unfold df_X15_scanNumber_154 at h
  refine lv_lmul hx hb dX15_scanNumber_154 ?_
  refine lv_iload hx hb dX15_scanNumber_155 (lv_at hl 3 rfl) ?_
  refine lv_i2l hx hb dX15_scanNumber_157 rfl ?_
  refine lv_ladd hx hb dX15_scanNumber_158 ?_
  refine va_put (D := (dC, dI)) (ci := 16) (v := .long ((((y1 : Int64) * y2) : Int64) + (x4.toInt64))) (ty := .long) (C := RX15) (T := TX15) (N := 28) hx hb hts hi_dm_X15_scanNumber_X15 tyX15 tyX15_ok nmX15 hown hK hP hD hS 0 rfl rfl 15 (by decide) (hts (.fieldLink RX15 95 "TimeMachineModel$Conditions" "tokenValue" "J") (List.mem_of_getElem? (i := 4) rfl)) (fun _ h9 => h9) rfl (by decide +kernel) rfl rfl (Nat.le_of_ble_eq_true rfl) dX15_scanNumber_159 (fun H locs hP hD hS => ?_)
  obtain ⟨s14, es14, h⟩ := nd_let_e h
  have hP : va_P (dC, dI) vwCl (dw_X15 a ac s14) H := by rw [es14]; exact hP
  have hD : va_D A (dw_X15 a ac s14) := by rw [es14]; exact hD
  refine lv_iload hx hb dX15_scanNumber_162 (lv_at hl 3 rfl) ?_
  refine lv_bipush (v := 99) hx hb dX15_scanNumber_164 (by decide) ?_
  refine lv_icmp_eq (tgt := 180) hx hb dX15_scanNumber_166 (by decide) (fun c15 => ?_) (fun c15 => ?_)
  · have h := nd_pos h c15
    exact (db_X15_scanNumber_180 C K J77) (x1) (x2) s14 _ _ _ h hP hD hS (lv_sub hl [0, 1, 2] rfl)
  · have h := nd_neg h c15
    refine lv_aload_n hx hb dX15_scanNumber_169 rfl (lv_at hl 0 rfl) ?_
    refine va_get (D := (dC, dI)) (ci := 16) (v := .long (sL s14.1 0)) (C := RX15) (T := TX15) (N := 28) hx hb hts hi_dm_X15_scanNumber_X15 hown hK hP 0 rfl rfl 15 (by decide) (hts (.fieldLink RX15 95 "TimeMachineModel$Conditions" "tokenValue" "J") (List.mem_of_getElem? (i := 4) rfl)) (fun _ h9 => h9) rfl dX15_scanNumber_170 ?_
    refine lv_ldc2 hx hb hown (hts (.constantLong RX15 103 (4294967296)) (List.mem_of_getElem? (i := 10) rfl)) dX15_scanNumber_173 ?_
    refine W.lcmp hx hb dX15_scanNumber_176 ?_
    refine lv_if_lt (tgt := 186) hx hb dX15_scanNumber_177 (by decide) (fun c20 => ?_) (fun c20 => ?_)
    · have h := nd_pos h c20
      exact (db_X15_scanNumber_186 C K J77) (x1) (x2) s14 _ _ _ h hP hD hS (lv_sub hl [0, 1, 2] rfl)
    · have h := nd_neg h c20
      exact (db_X15_scanNumber_180 C K J77) (x1) (x2) s14 _ _ _ h hP hD hS (lv_sub hl [0, 1, 2] rfl)
set_option maxHeartbeats 40000000 in
set_option maxRecDepth 100000 in
theorem db_X15_scanNumber_134 {p : Program} {l : Launch} {e : Env} {s : State} {m : MethodId} {args : Array Value} {below : List Frame} {meth : Method} {c : Code} {Q : State → Prop} {A : Nat → Prop} {dC : Nat → ClassId} {dI : Nat → Nat → Nat} {a : Nat → Nat} {ac : Nat → ClassId} {n : Nat} {r : St × (St × (St))} (C : nd_C p l s m args c A (dC, dI) cX15_scanNumber 5 RX15 ow_dm_X15_scanNumber (dk_X15 ac)) (K : nd_Kv p l e (headSpec ow_dm_X15_scanNumber ({ frames := 1, cells := 0, slots := 0, locals := 20 })).room s m args below meth c Q A (dC, dI) cX15_scanNumber (St × (St × (St))) (dw_X15 a ac) r) {g77 : Int32 → Int32 → (St × (St × (St))) → Option (St × (St × (St)))} (J77 : dj_X15_scanNumber_77 p l e s m args below meth c Q A dC dI a ac g77 r) : dj_X15_scanNumber_134 p l e s m args below meth c Q A dC dI a ac (df_X15_scanNumber_134 n g77) r := by
  obtain ⟨hlt, hx, hb, hml, hown, hts, hN, hA, hK⟩ := id C
  intro x1 x2 y0 s0 H locs ls h hP hD hS hl
  unfold df_X15_scanNumber_134 at h
  refine lv_istore (lv' := [(4, .int y0), (0, .ref (a 0)), (1, .int x1), (2, .int x2)]) hx hb dX15_scanNumber_134 hl (by decide) rfl (fun ls hl => ?_)
  refine lv_aload_n hx hb dX15_scanNumber_136 rfl (lv_at hl 1 rfl) ?_
  refine lv_aload_n hx hb dX15_scanNumber_137 rfl (lv_at hl 1 rfl) ?_
  refine va_get (D := (dC, dI)) (ci := 16) (v := .long (sL s0.1 0)) (C := RX15) (T := TX15) (N := 28) hx hb hts hi_dm_X15_scanNumber_X15 hown hK hP 0 rfl rfl 15 (by decide) (hts (.fieldLink RX15 95 "TimeMachineModel$Conditions" "tokenValue" "J") (List.mem_of_getElem? (i := 4) rfl)) (fun _ h9 => h9) rfl dX15_scanNumber_138 ?_
  refine lv_iload_n hx hb dX15_scanNumber_141 rfl (lv_at hl 2 rfl) ?_
  refine lv_if_eq (tgt := 151) hx hb dX15_scanNumber_142 (by decide) (fun c13 => ?_) (fun c13 => ?_)
  · have h := nd_pos h c13
    refine lv_ldc2 hx hb hown (hts (.constantLong RX15 101 (10)) (List.mem_of_getElem? (i := 9) rfl)) dX15_scanNumber_151 ?_
    exact (db_X15_scanNumber_154 C K J77) (x1) (x2) (y0) ((sL s0.1 0)) (10) s0 _ _ _ h hP hD hS (lv_sub hl [1, 2, 3, 0] rfl)
  · have h := nd_neg h c13
    refine lv_ldc2 hx hb hown (hts (.constantLong RX15 99 (16)) (List.mem_of_getElem? (i := 11) rfl)) dX15_scanNumber_145 ?_
    refine lv_goto (tgt := 154) hx hb dX15_scanNumber_148 (by decide) ?_
    exact (db_X15_scanNumber_154 C K J77) (x1) (x2) (y0) ((sL s0.1 0)) (16) s0 _ _ _ h hP hD hS (lv_sub hl [1, 2, 3, 0] rfl)
set_option maxHeartbeats 40000000 in
set_option maxRecDepth 100000 in
theorem db_X15_scanNumber_132 {p : Program} {l : Launch} {e : Env} {s : State} {m : MethodId} {args : Array Value} {below : List Frame} {meth : Method} {c : Code} {Q : State → Prop} {A : Nat → Prop} {dC : Nat → ClassId} {dI : Nat → Nat → Nat} {a : Nat → Nat} {ac : Nat → ClassId} {n : Nat} {r : St × (St × (St))} (C : nd_C p l s m args c A (dC, dI) cX15_scanNumber 5 RX15 ow_dm_X15_scanNumber (dk_X15 ac)) (K : nd_Kv p l e (headSpec ow_dm_X15_scanNumber ({ frames := 1, cells := 0, slots := 0, locals := 20 })).room s m args below meth c Q A (dC, dI) cX15_scanNumber (St × (St × (St))) (dw_X15 a ac) r) {g77 : Int32 → Int32 → (St × (St × (St))) → Option (St × (St × (St)))} (J77 : dj_X15_scanNumber_77 p l e s m args below meth c Q A dC dI a ac g77 r) : dj_X15_scanNumber_132 p l e s m args below meth c Q A dC dI a ac (df_X15_scanNumber_132 n g77) r := by
  obtain ⟨hlt, hx, hb, hml, hown, hts, hN, hA, hK⟩ := id C
  intro x1 x2 s0 H locs ls h hP hD hS hl
  unfold df_X15_scanNumber_132 at h
  refine lv_bipush (v := 99) hx hb dX15_scanNumber_132 (by decide) ?_
  exact (db_X15_scanNumber_134 C K J77) (x1) (x2) (99) s0 _ _ _ h hP hD hS (lv_sub hl [0, 1, 2] rfl)
set_option maxHeartbeats 40000000 in
set_option maxRecDepth 100000 in
theorem dB_X15_scanNumber_77 {p : Program} {l : Launch} {e : Env} {s : State} {m : MethodId} {args : Array Value} {below : List Frame} {meth : Method} {c : Code} {Q : State → Prop} {A : Nat → Prop} {dC : Nat → ClassId} {dI : Nat → Nat → Nat} {a : Nat → Nat} {ac : Nat → ClassId} {n : Nat} {r : St × (St × (St))} (C : nd_C p l s m args c A (dC, dI) cX15_scanNumber 5 RX15 ow_dm_X15_scanNumber (dk_X15 ac)) (K : nd_Kv p l e (headSpec ow_dm_X15_scanNumber ({ frames := 1, cells := 0, slots := 0, locals := 20 })).room s m args below meth c Q A (dC, dI) cX15_scanNumber (St × (St × (St))) (dw_X15 a ac) r) {g77 : Int32 → Int32 → (St × (St × (St))) → Option (St × (St × (St)))} (J77 : dj_X15_scanNumber_77 p l e s m args below meth c Q A dC dI a ac g77 r) : dj_X15_scanNumber_77 p l e s m args below meth c Q A dC dI a ac (dF_X15_scanNumber_77 n g77) r := by
  obtain ⟨hlt, hx, hb, hml, hown, hts, hN, hA, hK⟩ := id C
  intro x1 x2 s0 H locs ls h hP hD hS hl
  unfold dF_X15_scanNumber_77 at h
  refine lv_iload_n hx hb dX15_scanNumber_77 rfl (lv_at hl 2 rfl) ?_
  refine lv_aload_n hx hb dX15_scanNumber_78 rfl (lv_at hl 0 rfl) ?_
  refine va_get (D := (dC, dI)) (ci := 16) (v := .int (sI s0.1 1)) (C := RX15) (T := TX15) (N := 28) hx hb hts hi_dm_X15_scanNumber_X15 hown hK hP 0 rfl rfl 9 (by decide) (hts (.fieldLink RX15 73 "TimeMachineModel$Conditions" "at" "I") (List.mem_of_getElem? (i := 1) rfl)) (fun _ h9 => h9) rfl dX15_scanNumber_79 ?_
  refine lv_icmp_ge (tgt := 213) hx hb dX15_scanNumber_82 (by decide) (fun c5 => ?_) (fun c5 => ?_)
  · have h := nd_pos h c5
    exact K _ _ _ _ _ dX15_scanNumber_213 (Option.some.inj h).symm hP hD hS
  · have h := nd_neg h c5
    refine lv_aload_n hx hb dX15_scanNumber_85 rfl (lv_at hl 0 rfl) ?_
    refine va_get (D := (dC, dI)) (ci := 16) (v := .ref (a 1)) (C := RX15) (T := TX15) (N := 28) hx hb hts hi_dm_X15_scanNumber_X15 hown hK hP 0 rfl rfl 2 (by decide) (hts (.fieldLink RX15 7 "TimeMachineModel$Conditions" "text" "[C") (List.mem_of_getElem? (i := 5) rfl)) (fun _ h9 => h9) rfl dX15_scanNumber_86 ?_
    refine lv_iload_n hx hb dX15_scanNumber_89 rfl (lv_at hl 2 rfl) ?_
    obtain ⟨i6, h⟩ := nd_ck_e h
    refine va_cald (i := x2) hx hb hK hP 1 0 rfl rfl i6 dX15_scanNumber_90 ?_
    refine lv_topi (fun z7 ez7 => ?_)
    have h := nd_at h ez7
    refine lv_istore_n (lv' := [(3, .int z7), (0, .ref (a 0)), (1, .int x1), (2, .int x2)]) hx hb dX15_scanNumber_91 rfl hl (by decide) rfl (fun ls hl => ?_)
    refine lv_iload_n hx hb dX15_scanNumber_92 rfl (lv_at hl 0 rfl) ?_
    obtain ⟨q8, s9, hq, h⟩ := nd_b2_e h
    have hPc : va_P (dC, dI) vwCl (dw_P a ac ()) H := nd_p0
    have hDc : va_D A (dw_P a ac ()) := nd_d0
    have hKc : va_K (dC, dI) vwCl (dk_P ac) s := nd_y0 hK
    have hFc : ∀ q, va_A (dw_P a ac ()) H.size q → A q := nd_r0 hS hA
    refine nd_cSi (As := [.int z7]) (rest := []) (q := q8) (w' := dw_P a ac s9) ⟨hx, hb, hml, hown, hts⟩ (fun sz => dm_X15_isDigit l hlt dC dI a ac n (z7) () hq sz) (cwS 1 hts gi_dm_X15_scanNumber_0 rfl rfl rfl (by decide +kernel) ⟨Nat.le_of_ble_eq_true rfl, Nat.le_of_ble_eq_true rfl⟩) hPc hDc hKc hS hA hN rfl hl.1 rfl (Nat.le_of_ble_eq_true rfl) dX15_scanNumber_93 (fun H locs hP1 hD1 hk1 hS => ?_)
    have hP := nd_n0 hP hk1
    refine lv_if_eq (tgt := 106) hx hb dX15_scanNumber_96 (by decide) (fun c11 => ?_) (fun c11 => ?_)
    · have h := nd_pos h c11
      refine lv_iload_n hx hb dX15_scanNumber_106 rfl (lv_at hl 2 rfl) ?_
      refine lv_if_eq (tgt := 132) hx hb dX15_scanNumber_107 (by decide) (fun c12 => ?_) (fun c12 => ?_)
      · have h := nd_pos h c12
        exact (db_X15_scanNumber_132 C K J77) (x1) (x2) s0 _ _ _ h hP hD hS (lv_sub hl [1, 2, 3] rfl)
      · have h := nd_neg h c12
        refine lv_iload_n hx hb dX15_scanNumber_110 rfl (lv_at hl 0 rfl) ?_
        refine lv_bipush (v := 97) hx hb dX15_scanNumber_111 (by decide) ?_
        refine lv_icmp_lt (tgt := 132) hx hb dX15_scanNumber_113 (by decide) (fun c21 => ?_) (fun c21 => ?_)
        · have h := nd_pos h c21
          exact (db_X15_scanNumber_132 C K J77) (x1) (x2) s0 _ _ _ h hP hD hS (lv_sub hl [1, 2, 3] rfl)
        · have h := nd_neg h c21
          refine lv_iload_n hx hb dX15_scanNumber_116 rfl (lv_at hl 0 rfl) ?_
          refine lv_bipush (v := 102) hx hb dX15_scanNumber_117 (by decide) ?_
          refine lv_icmp_gt (tgt := 132) hx hb dX15_scanNumber_119 (by decide) (fun c22 => ?_) (fun c22 => ?_)
          · have h := nd_pos h c22
            exact (db_X15_scanNumber_132 C K J77) (x1) (x2) s0 _ _ _ h hP hD hS (lv_sub hl [1, 2, 3] rfl)
          · have h := nd_neg h c22
            refine lv_iload_n hx hb dX15_scanNumber_122 rfl (lv_at hl 0 rfl) ?_
            refine lv_bipush (v := 97) hx hb dX15_scanNumber_123 (by decide) ?_
            refine lv_isub hx hb dX15_scanNumber_125 ?_
            refine lv_bipush (v := 10) hx hb dX15_scanNumber_126 (by decide) ?_
            refine lv_iadd hx hb dX15_scanNumber_128 ?_
            refine lv_goto (tgt := 134) hx hb dX15_scanNumber_129 (by decide) ?_
            exact (db_X15_scanNumber_134 C K J77) (x1) (x2) (((z7 - 97) + 10)) s0 _ _ _ h hP hD hS (lv_sub hl [1, 2, 3] rfl)
    · have h := nd_neg h c11
      refine lv_iload_n hx hb dX15_scanNumber_99 rfl (lv_at hl 0 rfl) ?_
      refine lv_bipush (v := 48) hx hb dX15_scanNumber_100 (by decide) ?_
      refine lv_isub hx hb dX15_scanNumber_102 ?_
      refine lv_goto (tgt := 134) hx hb dX15_scanNumber_103 (by decide) ?_
      exact (db_X15_scanNumber_134 C K J77) (x1) (x2) ((z7 - 48)) s0 _ _ _ h hP hD hS (lv_sub hl [1, 2, 3] rfl)
set_option maxHeartbeats 40000000 in
set_option maxRecDepth 100000 in
theorem db_X15_scanNumber_77 {p : Program} {l : Launch} {e : Env} {s : State} {m : MethodId} {args : Array Value} {below : List Frame} {meth : Method} {c : Code} {Q : State → Prop} {A : Nat → Prop} {dC : Nat → ClassId} {dI : Nat → Nat → Nat} {a : Nat → Nat} {ac : Nat → ClassId} {n : Nat} {r : St × (St × (St))} (C : nd_C p l s m args c A (dC, dI) cX15_scanNumber 5 RX15 ow_dm_X15_scanNumber (dk_X15 ac)) (K : nd_Kv p l e (headSpec ow_dm_X15_scanNumber ({ frames := 1, cells := 0, slots := 0, locals := 20 })).room s m args below meth c Q A (dC, dI) cX15_scanNumber (St × (St × (St))) (dw_X15 a ac) r) (k : Nat) : dj_X15_scanNumber_77 p l e s m args below meth c Q A dC dI a ac (df_X15_scanNumber_77 n k) r := by
  induction k with
  | zero => intro x1 x2 s0 H locs ls h; exact nomatch (show (none : Option (St × (St × (St)))) = some r from h)
  | succ k ih => exact dB_X15_scanNumber_77 C K ih
set_option maxHeartbeats 40000000 in
set_option maxRecDepth 100000 in
theorem db_X15_scanNumber_76 {p : Program} {l : Launch} {e : Env} {s : State} {m : MethodId} {args : Array Value} {below : List Frame} {meth : Method} {c : Code} {Q : State → Prop} {A : Nat → Prop} {dC : Nat → ClassId} {dI : Nat → Nat → Nat} {a : Nat → Nat} {ac : Nat → ClassId} {n : Nat} {r : St × (St × (St))} (C : nd_C p l s m args c A (dC, dI) cX15_scanNumber 5 RX15 ow_dm_X15_scanNumber (dk_X15 ac)) (K : nd_Kv p l e (headSpec ow_dm_X15_scanNumber ({ frames := 1, cells := 0, slots := 0, locals := 20 })).room s m args below meth c Q A (dC, dI) cX15_scanNumber (St × (St × (St))) (dw_X15 a ac) r) : dj_X15_scanNumber_76 p l e s m args below meth c Q A dC dI a ac (df_X15_scanNumber_76 n) r := by
  obtain ⟨hlt, hx, hb, hml, hown, hts, hN, hA, hK⟩ := id C
  intro x1 y0 s0 H locs ls h hP hD hS hl
  unfold df_X15_scanNumber_76 at h
  refine lv_istore_n (lv' := [(2, .int y0), (0, .ref (a 0)), (1, .int x1)]) hx hb dX15_scanNumber_76 rfl hl (by decide) rfl (fun ls hl => ?_)
  exact (db_X15_scanNumber_77 C K n) (x1) (y0) s0 _ _ _ h hP hD hS (lv_sub hl [1, 2, 0] rfl)
set_option maxHeartbeats 40000000 in
set_option maxRecDepth 100000 in
theorem db_X15_scanNumber_48 {p : Program} {l : Launch} {e : Env} {s : State} {m : MethodId} {args : Array Value} {below : List Frame} {meth : Method} {c : Code} {Q : State → Prop} {A : Nat → Prop} {dC : Nat → ClassId} {dI : Nat → Nat → Nat} {a : Nat → Nat} {ac : Nat → ClassId} {n : Nat} {r : St × (St × (St))} (C : nd_C p l s m args c A (dC, dI) cX15_scanNumber 5 RX15 ow_dm_X15_scanNumber (dk_X15 ac)) (K : nd_Kv p l e (headSpec ow_dm_X15_scanNumber ({ frames := 1, cells := 0, slots := 0, locals := 20 })).room s m args below meth c Q A (dC, dI) cX15_scanNumber (St × (St × (St))) (dw_X15 a ac) r) : dj_X15_scanNumber_48 p l e s m args below meth c Q A dC dI a ac (df_X15_scanNumber_48 n) r := by
  obtain ⟨hlt, hx, hb, hml, hown, hts, hN, hA, hK⟩ := id C
  intro y0 s0 H locs ls h hP hD hS hl
  unfold df_X15_scanNumber_48 at h
  refine lv_istore_n (lv' := [(1, .int y0), (0, .ref (a 0))]) hx hb dX15_scanNumber_48 rfl hl (by decide) rfl (fun ls hl => ?_)
  refine lv_aload_n hx hb dX15_scanNumber_49 rfl (lv_at hl 1 rfl) ?_
  refine lv_iconst (v := 1) hx hb dX15_scanNumber_50 (by decide) ?_
  refine va_put (D := (dC, dI)) (ci := 16) (v := .int 1) (ty := .int) (C := RX15) (T := TX15) (N := 28) hx hb hts hi_dm_X15_scanNumber_X15 tyX15 tyX15_ok nmX15 hown hK hP hD hS 0 rfl rfl 10 (by decide) (hts (.fieldLink RX15 92 "TimeMachineModel$Conditions" "token" "I") (List.mem_of_getElem? (i := 3) rfl)) (fun _ h9 => h9) rfl (by decide +kernel) rfl rfl (Nat.le_of_ble_eq_true rfl) dX15_scanNumber_51 (fun H locs hP hD hS => ?_)
  obtain ⟨s2, es2, h⟩ := nd_let_e h
  have hP : va_P (dC, dI) vwCl (dw_X15 a ac s2) H := by rw [es2]; exact hP
  have hD : va_D A (dw_X15 a ac s2) := by rw [es2]; exact hD
  refine lv_aload_n hx hb dX15_scanNumber_54 rfl (lv_at hl 1 rfl) ?_
  refine lv_lconst (v := 0) hx hb dX15_scanNumber_55 (by decide) ?_
  refine va_put (D := (dC, dI)) (ci := 16) (v := .long 0) (ty := .long) (C := RX15) (T := TX15) (N := 28) hx hb hts hi_dm_X15_scanNumber_X15 tyX15 tyX15_ok nmX15 hown hK hP hD hS 0 rfl rfl 15 (by decide) (hts (.fieldLink RX15 95 "TimeMachineModel$Conditions" "tokenValue" "J") (List.mem_of_getElem? (i := 4) rfl)) (fun _ h9 => h9) rfl (by decide +kernel) rfl rfl (Nat.le_of_ble_eq_true rfl) dX15_scanNumber_56 (fun H locs hP hD hS => ?_)
  obtain ⟨s3, es3, h⟩ := nd_let_e h
  have hP : va_P (dC, dI) vwCl (dw_X15 a ac s3) H := by rw [es3]; exact hP
  have hD : va_D A (dw_X15 a ac s3) := by rw [es3]; exact hD
  refine lv_iload_n hx hb dX15_scanNumber_59 rfl (lv_at hl 0 rfl) ?_
  refine lv_if_eq (tgt := 72) hx hb dX15_scanNumber_60 (by decide) (fun c4 => ?_) (fun c4 => ?_)
  · have h := nd_pos h c4
    refine lv_aload_n hx hb dX15_scanNumber_72 rfl (lv_at hl 1 rfl) ?_
    refine va_get (D := (dC, dI)) (ci := 16) (v := .int (sI s3.1 3)) (C := RX15) (T := TX15) (N := 28) hx hb hts hi_dm_X15_scanNumber_X15 hown hK hP 0 rfl rfl 11 (by decide) (hts (.fieldLink RX15 80 "TimeMachineModel$Conditions" "start" "I") (List.mem_of_getElem? (i := 2) rfl)) (fun _ h9 => h9) rfl dX15_scanNumber_73 ?_
    exact (db_X15_scanNumber_76 C K) (y0) ((sI s3.1 3)) s3 _ _ _ h hP hD hS (lv_sub hl [1, 0] rfl)
  · have h := nd_neg h c4
    refine lv_aload_n hx hb dX15_scanNumber_63 rfl (lv_at hl 1 rfl) ?_
    refine va_get (D := (dC, dI)) (ci := 16) (v := .int (sI s3.1 3)) (C := RX15) (T := TX15) (N := 28) hx hb hts hi_dm_X15_scanNumber_X15 hown hK hP 0 rfl rfl 11 (by decide) (hts (.fieldLink RX15 80 "TimeMachineModel$Conditions" "start" "I") (List.mem_of_getElem? (i := 2) rfl)) (fun _ h9 => h9) rfl dX15_scanNumber_64 ?_
    refine lv_iconst (v := 2) hx hb dX15_scanNumber_67 (by decide) ?_
    refine lv_iadd hx hb dX15_scanNumber_68 ?_
    refine lv_goto (tgt := 76) hx hb dX15_scanNumber_69 (by decide) ?_
    exact (db_X15_scanNumber_76 C K) (y0) (((sI s3.1 3) + 2)) s3 _ _ _ h hP hD hS (lv_sub hl [1, 0] rfl)
set_option maxHeartbeats 40000000 in
set_option maxRecDepth 100000 in
theorem db_X15_scanNumber_47 {p : Program} {l : Launch} {e : Env} {s : State} {m : MethodId} {args : Array Value} {below : List Frame} {meth : Method} {c : Code} {Q : State → Prop} {A : Nat → Prop} {dC : Nat → ClassId} {dI : Nat → Nat → Nat} {a : Nat → Nat} {ac : Nat → ClassId} {n : Nat} {r : St × (St × (St))} (C : nd_C p l s m args c A (dC, dI) cX15_scanNumber 5 RX15 ow_dm_X15_scanNumber (dk_X15 ac)) (K : nd_Kv p l e (headSpec ow_dm_X15_scanNumber ({ frames := 1, cells := 0, slots := 0, locals := 20 })).room s m args below meth c Q A (dC, dI) cX15_scanNumber (St × (St × (St))) (dw_X15 a ac) r) : dj_X15_scanNumber_47 p l e s m args below meth c Q A dC dI a ac (df_X15_scanNumber_47 n) r := by
  obtain ⟨hlt, hx, hb, hml, hown, hts, hN, hA, hK⟩ := id C
  intro s0 H locs ls h hP hD hS hl
  unfold df_X15_scanNumber_47 at h
  refine lv_iconst (v := 0) hx hb dX15_scanNumber_47 (by decide) ?_
  exact (db_X15_scanNumber_48 C K) (0) s0 _ _ _ h hP hD hS (lv_sub hl [0] rfl)
set_option maxHeartbeats 40000000 in
set_option maxRecDepth 100000 in
theorem db_X15_scanNumber_0 {p : Program} {l : Launch} {e : Env} {s : State} {m : MethodId} {args : Array Value} {below : List Frame} {meth : Method} {c : Code} {Q : State → Prop} {A : Nat → Prop} {dC : Nat → ClassId} {dI : Nat → Nat → Nat} {a : Nat → Nat} {ac : Nat → ClassId} {n : Nat} {r : St × (St × (St))} (C : nd_C p l s m args c A (dC, dI) cX15_scanNumber 5 RX15 ow_dm_X15_scanNumber (dk_X15 ac)) (K : nd_Kv p l e (headSpec ow_dm_X15_scanNumber ({ frames := 1, cells := 0, slots := 0, locals := 20 })).room s m args below meth c Q A (dC, dI) cX15_scanNumber (St × (St × (St))) (dw_X15 a ac) r) : dj_X15_scanNumber_0 p l e s m args below meth c Q A dC dI a ac (df_X15_scanNumber_0 n) r := by
  obtain ⟨hlt, hx, hb, hml, hown, hts, hN, hA, hK⟩ := id C
  intro s0 H locs ls h hP hD hS hl
  unfold df_X15_scanNumber_0 at h
  refine lv_aload_n hx hb dX15_scanNumber_0 rfl (lv_at hl 0 rfl) ?_
  refine va_get (D := (dC, dI)) (ci := 16) (v := .int (sI s0.1 1)) (C := RX15) (T := TX15) (N := 28) hx hb hts hi_dm_X15_scanNumber_X15 hown hK hP 0 rfl rfl 9 (by decide) (hts (.fieldLink RX15 73 "TimeMachineModel$Conditions" "at" "I") (List.mem_of_getElem? (i := 1) rfl)) (fun _ h9 => h9) rfl dX15_scanNumber_1 ?_
  refine lv_aload_n hx hb dX15_scanNumber_4 rfl (lv_at hl 0 rfl) ?_
  refine va_get (D := (dC, dI)) (ci := 16) (v := .int (sI s0.1 3)) (C := RX15) (T := TX15) (N := 28) hx hb hts hi_dm_X15_scanNumber_X15 hown hK hP 0 rfl rfl 11 (by decide) (hts (.fieldLink RX15 80 "TimeMachineModel$Conditions" "start" "I") (List.mem_of_getElem? (i := 2) rfl)) (fun _ h9 => h9) rfl dX15_scanNumber_5 ?_
  refine lv_isub hx hb dX15_scanNumber_8 ?_
  refine lv_iconst (v := 2) hx hb dX15_scanNumber_9 (by decide) ?_
  refine lv_icmp_le (tgt := 47) hx hb dX15_scanNumber_10 (by decide) (fun c1 => ?_) (fun c1 => ?_)
  · have h := nd_pos h c1
    exact (db_X15_scanNumber_47 C K)  s0 _ _ _ h hP hD hS (lv_sub hl [0] rfl)
  · have h := nd_neg h c1
    refine lv_aload_n hx hb dX15_scanNumber_13 rfl (lv_at hl 0 rfl) ?_
    refine va_get (D := (dC, dI)) (ci := 16) (v := .ref (a 1)) (C := RX15) (T := TX15) (N := 28) hx hb hts hi_dm_X15_scanNumber_X15 hown hK hP 0 rfl rfl 2 (by decide) (hts (.fieldLink RX15 7 "TimeMachineModel$Conditions" "text" "[C") (List.mem_of_getElem? (i := 5) rfl)) (fun _ h9 => h9) rfl dX15_scanNumber_14 ?_
    refine lv_aload_n hx hb dX15_scanNumber_17 rfl (lv_at hl 0 rfl) ?_
    refine va_get (D := (dC, dI)) (ci := 16) (v := .int (sI s0.1 3)) (C := RX15) (T := TX15) (N := 28) hx hb hts hi_dm_X15_scanNumber_X15 hown hK hP 0 rfl rfl 11 (by decide) (hts (.fieldLink RX15 80 "TimeMachineModel$Conditions" "start" "I") (List.mem_of_getElem? (i := 2) rfl)) (fun _ h9 => h9) rfl dX15_scanNumber_18 ?_
    obtain ⟨i23, h⟩ := nd_ck_e h
    refine va_cald (i := (sI s0.1 3)) hx hb hK hP 1 0 rfl rfl i23 dX15_scanNumber_21 ?_
    refine lv_bipush (v := 48) hx hb dX15_scanNumber_22 (by decide) ?_
    refine lv_icmp_ne (tgt := 47) hx hb dX15_scanNumber_24 (by decide) (fun c24 => ?_) (fun c24 => ?_)
    · have h := nd_neg h c24
      exact (db_X15_scanNumber_47 C K)  s0 _ _ _ h hP hD hS (lv_sub hl [0] rfl)
    · have h := nd_pos h c24
      refine lv_aload_n hx hb dX15_scanNumber_27 rfl (lv_at hl 0 rfl) ?_
      refine va_get (D := (dC, dI)) (ci := 16) (v := .ref (a 1)) (C := RX15) (T := TX15) (N := 28) hx hb hts hi_dm_X15_scanNumber_X15 hown hK hP 0 rfl rfl 2 (by decide) (hts (.fieldLink RX15 7 "TimeMachineModel$Conditions" "text" "[C") (List.mem_of_getElem? (i := 5) rfl)) (fun _ h9 => h9) rfl dX15_scanNumber_28 ?_
      refine lv_aload_n hx hb dX15_scanNumber_31 rfl (lv_at hl 0 rfl) ?_
      refine va_get (D := (dC, dI)) (ci := 16) (v := .int (sI s0.1 3)) (C := RX15) (T := TX15) (N := 28) hx hb hts hi_dm_X15_scanNumber_X15 hown hK hP 0 rfl rfl 11 (by decide) (hts (.fieldLink RX15 80 "TimeMachineModel$Conditions" "start" "I") (List.mem_of_getElem? (i := 2) rfl)) (fun _ h9 => h9) rfl dX15_scanNumber_32 ?_
      refine lv_iconst (v := 1) hx hb dX15_scanNumber_35 (by decide) ?_
      refine lv_iadd hx hb dX15_scanNumber_36 ?_
      obtain ⟨i25, h⟩ := nd_ck_e h
      refine va_cald (i := ((sI s0.1 3) + 1)) hx hb hK hP 1 0 rfl rfl i25 dX15_scanNumber_37 ?_
      refine lv_bipush (v := 120) hx hb dX15_scanNumber_38 (by decide) ?_
      refine lv_icmp_ne (tgt := 47) hx hb dX15_scanNumber_40 (by decide) (fun c26 => ?_) (fun c26 => ?_)
      · have h := nd_neg h c26
        exact (db_X15_scanNumber_47 C K)  s0 _ _ _ h hP hD hS (lv_sub hl [0] rfl)
      · have h := nd_pos h c26
        refine lv_iconst (v := 1) hx hb dX15_scanNumber_43 (by decide) ?_
        refine lv_goto (tgt := 48) hx hb dX15_scanNumber_44 (by decide) ?_
        exact (db_X15_scanNumber_48 C K) (1) s0 _ _ _ h hP hD hS (lv_sub hl [0] rfl)
set_option maxHeartbeats 40000000 in
set_option maxRecDepth 100000 in
theorem dm_X15_scanNumber (l : Launch) (hlt : l.stackTraces = false) (dC : Nat → ClassId) (dI : Nat → Nat → Nat) (a : Nat → Nat) (ac : Nat → ClassId) (n : Nat) (s0 : St × (St × (St))) {r : St × (St × (St))} (h : df_X15_scanNumber n s0 = some r) (sz : Nat) : Met l yX15_scanNumber ow_dm_X15_scanNumber ({ frames := 1, cells := 0, slots := 0, locals := 20 }) (va_Pc [.ref (a 0)] (fun U => U.heap.size = sz ∧ va_P (dC, dI) vwCl (dw_X15 a ac s0) U.heap ∧ va_K (dC, dI) vwCl (dk_X15 ac) U ∧ va_D (fun _ => True) (dw_X15 a ac s0) ∧ nv_E (va_A (dw_X15 a ac s0) sz) U)) (va_Qv (fun _ => True) (fun (_ : Unit) t => va_P (dC, dI) vwCl (dw_X15 a ac r) t.heap ∧ va_K (dC, dI) vwCl (dk_X15 ac) t ∧ va_D (va_A (dw_X15 a ac s0) sz) (dw_X15 a ac r)) (va_A (dw_X15 a ac s0) sz)) 0 0 (va_A (dw_X15 a ac s0) sz) := by
  refine Met.ofW (cc := cX15_scanNumber) (maxL := 5) (ret := none) (by decide) rfl ?_
  intro p e s m args below meth c s₁ B hml hv
  obtain ⟨rfl, hsz, hP, hK, hD0, hN⟩ := hv
  have hx := B.exec
  have hb := B.bytes
  have hr := B.returns
  have hts := atoms_spec (ws := ow_dm_X15_scanNumber) B.pre
  have hown : s.vm.findClass RX15 = some m.cls := findClass_of_methodNamed B.named
  have hlocks := B.notSynchronized
  subst hsz
  have hD := hD0.self (sz := s.heap.size)
  generalize hAe : va_A (dw_X15 a ac s0) s.heap.size = A at hD hN ⊢
  have hA : ∀ q : Nat, s.heap.size ≤ q → A q := fun q h => by rw [← hAe]; exact Or.inr h
  have hl := lv_entry ([.ref (a 0)]) (n := 5) (Nat.le_of_ble_eq_true rfl)
  rw [lg_entry_eq]
  generalize (lg_sl ([.ref (a 0)]) ++ List.replicate (5 - (lg_sl ([.ref (a 0)])).length) Slot.unset).toArray = ls at hl ⊢
  have hl : lv_has ls 5 [(0, .ref (a 0))] := hl
  exact db_X15_scanNumber_0 (dC := dC) (dI := dI) (a := a) (ac := ac) (n := n) (r := r) ⟨hlt, hx, hb, hml, hown, hts, hN, hA, hK⟩ (fun pc τ H locs ls d er hP hD hS => by subst er; exact W.vret hx hb hr (fun t ht hW => ⟨⟨(), rfl, trivial, by rw [ht]; exact hP, va_K.moved hW.alike hK, hD⟩, hS.F ht⟩) hS.2.2 d) s0 _ _ _ h hP hD va_S.rf (lv_sub hl [0] rfl)
def ow_dm_X15_scan : List Cond := .code yX15_scan cX15_scan 5 none :: ([.fieldLink RX15 73 "TimeMachineModel$Conditions" "at" "I", .methodLink RX15 76 yX15_charAt, .instanceMethod yX15_charAt, .selects RX15 yX15_charAt yX15_charAt, .initialized RX15, .fieldLink RX15 80 "TimeMachineModel$Conditions" "start" "I", .methodLink RX15 83 yX15_isPlain, .static yX15_isPlain, .fieldLink RX15 92 "TimeMachineModel$Conditions" "token" "I", .methodLink RX15 69 yX15_isDigit, .static yX15_isDigit, .methodLink RX15 89 yX15_scanWord, .instanceMethod yX15_scanWord, .selects RX15 yX15_scanWord yX15_scanWord, .methodLink RX15 86 yX15_scanNumber, .instanceMethod yX15_scanNumber, .selects RX15 yX15_scanNumber yX15_scanNumber] ++ (u_ws RX15 TX15 28 ++ (ow_dm_X15_charAt ++ (ow_dm_X15_isPlain ++ (ow_dm_X15_isDigit ++ (ow_dm_X15_scanWord ++ (ow_dm_X15_scanNumber ++ [])))))))
theorem gd_dm_X15_scan : ∀ w ∈ ow_dm_X15_scan, (w.onTables && w.keeps) = true ∨ ∃ ty, w = Cond.arrayClass ty := List.forall_mem_cons.mpr ⟨good_of_word rfl, List.forall_mem_append.mpr ⟨fun w h => good_of_word (List.all_eq_true.mp (by decide +kernel) w h), List.forall_mem_append.mpr ⟨gu_X15, List.forall_mem_append.mpr ⟨gd_dm_X15_charAt, List.forall_mem_append.mpr ⟨gd_dm_X15_isPlain, List.forall_mem_append.mpr ⟨gd_dm_X15_isDigit, List.forall_mem_append.mpr ⟨gd_dm_X15_scanWord, List.forall_mem_append.mpr ⟨gd_dm_X15_scanNumber, fun _ h => nomatch h⟩⟩⟩⟩⟩⟩⟩⟩
theorem hi_dm_X15_scan_X15 : ∀ w ∈ u_ws RX15 TX15 28, w ∈ ow_dm_X15_scan := fun w h => List.mem_cons_of_mem _ (List.mem_append_right _ (List.mem_append_left _ h))
theorem gi_dm_X15_scan_0 : GoodIn ow_dm_X15_scan (wsV RX15 76 RX15 yX15_charAt ow_dm_X15_charAt) := goodIn_app (goodIn_of _ (by decide +kernel)) (fun w h => ⟨List.mem_cons_of_mem _ (List.mem_append_right _ (List.mem_append_right _ (List.mem_append_left _ h))), gd_dm_X15_charAt w h⟩)
theorem gi_dm_X15_scan_1 : GoodIn ow_dm_X15_scan (wsS RX15 83 yX15_isPlain ow_dm_X15_isPlain) := goodIn_app (goodIn_of _ (by decide +kernel)) (fun w h => ⟨List.mem_cons_of_mem _ (List.mem_append_right _ (List.mem_append_right _ (List.mem_append_right _ (List.mem_append_left _ h)))), gd_dm_X15_isPlain w h⟩)
theorem gi_dm_X15_scan_2 : GoodIn ow_dm_X15_scan (wsS RX15 69 yX15_isDigit ow_dm_X15_isDigit) := goodIn_app (goodIn_of _ (by decide +kernel)) (fun w h => ⟨List.mem_cons_of_mem _ (List.mem_append_right _ (List.mem_append_right _ (List.mem_append_right _ (List.mem_append_right _ (List.mem_append_left _ h))))), gd_dm_X15_isDigit w h⟩)
theorem gi_dm_X15_scan_3 : GoodIn ow_dm_X15_scan (wsV RX15 89 RX15 yX15_scanWord ow_dm_X15_scanWord) := goodIn_app (goodIn_of _ (by decide +kernel)) (fun w h => ⟨List.mem_cons_of_mem _ (List.mem_append_right _ (List.mem_append_right _ (List.mem_append_right _ (List.mem_append_right _ (List.mem_append_right _ (List.mem_append_left _ h)))))), gd_dm_X15_scanWord w h⟩)
theorem gi_dm_X15_scan_4 : GoodIn ow_dm_X15_scan (wsV RX15 86 RX15 yX15_scanNumber ow_dm_X15_scanNumber) := goodIn_app (goodIn_of _ (by decide +kernel)) (fun w h => ⟨List.mem_cons_of_mem _ (List.mem_append_right _ (List.mem_append_right _ (List.mem_append_right _ (List.mem_append_right _ (List.mem_append_right _ (List.mem_append_right _ (List.mem_append_left _ h))))))), gd_dm_X15_scanNumber w h⟩)
def dj_X15_scan_453 (p : Program) (l : Launch) (e : Env) (s : State) (m : MethodId) (args : Array Value) (below : List Frame) (meth : Method) (c : Code) (Q : State → Prop) (A : Nat → Prop) (dC : Nat → ClassId) (dI : Nat → Nat → Nat) (a : Nat → Nat) (ac : Nat → ClassId) (g : Int32 → Int32 → (St × (St × (St))) → Option (St × (St × (St)))) (r : St × (St × (St))) : Prop := ∀ (y1 : Int32) (y2 : Int32) (s0 : St × (St × (St))) (H : Heap) (locs : List Loc) (ls : Array Slot), g y1 y2 s0 = some r → va_P (dC, dI) vwCl (dw_X15 a ac s0) H → va_D A (dw_X15 a ac s0) → va_S A s.heap H locs → lv_has ls 5 [] → W p l e (headSpec ow_dm_X15_scan ({ frames := 2, cells := 0, slots := 0, locals := 49 })).room s m args below meth c H locs 0 0 Q (F0 m 453 ls [.int y2, .int y1, .ref (a 0)])
def dj_X15_scan_436 (p : Program) (l : Launch) (e : Env) (s : State) (m : MethodId) (args : Array Value) (below : List Frame) (meth : Method) (c : Code) (Q : State → Prop) (A : Nat → Prop) (dC : Nat → ClassId) (dI : Nat → Nat → Nat) (a : Nat → Nat) (ac : Nat → ClassId) (g : Int32 → Int32 → (St × (St × (St))) → Option (St × (St × (St)))) (r : St × (St × (St))) : Prop := ∀ (x3 : Int32) (y1 : Int32) (s0 : St × (St × (St))) (H : Heap) (locs : List Loc) (ls : Array Slot), g x3 y1 s0 = some r → va_P (dC, dI) vwCl (dw_X15 a ac s0) H → va_D A (dw_X15 a ac s0) → va_S A s.heap H locs → lv_has ls 5 [(0, .ref (a 0)), (3, .int x3)] → W p l e (headSpec ow_dm_X15_scan ({ frames := 2, cells := 0, slots := 0, locals := 49 })).room s m args below meth c H locs 0 0 Q (F0 m 436 ls [.int y1, .ref (a 0)])
def dj_X15_scan_423 (p : Program) (l : Launch) (e : Env) (s : State) (m : MethodId) (args : Array Value) (below : List Frame) (meth : Method) (c : Code) (Q : State → Prop) (A : Nat → Prop) (dC : Nat → ClassId) (dI : Nat → Nat → Nat) (a : Nat → Nat) (ac : Nat → ClassId) (g : Int32 → Int32 → (St × (St × (St))) → Option (St × (St × (St)))) (r : St × (St × (St))) : Prop := ∀ (x3 : Int32) (y0 : Int32) (s0 : St × (St × (St))) (H : Heap) (locs : List Loc) (ls : Array Slot), g x3 y0 s0 = some r → va_P (dC, dI) vwCl (dw_X15 a ac s0) H → va_D A (dw_X15 a ac s0) → va_S A s.heap H locs → lv_has ls 5 [(0, .ref (a 0)), (3, .int x3)] → W p l e (headSpec ow_dm_X15_scan ({ frames := 2, cells := 0, slots := 0, locals := 49 })).room s m args below meth c H locs 0 0 Q (F0 m 423 ls [.int y0])
def dj_X15_scan_244 (p : Program) (l : Launch) (e : Env) (s : State) (m : MethodId) (args : Array Value) (below : List Frame) (meth : Method) (c : Code) (Q : State → Prop) (A : Nat → Prop) (dC : Nat → ClassId) (dI : Nat → Nat → Nat) (a : Nat → Nat) (ac : Nat → ClassId) (g : Int32 → Int32 → (St × (St × (St))) → Option (St × (St × (St)))) (r : St × (St × (St))) : Prop := ∀ (x1 : Int32) (y0 : Int32) (s0 : St × (St × (St))) (H : Heap) (locs : List Loc) (ls : Array Slot), g x1 y0 s0 = some r → va_P (dC, dI) vwCl (dw_X15 a ac s0) H → va_D A (dw_X15 a ac s0) → va_S A s.heap H locs → lv_has ls 5 [(0, .ref (a 0)), (1, .int x1)] → W p l e (headSpec ow_dm_X15_scan ({ frames := 2, cells := 0, slots := 0, locals := 49 })).room s m args below meth c H locs 0 0 Q (F0 m 244 ls [.int y0])
def dj_X15_scan_243 (p : Program) (l : Launch) (e : Env) (s : State) (m : MethodId) (args : Array Value) (below : List Frame) (meth : Method) (c : Code) (Q : State → Prop) (A : Nat → Prop) (dC : Nat → ClassId) (dI : Nat → Nat → Nat) (a : Nat → Nat) (ac : Nat → ClassId) (g : Int32 → (St × (St × (St))) → Option (St × (St × (St)))) (r : St × (St × (St))) : Prop := ∀ (x1 : Int32) (s0 : St × (St × (St))) (H : Heap) (locs : List Loc) (ls : Array Slot), g x1 s0 = some r → va_P (dC, dI) vwCl (dw_X15 a ac s0) H → va_D A (dw_X15 a ac s0) → va_S A s.heap H locs → lv_has ls 5 [(0, .ref (a 0)), (1, .int x1)] → W p l e (headSpec ow_dm_X15_scan ({ frames := 2, cells := 0, slots := 0, locals := 49 })).room s m args below meth c H locs 0 0 Q (F0 m 243 ls [])
def dj_X15_scan_226 (p : Program) (l : Launch) (e : Env) (s : State) (m : MethodId) (args : Array Value) (below : List Frame) (meth : Method) (c : Code) (Q : State → Prop) (A : Nat → Prop) (dC : Nat → ClassId) (dI : Nat → Nat → Nat) (a : Nat → Nat) (ac : Nat → ClassId) (g : Int32 → Int32 → (St × (St × (St))) → Option (St × (St × (St)))) (r : St × (St × (St))) : Prop := ∀ (x1 : Int32) (x2 : Int32) (s0 : St × (St × (St))) (H : Heap) (locs : List Loc) (ls : Array Slot), g x1 x2 s0 = some r → va_P (dC, dI) vwCl (dw_X15 a ac s0) H → va_D A (dw_X15 a ac s0) → va_S A s.heap H locs → lv_has ls 5 [(0, .ref (a 0)), (1, .int x1), (2, .int x2)] → W p l e (headSpec ow_dm_X15_scan ({ frames := 2, cells := 0, slots := 0, locals := 49 })).room s m args below meth c H locs 0 0 Q (F0 m 226 ls [])
def dj_X15_scan_209 (p : Program) (l : Launch) (e : Env) (s : State) (m : MethodId) (args : Array Value) (below : List Frame) (meth : Method) (c : Code) (Q : State → Prop) (A : Nat → Prop) (dC : Nat → ClassId) (dI : Nat → Nat → Nat) (a : Nat → Nat) (ac : Nat → ClassId) (g : Int32 → Int32 → (St × (St × (St))) → Option (St × (St × (St)))) (r : St × (St × (St))) : Prop := ∀ (x1 : Int32) (x2 : Int32) (s0 : St × (St × (St))) (H : Heap) (locs : List Loc) (ls : Array Slot), g x1 x2 s0 = some r → va_P (dC, dI) vwCl (dw_X15 a ac s0) H → va_D A (dw_X15 a ac s0) → va_S A s.heap H locs → lv_has ls 5 [(0, .ref (a 0)), (1, .int x1), (2, .int x2)] → W p l e (headSpec ow_dm_X15_scan ({ frames := 2, cells := 0, slots := 0, locals := 49 })).room s m args below meth c H locs 0 0 Q (F0 m 209 ls [])
def dj_X15_scan_192 (p : Program) (l : Launch) (e : Env) (s : State) (m : MethodId) (args : Array Value) (below : List Frame) (meth : Method) (c : Code) (Q : State → Prop) (A : Nat → Prop) (dC : Nat → ClassId) (dI : Nat → Nat → Nat) (a : Nat → Nat) (ac : Nat → ClassId) (g : Int32 → Int32 → (St × (St × (St))) → Option (St × (St × (St)))) (r : St × (St × (St))) : Prop := ∀ (x1 : Int32) (x2 : Int32) (s0 : St × (St × (St))) (H : Heap) (locs : List Loc) (ls : Array Slot), g x1 x2 s0 = some r → va_P (dC, dI) vwCl (dw_X15 a ac s0) H → va_D A (dw_X15 a ac s0) → va_S A s.heap H locs → lv_has ls 5 [(0, .ref (a 0)), (1, .int x1), (2, .int x2)] → W p l e (headSpec ow_dm_X15_scan ({ frames := 2, cells := 0, slots := 0, locals := 49 })).room s m args below meth c H locs 0 0 Q (F0 m 192 ls [])
def dj_X15_scan_175 (p : Program) (l : Launch) (e : Env) (s : State) (m : MethodId) (args : Array Value) (below : List Frame) (meth : Method) (c : Code) (Q : State → Prop) (A : Nat → Prop) (dC : Nat → ClassId) (dI : Nat → Nat → Nat) (a : Nat → Nat) (ac : Nat → ClassId) (g : Int32 → Int32 → (St × (St × (St))) → Option (St × (St × (St)))) (r : St × (St × (St))) : Prop := ∀ (x1 : Int32) (x2 : Int32) (s0 : St × (St × (St))) (H : Heap) (locs : List Loc) (ls : Array Slot), g x1 x2 s0 = some r → va_P (dC, dI) vwCl (dw_X15 a ac s0) H → va_D A (dw_X15 a ac s0) → va_S A s.heap H locs → lv_has ls 5 [(0, .ref (a 0)), (1, .int x1), (2, .int x2)] → W p l e (headSpec ow_dm_X15_scan ({ frames := 2, cells := 0, slots := 0, locals := 49 })).room s m args below meth c H locs 0 0 Q (F0 m 175 ls [])
def dj_X15_scan_158 (p : Program) (l : Launch) (e : Env) (s : State) (m : MethodId) (args : Array Value) (below : List Frame) (meth : Method) (c : Code) (Q : State → Prop) (A : Nat → Prop) (dC : Nat → ClassId) (dI : Nat → Nat → Nat) (a : Nat → Nat) (ac : Nat → ClassId) (g : Int32 → Int32 → (St × (St × (St))) → Option (St × (St × (St)))) (r : St × (St × (St))) : Prop := ∀ (x1 : Int32) (x2 : Int32) (s0 : St × (St × (St))) (H : Heap) (locs : List Loc) (ls : Array Slot), g x1 x2 s0 = some r → va_P (dC, dI) vwCl (dw_X15 a ac s0) H → va_D A (dw_X15 a ac s0) → va_S A s.heap H locs → lv_has ls 5 [(0, .ref (a 0)), (1, .int x1), (2, .int x2)] → W p l e (headSpec ow_dm_X15_scan ({ frames := 2, cells := 0, slots := 0, locals := 49 })).room s m args below meth c H locs 0 0 Q (F0 m 158 ls [])
def dj_X15_scan_141 (p : Program) (l : Launch) (e : Env) (s : State) (m : MethodId) (args : Array Value) (below : List Frame) (meth : Method) (c : Code) (Q : State → Prop) (A : Nat → Prop) (dC : Nat → ClassId) (dI : Nat → Nat → Nat) (a : Nat → Nat) (ac : Nat → ClassId) (g : Int32 → Int32 → (St × (St × (St))) → Option (St × (St × (St)))) (r : St × (St × (St))) : Prop := ∀ (x1 : Int32) (x2 : Int32) (s0 : St × (St × (St))) (H : Heap) (locs : List Loc) (ls : Array Slot), g x1 x2 s0 = some r → va_P (dC, dI) vwCl (dw_X15 a ac s0) H → va_D A (dw_X15 a ac s0) → va_S A s.heap H locs → lv_has ls 5 [(0, .ref (a 0)), (1, .int x1), (2, .int x2)] → W p l e (headSpec ow_dm_X15_scan ({ frames := 2, cells := 0, slots := 0, locals := 49 })).room s m args below meth c H locs 0 0 Q (F0 m 141 ls [])
def dj_X15_scan_124 (p : Program) (l : Launch) (e : Env) (s : State) (m : MethodId) (args : Array Value) (below : List Frame) (meth : Method) (c : Code) (Q : State → Prop) (A : Nat → Prop) (dC : Nat → ClassId) (dI : Nat → Nat → Nat) (a : Nat → Nat) (ac : Nat → ClassId) (g : Int32 → Int32 → (St × (St × (St))) → Option (St × (St × (St)))) (r : St × (St × (St))) : Prop := ∀ (x1 : Int32) (x2 : Int32) (s0 : St × (St × (St))) (H : Heap) (locs : List Loc) (ls : Array Slot), g x1 x2 s0 = some r → va_P (dC, dI) vwCl (dw_X15 a ac s0) H → va_D A (dw_X15 a ac s0) → va_S A s.heap H locs → lv_has ls 5 [(0, .ref (a 0)), (1, .int x1), (2, .int x2)] → W p l e (headSpec ow_dm_X15_scan ({ frames := 2, cells := 0, slots := 0, locals := 49 })).room s m args below meth c H locs 0 0 Q (F0 m 124 ls [])
def dj_X15_scan_95 (p : Program) (l : Launch) (e : Env) (s : State) (m : MethodId) (args : Array Value) (below : List Frame) (meth : Method) (c : Code) (Q : State → Prop) (A : Nat → Prop) (dC : Nat → ClassId) (dI : Nat → Nat → Nat) (a : Nat → Nat) (ac : Nat → ClassId) (g : (St × (St × (St))) → Option (St × (St × (St)))) (r : St × (St × (St))) : Prop := ∀ (s0 : St × (St × (St))) (H : Heap) (locs : List Loc) (ls : Array Slot), g s0 = some r → va_P (dC, dI) vwCl (dw_X15 a ac s0) H → va_D A (dw_X15 a ac s0) → va_S A s.heap H locs → lv_has ls 5 [] → W p l e (headSpec ow_dm_X15_scan ({ frames := 2, cells := 0, slots := 0, locals := 49 })).room s m args below meth c H locs 0 0 Q (F0 m 95 ls [])
def dj_X15_scan_50 (p : Program) (l : Launch) (e : Env) (s : State) (m : MethodId) (args : Array Value) (below : List Frame) (meth : Method) (c : Code) (Q : State → Prop) (A : Nat → Prop) (dC : Nat → ClassId) (dI : Nat → Nat → Nat) (a : Nat → Nat) (ac : Nat → ClassId) (g : Int32 → (St × (St × (St))) → Option (St × (St × (St)))) (r : St × (St × (St))) : Prop := ∀ (x1 : Int32) (s0 : St × (St × (St))) (H : Heap) (locs : List Loc) (ls : Array Slot), g x1 s0 = some r → va_P (dC, dI) vwCl (dw_X15 a ac s0) H → va_D A (dw_X15 a ac s0) → va_S A s.heap H locs → lv_has ls 5 [(0, .ref (a 0)), (1, .int x1)] → W p l e (headSpec ow_dm_X15_scan ({ frames := 2, cells := 0, slots := 0, locals := 49 })).room s m args below meth c H locs 0 0 Q (F0 m 50 ls [])
def dj_X15_scan_0 (p : Program) (l : Launch) (e : Env) (s : State) (m : MethodId) (args : Array Value) (below : List Frame) (meth : Method) (c : Code) (Q : State → Prop) (A : Nat → Prop) (dC : Nat → ClassId) (dI : Nat → Nat → Nat) (a : Nat → Nat) (ac : Nat → ClassId) (g : (St × (St × (St))) → Option (St × (St × (St)))) (r : St × (St × (St))) : Prop := ∀ (s0 : St × (St × (St))) (H : Heap) (locs : List Loc) (ls : Array Slot), g s0 = some r → va_P (dC, dI) vwCl (dw_X15 a ac s0) H → va_D A (dw_X15 a ac s0) → va_S A s.heap H locs → lv_has ls 5 [(0, .ref (a 0))] → W p l e (headSpec ow_dm_X15_scan ({ frames := 2, cells := 0, slots := 0, locals := 49 })).room s m args below meth c H locs 0 0 Q (F0 m 0 ls [])
set_option maxHeartbeats 40000000 in
set_option maxRecDepth 100000 in
theorem db_X15_scan_453 {p : Program} {l : Launch} {e : Env} {s : State} {m : MethodId} {args : Array Value} {below : List Frame} {meth : Method} {c : Code} {Q : State → Prop} {A : Nat → Prop} {dC : Nat → ClassId} {dI : Nat → Nat → Nat} {a : Nat → Nat} {ac : Nat → ClassId} {n : Nat} {r : St × (St × (St))} (C : nd_C p l s m args c A (dC, dI) cX15_scan 5 RX15 ow_dm_X15_scan (dk_X15 ac)) (K : nd_Kv p l e (headSpec ow_dm_X15_scan ({ frames := 2, cells := 0, slots := 0, locals := 49 })).room s m args below meth c Q A (dC, dI) cX15_scan (St × (St × (St))) (dw_X15 a ac) r) : dj_X15_scan_453 p l e s m args below meth c Q A dC dI a ac (df_X15_scan_453 n) r := by
  obtain ⟨hlt, hx, hb, hml, hown, hts, hN, hA, hK⟩ := id C
  intro y1 y2 s0 H locs ls h hP hD hS hl
  unfold df_X15_scan_453 at h
  refine lv_iadd hx hb dX15_scan_453 ?_
  refine va_put (D := (dC, dI)) (ci := 16) (v := .int (y1 + y2)) (ty := .int) (C := RX15) (T := TX15) (N := 28) hx hb hts hi_dm_X15_scan_X15 tyX15 tyX15_ok nmX15 hown hK hP hD hS 0 rfl rfl 9 (by decide) (hts (.fieldLink RX15 73 "TimeMachineModel$Conditions" "at" "I") (List.mem_of_getElem? (i := 1) rfl)) (fun _ h9 => h9) rfl (by decide +kernel) rfl rfl (Nat.le_of_ble_eq_true rfl) dX15_scan_454 (fun H locs hP hD hS => ?_)
  obtain ⟨s43, es43, h⟩ := nd_let_e h
  have hP : va_P (dC, dI) vwCl (dw_X15 a ac s43) H := by rw [es43]; exact hP
  have hD : va_D A (dw_X15 a ac s43) := by rw [es43]; exact hD
  exact K _ _ _ _ _ dX15_scan_457 (Option.some.inj h).symm hP hD hS
set_option maxHeartbeats 40000000 in
set_option maxRecDepth 100000 in
theorem db_X15_scan_436 {p : Program} {l : Launch} {e : Env} {s : State} {m : MethodId} {args : Array Value} {below : List Frame} {meth : Method} {c : Code} {Q : State → Prop} {A : Nat → Prop} {dC : Nat → ClassId} {dI : Nat → Nat → Nat} {a : Nat → Nat} {ac : Nat → ClassId} {n : Nat} {r : St × (St × (St))} (C : nd_C p l s m args c A (dC, dI) cX15_scan 5 RX15 ow_dm_X15_scan (dk_X15 ac)) (K : nd_Kv p l e (headSpec ow_dm_X15_scan ({ frames := 2, cells := 0, slots := 0, locals := 49 })).room s m args below meth c Q A (dC, dI) cX15_scan (St × (St × (St))) (dw_X15 a ac) r) : dj_X15_scan_436 p l e s m args below meth c Q A dC dI a ac (df_X15_scan_436 n) r := by
  obtain ⟨hlt, hx, hb, hml, hown, hts, hN, hA, hK⟩ := id C
  intro x3 y1 s0 H locs ls h hP hD hS hl
  unfold df_X15_scan_436 at h
  refine va_put (D := (dC, dI)) (ci := 16) (v := .int y1) (ty := .int) (C := RX15) (T := TX15) (N := 28) hx hb hts hi_dm_X15_scan_X15 tyX15 tyX15_ok nmX15 hown hK hP hD hS 0 rfl rfl 10 (by decide) (hts (.fieldLink RX15 92 "TimeMachineModel$Conditions" "token" "I") (List.mem_of_getElem? (i := 9) rfl)) (fun _ h9 => h9) rfl (by decide +kernel) rfl rfl (Nat.le_of_ble_eq_true rfl) dX15_scan_436 (fun H locs hP hD hS => ?_)
  obtain ⟨s41, es41, h⟩ := nd_let_e h
  have hP : va_P (dC, dI) vwCl (dw_X15 a ac s41) H := by rw [es41]; exact hP
  have hD : va_D A (dw_X15 a ac s41) := by rw [es41]; exact hD
  refine lv_aload_n hx hb dX15_scan_439 rfl (lv_at hl 0 rfl) ?_
  refine lv_dup hx hb dX15_scan_440 rfl ?_
  refine va_get (D := (dC, dI)) (ci := 16) (v := .int (sI s41.1 1)) (C := RX15) (T := TX15) (N := 28) hx hb hts hi_dm_X15_scan_X15 hown hK hP 0 rfl rfl 9 (by decide) (hts (.fieldLink RX15 73 "TimeMachineModel$Conditions" "at" "I") (List.mem_of_getElem? (i := 1) rfl)) (fun _ h9 => h9) rfl dX15_scan_441 ?_
  refine lv_iload_n hx hb dX15_scan_444 rfl (lv_at hl 1 rfl) ?_
  refine lv_if_le (tgt := 452) hx hb dX15_scan_445 (by decide) (fun c42 => ?_) (fun c42 => ?_)
  · have h := nd_pos h c42
    refine lv_iconst (v := 1) hx hb dX15_scan_452 (by decide) ?_
    exact (db_X15_scan_453 C K) ((sI s41.1 1)) (1) s41 _ _ _ h hP hD hS (lv_sub hl [] rfl)
  · have h := nd_neg h c42
    refine lv_iconst (v := 2) hx hb dX15_scan_448 (by decide) ?_
    refine lv_goto (tgt := 453) hx hb dX15_scan_449 (by decide) ?_
    exact (db_X15_scan_453 C K) ((sI s41.1 1)) (2) s41 _ _ _ h hP hD hS (lv_sub hl [] rfl)
set_option maxHeartbeats 40000000 in
set_option maxRecDepth 100000 in
theorem db_X15_scan_423 {p : Program} {l : Launch} {e : Env} {s : State} {m : MethodId} {args : Array Value} {below : List Frame} {meth : Method} {c : Code} {Q : State → Prop} {A : Nat → Prop} {dC : Nat → ClassId} {dI : Nat → Nat → Nat} {a : Nat → Nat} {ac : Nat → ClassId} {n : Nat} {r : St × (St × (St))} (C : nd_C p l s m args c A (dC, dI) cX15_scan 5 RX15 ow_dm_X15_scan (dk_X15 ac)) (K : nd_Kv p l e (headSpec ow_dm_X15_scan ({ frames := 2, cells := 0, slots := 0, locals := 49 })).room s m args below meth c Q A (dC, dI) cX15_scan (St × (St × (St))) (dw_X15 a ac) r) : dj_X15_scan_423 p l e s m args below meth c Q A dC dI a ac (df_X15_scan_423 n) r := by
  obtain ⟨hlt, hx, hb, hml, hown, hts, hN, hA, hK⟩ := id C
  intro x3 y0 s0 H locs ls h hP hD hS hl
  unfold df_X15_scan_423 at h
  refine lv_istore (lv' := [(4, .int y0), (0, .ref (a 0)), (3, .int x3)]) hx hb dX15_scan_423 hl (by decide) rfl (fun ls hl => ?_)
  refine lv_aload_n hx hb dX15_scan_425 rfl (lv_at hl 1 rfl) ?_
  refine lv_iload_n hx hb dX15_scan_426 rfl (lv_at hl 2 rfl) ?_
  refine lv_if_le (tgt := 434) hx hb dX15_scan_427 (by decide) (fun c40 => ?_) (fun c40 => ?_)
  · have h := nd_pos h c40
    refine lv_iload hx hb dX15_scan_434 (lv_at hl 0 rfl) ?_
    exact (db_X15_scan_436 C K) (x3) (y0) s0 _ _ _ h hP hD hS (lv_sub hl [1, 2] rfl)
  · have h := nd_neg h c40
    refine lv_iload_n hx hb dX15_scan_430 rfl (lv_at hl 2 rfl) ?_
    refine lv_goto (tgt := 436) hx hb dX15_scan_431 (by decide) ?_
    exact (db_X15_scan_436 C K) (x3) (x3) s0 _ _ _ h hP hD hS (lv_sub hl [1, 2] rfl)
