def ow_dm_X15_charAt : List Cond := Cond.code yX15_charAt cX15_charAt 2 (some .int) :: ([Cond.fieldLink RX15 65 "TimeMachineModel$Conditions" "size" "I", Cond.fieldLink RX15 7 "TimeMachineModel$Conditions" "text" "[C"] ++ (u_ws RX15 TX15 28 ++ []))
theorem gd_dm_X15_charAt : ∀ w ∈ ow_dm_X15_charAt, (w.onTables && w.keeps) = true ∨ ∃ ty, w = Cond.arrayClass ty := List.forall_mem_cons.mpr ⟨good_of_word rfl, List.forall_mem_append.mpr ⟨fun w h => good_of_word (List.all_eq_true.mp (by decide +kernel) w h), List.forall_mem_append.mpr ⟨gu_X15, fun _ h => nomatch h⟩⟩⟩
theorem hi_dm_X15_charAt_X15 : ∀ w ∈ u_ws RX15 TX15 28, w ∈ ow_dm_X15_charAt := fun w h => List.mem_cons_of_mem _ (List.mem_append_right _ (List.mem_append_left _ h))
def dj_X15_charAt_18 (p : Program) (l : Launch) (e : Env) (s : State) (m : MethodId) (args : Array Value) (below : List Frame) (meth : Method) (c : Code) (Q : State → Prop) (A : Nat → Prop) (dC : Nat → ClassId) (dI : Nat → Nat → Nat) (a : Nat → Nat) (ac : Nat → ClassId) (g : Int32 → (St × (St × (St))) → Option (Int32 × (St × (St × (St))))) (r : Int32 × (St × (St × (St)))) : Prop := ∀ (y0 : Int32) (s0 : St × (St × (St))) (H : Heap) (locs : List Loc) (ls : Array Slot), g y0 s0 = some r → va_P (dC, dI) vwCl (dw_X15 a ac s0) H → va_D A (dw_X15 a ac s0) → va_S A s.heap H locs → lv_has ls 2 [] → W p l e (headSpec ow_dm_X15_charAt ({ frames := 0, cells := 0, slots := 0, locals := 0 })).room s m args below meth c H locs 0 0 Q (F0 m 18 ls [.int y0])
def dj_X15_charAt_0 (p : Program) (l : Launch) (e : Env) (s : State) (m : MethodId) (args : Array Value) (below : List Frame) (meth : Method) (c : Code) (Q : State → Prop) (A : Nat → Prop) (dC : Nat → ClassId) (dI : Nat → Nat → Nat) (a : Nat → Nat) (ac : Nat → ClassId) (g : Int32 → (St × (St × (St))) → Option (Int32 × (St × (St × (St))))) (r : Int32 × (St × (St × (St)))) : Prop := ∀ (v0 : Int32) (s0 : St × (St × (St))) (H : Heap) (locs : List Loc) (ls : Array Slot), g v0 s0 = some r → va_P (dC, dI) vwCl (dw_X15 a ac s0) H → va_D A (dw_X15 a ac s0) → va_S A s.heap H locs → lv_has ls 2 [(0, .ref (a 0)), (1, .int v0)] → W p l e (headSpec ow_dm_X15_charAt ({ frames := 0, cells := 0, slots := 0, locals := 0 })).room s m args below meth c H locs 0 0 Q (F0 m 0 ls [])
set_option maxHeartbeats 40000000 in
set_option maxRecDepth 100000 in
theorem db_X15_charAt_18 {p : Program} {l : Launch} {e : Env} {s : State} {m : MethodId} {args : Array Value} {below : List Frame} {meth : Method} {c : Code} {Q : State → Prop} {A : Nat → Prop} {dC : Nat → ClassId} {dI : Nat → Nat → Nat} {a : Nat → Nat} {ac : Nat → ClassId} {n : Nat} {r : Int32 × (St × (St × (St)))} (C : nd_C p l s m args c A (dC, dI) cX15_charAt 2 RX15 ow_dm_X15_charAt (dk_X15 ac)) (K : nd_Ki p l e (headSpec ow_dm_X15_charAt ({ frames := 0, cells := 0, slots := 0, locals := 0 })).room s m args below meth c Q A (dC, dI) cX15_charAt .int (St × (St × (St))) (dw_X15 a ac) r) : dj_X15_charAt_18 p l e s m args below meth c Q A dC dI a ac (df_X15_charAt_18 n) r := by
  obtain ⟨hlt, hx, hb, hml, hown, hts, hN, hA, hK⟩ := id C
  intro y0 s0 H locs ls h hP hD hS hl
  unfold df_X15_charAt_18 at h
  exact K _ _ _ _ _ _ dX15_charAt_18 rfl (Option.some.inj h).symm hP hD hS
set_option maxHeartbeats 40000000 in
set_option maxRecDepth 100000 in
theorem db_X15_charAt_0 {p : Program} {l : Launch} {e : Env} {s : State} {m : MethodId} {args : Array Value} {below : List Frame} {meth : Method} {c : Code} {Q : State → Prop} {A : Nat → Prop} {dC : Nat → ClassId} {dI : Nat → Nat → Nat} {a : Nat → Nat} {ac : Nat → ClassId} {n : Nat} {r : Int32 × (St × (St × (St)))} (C : nd_C p l s m args c A (dC, dI) cX15_charAt 2 RX15 ow_dm_X15_charAt (dk_X15 ac)) (K : nd_Ki p l e (headSpec ow_dm_X15_charAt ({ frames := 0, cells := 0, slots := 0, locals := 0 })).room s m args below meth c Q A (dC, dI) cX15_charAt .int (St × (St × (St))) (dw_X15 a ac) r) : dj_X15_charAt_0 p l e s m args below meth c Q A dC dI a ac (df_X15_charAt_0 n) r := by
  obtain ⟨hlt, hx, hb, hml, hown, hts, hN, hA, hK⟩ := id C
  intro v0 s0 H locs ls h hP hD hS hl
  unfold df_X15_charAt_0 at h
  refine lv_iload_n hx hb dX15_charAt_0 rfl (lv_at hl 1 rfl) ?_
  refine lv_aload_n hx hb dX15_charAt_1 rfl (lv_at hl 0 rfl) ?_
  refine va_get (D := (dC, dI)) (ci := 16) (v := .int (sI s0.1 0)) (C := RX15) (T := TX15) (N := 28) hx hb hts hi_dm_X15_charAt_X15 hown hK hP 0 rfl rfl 1 (by decide) (hts (.fieldLink RX15 65 "TimeMachineModel$Conditions" "size" "I") (List.mem_of_getElem? (i := 1) rfl)) (fun _ h9 => h9) rfl dX15_charAt_2 ?_
  refine lv_icmp_ge (tgt := 17) hx hb dX15_charAt_5 (by decide) (fun c1 => ?_) (fun c1 => ?_)
  · have h := nd_pos h c1
    refine lv_iconst (v := 0) hx hb dX15_charAt_17 (by decide) ?_
    exact (db_X15_charAt_18 C K) (0) s0 _ _ _ h hP hD hS (lv_sub hl [] rfl)
  · have h := nd_neg h c1
    refine lv_aload_n hx hb dX15_charAt_8 rfl (lv_at hl 0 rfl) ?_
    refine va_get (D := (dC, dI)) (ci := 16) (v := .ref (a 1)) (C := RX15) (T := TX15) (N := 28) hx hb hts hi_dm_X15_charAt_X15 hown hK hP 0 rfl rfl 2 (by decide) (hts (.fieldLink RX15 7 "TimeMachineModel$Conditions" "text" "[C") (List.mem_of_getElem? (i := 2) rfl)) (fun _ h9 => h9) rfl dX15_charAt_9 ?_
    refine lv_iload_n hx hb dX15_charAt_12 rfl (lv_at hl 1 rfl) ?_
    obtain ⟨i2, h⟩ := nd_ck_e h
    refine va_cald (i := v0) hx hb hK hP 1 0 rfl rfl i2 dX15_charAt_13 ?_
    refine lv_goto (tgt := 18) hx hb dX15_charAt_14 (by decide) ?_
    exact (db_X15_charAt_18 C K) ((sR s0.1 0 (Int32.toNatClampNeg v0))) s0 _ _ _ h hP hD hS (lv_sub hl [] rfl)
set_option maxHeartbeats 40000000 in
set_option maxRecDepth 100000 in
theorem dm_X15_charAt (l : Launch) (hlt : l.stackTraces = false) (dC : Nat → ClassId) (dI : Nat → Nat → Nat) (a : Nat → Nat) (ac : Nat → ClassId) (n : Nat) (v0 : Int32) (s0 : St × (St × (St))) {r : Int32 × (St × (St × (St)))} (h : df_X15_charAt n v0 s0 = some r) (sz : Nat) : Met l yX15_charAt ow_dm_X15_charAt ({ frames := 0, cells := 0, slots := 0, locals := 0 }) (va_Pc [.ref (a 0), .int v0] (fun U => U.heap.size = sz ∧ va_P (dC, dI) vwCl (dw_X15 a ac s0) U.heap ∧ va_K (dC, dI) vwCl (dk_X15 ac) U ∧ va_D (fun _ => True) (dw_X15 a ac s0) ∧ nv_E dI (va_A (dw_X15 a ac s0) sz) U)) (va_Qi (fun x _ => x = r.1) (fun (_ : Unit) t => va_P (dC, dI) vwCl (dw_X15 a ac r.2) t.heap ∧ va_K (dC, dI) vwCl (dk_X15 ac) t ∧ va_D (va_A (dw_X15 a ac s0) sz) (dw_X15 a ac r.2)) (va_A (dw_X15 a ac s0) sz)) 0 0 (va_A (dw_X15 a ac s0) sz) := by
  refine Met.ofW (cc := cX15_charAt) (maxL := 2) (ret := (some .int)) (by decide) rfl ?_
  intro p e s m args below meth c s₁ B hml hv
  obtain ⟨rfl, hsz, hP, hK, hD0, hN⟩ := hv
  have hx := B.exec
  have hb := B.bytes
  have hr := B.returns
  have hts := atoms_spec (ws := ow_dm_X15_charAt) B.pre
  have hown : s.vm.findClass RX15 = some m.cls := findClass_of_methodNamed B.named
  have hlocks := B.notSynchronized
  subst hsz
  have hD := hD0.self (sz := s.heap.size)
  generalize hAe : va_A (dw_X15 a ac s0) s.heap.size = A at hD hN ⊢
  have hA : ∀ q : Nat, s.heap.size ≤ q → A q := fun q h => by rw [← hAe]; exact Or.inr h
  have hl := lv_entry ([.ref (a 0), .int v0]) (n := 2) (Nat.le_of_ble_eq_true rfl)
  rw [lg_entry_eq]
  generalize (lg_sl ([.ref (a 0), .int v0]) ++ List.replicate (2 - (lg_sl ([.ref (a 0), .int v0])).length) Slot.unset).toArray = ls at hl ⊢
  have hl : lv_has ls 2 [(0, .ref (a 0)), (1, .int v0)] := hl
  exact db_X15_charAt_0 (dC := dC) (dI := dI) (a := a) (ac := ac) (n := n) (r := r) ⟨hlt, hx, hb, hml, hown, hts, hN, hA, hK⟩ (fun pc v τ H locs ls d z er hP hD hS => by subst er; exact W.zret (v := v) hx hb hr z (fun t ht hW => ⟨⟨v, (), rfl, rfl, by rw [ht]; exact hP, va_K.moved hW.alike hK, hD⟩, hS.F ht⟩) hS.2.2 d) v0 s0 _ _ _ h hP hD va_S.rf (lv_sub hl [0, 1] rfl)
def ow_dm_X15_isDigit : List Cond := Cond.code yX15_isDigit cX15_isDigit 1 (some .boolean) :: ([] ++ [])
theorem gd_dm_X15_isDigit : ∀ w ∈ ow_dm_X15_isDigit, (w.onTables && w.keeps) = true ∨ ∃ ty, w = Cond.arrayClass ty := List.forall_mem_cons.mpr ⟨good_of_word rfl, List.forall_mem_append.mpr ⟨fun w h => good_of_word (List.all_eq_true.mp (by decide +kernel) w h), fun _ h => nomatch h⟩⟩
def dj_X15_isDigit_17 (p : Program) (l : Launch) (e : Env) (s : State) (m : MethodId) (args : Array Value) (below : List Frame) (meth : Method) (c : Code) (Q : State → Prop) (A : Nat → Prop) (dC : Nat → ClassId) (dI : Nat → Nat → Nat) (a : Nat → Nat) (ac : Nat → ClassId) (g : Int32 → (Unit) → Option (Int32 × (Unit))) (r : Int32 × (Unit)) : Prop := ∀ (y0 : Int32) (s0 : Unit) (H : Heap) (locs : List Loc) (ls : Array Slot), g y0 s0 = some r → va_P (dC, dI) vwCl (dw_P a ac s0) H → va_D A (dw_P a ac s0) → va_S A s.heap H locs → lv_has ls 1 [] → W p l e (headSpec ow_dm_X15_isDigit ({ frames := 0, cells := 0, slots := 0, locals := 0 })).room s m args below meth c H locs 0 0 Q (F0 m 17 ls [.int y0])
def dj_X15_isDigit_16 (p : Program) (l : Launch) (e : Env) (s : State) (m : MethodId) (args : Array Value) (below : List Frame) (meth : Method) (c : Code) (Q : State → Prop) (A : Nat → Prop) (dC : Nat → ClassId) (dI : Nat → Nat → Nat) (a : Nat → Nat) (ac : Nat → ClassId) (g : (Unit) → Option (Int32 × (Unit))) (r : Int32 × (Unit)) : Prop := ∀ (s0 : Unit) (H : Heap) (locs : List Loc) (ls : Array Slot), g s0 = some r → va_P (dC, dI) vwCl (dw_P a ac s0) H → va_D A (dw_P a ac s0) → va_S A s.heap H locs → lv_has ls 1 [] → W p l e (headSpec ow_dm_X15_isDigit ({ frames := 0, cells := 0, slots := 0, locals := 0 })).room s m args below meth c H locs 0 0 Q (F0 m 16 ls [])
def dj_X15_isDigit_0 (p : Program) (l : Launch) (e : Env) (s : State) (m : MethodId) (args : Array Value) (below : List Frame) (meth : Method) (c : Code) (Q : State → Prop) (A : Nat → Prop) (dC : Nat → ClassId) (dI : Nat → Nat → Nat) (a : Nat → Nat) (ac : Nat → ClassId) (g : Int32 → (Unit) → Option (Int32 × (Unit))) (r : Int32 × (Unit)) : Prop := ∀ (v0 : Int32) (s0 : Unit) (H : Heap) (locs : List Loc) (ls : Array Slot), g v0 s0 = some r → va_P (dC, dI) vwCl (dw_P a ac s0) H → va_D A (dw_P a ac s0) → va_S A s.heap H locs → lv_has ls 1 [(0, .int v0)] → W p l e (headSpec ow_dm_X15_isDigit ({ frames := 0, cells := 0, slots := 0, locals := 0 })).room s m args below meth c H locs 0 0 Q (F0 m 0 ls [])
set_option maxHeartbeats 40000000 in
set_option maxRecDepth 100000 in
theorem db_X15_isDigit_17 {p : Program} {l : Launch} {e : Env} {s : State} {m : MethodId} {args : Array Value} {below : List Frame} {meth : Method} {c : Code} {Q : State → Prop} {A : Nat → Prop} {dC : Nat → ClassId} {dI : Nat → Nat → Nat} {a : Nat → Nat} {ac : Nat → ClassId} {n : Nat} {r : Int32 × (Unit)} (C : nd_C p l s m args c A (dC, dI) cX15_isDigit 1 RX15 ow_dm_X15_isDigit (dk_P ac)) (K : nd_Ki p l e (headSpec ow_dm_X15_isDigit ({ frames := 0, cells := 0, slots := 0, locals := 0 })).room s m args below meth c Q A (dC, dI) cX15_isDigit .boolean (Unit) (dw_P a ac) r) : dj_X15_isDigit_17 p l e s m args below meth c Q A dC dI a ac (df_X15_isDigit_17 n) r := by
  obtain ⟨hlt, hx, hb, hml, hown, hts, hN, hA, hK⟩ := id C
  intro y0 s0 H locs ls h hP hD hS hl
  unfold df_X15_isDigit_17 at h
  obtain ⟨n2, h⟩ := nd_z_e ⟨_, rfl⟩ h
  exact K _ _ _ _ _ _ dX15_isDigit_17 n2 (Option.some.inj h).symm hP hD hS
set_option maxHeartbeats 40000000 in
set_option maxRecDepth 100000 in
theorem db_X15_isDigit_16 {p : Program} {l : Launch} {e : Env} {s : State} {m : MethodId} {args : Array Value} {below : List Frame} {meth : Method} {c : Code} {Q : State → Prop} {A : Nat → Prop} {dC : Nat → ClassId} {dI : Nat → Nat → Nat} {a : Nat → Nat} {ac : Nat → ClassId} {n : Nat} {r : Int32 × (Unit)} (C : nd_C p l s m args c A (dC, dI) cX15_isDigit 1 RX15 ow_dm_X15_isDigit (dk_P ac)) (K : nd_Ki p l e (headSpec ow_dm_X15_isDigit ({ frames := 0, cells := 0, slots := 0, locals := 0 })).room s m args below meth c Q A (dC, dI) cX15_isDigit .boolean (Unit) (dw_P a ac) r) : dj_X15_isDigit_16 p l e s m args below meth c Q A dC dI a ac (df_X15_isDigit_16 n) r := by
  obtain ⟨hlt, hx, hb, hml, hown, hts, hN, hA, hK⟩ := id C
  intro s0 H locs ls h hP hD hS hl
  unfold df_X15_isDigit_16 at h
  refine lv_iconst (v := 0) hx hb dX15_isDigit_16 (by decide) ?_
  exact (db_X15_isDigit_17 C K) (0) s0 _ _ _ h hP hD hS (lv_sub hl [] rfl)
set_option maxHeartbeats 40000000 in
set_option maxRecDepth 100000 in
theorem db_X15_isDigit_0 {p : Program} {l : Launch} {e : Env} {s : State} {m : MethodId} {args : Array Value} {below : List Frame} {meth : Method} {c : Code} {Q : State → Prop} {A : Nat → Prop} {dC : Nat → ClassId} {dI : Nat → Nat → Nat} {a : Nat → Nat} {ac : Nat → ClassId} {n : Nat} {r : Int32 × (Unit)} (C : nd_C p l s m args c A (dC, dI) cX15_isDigit 1 RX15 ow_dm_X15_isDigit (dk_P ac)) (K : nd_Ki p l e (headSpec ow_dm_X15_isDigit ({ frames := 0, cells := 0, slots := 0, locals := 0 })).room s m args below meth c Q A (dC, dI) cX15_isDigit .boolean (Unit) (dw_P a ac) r) : dj_X15_isDigit_0 p l e s m args below meth c Q A dC dI a ac (df_X15_isDigit_0 n) r := by
  obtain ⟨hlt, hx, hb, hml, hown, hts, hN, hA, hK⟩ := id C
  intro v0 s0 H locs ls h hP hD hS hl
  unfold df_X15_isDigit_0 at h
  refine lv_iload_n hx hb dX15_isDigit_0 rfl (lv_at hl 0 rfl) ?_
  refine lv_bipush (v := 48) hx hb dX15_isDigit_1 (by decide) ?_
  refine lv_icmp_lt (tgt := 16) hx hb dX15_isDigit_3 (by decide) (fun c1 => ?_) (fun c1 => ?_)
  · have h := nd_pos h c1
    exact (db_X15_isDigit_16 C K)  s0 _ _ _ h hP hD hS (lv_sub hl [] rfl)
  · have h := nd_neg h c1
    refine lv_iload_n hx hb dX15_isDigit_6 rfl (lv_at hl 0 rfl) ?_
    refine lv_bipush (v := 57) hx hb dX15_isDigit_7 (by decide) ?_
    refine lv_icmp_gt (tgt := 16) hx hb dX15_isDigit_9 (by decide) (fun c3 => ?_) (fun c3 => ?_)
    · have h := nd_pos h c3
      exact (db_X15_isDigit_16 C K)  s0 _ _ _ h hP hD hS (lv_sub hl [] rfl)
    · have h := nd_neg h c3
      refine lv_iconst (v := 1) hx hb dX15_isDigit_12 (by decide) ?_
      refine lv_goto (tgt := 17) hx hb dX15_isDigit_13 (by decide) ?_
      exact (db_X15_isDigit_17 C K) (1) s0 _ _ _ h hP hD hS (lv_sub hl [] rfl)
set_option maxHeartbeats 40000000 in
set_option maxRecDepth 100000 in
theorem dm_X15_isDigit (l : Launch) (hlt : l.stackTraces = false) (dC : Nat → ClassId) (dI : Nat → Nat → Nat) (a : Nat → Nat) (ac : Nat → ClassId) (n : Nat) (v0 : Int32) (s0 : Unit) {r : Int32 × (Unit)} (h : df_X15_isDigit n v0 s0 = some r) (sz : Nat) : Met l yX15_isDigit ow_dm_X15_isDigit ({ frames := 0, cells := 0, slots := 0, locals := 0 }) (va_Pc [.int v0] (fun U => U.heap.size = sz ∧ va_P (dC, dI) vwCl (dw_P a ac s0) U.heap ∧ va_K (dC, dI) vwCl (dk_P ac) U ∧ va_D (fun _ => True) (dw_P a ac s0) ∧ nv_E dI (va_A (dw_P a ac s0) sz) U)) (va_Qi (fun x _ => x = r.1) (fun (_ : Unit) t => va_P (dC, dI) vwCl (dw_P a ac r.2) t.heap ∧ va_K (dC, dI) vwCl (dk_P ac) t ∧ va_D (va_A (dw_P a ac s0) sz) (dw_P a ac r.2)) (va_A (dw_P a ac s0) sz)) 0 0 (va_A (dw_P a ac s0) sz) := by
  refine Met.ofW (cc := cX15_isDigit) (maxL := 1) (ret := (some .boolean)) (by decide) rfl ?_
  intro p e s m args below meth c s₁ B hml hv
  obtain ⟨rfl, hsz, hP, hK, hD0, hN⟩ := hv
  have hx := B.exec
  have hb := B.bytes
  have hr := B.returns
  have hts := atoms_spec (ws := ow_dm_X15_isDigit) B.pre
  have hown : s.vm.findClass RX15 = some m.cls := findClass_of_methodNamed B.named
  have hlocks := B.notSynchronized
  subst hsz
  have hD := hD0.self (sz := s.heap.size)
  generalize hAe : va_A (dw_P a ac s0) s.heap.size = A at hD hN ⊢
  have hA : ∀ q : Nat, s.heap.size ≤ q → A q := fun q h => by rw [← hAe]; exact Or.inr h
  have hl := lv_entry ([.int v0]) (n := 1) (Nat.le_of_ble_eq_true rfl)
  rw [lg_entry_eq]
  generalize (lg_sl ([.int v0]) ++ List.replicate (1 - (lg_sl ([.int v0])).length) Slot.unset).toArray = ls at hl ⊢
  have hl : lv_has ls 1 [(0, .int v0)] := hl
  exact db_X15_isDigit_0 (dC := dC) (dI := dI) (a := a) (ac := ac) (n := n) (r := r) ⟨hlt, hx, hb, hml, hown, hts, hN, hA, hK⟩ (fun pc v τ H locs ls d z er hP hD hS => by subst er; exact W.zret (v := v) hx hb hr z (fun t ht hW => ⟨⟨v, (), rfl, rfl, by rw [ht]; exact hP, va_K.moved hW.alike hK, hD⟩, hS.F ht⟩) hS.2.2 d) v0 s0 _ _ _ h hP hD va_S.rf (lv_sub hl [0] rfl)
def ow_dm_X15_isPlain : List Cond := Cond.code yX15_isPlain cX15_isPlain 1 (some .boolean) :: ([Cond.methodLink RX15 69 yX15_isDigit, Cond.static yX15_isDigit, Cond.initialized RX15] ++ (ow_dm_X15_isDigit ++ []))
theorem gd_dm_X15_isPlain : ∀ w ∈ ow_dm_X15_isPlain, (w.onTables && w.keeps) = true ∨ ∃ ty, w = Cond.arrayClass ty := List.forall_mem_cons.mpr ⟨good_of_word rfl, List.forall_mem_append.mpr ⟨fun w h => good_of_word (List.all_eq_true.mp (by decide +kernel) w h), List.forall_mem_append.mpr ⟨gd_dm_X15_isDigit, fun _ h => nomatch h⟩⟩⟩
theorem gi_dm_X15_isPlain_0 : GoodIn ow_dm_X15_isPlain (wsS RX15 69 yX15_isDigit ow_dm_X15_isDigit) := goodIn_app (goodIn_of _ (by decide +kernel)) (fun w h => ⟨List.mem_cons_of_mem _ (List.mem_append_right _ (List.mem_append_left _ h)), gd_dm_X15_isDigit w h⟩)
def dj_X15_isPlain_36 (p : Program) (l : Launch) (e : Env) (s : State) (m : MethodId) (args : Array Value) (below : List Frame) (meth : Method) (c : Code) (Q : State → Prop) (A : Nat → Prop) (dC : Nat → ClassId) (dI : Nat → Nat → Nat) (a : Nat → Nat) (ac : Nat → ClassId) (g : Int32 → (Unit) → Option (Int32 × (Unit))) (r : Int32 × (Unit)) : Prop := ∀ (y0 : Int32) (s0 : Unit) (H : Heap) (locs : List Loc) (ls : Array Slot), g y0 s0 = some r → va_P (dC, dI) vwCl (dw_P a ac s0) H → va_D A (dw_P a ac s0) → va_S A s.heap H locs → lv_has ls 1 [] → W p l e (headSpec ow_dm_X15_isPlain ({ frames := 1, cells := 0, slots := 0, locals := 20 })).room s m args below meth c H locs 0 0 Q (F0 m 36 ls [.int y0])
def dj_X15_isPlain_31 (p : Program) (l : Launch) (e : Env) (s : State) (m : MethodId) (args : Array Value) (below : List Frame) (meth : Method) (c : Code) (Q : State → Prop) (A : Nat → Prop) (dC : Nat → ClassId) (dI : Nat → Nat → Nat) (a : Nat → Nat) (ac : Nat → ClassId) (g : (Unit) → Option (Int32 × (Unit))) (r : Int32 × (Unit)) : Prop := ∀ (s0 : Unit) (H : Heap) (locs : List Loc) (ls : Array Slot), g s0 = some r → va_P (dC, dI) vwCl (dw_P a ac s0) H → va_D A (dw_P a ac s0) → va_S A s.heap H locs → lv_has ls 1 [] → W p l e (headSpec ow_dm_X15_isPlain ({ frames := 1, cells := 0, slots := 0, locals := 20 })).room s m args below meth c H locs 0 0 Q (F0 m 31 ls [])
def dj_X15_isPlain_35 (p : Program) (l : Launch) (e : Env) (s : State) (m : MethodId) (args : Array Value) (below : List Frame) (meth : Method) (c : Code) (Q : State → Prop) (A : Nat → Prop) (dC : Nat → ClassId) (dI : Nat → Nat → Nat) (a : Nat → Nat) (ac : Nat → ClassId) (g : (Unit) → Option (Int32 × (Unit))) (r : Int32 × (Unit)) : Prop := ∀ (s0 : Unit) (H : Heap) (locs : List Loc) (ls : Array Slot), g s0 = some r → va_P (dC, dI) vwCl (dw_P a ac s0) H → va_D A (dw_P a ac s0) → va_S A s.heap H locs → lv_has ls 1 [] → W p l e (headSpec ow_dm_X15_isPlain ({ frames := 1, cells := 0, slots := 0, locals := 20 })).room s m args below meth c H locs 0 0 Q (F0 m 35 ls [])
def dj_X15_isPlain_19 (p : Program) (l : Launch) (e : Env) (s : State) (m : MethodId) (args : Array Value) (below : List Frame) (meth : Method) (c : Code) (Q : State → Prop) (A : Nat → Prop) (dC : Nat → ClassId) (dI : Nat → Nat → Nat) (a : Nat → Nat) (ac : Nat → ClassId) (g : Int32 → (Unit) → Option (Int32 × (Unit))) (r : Int32 × (Unit)) : Prop := ∀ (x0 : Int32) (s0 : Unit) (H : Heap) (locs : List Loc) (ls : Array Slot), g x0 s0 = some r → va_P (dC, dI) vwCl (dw_P a ac s0) H → va_D A (dw_P a ac s0) → va_S A s.heap H locs → lv_has ls 1 [(0, .int x0)] → W p l e (headSpec ow_dm_X15_isPlain ({ frames := 1, cells := 0, slots := 0, locals := 20 })).room s m args below meth c H locs 0 0 Q (F0 m 19 ls [])
def dj_X15_isPlain_0 (p : Program) (l : Launch) (e : Env) (s : State) (m : MethodId) (args : Array Value) (below : List Frame) (meth : Method) (c : Code) (Q : State → Prop) (A : Nat → Prop) (dC : Nat → ClassId) (dI : Nat → Nat → Nat) (a : Nat → Nat) (ac : Nat → ClassId) (g : Int32 → (Unit) → Option (Int32 × (Unit))) (r : Int32 × (Unit)) : Prop := ∀ (v0 : Int32) (s0 : Unit) (H : Heap) (locs : List Loc) (ls : Array Slot), g v0 s0 = some r → va_P (dC, dI) vwCl (dw_P a ac s0) H → va_D A (dw_P a ac s0) → va_S A s.heap H locs → lv_has ls 1 [(0, .int v0)] → W p l e (headSpec ow_dm_X15_isPlain ({ frames := 1, cells := 0, slots := 0, locals := 20 })).room s m args below meth c H locs 0 0 Q (F0 m 0 ls [])
set_option maxHeartbeats 40000000 in
set_option maxRecDepth 100000 in
theorem db_X15_isPlain_36 {p : Program} {l : Launch} {e : Env} {s : State} {m : MethodId} {args : Array Value} {below : List Frame} {meth : Method} {c : Code} {Q : State → Prop} {A : Nat → Prop} {dC : Nat → ClassId} {dI : Nat → Nat → Nat} {a : Nat → Nat} {ac : Nat → ClassId} {n : Nat} {r : Int32 × (Unit)} (C : nd_C p l s m args c A (dC, dI) cX15_isPlain 1 RX15 ow_dm_X15_isPlain (dk_P ac)) (K : nd_Ki p l e (headSpec ow_dm_X15_isPlain ({ frames := 1, cells := 0, slots := 0, locals := 20 })).room s m args below meth c Q A (dC, dI) cX15_isPlain .boolean (Unit) (dw_P a ac) r) : dj_X15_isPlain_36 p l e s m args below meth c Q A dC dI a ac (df_X15_isPlain_36 n) r := by
  obtain ⟨hlt, hx, hb, hml, hown, hts, hN, hA, hK⟩ := id C
  intro y0 s0 H locs ls h hP hD hS hl
  unfold df_X15_isPlain_36 at h
  obtain ⟨n5, h⟩ := nd_z_e ⟨_, rfl⟩ h
  exact K _ _ _ _ _ _ dX15_isPlain_36 n5 (Option.some.inj h).symm hP hD hS
set_option maxHeartbeats 40000000 in
set_option maxRecDepth 100000 in
theorem db_X15_isPlain_31 {p : Program} {l : Launch} {e : Env} {s : State} {m : MethodId} {args : Array Value} {below : List Frame} {meth : Method} {c : Code} {Q : State → Prop} {A : Nat → Prop} {dC : Nat → ClassId} {dI : Nat → Nat → Nat} {a : Nat → Nat} {ac : Nat → ClassId} {n : Nat} {r : Int32 × (Unit)} (C : nd_C p l s m args c A (dC, dI) cX15_isPlain 1 RX15 ow_dm_X15_isPlain (dk_P ac)) (K : nd_Ki p l e (headSpec ow_dm_X15_isPlain ({ frames := 1, cells := 0, slots := 0, locals := 20 })).room s m args below meth c Q A (dC, dI) cX15_isPlain .boolean (Unit) (dw_P a ac) r) : dj_X15_isPlain_31 p l e s m args below meth c Q A dC dI a ac (df_X15_isPlain_31 n) r := by
  obtain ⟨hlt, hx, hb, hml, hown, hts, hN, hA, hK⟩ := id C
  intro s0 H locs ls h hP hD hS hl
  unfold df_X15_isPlain_31 at h
  refine lv_iconst (v := 1) hx hb dX15_isPlain_31 (by decide) ?_
  refine lv_goto (tgt := 36) hx hb dX15_isPlain_32 (by decide) ?_
  exact (db_X15_isPlain_36 C K) (1) s0 _ _ _ h hP hD hS (lv_sub hl [] rfl)
set_option maxHeartbeats 40000000 in
set_option maxRecDepth 100000 in
theorem db_X15_isPlain_35 {p : Program} {l : Launch} {e : Env} {s : State} {m : MethodId} {args : Array Value} {below : List Frame} {meth : Method} {c : Code} {Q : State → Prop} {A : Nat → Prop} {dC : Nat → ClassId} {dI : Nat → Nat → Nat} {a : Nat → Nat} {ac : Nat → ClassId} {n : Nat} {r : Int32 × (Unit)} (C : nd_C p l s m args c A (dC, dI) cX15_isPlain 1 RX15 ow_dm_X15_isPlain (dk_P ac)) (K : nd_Ki p l e (headSpec ow_dm_X15_isPlain ({ frames := 1, cells := 0, slots := 0, locals := 20 })).room s m args below meth c Q A (dC, dI) cX15_isPlain .boolean (Unit) (dw_P a ac) r) : dj_X15_isPlain_35 p l e s m args below meth c Q A dC dI a ac (df_X15_isPlain_35 n) r := by
  obtain ⟨hlt, hx, hb, hml, hown, hts, hN, hA, hK⟩ := id C
  intro s0 H locs ls h hP hD hS hl
  unfold df_X15_isPlain_35 at h
  refine lv_iconst (v := 0) hx hb dX15_isPlain_35 (by decide) ?_
  exact (db_X15_isPlain_36 C K) (0) s0 _ _ _ h hP hD hS (lv_sub hl [] rfl)
set_option maxHeartbeats 40000000 in
set_option maxRecDepth 100000 in
theorem db_X15_isPlain_19 {p : Program} {l : Launch} {e : Env} {s : State} {m : MethodId} {args : Array Value} {below : List Frame} {meth : Method} {c : Code} {Q : State → Prop} {A : Nat → Prop} {dC : Nat → ClassId} {dI : Nat → Nat → Nat} {a : Nat → Nat} {ac : Nat → ClassId} {n : Nat} {r : Int32 × (Unit)} (C : nd_C p l s m args c A (dC, dI) cX15_isPlain 1 RX15 ow_dm_X15_isPlain (dk_P ac)) (K : nd_Ki p l e (headSpec ow_dm_X15_isPlain ({ frames := 1, cells := 0, slots := 0, locals := 20 })).room s m args below meth c Q A (dC, dI) cX15_isPlain .boolean (Unit) (dw_P a ac) r) : dj_X15_isPlain_19 p l e s m args below meth c Q A dC dI a ac (df_X15_isPlain_19 n) r := by
  obtain ⟨hlt, hx, hb, hml, hown, hts, hN, hA, hK⟩ := id C
  intro x0 s0 H locs ls h hP hD hS hl
  unfold df_X15_isPlain_19 at h
  refine lv_iload_n hx hb dX15_isPlain_19 rfl (lv_at hl 0 rfl) ?_
  refine lv_bipush (v := 65) hx hb dX15_isPlain_20 (by decide) ?_
  refine lv_icmp_lt (tgt := 35) hx hb dX15_isPlain_22 (by decide) (fun c7 => ?_) (fun c7 => ?_)
  · have h := nd_pos h c7
    exact (db_X15_isPlain_35 C K)  s0 _ _ _ h hP hD hS (lv_sub hl [] rfl)
  · have h := nd_neg h c7
    refine lv_iload_n hx hb dX15_isPlain_25 rfl (lv_at hl 0 rfl) ?_
    refine lv_bipush (v := 90) hx hb dX15_isPlain_26 (by decide) ?_
    refine lv_icmp_gt (tgt := 35) hx hb dX15_isPlain_28 (by decide) (fun c8 => ?_) (fun c8 => ?_)
    · have h := nd_pos h c8
      exact (db_X15_isPlain_35 C K)  s0 _ _ _ h hP hD hS (lv_sub hl [] rfl)
    · have h := nd_neg h c8
      exact (db_X15_isPlain_31 C K)  s0 _ _ _ h hP hD hS (lv_sub hl [] rfl)
set_option maxHeartbeats 40000000 in
set_option maxRecDepth 100000 in
theorem db_X15_isPlain_0 {p : Program} {l : Launch} {e : Env} {s : State} {m : MethodId} {args : Array Value} {below : List Frame} {meth : Method} {c : Code} {Q : State → Prop} {A : Nat → Prop} {dC : Nat → ClassId} {dI : Nat → Nat → Nat} {a : Nat → Nat} {ac : Nat → ClassId} {n : Nat} {r : Int32 × (Unit)} (C : nd_C p l s m args c A (dC, dI) cX15_isPlain 1 RX15 ow_dm_X15_isPlain (dk_P ac)) (K : nd_Ki p l e (headSpec ow_dm_X15_isPlain ({ frames := 1, cells := 0, slots := 0, locals := 20 })).room s m args below meth c Q A (dC, dI) cX15_isPlain .boolean (Unit) (dw_P a ac) r) : dj_X15_isPlain_0 p l e s m args below meth c Q A dC dI a ac (df_X15_isPlain_0 n) r := by
  obtain ⟨hlt, hx, hb, hml, hown, hts, hN, hA, hK⟩ := id C
  intro v0 s0 H locs ls h hP hD hS hl
  unfold df_X15_isPlain_0 at h
  refine lv_iload_n hx hb dX15_isPlain_0 rfl (lv_at hl 0 rfl) ?_
  obtain ⟨q1, s2, hq, h⟩ := nd_b2_e h
  have hPc : va_P (dC, dI) vwCl (dw_P a ac ()) H := nd_p0
  have hDc : va_D A (dw_P a ac ()) := nd_d0
  have hKc : va_K (dC, dI) vwCl (dk_P ac) s := nd_y0 hK
  have hFc : ∀ q, va_A (dw_P a ac ()) H.size q → A q := nd_r0 hS hA
  refine nd_cSi (As := [.int v0]) (rest := []) (q := q1) (w' := dw_P a ac s2) ⟨hx, hb, hml, hown, hts⟩ (fun sz => dm_X15_isDigit l hlt dC dI a ac n (v0) () hq sz) (cwS 1 hts gi_dm_X15_isPlain_0 rfl rfl rfl (by decide +kernel) ⟨Nat.le_of_ble_eq_true rfl, Nat.le_of_ble_eq_true rfl⟩) hPc hDc hKc hS hA hN rfl hl.1 rfl (Nat.le_of_ble_eq_true rfl) dX15_isPlain_1 (fun H locs hP1 hD1 hk1 hS => ?_)
  have hP := nd_n0 hP hk1
  refine lv_if_ne (tgt := 31) hx hb dX15_isPlain_4 (by decide) (fun c4 => ?_) (fun c4 => ?_)
  · have h := nd_neg h c4
    exact (db_X15_isPlain_31 C K)  s0 _ _ _ h hP hD hS (lv_sub hl [] rfl)
  · have h := nd_pos h c4
    refine lv_iload_n hx hb dX15_isPlain_7 rfl (lv_at hl 0 rfl) ?_
    refine lv_bipush (v := 97) hx hb dX15_isPlain_8 (by decide) ?_
    refine lv_icmp_lt (tgt := 19) hx hb dX15_isPlain_10 (by decide) (fun c6 => ?_) (fun c6 => ?_)
    · have h := nd_pos h c6
      exact (db_X15_isPlain_19 C K) (v0) s0 _ _ _ h hP hD hS (lv_sub hl [0] rfl)
    · have h := nd_neg h c6
      refine lv_iload_n hx hb dX15_isPlain_13 rfl (lv_at hl 0 rfl) ?_
      refine lv_bipush (v := 122) hx hb dX15_isPlain_14 (by decide) ?_
      refine lv_icmp_le (tgt := 31) hx hb dX15_isPlain_16 (by decide) (fun c9 => ?_) (fun c9 => ?_)
      · have h := nd_pos h c9
        exact (db_X15_isPlain_31 C K)  s0 _ _ _ h hP hD hS (lv_sub hl [] rfl)
      · have h := nd_neg h c9
        exact (db_X15_isPlain_19 C K) (v0) s0 _ _ _ h hP hD hS (lv_sub hl [0] rfl)
set_option maxHeartbeats 40000000 in
set_option maxRecDepth 100000 in
theorem dm_X15_isPlain (l : Launch) (hlt : l.stackTraces = false) (dC : Nat → ClassId) (dI : Nat → Nat → Nat) (a : Nat → Nat) (ac : Nat → ClassId) (n : Nat) (v0 : Int32) (s0 : Unit) {r : Int32 × (Unit)} (h : df_X15_isPlain n v0 s0 = some r) (sz : Nat) : Met l yX15_isPlain ow_dm_X15_isPlain ({ frames := 1, cells := 0, slots := 0, locals := 20 }) (va_Pc [.int v0] (fun U => U.heap.size = sz ∧ va_P (dC, dI) vwCl (dw_P a ac s0) U.heap ∧ va_K (dC, dI) vwCl (dk_P ac) U ∧ va_D (fun _ => True) (dw_P a ac s0) ∧ nv_E dI (va_A (dw_P a ac s0) sz) U)) (va_Qi (fun x _ => x = r.1) (fun (_ : Unit) t => va_P (dC, dI) vwCl (dw_P a ac r.2) t.heap ∧ va_K (dC, dI) vwCl (dk_P ac) t ∧ va_D (va_A (dw_P a ac s0) sz) (dw_P a ac r.2)) (va_A (dw_P a ac s0) sz)) 0 0 (va_A (dw_P a ac s0) sz) := by
  refine Met.ofW (cc := cX15_isPlain) (maxL := 1) (ret := (some .boolean)) (by decide) rfl ?_
  intro p e s m args below meth c s₁ B hml hv
  obtain ⟨rfl, hsz, hP, hK, hD0, hN⟩ := hv
  have hx := B.exec
  have hb := B.bytes
  have hr := B.returns
  have hts := atoms_spec (ws := ow_dm_X15_isPlain) B.pre
  have hown : s.vm.findClass RX15 = some m.cls := findClass_of_methodNamed B.named
  have hlocks := B.notSynchronized
  subst hsz
  have hD := hD0.self (sz := s.heap.size)
  generalize hAe : va_A (dw_P a ac s0) s.heap.size = A at hD hN ⊢
  have hA : ∀ q : Nat, s.heap.size ≤ q → A q := fun q h => by rw [← hAe]; exact Or.inr h
  have hl := lv_entry ([.int v0]) (n := 1) (Nat.le_of_ble_eq_true rfl)
  rw [lg_entry_eq]
  generalize (lg_sl ([.int v0]) ++ List.replicate (1 - (lg_sl ([.int v0])).length) Slot.unset).toArray = ls at hl ⊢
  have hl : lv_has ls 1 [(0, .int v0)] := hl
  exact db_X15_isPlain_0 (dC := dC) (dI := dI) (a := a) (ac := ac) (n := n) (r := r) ⟨hlt, hx, hb, hml, hown, hts, hN, hA, hK⟩ (fun pc v τ H locs ls d z er hP hD hS => by subst er; exact W.zret (v := v) hx hb hr z (fun t ht hW => ⟨⟨v, (), rfl, rfl, by rw [ht]; exact hP, va_K.moved hW.alike hK, hD⟩, hS.F ht⟩) hS.2.2 d) v0 s0 _ _ _ h hP hD va_S.rf (lv_sub hl [0] rfl)
def ow_dm_X15_is : List Cond := Cond.code yX15_is cX15_is 8 (some .boolean) :: ([Cond.fieldLink RX15 7 "TimeMachineModel$Conditions" "text" "[C"] ++ (u_ws RX15 TX15 28 ++ []))
theorem gd_dm_X15_is : ∀ w ∈ ow_dm_X15_is, (w.onTables && w.keeps) = true ∨ ∃ ty, w = Cond.arrayClass ty := List.forall_mem_cons.mpr ⟨good_of_word rfl, List.forall_mem_append.mpr ⟨fun w h => good_of_word (List.all_eq_true.mp (by decide +kernel) w h), List.forall_mem_append.mpr ⟨gu_X15, fun _ h => nomatch h⟩⟩⟩
theorem hi_dm_X15_is_X15 : ∀ w ∈ u_ws RX15 TX15 28, w ∈ ow_dm_X15_is := fun w h => List.mem_cons_of_mem _ (List.mem_append_right _ (List.mem_append_left _ h))
def dj_X15_is_56 (p : Program) (l : Launch) (e : Env) (s : State) (m : MethodId) (args : Array Value) (below : List Frame) (meth : Method) (c : Code) (Q : State → Prop) (A : Nat → Prop) (dC : Nat → ClassId) (dI : Nat → Nat → Nat) (a : Nat → Nat) (ac : Nat → ClassId) (g : Int32 → (St × (St × (St))) → Option (Int32 × (St × (St × (St))))) (r : Int32 × (St × (St × (St)))) : Prop := ∀ (y0 : Int32) (s0 : St × (St × (St))) (H : Heap) (locs : List Loc) (ls : Array Slot), g y0 s0 = some r → va_P (dC, dI) vwCl (dw_X15 a ac s0) H → va_D A (dw_X15 a ac s0) → va_S A s.heap H locs → lv_has ls 8 [] → W p l e (headSpec ow_dm_X15_is ({ frames := 0, cells := 0, slots := 0, locals := 0 })).room s m args below meth c H locs 0 0 Q (F0 m 56 ls [.int y0])
def dj_X15_is_55 (p : Program) (l : Launch) (e : Env) (s : State) (m : MethodId) (args : Array Value) (below : List Frame) (meth : Method) (c : Code) (Q : State → Prop) (A : Nat → Prop) (dC : Nat → ClassId) (dI : Nat → Nat → Nat) (a : Nat → Nat) (ac : Nat → ClassId) (g : (St × (St × (St))) → Option (Int32 × (St × (St × (St))))) (r : Int32 × (St × (St × (St)))) : Prop := ∀ (s0 : St × (St × (St))) (H : Heap) (locs : List Loc) (ls : Array Slot), g s0 = some r → va_P (dC, dI) vwCl (dw_X15 a ac s0) H → va_D A (dw_X15 a ac s0) → va_S A s.heap H locs → lv_has ls 8 [] → W p l e (headSpec ow_dm_X15_is ({ frames := 0, cells := 0, slots := 0, locals := 0 })).room s m args below meth c H locs 0 0 Q (F0 m 55 ls [])
def dj_X15_is_8 (p : Program) (l : Launch) (e : Env) (s : State) (m : MethodId) (args : Array Value) (below : List Frame) (meth : Method) (c : Code) (Q : State → Prop) (A : Nat → Prop) (dC : Nat → ClassId) (dI : Nat → Nat → Nat) (a : Nat → Nat) (ac : Nat → ClassId) (g : Int32 → Int32 → Int64 → Int64 → Int32 → (St × (St × (St))) → Option (Int32 × (St × (St × (St))))) (r : Int32 × (St × (St × (St)))) : Prop := ∀ (x1 : Int32) (x2 : Int32) (x3 : Int64) (x5 : Int64) (x7 : Int32) (s0 : St × (St × (St))) (H : Heap) (locs : List Loc) (ls : Array Slot), g x1 x2 x3 x5 x7 s0 = some r → va_P (dC, dI) vwCl (dw_X15 a ac s0) H → va_D A (dw_X15 a ac s0) → va_S A s.heap H locs → lv_has ls 8 [(0, .ref (a 0)), (1, .int x1), (2, .int x2), (3, .long x3), (5, .long x5), (7, .int x7)] → W p l e (headSpec ow_dm_X15_is ({ frames := 0, cells := 0, slots := 0, locals := 0 })).room s m args below meth c H locs 0 0 Q (F0 m 8 ls [])
def dj_X15_is_0 (p : Program) (l : Launch) (e : Env) (s : State) (m : MethodId) (args : Array Value) (below : List Frame) (meth : Method) (c : Code) (Q : State → Prop) (A : Nat → Prop) (dC : Nat → ClassId) (dI : Nat → Nat → Nat) (a : Nat → Nat) (ac : Nat → ClassId) (g : Int32 → Int32 → Int64 → (St × (St × (St))) → Option (Int32 × (St × (St × (St))))) (r : Int32 × (St × (St × (St)))) : Prop := ∀ (v0 : Int32) (v1 : Int32) (v2 : Int64) (s0 : St × (St × (St))) (H : Heap) (locs : List Loc) (ls : Array Slot), g v0 v1 v2 s0 = some r → va_P (dC, dI) vwCl (dw_X15 a ac s0) H → va_D A (dw_X15 a ac s0) → va_S A s.heap H locs → lv_has ls 8 [(0, .ref (a 0)), (1, .int v0), (2, .int v1), (3, .long v2)] → W p l e (headSpec ow_dm_X15_is ({ frames := 0, cells := 0, slots := 0, locals := 0 })).room s m args below meth c H locs 0 0 Q (F0 m 0 ls [])
set_option maxHeartbeats 40000000 in
set_option maxRecDepth 100000 in
theorem db_X15_is_56 {p : Program} {l : Launch} {e : Env} {s : State} {m : MethodId} {args : Array Value} {below : List Frame} {meth : Method} {c : Code} {Q : State → Prop} {A : Nat → Prop} {dC : Nat → ClassId} {dI : Nat → Nat → Nat} {a : Nat → Nat} {ac : Nat → ClassId} {n : Nat} {r : Int32 × (St × (St × (St)))} (C : nd_C p l s m args c A (dC, dI) cX15_is 8 RX15 ow_dm_X15_is (dk_X15 ac)) (K : nd_Ki p l e (headSpec ow_dm_X15_is ({ frames := 0, cells := 0, slots := 0, locals := 0 })).room s m args below meth c Q A (dC, dI) cX15_is .boolean (St × (St × (St))) (dw_X15 a ac) r) : dj_X15_is_56 p l e s m args below meth c Q A dC dI a ac (df_X15_is_56 n) r := by
  obtain ⟨hlt, hx, hb, hml, hown, hts, hN, hA, hK⟩ := id C
  intro y0 s0 H locs ls h hP hD hS hl
  unfold df_X15_is_56 at h
  obtain ⟨n4, h⟩ := nd_z_e ⟨_, rfl⟩ h
  exact K _ _ _ _ _ _ dX15_is_56 n4 (Option.some.inj h).symm hP hD hS
set_option maxHeartbeats 40000000 in
set_option maxRecDepth 100000 in
theorem db_X15_is_55 {p : Program} {l : Launch} {e : Env} {s : State} {m : MethodId} {args : Array Value} {below : List Frame} {meth : Method} {c : Code} {Q : State → Prop} {A : Nat → Prop} {dC : Nat → ClassId} {dI : Nat → Nat → Nat} {a : Nat → Nat} {ac : Nat → ClassId} {n : Nat} {r : Int32 × (St × (St × (St)))} (C : nd_C p l s m args c A (dC, dI) cX15_is 8 RX15 ow_dm_X15_is (dk_X15 ac)) (K : nd_Ki p l e (headSpec ow_dm_X15_is ({ frames := 0, cells := 0, slots := 0, locals := 0 })).room s m args below meth c Q A (dC, dI) cX15_is .boolean (St × (St × (St))) (dw_X15 a ac) r) : dj_X15_is_55 p l e s m args below meth c Q A dC dI a ac (df_X15_is_55 n) r := by
  obtain ⟨hlt, hx, hb, hml, hown, hts, hN, hA, hK⟩ := id C
  intro s0 H locs ls h hP hD hS hl
  unfold df_X15_is_55 at h
  refine lv_iconst (v := 0) hx hb dX15_is_55 (by decide) ?_
  exact (db_X15_is_56 C K) (0) s0 _ _ _ h hP hD hS (lv_sub hl [] rfl)
set_option maxHeartbeats 40000000 in
set_option maxRecDepth 100000 in
theorem dB_X15_is_8 {p : Program} {l : Launch} {e : Env} {s : State} {m : MethodId} {args : Array Value} {below : List Frame} {meth : Method} {c : Code} {Q : State → Prop} {A : Nat → Prop} {dC : Nat → ClassId} {dI : Nat → Nat → Nat} {a : Nat → Nat} {ac : Nat → ClassId} {n : Nat} {r : Int32 × (St × (St × (St)))} (C : nd_C p l s m args c A (dC, dI) cX15_is 8 RX15 ow_dm_X15_is (dk_X15 ac)) (K : nd_Ki p l e (headSpec ow_dm_X15_is ({ frames := 0, cells := 0, slots := 0, locals := 0 })).room s m args below meth c Q A (dC, dI) cX15_is .boolean (St × (St × (St))) (dw_X15 a ac) r) {g8 : Int32 → Int32 → Int64 → Int64 → Int32 → (St × (St × (St))) → Option (Int32 × (St × (St × (St))))} (J8 : dj_X15_is_8 p l e s m args below meth c Q A dC dI a ac g8 r) : dj_X15_is_8 p l e s m args below meth c Q A dC dI a ac (dF_X15_is_8 n g8) r := by
  obtain ⟨hlt, hx, hb, hml, hown, hts, hN, hA, hK⟩ := id C
  intro x1 x2 x3 x5 x7 s0 H locs ls h hP hD hS hl
  unfold dF_X15_is_8 at h
  refine lv_iload hx hb dX15_is_8 (lv_at hl 5 rfl) ?_
  refine lv_iload_n hx hb dX15_is_10 rfl (lv_at hl 1 rfl) ?_
  refine lv_icmp_lt (tgt := 36) hx hb dX15_is_11 (by decide) (fun c2 => ?_) (fun c2 => ?_)
  · have h := nd_pos h c2
    refine lv_iload_n hx hb dX15_is_36 rfl (lv_at hl 2 rfl) ?_
    refine lv_iload_n hx hb dX15_is_37 rfl (lv_at hl 1 rfl) ?_
    refine lv_isub hx hb dX15_is_38 ?_
    refine lv_bipush (v := 8) hx hb dX15_is_39 (by decide) ?_
    refine lv_icmp_ge (tgt := 55) hx hb dX15_is_41 (by decide) (fun c3 => ?_) (fun c3 => ?_)
    · have h := nd_pos h c3
      exact (db_X15_is_55 C K)  s0 _ _ _ h hP hD hS (lv_sub hl [] rfl)
    · have h := nd_neg h c3
      refine lv_lload hx hb dX15_is_44 (lv_at hl 4 rfl) ?_
      refine lv_lload_n hx hb dX15_is_46 rfl (lv_at hl 3 rfl) ?_
      refine W.lcmp hx hb dX15_is_47 ?_
      refine lv_if_ne (tgt := 55) hx hb dX15_is_48 (by decide) (fun c5 => ?_) (fun c5 => ?_)
      · have h := nd_neg h c5
        exact (db_X15_is_55 C K)  s0 _ _ _ h hP hD hS (lv_sub hl [] rfl)
      · have h := nd_pos h c5
        refine lv_iconst (v := 1) hx hb dX15_is_51 (by decide) ?_
        refine lv_goto (tgt := 56) hx hb dX15_is_52 (by decide) ?_
        exact (db_X15_is_56 C K) (1) s0 _ _ _ h hP hD hS (lv_sub hl [] rfl)
  · have h := nd_neg h c2
    refine lv_lload hx hb dX15_is_14 (lv_at hl 4 rfl) ?_
    refine lv_bipush (v := 8) hx hb dX15_is_16 (by decide) ?_
    refine lv_lshl hx hb dX15_is_18 rfl ?_
    refine lv_aload_n hx hb dX15_is_19 rfl (lv_at hl 0 rfl) ?_
    refine va_get (D := (dC, dI)) (ci := 16) (v := .ref (a 1)) (C := RX15) (T := TX15) (N := 28) hx hb hts hi_dm_X15_is_X15 hown hK hP 0 rfl rfl 2 (by decide) (hts (.fieldLink RX15 7 "TimeMachineModel$Conditions" "text" "[C") (List.mem_of_getElem? (i := 1) rfl)) (fun _ h9 => h9) rfl dX15_is_20 ?_
    refine lv_iload hx hb dX15_is_23 (lv_at hl 5 rfl) ?_
    obtain ⟨i6, h⟩ := nd_ck_e h
    refine va_cald (i := x7) hx hb hK hP 1 0 rfl rfl i6 dX15_is_25 ?_
    refine lv_i2l hx hb dX15_is_26 rfl ?_
    refine lv_lor hx hb dX15_is_27 ?_
    refine lv_topl (fun z7 ez7 => ?_)
    have h := nd_at h ez7
    refine lv_lstore (lv' := [(5, .long z7), (0, .ref (a 0)), (1, .int x1), (2, .int x2), (3, .long x3), (7, .int x7)]) hx hb dX15_is_28 hl (by decide) rfl (fun ls hl => ?_)
    obtain ⟨z8, ez8, h⟩ := nd_let_e h
    refine lv_iinc (v := z8) (lv' := [(7, .int z8), (5, .long z7), (0, .ref (a 0)), (1, .int x1), (2, .int x2), (3, .long x3)]) hx hb dX15_is_30 hl (k := 5) rfl (by rw [ez8]) (by decide) rfl (fun ls hl => ?_)
    refine lv_goto (tgt := 8) hx hb dX15_is_33 (by decide) ?_
    exact (J8) (x1) (x2) (x3) (z7) (z8) s0 _ _ _ h hP hD hS (lv_sub hl [2, 3, 4, 5, 1, 0] rfl)
set_option maxHeartbeats 40000000 in
set_option maxRecDepth 100000 in
theorem db_X15_is_8 {p : Program} {l : Launch} {e : Env} {s : State} {m : MethodId} {args : Array Value} {below : List Frame} {meth : Method} {c : Code} {Q : State → Prop} {A : Nat → Prop} {dC : Nat → ClassId} {dI : Nat → Nat → Nat} {a : Nat → Nat} {ac : Nat → ClassId} {n : Nat} {r : Int32 × (St × (St × (St)))} (C : nd_C p l s m args c A (dC, dI) cX15_is 8 RX15 ow_dm_X15_is (dk_X15 ac)) (K : nd_Ki p l e (headSpec ow_dm_X15_is ({ frames := 0, cells := 0, slots := 0, locals := 0 })).room s m args below meth c Q A (dC, dI) cX15_is .boolean (St × (St × (St))) (dw_X15 a ac) r) (k : Nat) : dj_X15_is_8 p l e s m args below meth c Q A dC dI a ac (df_X15_is_8 n k) r := by
  induction k with
  | zero => intro x1 x2 x3 x5 x7 s0 H locs ls h; exact nomatch (show (none : Option (Int32 × (St × (St × (St))))) = some r from h)
  | succ k ih => exact dB_X15_is_8 C K ih
set_option maxHeartbeats 40000000 in
set_option maxRecDepth 100000 in
theorem db_X15_is_0 {p : Program} {l : Launch} {e : Env} {s : State} {m : MethodId} {args : Array Value} {below : List Frame} {meth : Method} {c : Code} {Q : State → Prop} {A : Nat → Prop} {dC : Nat → ClassId} {dI : Nat → Nat → Nat} {a : Nat → Nat} {ac : Nat → ClassId} {n : Nat} {r : Int32 × (St × (St × (St)))} (C : nd_C p l s m args c A (dC, dI) cX15_is 8 RX15 ow_dm_X15_is (dk_X15 ac)) (K : nd_Ki p l e (headSpec ow_dm_X15_is ({ frames := 0, cells := 0, slots := 0, locals := 0 })).room s m args below meth c Q A (dC, dI) cX15_is .boolean (St × (St × (St))) (dw_X15 a ac) r) : dj_X15_is_0 p l e s m args below meth c Q A dC dI a ac (df_X15_is_0 n) r := by
  obtain ⟨hlt, hx, hb, hml, hown, hts, hN, hA, hK⟩ := id C
  intro v0 v1 v2 s0 H locs ls h hP hD hS hl
  unfold df_X15_is_0 at h
  refine lv_lconst (v := 0) hx hb dX15_is_0 (by decide) ?_
  refine lv_lstore (lv' := [(5, .long 0), (0, .ref (a 0)), (1, .int v0), (2, .int v1), (3, .long v2)]) hx hb dX15_is_1 hl (by decide) rfl (fun ls hl => ?_)
  refine lv_iload_n hx hb dX15_is_3 rfl (lv_at hl 3 rfl) ?_
  refine lv_iconst (v := 1) hx hb dX15_is_4 (by decide) ?_
  refine lv_isub hx hb dX15_is_5 ?_
  refine lv_topi (fun z1 ez1 => ?_)
  have h := nd_at h ez1
  refine lv_istore (lv' := [(7, .int z1), (5, .long 0), (0, .ref (a 0)), (1, .int v0), (2, .int v1), (3, .long v2)]) hx hb dX15_is_6 hl (by decide) rfl (fun ls hl => ?_)
  exact (db_X15_is_8 C K n) (v0) (v1) (v2) (0) (z1) s0 _ _ _ h hP hD hS (lv_sub hl [2, 3, 4, 5, 1, 0] rfl)
set_option maxHeartbeats 40000000 in
set_option maxRecDepth 100000 in
theorem dm_X15_is (l : Launch) (hlt : l.stackTraces = false) (dC : Nat → ClassId) (dI : Nat → Nat → Nat) (a : Nat → Nat) (ac : Nat → ClassId) (n : Nat) (v0 : Int32) (v1 : Int32) (v2 : Int64) (s0 : St × (St × (St))) {r : Int32 × (St × (St × (St)))} (h : df_X15_is n v0 v1 v2 s0 = some r) (sz : Nat) : Met l yX15_is ow_dm_X15_is ({ frames := 0, cells := 0, slots := 0, locals := 0 }) (va_Pc [.ref (a 0), .int v0, .int v1, .long v2] (fun U => U.heap.size = sz ∧ va_P (dC, dI) vwCl (dw_X15 a ac s0) U.heap ∧ va_K (dC, dI) vwCl (dk_X15 ac) U ∧ va_D (fun _ => True) (dw_X15 a ac s0) ∧ nv_E dI (va_A (dw_X15 a ac s0) sz) U)) (va_Qi (fun x _ => x = r.1) (fun (_ : Unit) t => va_P (dC, dI) vwCl (dw_X15 a ac r.2) t.heap ∧ va_K (dC, dI) vwCl (dk_X15 ac) t ∧ va_D (va_A (dw_X15 a ac s0) sz) (dw_X15 a ac r.2)) (va_A (dw_X15 a ac s0) sz)) 0 0 (va_A (dw_X15 a ac s0) sz) := by
  refine Met.ofW (cc := cX15_is) (maxL := 8) (ret := (some .boolean)) (by decide) rfl ?_
  intro p e s m args below meth c s₁ B hml hv
  obtain ⟨rfl, hsz, hP, hK, hD0, hN⟩ := hv
  have hx := B.exec
  have hb := B.bytes
  have hr := B.returns
  have hts := atoms_spec (ws := ow_dm_X15_is) B.pre
  have hown : s.vm.findClass RX15 = some m.cls := findClass_of_methodNamed B.named
  have hlocks := B.notSynchronized
  subst hsz
  have hD := hD0.self (sz := s.heap.size)
  generalize hAe : va_A (dw_X15 a ac s0) s.heap.size = A at hD hN ⊢
  have hA : ∀ q : Nat, s.heap.size ≤ q → A q := fun q h => by rw [← hAe]; exact Or.inr h
  have hl := lv_entry ([.ref (a 0), .int v0, .int v1, .long v2]) (n := 8) (Nat.le_of_ble_eq_true rfl)
  rw [lg_entry_eq]
  generalize (lg_sl ([.ref (a 0), .int v0, .int v1, .long v2]) ++ List.replicate (8 - (lg_sl ([.ref (a 0), .int v0, .int v1, .long v2])).length) Slot.unset).toArray = ls at hl ⊢
  have hl : lv_has ls 8 [(0, .ref (a 0)), (1, .int v0), (2, .int v1), (3, .long v2)] := hl
  exact db_X15_is_0 (dC := dC) (dI := dI) (a := a) (ac := ac) (n := n) (r := r) ⟨hlt, hx, hb, hml, hown, hts, hN, hA, hK⟩ (fun pc v τ H locs ls d z er hP hD hS => by subst er; exact W.zret (v := v) hx hb hr z (fun t ht hW => ⟨⟨v, (), rfl, rfl, by rw [ht]; exact hP, va_K.moved hW.alike hK, hD⟩, hS.F ht⟩) hS.2.2 d) v0 v1 v2 s0 _ _ _ h hP hD va_S.rf (lv_sub hl [0, 1, 2, 3] rfl)
def ow_dm_X15_scanWord : List Cond := Cond.code yX15_scanWord cX15_scanWord 3 none :: ([Cond.fieldLink RX15 73 "TimeMachineModel$Conditions" "at" "I", Cond.fieldLink RX15 80 "TimeMachineModel$Conditions" "start" "I", Cond.fieldLink RX15 7 "TimeMachineModel$Conditions" "text" "[C", Cond.fieldLink RX15 95 "TimeMachineModel$Conditions" "tokenValue" "J", Cond.constantLong RX15 107 (25456), Cond.methodLink RX15 109 yX15_is, Cond.instanceMethod yX15_is, Cond.selects RX15 yX15_is yX15_is, Cond.initialized RX15, Cond.constantLong RX15 113 (6580592), Cond.constantLong RX15 115 (500069396323), Cond.constantLong RX15 117 (1702132066), Cond.constantLong RX15 119 (1718378856), Cond.constantLong RX15 121 (6581359), Cond.constantLong RX15 123 (28258992578979939), Cond.fieldLink RX15 92 "TimeMachineModel$Conditions" "token" "I", Cond.constantLong RX15 105 (32), Cond.methodLink RX15 69 yX15_isDigit, Cond.static yX15_isDigit] ++ (u_ws RX15 TX15 28 ++ (ow_dm_X15_is ++ (ow_dm_X15_isDigit ++ []))))
theorem gd_dm_X15_scanWord : ∀ w ∈ ow_dm_X15_scanWord, (w.onTables && w.keeps) = true ∨ ∃ ty, w = Cond.arrayClass ty := List.forall_mem_cons.mpr ⟨good_of_word rfl, List.forall_mem_append.mpr ⟨fun w h => good_of_word (List.all_eq_true.mp (by decide +kernel) w h), List.forall_mem_append.mpr ⟨gu_X15, List.forall_mem_append.mpr ⟨gd_dm_X15_is, List.forall_mem_append.mpr ⟨gd_dm_X15_isDigit, fun _ h => nomatch h⟩⟩⟩⟩⟩
theorem hi_dm_X15_scanWord_X15 : ∀ w ∈ u_ws RX15 TX15 28, w ∈ ow_dm_X15_scanWord := fun w h => List.mem_cons_of_mem _ (List.mem_append_right _ (List.mem_append_left _ h))
theorem gi_dm_X15_scanWord_0 : GoodIn ow_dm_X15_scanWord (wsV RX15 109 RX15 yX15_is ow_dm_X15_is) := goodIn_app (goodIn_of _ (by decide +kernel)) (fun w h => ⟨List.mem_cons_of_mem _ (List.mem_append_right _ (List.mem_append_right _ (List.mem_append_left _ h))), gd_dm_X15_is w h⟩)
theorem gi_dm_X15_scanWord_1 : GoodIn ow_dm_X15_scanWord (wsS RX15 69 yX15_isDigit ow_dm_X15_isDigit) := goodIn_app (goodIn_of _ (by decide +kernel)) (fun w h => ⟨List.mem_cons_of_mem _ (List.mem_append_right _ (List.mem_append_right _ (List.mem_append_right _ (List.mem_append_left _ h)))), gd_dm_X15_isDigit w h⟩)
def dj_X15_scanWord_354 (p : Program) (l : Launch) (e : Env) (s : State) (m : MethodId) (args : Array Value) (below : List Frame) (meth : Method) (c : Code) (Q : State → Prop) (A : Nat → Prop) (dC : Nat → ClassId) (dI : Nat → Nat → Nat) (a : Nat → Nat) (ac : Nat → ClassId) (g : Int32 → (St × (St × (St))) → Option (St × (St × (St)))) (r : St × (St × (St))) : Prop := ∀ (y1 : Int32) (s0 : St × (St × (St))) (H : Heap) (locs : List Loc) (ls : Array Slot), g y1 s0 = some r → va_P (dC, dI) vwCl (dw_X15 a ac s0) H → va_D A (dw_X15 a ac s0) → va_S A s.heap H locs → lv_has ls 3 [] → W p l e (headSpec ow_dm_X15_scanWord ({ frames := 1, cells := 0, slots := 0, locals := 27 })).room s m args below meth c H locs 0 0 Q (F0 m 354 ls [.int y1, .ref (a 0)])
def dj_X15_scanWord_195 (p : Program) (l : Launch) (e : Env) (s : State) (m : MethodId) (args : Array Value) (below : List Frame) (meth : Method) (c : Code) (Q : State → Prop) (A : Nat → Prop) (dC : Nat → ClassId) (dI : Nat → Nat → Nat) (a : Nat → Nat) (ac : Nat → ClassId) (g : (St × (St × (St))) → Option (St × (St × (St)))) (r : St × (St × (St))) : Prop := ∀ (s0 : St × (St × (St))) (H : Heap) (locs : List Loc) (ls : Array Slot), g s0 = some r → va_P (dC, dI) vwCl (dw_X15 a ac s0) H → va_D A (dw_X15 a ac s0) → va_S A s.heap H locs → lv_has ls 3 [(0, .ref (a 0))] → W p l e (headSpec ow_dm_X15_scanWord ({ frames := 1, cells := 0, slots := 0, locals := 27 })).room s m args below meth c H locs 0 0 Q (F0 m 195 ls [.ref (a 0)])
def dj_X15_scanWord_172 (p : Program) (l : Launch) (e : Env) (s : State) (m : MethodId) (args : Array Value) (below : List Frame) (meth : Method) (c : Code) (Q : State → Prop) (A : Nat → Prop) (dC : Nat → ClassId) (dI : Nat → Nat → Nat) (a : Nat → Nat) (ac : Nat → ClassId) (g : Int32 → Int64 → (St × (St × (St))) → Option (St × (St × (St)))) (r : St × (St × (St))) : Prop := ∀ (x2 : Int32) (y1 : Int64) (s0 : St × (St × (St))) (H : Heap) (locs : List Loc) (ls : Array Slot), g x2 y1 s0 = some r → va_P (dC, dI) vwCl (dw_X15 a ac s0) H → va_D A (dw_X15 a ac s0) → va_S A s.heap H locs → lv_has ls 3 [(0, .ref (a 0)), (2, .int x2)] → W p l e (headSpec ow_dm_X15_scanWord ({ frames := 1, cells := 0, slots := 0, locals := 27 })).room s m args below meth c H locs 0 0 Q (F0 m 172 ls [.long y1, .ref (a 0)])
def dj_X15_scanWord_106 (p : Program) (l : Launch) (e : Env) (s : State) (m : MethodId) (args : Array Value) (below : List Frame) (meth : Method) (c : Code) (Q : State → Prop) (A : Nat → Prop) (dC : Nat → ClassId) (dI : Nat → Nat → Nat) (a : Nat → Nat) (ac : Nat → ClassId) (g : Int32 → Int32 → (St × (St × (St))) → Option (St × (St × (St)))) (r : St × (St × (St))) : Prop := ∀ (x1 : Int32) (y0 : Int32) (s0 : St × (St × (St))) (H : Heap) (locs : List Loc) (ls : Array Slot), g x1 y0 s0 = some r → va_P (dC, dI) vwCl (dw_X15 a ac s0) H → va_D A (dw_X15 a ac s0) → va_S A s.heap H locs → lv_has ls 3 [(0, .ref (a 0)), (1, .int x1)] → W p l e (headSpec ow_dm_X15_scanWord ({ frames := 1, cells := 0, slots := 0, locals := 27 })).room s m args below meth c H locs 0 0 Q (F0 m 106 ls [.int y0])
def dj_X15_scanWord_105 (p : Program) (l : Launch) (e : Env) (s : State) (m : MethodId) (args : Array Value) (below : List Frame) (meth : Method) (c : Code) (Q : State → Prop) (A : Nat → Prop) (dC : Nat → ClassId) (dI : Nat → Nat → Nat) (a : Nat → Nat) (ac : Nat → ClassId) (g : Int32 → (St × (St × (St))) → Option (St × (St × (St)))) (r : St × (St × (St))) : Prop := ∀ (x1 : Int32) (s0 : St × (St × (St))) (H : Heap) (locs : List Loc) (ls : Array Slot), g x1 s0 = some r → va_P (dC, dI) vwCl (dw_X15 a ac s0) H → va_D A (dw_X15 a ac s0) → va_S A s.heap H locs → lv_has ls 3 [(0, .ref (a 0)), (1, .int x1)] → W p l e (headSpec ow_dm_X15_scanWord ({ frames := 1, cells := 0, slots := 0, locals := 27 })).room s m args below meth c H locs 0 0 Q (F0 m 105 ls [])
def dj_X15_scanWord_101 (p : Program) (l : Launch) (e : Env) (s : State) (m : MethodId) (args : Array Value) (below : List Frame) (meth : Method) (c : Code) (Q : State → Prop) (A : Nat → Prop) (dC : Nat → ClassId) (dI : Nat → Nat → Nat) (a : Nat → Nat) (ac : Nat → ClassId) (g : Int32 → (St × (St × (St))) → Option (St × (St × (St)))) (r : St × (St × (St))) : Prop := ∀ (x1 : Int32) (s0 : St × (St × (St))) (H : Heap) (locs : List Loc) (ls : Array Slot), g x1 s0 = some r → va_P (dC, dI) vwCl (dw_X15 a ac s0) H → va_D A (dw_X15 a ac s0) → va_S A s.heap H locs → lv_has ls 3 [(0, .ref (a 0)), (1, .int x1)] → W p l e (headSpec ow_dm_X15_scanWord ({ frames := 1, cells := 0, slots := 0, locals := 27 })).room s m args below meth c H locs 0 0 Q (F0 m 101 ls [])
def dj_X15_scanWord_46 (p : Program) (l : Launch) (e : Env) (s : State) (m : MethodId) (args : Array Value) (below : List Frame) (meth : Method) (c : Code) (Q : State → Prop) (A : Nat → Prop) (dC : Nat → ClassId) (dI : Nat → Nat → Nat) (a : Nat → Nat) (ac : Nat → ClassId) (g : Int32 → (St × (St × (St))) → Option (St × (St × (St)))) (r : St × (St × (St))) : Prop := ∀ (x1 : Int32) (s0 : St × (St × (St))) (H : Heap) (locs : List Loc) (ls : Array Slot), g x1 s0 = some r → va_P (dC, dI) vwCl (dw_X15 a ac s0) H → va_D A (dw_X15 a ac s0) → va_S A s.heap H locs → lv_has ls 3 [(0, .ref (a 0)), (1, .int x1)] → W p l e (headSpec ow_dm_X15_scanWord ({ frames := 1, cells := 0, slots := 0, locals := 27 })).room s m args below meth c H locs 0 0 Q (F0 m 46 ls [])
def dj_X15_scanWord_0 (p : Program) (l : Launch) (e : Env) (s : State) (m : MethodId) (args : Array Value) (below : List Frame) (meth : Method) (c : Code) (Q : State → Prop) (A : Nat → Prop) (dC : Nat → ClassId) (dI : Nat → Nat → Nat) (a : Nat → Nat) (ac : Nat → ClassId) (g : (St × (St × (St))) → Option (St × (St × (St)))) (r : St × (St × (St))) : Prop := ∀ (s0 : St × (St × (St))) (H : Heap) (locs : List Loc) (ls : Array Slot), g s0 = some r → va_P (dC, dI) vwCl (dw_X15 a ac s0) H → va_D A (dw_X15 a ac s0) → va_S A s.heap H locs → lv_has ls 3 [(0, .ref (a 0))] → W p l e (headSpec ow_dm_X15_scanWord ({ frames := 1, cells := 0, slots := 0, locals := 27 })).room s m args below meth c H locs 0 0 Q (F0 m 0 ls [])
set_option maxHeartbeats 40000000 in
set_option maxRecDepth 100000 in
theorem db_X15_scanWord_354 {p : Program} {l : Launch} {e : Env} {s : State} {m : MethodId} {args : Array Value} {below : List Frame} {meth : Method} {c : Code} {Q : State → Prop} {A : Nat → Prop} {dC : Nat → ClassId} {dI : Nat → Nat → Nat} {a : Nat → Nat} {ac : Nat → ClassId} {n : Nat} {r : St × (St × (St))} (C : nd_C p l s m args c A (dC, dI) cX15_scanWord 3 RX15 ow_dm_X15_scanWord (dk_X15 ac)) (K : nd_Kv p l e (headSpec ow_dm_X15_scanWord ({ frames := 1, cells := 0, slots := 0, locals := 27 })).room s m args below meth c Q A (dC, dI) cX15_scanWord (St × (St × (St))) (dw_X15 a ac) r) : dj_X15_scanWord_354 p l e s m args below meth c Q A dC dI a ac (df_X15_scanWord_354 n) r := by
  obtain ⟨hlt, hx, hb, hml, hown, hts, hN, hA, hK⟩ := id C
  intro y1 s0 H locs ls h hP hD hS hl
  unfold df_X15_scanWord_354 at h
  refine va_put (D := (dC, dI)) (ci := 16) (v := .int y1) (ty := .int) (C := RX15) (T := TX15) (N := 28) hx hb hts hi_dm_X15_scanWord_X15 tyX15 tyX15_ok nmX15 hown hK hP hD hS 0 rfl rfl 10 (by decide) (hts (.fieldLink RX15 92 "TimeMachineModel$Conditions" "token" "I") (List.mem_of_getElem? (i := 16) rfl)) (fun _ h9 => h9) rfl (by decide +kernel) rfl rfl (Nat.le_of_ble_eq_true rfl) dX15_scanWord_354 (fun H locs hP hD hS => ?_)
  obtain ⟨s35, es35, h⟩ := nd_let_e h
  have hP : va_P (dC, dI) vwCl (dw_X15 a ac s35) H := by rw [es35]; exact hP
  have hD : va_D A (dw_X15 a ac s35) := by rw [es35]; exact hD
  exact K _ _ _ _ _ dX15_scanWord_357 (Option.some.inj h).symm hP hD hS
set_option maxHeartbeats 40000000 in
set_option maxRecDepth 100000 in
theorem db_X15_scanWord_195 {p : Program} {l : Launch} {e : Env} {s : State} {m : MethodId} {args : Array Value} {below : List Frame} {meth : Method} {c : Code} {Q : State → Prop} {A : Nat → Prop} {dC : Nat → ClassId} {dI : Nat → Nat → Nat} {a : Nat → Nat} {ac : Nat → ClassId} {n : Nat} {r : St × (St × (St))} (C : nd_C p l s m args c A (dC, dI) cX15_scanWord 3 RX15 ow_dm_X15_scanWord (dk_X15 ac)) (K : nd_Kv p l e (headSpec ow_dm_X15_scanWord ({ frames := 1, cells := 0, slots := 0, locals := 27 })).room s m args below meth c Q A (dC, dI) cX15_scanWord (St × (St × (St))) (dw_X15 a ac) r) : dj_X15_scanWord_195 p l e s m args below meth c Q A dC dI a ac (df_X15_scanWord_195 n) r := by
  obtain ⟨hlt, hx, hb, hml, hown, hts, hN, hA, hK⟩ := id C
  intro s0 H locs ls h hP hD hS hl
  unfold df_X15_scanWord_195 at h
  refine lv_aload_n hx hb dX15_scanWord_195 rfl (lv_at hl 0 rfl) ?_
  refine lv_aload_n hx hb dX15_scanWord_196 rfl (lv_at hl 0 rfl) ?_
  refine va_get (D := (dC, dI)) (ci := 16) (v := .int (sI s0.1 3)) (C := RX15) (T := TX15) (N := 28) hx hb hts hi_dm_X15_scanWord_X15 hown hK hP 0 rfl rfl 11 (by decide) (hts (.fieldLink RX15 80 "TimeMachineModel$Conditions" "start" "I") (List.mem_of_getElem? (i := 2) rfl)) (fun _ h9 => h9) rfl dX15_scanWord_197 ?_
  refine lv_aload_n hx hb dX15_scanWord_200 rfl (lv_at hl 0 rfl) ?_
  refine va_get (D := (dC, dI)) (ci := 16) (v := .int (sI s0.1 1)) (C := RX15) (T := TX15) (N := 28) hx hb hts hi_dm_X15_scanWord_X15 hown hK hP 0 rfl rfl 9 (by decide) (hts (.fieldLink RX15 73 "TimeMachineModel$Conditions" "at" "I") (List.mem_of_getElem? (i := 1) rfl)) (fun _ h9 => h9) rfl dX15_scanWord_201 ?_
  refine lv_ldc2 hx hb hown (hts (.constantLong RX15 107 (25456)) (List.mem_of_getElem? (i := 5) rfl)) dX15_scanWord_204 ?_
  obtain ⟨q7, s8, hq, h⟩ := nd_b2_e h
  have hPc := hP
  have hDc := hD
  have hKc := hK
  have hFc := nd_rs hD hS hA
  refine nd_cVi (As := [.int (sI s0.1 3), .int (sI s0.1 1), .long 25456]) (rest := [.ref (a 0)]) (q := q7) (w' := dw_X15 a ac s8) ⟨hx, hb, hml, hown, hts⟩ (fun sz => dm_X15_is l hlt dC dI a ac n ((sI s0.1 3)) ((sI s0.1 1)) (25456) s0 hq sz) (cwV 3 hts gi_dm_X15_scanWord_0 rfl rfl rfl (by decide +kernel) ⟨Nat.le_of_ble_eq_true rfl, Nat.le_of_ble_eq_true rfl⟩) hPc hDc hKc hS hA hN (va_recv hKc hPc (ci := 16) (q0 := 0) rfl rfl) rfl hl.1 rfl (Nat.le_of_ble_eq_true rfl) dX15_scanWord_207 (fun H locs hP1 hD1 hk1 hS => ?_)
  have hP := hP1
  have hD := hD1.weaken (fun k q _ h => hFc q.1 h)
  refine lv_if_eq (tgt := 217) hx hb dX15_scanWord_210 (by decide) (fun c10 => ?_) (fun c10 => ?_)
  · have h := nd_pos h c10
    refine lv_aload_n hx hb dX15_scanWord_217 rfl (lv_at hl 0 rfl) ?_
    refine lv_aload_n hx hb dX15_scanWord_218 rfl (lv_at hl 0 rfl) ?_
    refine va_get (D := (dC, dI)) (ci := 16) (v := .int (sI s8.1 3)) (C := RX15) (T := TX15) (N := 28) hx hb hts hi_dm_X15_scanWord_X15 hown hK hP 0 rfl rfl 11 (by decide) (hts (.fieldLink RX15 80 "TimeMachineModel$Conditions" "start" "I") (List.mem_of_getElem? (i := 2) rfl)) (fun _ h9 => h9) rfl dX15_scanWord_219 ?_
    refine lv_aload_n hx hb dX15_scanWord_222 rfl (lv_at hl 0 rfl) ?_
    refine va_get (D := (dC, dI)) (ci := 16) (v := .int (sI s8.1 1)) (C := RX15) (T := TX15) (N := 28) hx hb hts hi_dm_X15_scanWord_X15 hown hK hP 0 rfl rfl 9 (by decide) (hts (.fieldLink RX15 73 "TimeMachineModel$Conditions" "at" "I") (List.mem_of_getElem? (i := 1) rfl)) (fun _ h9 => h9) rfl dX15_scanWord_223 ?_
    refine lv_ldc2 hx hb hown (hts (.constantLong RX15 113 (6580592)) (List.mem_of_getElem? (i := 10) rfl)) dX15_scanWord_226 ?_
    obtain ⟨q11, s12, hq, h⟩ := nd_b2_e h
    have hPc := hP
    have hDc := hD
    have hKc := hK
    have hFc := nd_rs hD hS hA
    refine nd_cVi (As := [.int (sI s8.1 3), .int (sI s8.1 1), .long 6580592]) (rest := [.ref (a 0)]) (q := q11) (w' := dw_X15 a ac s12) ⟨hx, hb, hml, hown, hts⟩ (fun sz => dm_X15_is l hlt dC dI a ac n ((sI s8.1 3)) ((sI s8.1 1)) (6580592) s8 hq sz) (cwV 3 hts gi_dm_X15_scanWord_0 rfl rfl rfl (by decide +kernel) ⟨Nat.le_of_ble_eq_true rfl, Nat.le_of_ble_eq_true rfl⟩) hPc hDc hKc hS hA hN (va_recv hKc hPc (ci := 16) (q0 := 0) rfl rfl) rfl hl.1 rfl (Nat.le_of_ble_eq_true rfl) dX15_scanWord_229 (fun H locs hP1 hD1 hk1 hS => ?_)
    have hP := hP1
    have hD := hD1.weaken (fun k q _ h => hFc q.1 h)
    refine lv_if_eq (tgt := 239) hx hb dX15_scanWord_232 (by decide) (fun c14 => ?_) (fun c14 => ?_)
    · have h := nd_pos h c14
      refine lv_aload_n hx hb dX15_scanWord_239 rfl (lv_at hl 0 rfl) ?_
      refine lv_aload_n hx hb dX15_scanWord_240 rfl (lv_at hl 0 rfl) ?_
      refine va_get (D := (dC, dI)) (ci := 16) (v := .int (sI s12.1 3)) (C := RX15) (T := TX15) (N := 28) hx hb hts hi_dm_X15_scanWord_X15 hown hK hP 0 rfl rfl 11 (by decide) (hts (.fieldLink RX15 80 "TimeMachineModel$Conditions" "start" "I") (List.mem_of_getElem? (i := 2) rfl)) (fun _ h9 => h9) rfl dX15_scanWord_241 ?_
      refine lv_aload_n hx hb dX15_scanWord_244 rfl (lv_at hl 0 rfl) ?_
      refine va_get (D := (dC, dI)) (ci := 16) (v := .int (sI s12.1 1)) (C := RX15) (T := TX15) (N := 28) hx hb hts hi_dm_X15_scanWord_X15 hown hK hP 0 rfl rfl 9 (by decide) (hts (.fieldLink RX15 73 "TimeMachineModel$Conditions" "at" "I") (List.mem_of_getElem? (i := 1) rfl)) (fun _ h9 => h9) rfl dX15_scanWord_245 ?_
      refine lv_ldc2 hx hb hown (hts (.constantLong RX15 115 (500069396323)) (List.mem_of_getElem? (i := 11) rfl)) dX15_scanWord_248 ?_
      obtain ⟨q15, s16, hq, h⟩ := nd_b2_e h
      have hPc := hP
      have hDc := hD
      have hKc := hK
      have hFc := nd_rs hD hS hA
      refine nd_cVi (As := [.int (sI s12.1 3), .int (sI s12.1 1), .long 500069396323]) (rest := [.ref (a 0)]) (q := q15) (w' := dw_X15 a ac s16) ⟨hx, hb, hml, hown, hts⟩ (fun sz => dm_X15_is l hlt dC dI a ac n ((sI s12.1 3)) ((sI s12.1 1)) (500069396323) s12 hq sz) (cwV 3 hts gi_dm_X15_scanWord_0 rfl rfl rfl (by decide +kernel) ⟨Nat.le_of_ble_eq_true rfl, Nat.le_of_ble_eq_true rfl⟩) hPc hDc hKc hS hA hN (va_recv hKc hPc (ci := 16) (q0 := 0) rfl rfl) rfl hl.1 rfl (Nat.le_of_ble_eq_true rfl) dX15_scanWord_251 (fun H locs hP1 hD1 hk1 hS => ?_)
      have hP := hP1
      have hD := hD1.weaken (fun k q _ h => hFc q.1 h)
      refine lv_if_eq (tgt := 261) hx hb dX15_scanWord_254 (by decide) (fun c18 => ?_) (fun c18 => ?_)
      · have h := nd_pos h c18
        refine lv_aload_n hx hb dX15_scanWord_261 rfl (lv_at hl 0 rfl) ?_
        refine lv_aload_n hx hb dX15_scanWord_262 rfl (lv_at hl 0 rfl) ?_
        refine va_get (D := (dC, dI)) (ci := 16) (v := .int (sI s16.1 3)) (C := RX15) (T := TX15) (N := 28) hx hb hts hi_dm_X15_scanWord_X15 hown hK hP 0 rfl rfl 11 (by decide) (hts (.fieldLink RX15 80 "TimeMachineModel$Conditions" "start" "I") (List.mem_of_getElem? (i := 2) rfl)) (fun _ h9 => h9) rfl dX15_scanWord_263 ?_
        refine lv_aload_n hx hb dX15_scanWord_266 rfl (lv_at hl 0 rfl) ?_
        refine va_get (D := (dC, dI)) (ci := 16) (v := .int (sI s16.1 1)) (C := RX15) (T := TX15) (N := 28) hx hb hts hi_dm_X15_scanWord_X15 hown hK hP 0 rfl rfl 9 (by decide) (hts (.fieldLink RX15 73 "TimeMachineModel$Conditions" "at" "I") (List.mem_of_getElem? (i := 1) rfl)) (fun _ h9 => h9) rfl dX15_scanWord_267 ?_
        refine lv_ldc2 hx hb hown (hts (.constantLong RX15 117 (1702132066)) (List.mem_of_getElem? (i := 12) rfl)) dX15_scanWord_270 ?_
        obtain ⟨q19, s20, hq, h⟩ := nd_b2_e h
        have hPc := hP
        have hDc := hD
        have hKc := hK
        have hFc := nd_rs hD hS hA
        refine nd_cVi (As := [.int (sI s16.1 3), .int (sI s16.1 1), .long 1702132066]) (rest := [.ref (a 0)]) (q := q19) (w' := dw_X15 a ac s20) ⟨hx, hb, hml, hown, hts⟩ (fun sz => dm_X15_is l hlt dC dI a ac n ((sI s16.1 3)) ((sI s16.1 1)) (1702132066) s16 hq sz) (cwV 3 hts gi_dm_X15_scanWord_0 rfl rfl rfl (by decide +kernel) ⟨Nat.le_of_ble_eq_true rfl, Nat.le_of_ble_eq_true rfl⟩) hPc hDc hKc hS hA hN (va_recv hKc hPc (ci := 16) (q0 := 0) rfl rfl) rfl hl.1 rfl (Nat.le_of_ble_eq_true rfl) dX15_scanWord_273 (fun H locs hP1 hD1 hk1 hS => ?_)
        have hP := hP1
        have hD := hD1.weaken (fun k q _ h => hFc q.1 h)
        refine lv_if_eq (tgt := 284) hx hb dX15_scanWord_276 (by decide) (fun c22 => ?_) (fun c22 => ?_)
        · have h := nd_pos h c22
          refine lv_aload_n hx hb dX15_scanWord_284 rfl (lv_at hl 0 rfl) ?_
          refine lv_aload_n hx hb dX15_scanWord_285 rfl (lv_at hl 0 rfl) ?_
          refine va_get (D := (dC, dI)) (ci := 16) (v := .int (sI s20.1 3)) (C := RX15) (T := TX15) (N := 28) hx hb hts hi_dm_X15_scanWord_X15 hown hK hP 0 rfl rfl 11 (by decide) (hts (.fieldLink RX15 80 "TimeMachineModel$Conditions" "start" "I") (List.mem_of_getElem? (i := 2) rfl)) (fun _ h9 => h9) rfl dX15_scanWord_286 ?_
          refine lv_aload_n hx hb dX15_scanWord_289 rfl (lv_at hl 0 rfl) ?_
          refine va_get (D := (dC, dI)) (ci := 16) (v := .int (sI s20.1 1)) (C := RX15) (T := TX15) (N := 28) hx hb hts hi_dm_X15_scanWord_X15 hown hK hP 0 rfl rfl 9 (by decide) (hts (.fieldLink RX15 73 "TimeMachineModel$Conditions" "at" "I") (List.mem_of_getElem? (i := 1) rfl)) (fun _ h9 => h9) rfl dX15_scanWord_290 ?_
          refine lv_ldc2 hx hb hown (hts (.constantLong RX15 119 (1718378856)) (List.mem_of_getElem? (i := 13) rfl)) dX15_scanWord_293 ?_
          obtain ⟨q23, s24, hq, h⟩ := nd_b2_e h
          have hPc := hP
          have hDc := hD
          have hKc := hK
          have hFc := nd_rs hD hS hA
          refine nd_cVi (As := [.int (sI s20.1 3), .int (sI s20.1 1), .long 1718378856]) (rest := [.ref (a 0)]) (q := q23) (w' := dw_X15 a ac s24) ⟨hx, hb, hml, hown, hts⟩ (fun sz => dm_X15_is l hlt dC dI a ac n ((sI s20.1 3)) ((sI s20.1 1)) (1718378856) s20 hq sz) (cwV 3 hts gi_dm_X15_scanWord_0 rfl rfl rfl (by decide +kernel) ⟨Nat.le_of_ble_eq_true rfl, Nat.le_of_ble_eq_true rfl⟩) hPc hDc hKc hS hA hN (va_recv hKc hPc (ci := 16) (q0 := 0) rfl rfl) rfl hl.1 rfl (Nat.le_of_ble_eq_true rfl) dX15_scanWord_296 (fun H locs hP1 hD1 hk1 hS => ?_)
          have hP := hP1
          have hD := hD1.weaken (fun k q _ h => hFc q.1 h)
          refine lv_if_eq (tgt := 307) hx hb dX15_scanWord_299 (by decide) (fun c26 => ?_) (fun c26 => ?_)
          · have h := nd_pos h c26
            refine lv_aload_n hx hb dX15_scanWord_307 rfl (lv_at hl 0 rfl) ?_
            refine lv_aload_n hx hb dX15_scanWord_308 rfl (lv_at hl 0 rfl) ?_
            refine va_get (D := (dC, dI)) (ci := 16) (v := .int (sI s24.1 3)) (C := RX15) (T := TX15) (N := 28) hx hb hts hi_dm_X15_scanWord_X15 hown hK hP 0 rfl rfl 11 (by decide) (hts (.fieldLink RX15 80 "TimeMachineModel$Conditions" "start" "I") (List.mem_of_getElem? (i := 2) rfl)) (fun _ h9 => h9) rfl dX15_scanWord_309 ?_
            refine lv_aload_n hx hb dX15_scanWord_312 rfl (lv_at hl 0 rfl) ?_
            refine va_get (D := (dC, dI)) (ci := 16) (v := .int (sI s24.1 1)) (C := RX15) (T := TX15) (N := 28) hx hb hts hi_dm_X15_scanWord_X15 hown hK hP 0 rfl rfl 9 (by decide) (hts (.fieldLink RX15 73 "TimeMachineModel$Conditions" "at" "I") (List.mem_of_getElem? (i := 1) rfl)) (fun _ h9 => h9) rfl dX15_scanWord_313 ?_
            refine lv_ldc2 hx hb hown (hts (.constantLong RX15 121 (6581359)) (List.mem_of_getElem? (i := 14) rfl)) dX15_scanWord_316 ?_
            obtain ⟨q27, s28, hq, h⟩ := nd_b2_e h
            have hPc := hP
            have hDc := hD
            have hKc := hK
            have hFc := nd_rs hD hS hA
            refine nd_cVi (As := [.int (sI s24.1 3), .int (sI s24.1 1), .long 6581359]) (rest := [.ref (a 0)]) (q := q27) (w' := dw_X15 a ac s28) ⟨hx, hb, hml, hown, hts⟩ (fun sz => dm_X15_is l hlt dC dI a ac n ((sI s24.1 3)) ((sI s24.1 1)) (6581359) s24 hq sz) (cwV 3 hts gi_dm_X15_scanWord_0 rfl rfl rfl (by decide +kernel) ⟨Nat.le_of_ble_eq_true rfl, Nat.le_of_ble_eq_true rfl⟩) hPc hDc hKc hS hA hN (va_recv hKc hPc (ci := 16) (q0 := 0) rfl rfl) rfl hl.1 rfl (Nat.le_of_ble_eq_true rfl) dX15_scanWord_319 (fun H locs hP1 hD1 hk1 hS => ?_)
            have hP := hP1
            have hD := hD1.weaken (fun k q _ h => hFc q.1 h)
            refine lv_if_eq (tgt := 330) hx hb dX15_scanWord_322 (by decide) (fun c30 => ?_) (fun c30 => ?_)
            · have h := nd_pos h c30
              refine lv_aload_n hx hb dX15_scanWord_330 rfl (lv_at hl 0 rfl) ?_
              refine lv_aload_n hx hb dX15_scanWord_331 rfl (lv_at hl 0 rfl) ?_
              refine va_get (D := (dC, dI)) (ci := 16) (v := .int (sI s28.1 3)) (C := RX15) (T := TX15) (N := 28) hx hb hts hi_dm_X15_scanWord_X15 hown hK hP 0 rfl rfl 11 (by decide) (hts (.fieldLink RX15 80 "TimeMachineModel$Conditions" "start" "I") (List.mem_of_getElem? (i := 2) rfl)) (fun _ h9 => h9) rfl dX15_scanWord_332 ?_
              refine lv_aload_n hx hb dX15_scanWord_335 rfl (lv_at hl 0 rfl) ?_
              refine va_get (D := (dC, dI)) (ci := 16) (v := .int (sI s28.1 1)) (C := RX15) (T := TX15) (N := 28) hx hb hts hi_dm_X15_scanWord_X15 hown hK hP 0 rfl rfl 9 (by decide) (hts (.fieldLink RX15 73 "TimeMachineModel$Conditions" "at" "I") (List.mem_of_getElem? (i := 1) rfl)) (fun _ h9 => h9) rfl dX15_scanWord_336 ?_
              refine lv_ldc2 hx hb hown (hts (.constantLong RX15 123 (28258992578979939)) (List.mem_of_getElem? (i := 15) rfl)) dX15_scanWord_339 ?_
              obtain ⟨q31, s32, hq, h⟩ := nd_b2_e h
              have hPc := hP
              have hDc := hD
              have hKc := hK
              have hFc := nd_rs hD hS hA
              refine nd_cVi (As := [.int (sI s28.1 3), .int (sI s28.1 1), .long 28258992578979939]) (rest := [.ref (a 0)]) (q := q31) (w' := dw_X15 a ac s32) ⟨hx, hb, hml, hown, hts⟩ (fun sz => dm_X15_is l hlt dC dI a ac n ((sI s28.1 3)) ((sI s28.1 1)) (28258992578979939) s28 hq sz) (cwV 3 hts gi_dm_X15_scanWord_0 rfl rfl rfl (by decide +kernel) ⟨Nat.le_of_ble_eq_true rfl, Nat.le_of_ble_eq_true rfl⟩) hPc hDc hKc hS hA hN (va_recv hKc hPc (ci := 16) (q0 := 0) rfl rfl) rfl hl.1 rfl (Nat.le_of_ble_eq_true rfl) dX15_scanWord_342 (fun H locs hP1 hD1 hk1 hS => ?_)
              have hP := hP1
              have hD := hD1.weaken (fun k q _ h => hFc q.1 h)
              refine lv_if_eq (tgt := 353) hx hb dX15_scanWord_345 (by decide) (fun c34 => ?_) (fun c34 => ?_)
              · have h := nd_pos h c34
                refine lv_iconst (v := 0) hx hb dX15_scanWord_353 (by decide) ?_
                exact (db_X15_scanWord_354 C K) (0) s32 _ _ _ h hP hD hS (lv_sub hl [] rfl)
              · have h := nd_neg h c34
                refine lv_bipush (v := 9) hx hb dX15_scanWord_348 (by decide) ?_
                refine lv_goto (tgt := 354) hx hb dX15_scanWord_350 (by decide) ?_
                exact (db_X15_scanWord_354 C K) (9) s32 _ _ _ h hP hD hS (lv_sub hl [] rfl)
            · have h := nd_neg h c30
              refine lv_bipush (v := 8) hx hb dX15_scanWord_325 (by decide) ?_
              refine lv_goto (tgt := 354) hx hb dX15_scanWord_327 (by decide) ?_
              exact (db_X15_scanWord_354 C K) (8) s28 _ _ _ h hP hD hS (lv_sub hl [] rfl)
          · have h := nd_neg h c26
            refine lv_bipush (v := 7) hx hb dX15_scanWord_302 (by decide) ?_
            refine lv_goto (tgt := 354) hx hb dX15_scanWord_304 (by decide) ?_
            exact (db_X15_scanWord_354 C K) (7) s24 _ _ _ h hP hD hS (lv_sub hl [] rfl)
        · have h := nd_neg h c22
          refine lv_bipush (v := 6) hx hb dX15_scanWord_279 (by decide) ?_
          refine lv_goto (tgt := 354) hx hb dX15_scanWord_281 (by decide) ?_
          exact (db_X15_scanWord_354 C K) (6) s20 _ _ _ h hP hD hS (lv_sub hl [] rfl)
      · have h := nd_neg h c18
        refine lv_iconst (v := 5) hx hb dX15_scanWord_257 (by decide) ?_
        refine lv_goto (tgt := 354) hx hb dX15_scanWord_258 (by decide) ?_
        exact (db_X15_scanWord_354 C K) (5) s16 _ _ _ h hP hD hS (lv_sub hl [] rfl)
    · have h := nd_neg h c14
      refine lv_iconst (v := 4) hx hb dX15_scanWord_235 (by decide) ?_
      refine lv_goto (tgt := 354) hx hb dX15_scanWord_236 (by decide) ?_
      exact (db_X15_scanWord_354 C K) (4) s12 _ _ _ h hP hD hS (lv_sub hl [] rfl)
  · have h := nd_neg h c10
    refine lv_iconst (v := 3) hx hb dX15_scanWord_213 (by decide) ?_
    refine lv_goto (tgt := 354) hx hb dX15_scanWord_214 (by decide) ?_
    exact (db_X15_scanWord_354 C K) (3) s8 _ _ _ h hP hD hS (lv_sub hl [] rfl)
set_option maxHeartbeats 40000000 in
set_option maxRecDepth 100000 in
theorem db_X15_scanWord_172 {p : Program} {l : Launch} {e : Env} {s : State} {m : MethodId} {args : Array Value} {below : List Frame} {meth : Method} {c : Code} {Q : State → Prop} {A : Nat → Prop} {dC : Nat → ClassId} {dI : Nat → Nat → Nat} {a : Nat → Nat} {ac : Nat → ClassId} {n : Nat} {r : St × (St × (St))} (C : nd_C p l s m args c A (dC, dI) cX15_scanWord 3 RX15 ow_dm_X15_scanWord (dk_X15 ac)) (K : nd_Kv p l e (headSpec ow_dm_X15_scanWord ({ frames := 1, cells := 0, slots := 0, locals := 27 })).room s m args below meth c Q A (dC, dI) cX15_scanWord (St × (St × (St))) (dw_X15 a ac) r) : dj_X15_scanWord_172 p l e s m args below meth c Q A dC dI a ac (df_X15_scanWord_172 n) r := by
  obtain ⟨hlt, hx, hb, hml, hown, hts, hN, hA, hK⟩ := id C
  intro x2 y1 s0 H locs ls h hP hD hS hl
  unfold df_X15_scanWord_172 at h
  refine va_put (D := (dC, dI)) (ci := 16) (v := .long y1) (ty := .long) (C := RX15) (T := TX15) (N := 28) hx hb hts hi_dm_X15_scanWord_X15 tyX15 tyX15_ok nmX15 hown hK hP hD hS 0 rfl rfl 15 (by decide) (hts (.fieldLink RX15 95 "TimeMachineModel$Conditions" "tokenValue" "J") (List.mem_of_getElem? (i := 4) rfl)) (fun _ h9 => h9) rfl (by decide +kernel) rfl rfl (Nat.le_of_ble_eq_true rfl) dX15_scanWord_172 (fun H locs hP hD hS => ?_)
  obtain ⟨s5, es5, h⟩ := nd_let_e h
  have hP : va_P (dC, dI) vwCl (dw_X15 a ac s5) H := by rw [es5]; exact hP
  have hD : va_D A (dw_X15 a ac s5) := by rw [es5]; exact hD
  refine lv_aload_n hx hb dX15_scanWord_175 rfl (lv_at hl 0 rfl) ?_
  refine lv_iload_n hx hb dX15_scanWord_176 rfl (lv_at hl 1 rfl) ?_
  refine lv_if_eq (tgt := 195) hx hb dX15_scanWord_177 (by decide) (fun c6 => ?_) (fun c6 => ?_)
  · have h := nd_pos h c6
    exact (db_X15_scanWord_195 C K)  s5 _ _ _ h hP hD hS (lv_sub hl [0] rfl)
  · have h := nd_neg h c6
    refine lv_aload_n hx hb dX15_scanWord_180 rfl (lv_at hl 0 rfl) ?_
    refine va_get (D := (dC, dI)) (ci := 16) (v := .long (sL s5.1 0)) (C := RX15) (T := TX15) (N := 28) hx hb hts hi_dm_X15_scanWord_X15 hown hK hP 0 rfl rfl 15 (by decide) (hts (.fieldLink RX15 95 "TimeMachineModel$Conditions" "tokenValue" "J") (List.mem_of_getElem? (i := 4) rfl)) (fun _ h9 => h9) rfl dX15_scanWord_181 ?_
    refine lv_ldc2 hx hb hown (hts (.constantLong RX15 105 (32)) (List.mem_of_getElem? (i := 17) rfl)) dX15_scanWord_184 ?_
    refine W.lcmp hx hb dX15_scanWord_187 ?_
    refine lv_if_ge (tgt := 195) hx hb dX15_scanWord_188 (by decide) (fun c36 => ?_) (fun c36 => ?_)
    · have h := nd_pos h c36
      exact (db_X15_scanWord_195 C K)  s5 _ _ _ h hP hD hS (lv_sub hl [0] rfl)
    · have h := nd_neg h c36
      refine lv_iconst (v := 2) hx hb dX15_scanWord_191 (by decide) ?_
      refine lv_goto (tgt := 354) hx hb dX15_scanWord_192 (by decide) ?_
      exact (db_X15_scanWord_354 C K) (2) s5 _ _ _ h hP hD hS (lv_sub hl [] rfl)
set_option maxHeartbeats 40000000 in
set_option maxRecDepth 100000 in
theorem db_X15_scanWord_106 {p : Program} {l : Launch} {e : Env} {s : State} {m : MethodId} {args : Array Value} {below : List Frame} {meth : Method} {c : Code} {Q : State → Prop} {A : Nat → Prop} {dC : Nat → ClassId} {dI : Nat → Nat → Nat} {a : Nat → Nat} {ac : Nat → ClassId} {n : Nat} {r : St × (St × (St))} (C : nd_C p l s m args c A (dC, dI) cX15_scanWord 3 RX15 ow_dm_X15_scanWord (dk_X15 ac)) (K : nd_Kv p l e (headSpec ow_dm_X15_scanWord ({ frames := 1, cells := 0, slots := 0, locals := 27 })).room s m args below meth c Q A (dC, dI) cX15_scanWord (St × (St × (St))) (dw_X15 a ac) r) : dj_X15_scanWord_106 p l e s m args below meth c Q A dC dI a ac (df_X15_scanWord_106 n) r := by
  obtain ⟨hlt, hx, hb, hml, hown, hts, hN, hA, hK⟩ := id C
  intro x1 y0 s0 H locs ls h hP hD hS hl
  unfold df_X15_scanWord_106 at h
  refine lv_istore_n (lv' := [(2, .int y0), (0, .ref (a 0)), (1, .int x1)]) hx hb dX15_scanWord_106 rfl hl (by decide) rfl (fun ls hl => ?_)
  refine lv_aload_n hx hb dX15_scanWord_107 rfl (lv_at hl 1 rfl) ?_
  refine lv_iload_n hx hb dX15_scanWord_108 rfl (lv_at hl 0 rfl) ?_
  refine lv_if_eq (tgt := 171) hx hb dX15_scanWord_109 (by decide) (fun c4 => ?_) (fun c4 => ?_)
  · have h := nd_pos h c4
    refine lv_lconst (v := 0) hx hb dX15_scanWord_171 (by decide) ?_
    exact (db_X15_scanWord_172 C K) (y0) (0) s0 _ _ _ h hP hD hS (lv_sub hl [1, 0] rfl)
  · have h := nd_neg h c4
    refine lv_iload_n hx hb dX15_scanWord_112 rfl (lv_at hl 2 rfl) ?_
    refine lv_iconst (v := 2) hx hb dX15_scanWord_113 (by decide) ?_
    refine lv_icmp_ne (tgt := 135) hx hb dX15_scanWord_114 (by decide) (fun c37 => ?_) (fun c37 => ?_)
    · have h := nd_neg h c37
      refine lv_bipush (v := 10) hx hb dX15_scanWord_135 (by decide) ?_
      refine lv_aload_n hx hb dX15_scanWord_137 rfl (lv_at hl 1 rfl) ?_
      refine va_get (D := (dC, dI)) (ci := 16) (v := .ref (a 1)) (C := RX15) (T := TX15) (N := 28) hx hb hts hi_dm_X15_scanWord_X15 hown hK hP 0 rfl rfl 2 (by decide) (hts (.fieldLink RX15 7 "TimeMachineModel$Conditions" "text" "[C") (List.mem_of_getElem? (i := 3) rfl)) (fun _ h9 => h9) rfl dX15_scanWord_138 ?_
      refine lv_aload_n hx hb dX15_scanWord_141 rfl (lv_at hl 1 rfl) ?_
      refine va_get (D := (dC, dI)) (ci := 16) (v := .int (sI s0.1 3)) (C := RX15) (T := TX15) (N := 28) hx hb hts hi_dm_X15_scanWord_X15 hown hK hP 0 rfl rfl 11 (by decide) (hts (.fieldLink RX15 80 "TimeMachineModel$Conditions" "start" "I") (List.mem_of_getElem? (i := 2) rfl)) (fun _ h9 => h9) rfl dX15_scanWord_142 ?_
      refine lv_iconst (v := 1) hx hb dX15_scanWord_145 (by decide) ?_
      refine lv_iadd hx hb dX15_scanWord_146 ?_
      obtain ⟨i38, h⟩ := nd_ck_e h
      refine va_cald (i := ((sI s0.1 3) + 1)) hx hb hK hP 1 0 rfl rfl i38 dX15_scanWord_147 ?_
      refine lv_bipush (v := 48) hx hb dX15_scanWord_148 (by decide) ?_
      refine lv_isub hx hb dX15_scanWord_150 ?_
      refine lv_imul hx hb dX15_scanWord_151 ?_
      refine lv_aload_n hx hb dX15_scanWord_152 rfl (lv_at hl 1 rfl) ?_
      refine va_get (D := (dC, dI)) (ci := 16) (v := .ref (a 1)) (C := RX15) (T := TX15) (N := 28) hx hb hts hi_dm_X15_scanWord_X15 hown hK hP 0 rfl rfl 2 (by decide) (hts (.fieldLink RX15 7 "TimeMachineModel$Conditions" "text" "[C") (List.mem_of_getElem? (i := 3) rfl)) (fun _ h9 => h9) rfl dX15_scanWord_153 ?_
      refine lv_aload_n hx hb dX15_scanWord_156 rfl (lv_at hl 1 rfl) ?_
      refine va_get (D := (dC, dI)) (ci := 16) (v := .int (sI s0.1 3)) (C := RX15) (T := TX15) (N := 28) hx hb hts hi_dm_X15_scanWord_X15 hown hK hP 0 rfl rfl 11 (by decide) (hts (.fieldLink RX15 80 "TimeMachineModel$Conditions" "start" "I") (List.mem_of_getElem? (i := 2) rfl)) (fun _ h9 => h9) rfl dX15_scanWord_157 ?_
      refine lv_iconst (v := 2) hx hb dX15_scanWord_160 (by decide) ?_
      refine lv_iadd hx hb dX15_scanWord_161 ?_
      obtain ⟨i39, h⟩ := nd_ck_e h
      refine va_cald (i := ((sI s0.1 3) + 2)) hx hb hK hP 1 0 rfl rfl i39 dX15_scanWord_162 ?_
      refine lv_iadd hx hb dX15_scanWord_163 ?_
      refine lv_bipush (v := 48) hx hb dX15_scanWord_164 (by decide) ?_
      refine lv_isub hx hb dX15_scanWord_166 ?_
      refine lv_i2l hx hb dX15_scanWord_167 rfl ?_
      refine lv_goto (tgt := 172) hx hb dX15_scanWord_168 (by decide) ?_
      exact (db_X15_scanWord_172 C K) (y0) ((((((10 * ((sR s0.1 0 (Int32.toNatClampNeg ((sI s0.1 3) + 1))) - 48)) + (sR s0.1 0 (Int32.toNatClampNeg ((sI s0.1 3) + 2)))) - 48) : Int32).toInt64)) s0 _ _ _ h hP hD hS (lv_sub hl [1, 0] rfl)
    · have h := nd_pos h c37
      refine lv_aload_n hx hb dX15_scanWord_117 rfl (lv_at hl 1 rfl) ?_
      refine va_get (D := (dC, dI)) (ci := 16) (v := .ref (a 1)) (C := RX15) (T := TX15) (N := 28) hx hb hts hi_dm_X15_scanWord_X15 hown hK hP 0 rfl rfl 2 (by decide) (hts (.fieldLink RX15 7 "TimeMachineModel$Conditions" "text" "[C") (List.mem_of_getElem? (i := 3) rfl)) (fun _ h9 => h9) rfl dX15_scanWord_118 ?_
      refine lv_aload_n hx hb dX15_scanWord_121 rfl (lv_at hl 1 rfl) ?_
      refine va_get (D := (dC, dI)) (ci := 16) (v := .int (sI s0.1 3)) (C := RX15) (T := TX15) (N := 28) hx hb hts hi_dm_X15_scanWord_X15 hown hK hP 0 rfl rfl 11 (by decide) (hts (.fieldLink RX15 80 "TimeMachineModel$Conditions" "start" "I") (List.mem_of_getElem? (i := 2) rfl)) (fun _ h9 => h9) rfl dX15_scanWord_122 ?_
      refine lv_iconst (v := 1) hx hb dX15_scanWord_125 (by decide) ?_
      refine lv_iadd hx hb dX15_scanWord_126 ?_
      obtain ⟨i40, h⟩ := nd_ck_e h
      refine va_cald (i := ((sI s0.1 3) + 1)) hx hb hK hP 1 0 rfl rfl i40 dX15_scanWord_127 ?_
      refine lv_bipush (v := 48) hx hb dX15_scanWord_128 (by decide) ?_
      refine lv_isub hx hb dX15_scanWord_130 ?_
      refine lv_i2l hx hb dX15_scanWord_131 rfl ?_
      refine lv_goto (tgt := 172) hx hb dX15_scanWord_132 (by decide) ?_
      exact (db_X15_scanWord_172 C K) (y0) (((((sR s0.1 0 (Int32.toNatClampNeg ((sI s0.1 3) + 1))) - 48) : Int32).toInt64)) s0 _ _ _ h hP hD hS (lv_sub hl [1, 0] rfl)
set_option maxHeartbeats 40000000 in
set_option maxRecDepth 100000 in
theorem db_X15_scanWord_105 {p : Program} {l : Launch} {e : Env} {s : State} {m : MethodId} {args : Array Value} {below : List Frame} {meth : Method} {c : Code} {Q : State → Prop} {A : Nat → Prop} {dC : Nat → ClassId} {dI : Nat → Nat → Nat} {a : Nat → Nat} {ac : Nat → ClassId} {n : Nat} {r : St × (St × (St))} (C : nd_C p l s m args c A (dC, dI) cX15_scanWord 3 RX15 ow_dm_X15_scanWord (dk_X15 ac)) (K : nd_Kv p l e (headSpec ow_dm_X15_scanWord ({ frames := 1, cells := 0, slots := 0, locals := 27 })).room s m args below meth c Q A (dC, dI) cX15_scanWord (St × (St × (St))) (dw_X15 a ac) r) : dj_X15_scanWord_105 p l e s m args below meth c Q A dC dI a ac (df_X15_scanWord_105 n) r := by
  obtain ⟨hlt, hx, hb, hml, hown, hts, hN, hA, hK⟩ := id C
  intro x1 s0 H locs ls h hP hD hS hl
  unfold df_X15_scanWord_105 at h
  refine lv_iconst (v := 0) hx hb dX15_scanWord_105 (by decide) ?_
  exact (db_X15_scanWord_106 C K) (x1) (0) s0 _ _ _ h hP hD hS (lv_sub hl [0, 1] rfl)
set_option maxHeartbeats 40000000 in
set_option maxRecDepth 100000 in
theorem db_X15_scanWord_101 {p : Program} {l : Launch} {e : Env} {s : State} {m : MethodId} {args : Array Value} {below : List Frame} {meth : Method} {c : Code} {Q : State → Prop} {A : Nat → Prop} {dC : Nat → ClassId} {dI : Nat → Nat → Nat} {a : Nat → Nat} {ac : Nat → ClassId} {n : Nat} {r : St × (St × (St))} (C : nd_C p l s m args c A (dC, dI) cX15_scanWord 3 RX15 ow_dm_X15_scanWord (dk_X15 ac)) (K : nd_Kv p l e (headSpec ow_dm_X15_scanWord ({ frames := 1, cells := 0, slots := 0, locals := 27 })).room s m args below meth c Q A (dC, dI) cX15_scanWord (St × (St × (St))) (dw_X15 a ac) r) : dj_X15_scanWord_101 p l e s m args below meth c Q A dC dI a ac (df_X15_scanWord_101 n) r := by
  obtain ⟨hlt, hx, hb, hml, hown, hts, hN, hA, hK⟩ := id C
  intro x1 s0 H locs ls h hP hD hS hl
  unfold df_X15_scanWord_101 at h
  refine lv_iconst (v := 1) hx hb dX15_scanWord_101 (by decide) ?_
  refine lv_goto (tgt := 106) hx hb dX15_scanWord_102 (by decide) ?_
  exact (db_X15_scanWord_106 C K) (x1) (1) s0 _ _ _ h hP hD hS (lv_sub hl [0, 1] rfl)
set_option maxHeartbeats 40000000 in
set_option maxRecDepth 100000 in
theorem db_X15_scanWord_46 {p : Program} {l : Launch} {e : Env} {s : State} {m : MethodId} {args : Array Value} {below : List Frame} {meth : Method} {c : Code} {Q : State → Prop} {A : Nat → Prop} {dC : Nat → ClassId} {dI : Nat → Nat → Nat} {a : Nat → Nat} {ac : Nat → ClassId} {n : Nat} {r : St × (St × (St))} (C : nd_C p l s m args c A (dC, dI) cX15_scanWord 3 RX15 ow_dm_X15_scanWord (dk_X15 ac)) (K : nd_Kv p l e (headSpec ow_dm_X15_scanWord ({ frames := 1, cells := 0, slots := 0, locals := 27 })).room s m args below meth c Q A (dC, dI) cX15_scanWord (St × (St × (St))) (dw_X15 a ac) r) : dj_X15_scanWord_46 p l e s m args below meth c Q A dC dI a ac (df_X15_scanWord_46 n) r := by
  obtain ⟨hlt, hx, hb, hml, hown, hts, hN, hA, hK⟩ := id C
  intro x1 s0 H locs ls h hP hD hS hl
  unfold df_X15_scanWord_46 at h
  refine lv_iload_n hx hb dX15_scanWord_46 rfl (lv_at hl 1 rfl) ?_
  refine lv_iconst (v := 3) hx hb dX15_scanWord_47 (by decide) ?_
  refine lv_icmp_ne (tgt := 105) hx hb dX15_scanWord_48 (by decide) (fun c42 => ?_) (fun c42 => ?_)
  · have h := nd_neg h c42
    exact (db_X15_scanWord_105 C K) (x1) s0 _ _ _ h hP hD hS (lv_sub hl [0, 1] rfl)
  · have h := nd_pos h c42
    refine lv_aload_n hx hb dX15_scanWord_51 rfl (lv_at hl 0 rfl) ?_
    refine va_get (D := (dC, dI)) (ci := 16) (v := .ref (a 1)) (C := RX15) (T := TX15) (N := 28) hx hb hts hi_dm_X15_scanWord_X15 hown hK hP 0 rfl rfl 2 (by decide) (hts (.fieldLink RX15 7 "TimeMachineModel$Conditions" "text" "[C") (List.mem_of_getElem? (i := 3) rfl)) (fun _ h9 => h9) rfl dX15_scanWord_52 ?_
    refine lv_aload_n hx hb dX15_scanWord_55 rfl (lv_at hl 0 rfl) ?_
    refine va_get (D := (dC, dI)) (ci := 16) (v := .int (sI s0.1 3)) (C := RX15) (T := TX15) (N := 28) hx hb hts hi_dm_X15_scanWord_X15 hown hK hP 0 rfl rfl 11 (by decide) (hts (.fieldLink RX15 80 "TimeMachineModel$Conditions" "start" "I") (List.mem_of_getElem? (i := 2) rfl)) (fun _ h9 => h9) rfl dX15_scanWord_56 ?_
    refine lv_iconst (v := 1) hx hb dX15_scanWord_59 (by decide) ?_
    refine lv_iadd hx hb dX15_scanWord_60 ?_
    obtain ⟨i43, h⟩ := nd_ck_e h
    refine va_cald (i := ((sI s0.1 3) + 1)) hx hb hK hP 1 0 rfl rfl i43 dX15_scanWord_61 ?_
    obtain ⟨q44, s45, hq, h⟩ := nd_b2_e h
    have hPc : va_P (dC, dI) vwCl (dw_P a ac ()) H := nd_p0
    have hDc : va_D A (dw_P a ac ()) := nd_d0
    have hKc : va_K (dC, dI) vwCl (dk_P ac) s := nd_y0 hK
    have hFc : ∀ q, va_A (dw_P a ac ()) H.size q → A q := nd_r0 hS hA
    refine nd_cSi (As := [.int (sR s0.1 0 (Int32.toNatClampNeg ((sI s0.1 3) + 1)))]) (rest := []) (q := q44) (w' := dw_P a ac s45) ⟨hx, hb, hml, hown, hts⟩ (fun sz => dm_X15_isDigit l hlt dC dI a ac n ((sR s0.1 0 (Int32.toNatClampNeg ((sI s0.1 3) + 1)))) () hq sz) (cwS 1 hts gi_dm_X15_scanWord_1 rfl rfl rfl (by decide +kernel) ⟨Nat.le_of_ble_eq_true rfl, Nat.le_of_ble_eq_true rfl⟩) hPc hDc hKc hS hA hN rfl hl.1 rfl (Nat.le_of_ble_eq_true rfl) dX15_scanWord_62 (fun H locs hP1 hD1 hk1 hS => ?_)
    have hP := nd_n0 hP hk1
    refine lv_if_eq (tgt := 105) hx hb dX15_scanWord_65 (by decide) (fun c47 => ?_) (fun c47 => ?_)
    · have h := nd_pos h c47
      exact (db_X15_scanWord_105 C K) (x1) s0 _ _ _ h hP hD hS (lv_sub hl [0, 1] rfl)
    · have h := nd_neg h c47
      refine lv_aload_n hx hb dX15_scanWord_68 rfl (lv_at hl 0 rfl) ?_
      refine va_get (D := (dC, dI)) (ci := 16) (v := .ref (a 1)) (C := RX15) (T := TX15) (N := 28) hx hb hts hi_dm_X15_scanWord_X15 hown hK hP 0 rfl rfl 2 (by decide) (hts (.fieldLink RX15 7 "TimeMachineModel$Conditions" "text" "[C") (List.mem_of_getElem? (i := 3) rfl)) (fun _ h9 => h9) rfl dX15_scanWord_69 ?_
      refine lv_aload_n hx hb dX15_scanWord_72 rfl (lv_at hl 0 rfl) ?_
      refine va_get (D := (dC, dI)) (ci := 16) (v := .int (sI s0.1 3)) (C := RX15) (T := TX15) (N := 28) hx hb hts hi_dm_X15_scanWord_X15 hown hK hP 0 rfl rfl 11 (by decide) (hts (.fieldLink RX15 80 "TimeMachineModel$Conditions" "start" "I") (List.mem_of_getElem? (i := 2) rfl)) (fun _ h9 => h9) rfl dX15_scanWord_73 ?_
      refine lv_iconst (v := 1) hx hb dX15_scanWord_76 (by decide) ?_
      refine lv_iadd hx hb dX15_scanWord_77 ?_
      obtain ⟨i48, h⟩ := nd_ck_e h
      refine va_cald (i := ((sI s0.1 3) + 1)) hx hb hK hP 1 0 rfl rfl i48 dX15_scanWord_78 ?_
      refine lv_bipush (v := 48) hx hb dX15_scanWord_79 (by decide) ?_
      refine lv_icmp_le (tgt := 105) hx hb dX15_scanWord_81 (by decide) (fun c49 => ?_) (fun c49 => ?_)
      · have h := nd_pos h c49
        exact (db_X15_scanWord_105 C K) (x1) s0 _ _ _ h hP hD hS (lv_sub hl [0, 1] rfl)
      · have h := nd_neg h c49
        refine lv_aload_n hx hb dX15_scanWord_84 rfl (lv_at hl 0 rfl) ?_
        refine va_get (D := (dC, dI)) (ci := 16) (v := .ref (a 1)) (C := RX15) (T := TX15) (N := 28) hx hb hts hi_dm_X15_scanWord_X15 hown hK hP 0 rfl rfl 2 (by decide) (hts (.fieldLink RX15 7 "TimeMachineModel$Conditions" "text" "[C") (List.mem_of_getElem? (i := 3) rfl)) (fun _ h9 => h9) rfl dX15_scanWord_85 ?_
        refine lv_aload_n hx hb dX15_scanWord_88 rfl (lv_at hl 0 rfl) ?_
        refine va_get (D := (dC, dI)) (ci := 16) (v := .int (sI s0.1 3)) (C := RX15) (T := TX15) (N := 28) hx hb hts hi_dm_X15_scanWord_X15 hown hK hP 0 rfl rfl 11 (by decide) (hts (.fieldLink RX15 80 "TimeMachineModel$Conditions" "start" "I") (List.mem_of_getElem? (i := 2) rfl)) (fun _ h9 => h9) rfl dX15_scanWord_89 ?_
        refine lv_iconst (v := 2) hx hb dX15_scanWord_92 (by decide) ?_
        refine lv_iadd hx hb dX15_scanWord_93 ?_
        obtain ⟨i50, h⟩ := nd_ck_e h
        refine va_cald (i := ((sI s0.1 3) + 2)) hx hb hK hP 1 0 rfl rfl i50 dX15_scanWord_94 ?_
        obtain ⟨q51, s52, hq, h⟩ := nd_b2_e h
        have hPc : va_P (dC, dI) vwCl (dw_P a ac ()) H := nd_p0
        have hDc : va_D A (dw_P a ac ()) := nd_d0
        have hKc : va_K (dC, dI) vwCl (dk_P ac) s := nd_y0 hK
        have hFc : ∀ q, va_A (dw_P a ac ()) H.size q → A q := nd_r0 hS hA
        refine nd_cSi (As := [.int (sR s0.1 0 (Int32.toNatClampNeg ((sI s0.1 3) + 2)))]) (rest := []) (q := q51) (w' := dw_P a ac s52) ⟨hx, hb, hml, hown, hts⟩ (fun sz => dm_X15_isDigit l hlt dC dI a ac n ((sR s0.1 0 (Int32.toNatClampNeg ((sI s0.1 3) + 2)))) () hq sz) (cwS 1 hts gi_dm_X15_scanWord_1 rfl rfl rfl (by decide +kernel) ⟨Nat.le_of_ble_eq_true rfl, Nat.le_of_ble_eq_true rfl⟩) hPc hDc hKc hS hA hN rfl hl.1 rfl (Nat.le_of_ble_eq_true rfl) dX15_scanWord_95 (fun H locs hP1 hD1 hk1 hS => ?_)
        have hP := nd_n0 hP hk1
        refine lv_if_eq (tgt := 105) hx hb dX15_scanWord_98 (by decide) (fun c54 => ?_) (fun c54 => ?_)
        · have h := nd_pos h c54
          exact (db_X15_scanWord_105 C K) (x1) s0 _ _ _ h hP hD hS (lv_sub hl [0, 1] rfl)
        · have h := nd_neg h c54
          exact (db_X15_scanWord_101 C K) (x1) s0 _ _ _ h hP hD hS (lv_sub hl [0, 1] rfl)
set_option maxHeartbeats 40000000 in
set_option maxRecDepth 100000 in
theorem db_X15_scanWord_0 {p : Program} {l : Launch} {e : Env} {s : State} {m : MethodId} {args : Array Value} {below : List Frame} {meth : Method} {c : Code} {Q : State → Prop} {A : Nat → Prop} {dC : Nat → ClassId} {dI : Nat → Nat → Nat} {a : Nat → Nat} {ac : Nat → ClassId} {n : Nat} {r : St × (St × (St))} (C : nd_C p l s m args c A (dC, dI) cX15_scanWord 3 RX15 ow_dm_X15_scanWord (dk_X15 ac)) (K : nd_Kv p l e (headSpec ow_dm_X15_scanWord ({ frames := 1, cells := 0, slots := 0, locals := 27 })).room s m args below meth c Q A (dC, dI) cX15_scanWord (St × (St × (St))) (dw_X15 a ac) r) : dj_X15_scanWord_0 p l e s m args below meth c Q A dC dI a ac (df_X15_scanWord_0 n) r := by
  obtain ⟨hlt, hx, hb, hml, hown, hts, hN, hA, hK⟩ := id C
  intro s0 H locs ls h hP hD hS hl
  unfold df_X15_scanWord_0 at h
  refine lv_aload_n hx hb dX15_scanWord_0 rfl (lv_at hl 0 rfl) ?_
  refine va_get (D := (dC, dI)) (ci := 16) (v := .int (sI s0.1 1)) (C := RX15) (T := TX15) (N := 28) hx hb hts hi_dm_X15_scanWord_X15 hown hK hP 0 rfl rfl 9 (by decide) (hts (.fieldLink RX15 73 "TimeMachineModel$Conditions" "at" "I") (List.mem_of_getElem? (i := 1) rfl)) (fun _ h9 => h9) rfl dX15_scanWord_1 ?_
  refine lv_aload_n hx hb dX15_scanWord_4 rfl (lv_at hl 0 rfl) ?_
  refine va_get (D := (dC, dI)) (ci := 16) (v := .int (sI s0.1 3)) (C := RX15) (T := TX15) (N := 28) hx hb hts hi_dm_X15_scanWord_X15 hown hK hP 0 rfl rfl 11 (by decide) (hts (.fieldLink RX15 80 "TimeMachineModel$Conditions" "start" "I") (List.mem_of_getElem? (i := 2) rfl)) (fun _ h9 => h9) rfl dX15_scanWord_5 ?_
  refine lv_isub hx hb dX15_scanWord_8 ?_
  refine lv_topi (fun z1 ez1 => ?_)
  have h := nd_at h ez1
  refine lv_istore_n (lv' := [(1, .int z1), (0, .ref (a 0))]) hx hb dX15_scanWord_9 rfl hl (by decide) rfl (fun ls hl => ?_)
  refine lv_aload_n hx hb dX15_scanWord_10 rfl (lv_at hl 1 rfl) ?_
  refine va_get (D := (dC, dI)) (ci := 16) (v := .ref (a 1)) (C := RX15) (T := TX15) (N := 28) hx hb hts hi_dm_X15_scanWord_X15 hown hK hP 0 rfl rfl 2 (by decide) (hts (.fieldLink RX15 7 "TimeMachineModel$Conditions" "text" "[C") (List.mem_of_getElem? (i := 3) rfl)) (fun _ h9 => h9) rfl dX15_scanWord_11 ?_
  refine lv_aload_n hx hb dX15_scanWord_14 rfl (lv_at hl 1 rfl) ?_
  refine va_get (D := (dC, dI)) (ci := 16) (v := .int (sI s0.1 3)) (C := RX15) (T := TX15) (N := 28) hx hb hts hi_dm_X15_scanWord_X15 hown hK hP 0 rfl rfl 11 (by decide) (hts (.fieldLink RX15 80 "TimeMachineModel$Conditions" "start" "I") (List.mem_of_getElem? (i := 2) rfl)) (fun _ h9 => h9) rfl dX15_scanWord_15 ?_
  obtain ⟨i2, h⟩ := nd_ck_e h
  refine va_cald (i := (sI s0.1 3)) hx hb hK hP 1 0 rfl rfl i2 dX15_scanWord_18 ?_
  refine lv_bipush (v := 120) hx hb dX15_scanWord_19 (by decide) ?_
  refine lv_icmp_ne (tgt := 105) hx hb dX15_scanWord_21 (by decide) (fun c3 => ?_) (fun c3 => ?_)
  · have h := nd_neg h c3
    exact (db_X15_scanWord_105 C K) (z1) s0 _ _ _ h hP hD hS (lv_sub hl [1, 0] rfl)
  · have h := nd_pos h c3
    refine lv_iload_n hx hb dX15_scanWord_24 rfl (lv_at hl 0 rfl) ?_
    refine lv_iconst (v := 2) hx hb dX15_scanWord_25 (by decide) ?_
    refine lv_icmp_ne (tgt := 46) hx hb dX15_scanWord_26 (by decide) (fun c41 => ?_) (fun c41 => ?_)
    · have h := nd_neg h c41
      exact (db_X15_scanWord_46 C K) (z1) s0 _ _ _ h hP hD hS (lv_sub hl [1, 0] rfl)
    · have h := nd_pos h c41
      refine lv_aload_n hx hb dX15_scanWord_29 rfl (lv_at hl 1 rfl) ?_
      refine va_get (D := (dC, dI)) (ci := 16) (v := .ref (a 1)) (C := RX15) (T := TX15) (N := 28) hx hb hts hi_dm_X15_scanWord_X15 hown hK hP 0 rfl rfl 2 (by decide) (hts (.fieldLink RX15 7 "TimeMachineModel$Conditions" "text" "[C") (List.mem_of_getElem? (i := 3) rfl)) (fun _ h9 => h9) rfl dX15_scanWord_30 ?_
      refine lv_aload_n hx hb dX15_scanWord_33 rfl (lv_at hl 1 rfl) ?_
      refine va_get (D := (dC, dI)) (ci := 16) (v := .int (sI s0.1 3)) (C := RX15) (T := TX15) (N := 28) hx hb hts hi_dm_X15_scanWord_X15 hown hK hP 0 rfl rfl 11 (by decide) (hts (.fieldLink RX15 80 "TimeMachineModel$Conditions" "start" "I") (List.mem_of_getElem? (i := 2) rfl)) (fun _ h9 => h9) rfl dX15_scanWord_34 ?_
      refine lv_iconst (v := 1) hx hb dX15_scanWord_37 (by decide) ?_
      refine lv_iadd hx hb dX15_scanWord_38 ?_
      obtain ⟨i55, h⟩ := nd_ck_e h
      refine va_cald (i := ((sI s0.1 3) + 1)) hx hb hK hP 1 0 rfl rfl i55 dX15_scanWord_39 ?_
      obtain ⟨q56, s57, hq, h⟩ := nd_b2_e h
      have hPc : va_P (dC, dI) vwCl (dw_P a ac ()) H := nd_p0
      have hDc : va_D A (dw_P a ac ()) := nd_d0
      have hKc : va_K (dC, dI) vwCl (dk_P ac) s := nd_y0 hK
      have hFc : ∀ q, va_A (dw_P a ac ()) H.size q → A q := nd_r0 hS hA
      refine nd_cSi (As := [.int (sR s0.1 0 (Int32.toNatClampNeg ((sI s0.1 3) + 1)))]) (rest := []) (q := q56) (w' := dw_P a ac s57) ⟨hx, hb, hml, hown, hts⟩ (fun sz => dm_X15_isDigit l hlt dC dI a ac n ((sR s0.1 0 (Int32.toNatClampNeg ((sI s0.1 3) + 1)))) () hq sz) (cwS 1 hts gi_dm_X15_scanWord_1 rfl rfl rfl (by decide +kernel) ⟨Nat.le_of_ble_eq_true rfl, Nat.le_of_ble_eq_true rfl⟩) hPc hDc hKc hS hA hN rfl hl.1 rfl (Nat.le_of_ble_eq_true rfl) dX15_scanWord_40 (fun H locs hP1 hD1 hk1 hS => ?_)
      have hP := nd_n0 hP hk1
      refine lv_if_ne (tgt := 101) hx hb dX15_scanWord_43 (by decide) (fun c59 => ?_) (fun c59 => ?_)
      · have h := nd_neg h c59
        exact (db_X15_scanWord_101 C K) (z1) s0 _ _ _ h hP hD hS (lv_sub hl [1, 0] rfl)
      · have h := nd_pos h c59
        exact (db_X15_scanWord_46 C K) (z1) s0 _ _ _ h hP hD hS (lv_sub hl [1, 0] rfl)
set_option maxHeartbeats 40000000 in
set_option maxRecDepth 100000 in
theorem dm_X15_scanWord (l : Launch) (hlt : l.stackTraces = false) (dC : Nat → ClassId) (dI : Nat → Nat → Nat) (a : Nat → Nat) (ac : Nat → ClassId) (n : Nat) (s0 : St × (St × (St))) {r : St × (St × (St))} (h : df_X15_scanWord n s0 = some r) (sz : Nat) : Met l yX15_scanWord ow_dm_X15_scanWord ({ frames := 1, cells := 0, slots := 0, locals := 27 }) (va_Pc [.ref (a 0)] (fun U => U.heap.size = sz ∧ va_P (dC, dI) vwCl (dw_X15 a ac s0) U.heap ∧ va_K (dC, dI) vwCl (dk_X15 ac) U ∧ va_D (fun _ => True) (dw_X15 a ac s0) ∧ nv_E dI (va_A (dw_X15 a ac s0) sz) U)) (va_Qv (fun _ => True) (fun (_ : Unit) t => va_P (dC, dI) vwCl (dw_X15 a ac r) t.heap ∧ va_K (dC, dI) vwCl (dk_X15 ac) t ∧ va_D (va_A (dw_X15 a ac s0) sz) (dw_X15 a ac r)) (va_A (dw_X15 a ac s0) sz)) 0 0 (va_A (dw_X15 a ac s0) sz) := by
  refine Met.ofW (cc := cX15_scanWord) (maxL := 3) (ret := none) (by decide) rfl ?_
  intro p e s m args below meth c s₁ B hml hv
  obtain ⟨rfl, hsz, hP, hK, hD0, hN⟩ := hv
  have hx := B.exec
  have hb := B.bytes
  have hr := B.returns
  have hts := atoms_spec (ws := ow_dm_X15_scanWord) B.pre
  have hown : s.vm.findClass RX15 = some m.cls := findClass_of_methodNamed B.named
  have hlocks := B.notSynchronized
  subst hsz
  have hD := hD0.self (sz := s.heap.size)
  generalize hAe : va_A (dw_X15 a ac s0) s.heap.size = A at hD hN ⊢
  have hA : ∀ q : Nat, s.heap.size ≤ q → A q := fun q h => by rw [← hAe]; exact Or.inr h
  have hl := lv_entry ([.ref (a 0)]) (n := 3) (Nat.le_of_ble_eq_true rfl)
  rw [lg_entry_eq]
  generalize (lg_sl ([.ref (a 0)]) ++ List.replicate (3 - (lg_sl ([.ref (a 0)])).length) Slot.unset).toArray = ls at hl ⊢
  have hl : lv_has ls 3 [(0, .ref (a 0))] := hl
  exact db_X15_scanWord_0 (dC := dC) (dI := dI) (a := a) (ac := ac) (n := n) (r := r) ⟨hlt, hx, hb, hml, hown, hts, hN, hA, hK⟩ (fun pc τ H locs ls d er hP hD hS => by subst er; exact W.vret hx hb hr (fun t ht hW => ⟨⟨(), rfl, trivial, by rw [ht]; exact hP, va_K.moved hW.alike hK, hD⟩, hS.F ht⟩) hS.2.2 d) s0 _ _ _ h hP hD va_S.rf (lv_sub hl [0] rfl)
def ow_dm_X15_scanNumber : List Cond := Cond.code yX15_scanNumber cX15_scanNumber 5 none :: ([Cond.fieldLink RX15 73 "TimeMachineModel$Conditions" "at" "I", Cond.fieldLink RX15 80 "TimeMachineModel$Conditions" "start" "I", Cond.fieldLink RX15 92 "TimeMachineModel$Conditions" "token" "I", Cond.fieldLink RX15 95 "TimeMachineModel$Conditions" "tokenValue" "J", Cond.fieldLink RX15 7 "TimeMachineModel$Conditions" "text" "[C", Cond.methodLink RX15 69 yX15_isDigit, Cond.static yX15_isDigit, Cond.initialized RX15, Cond.constantLong RX15 101 (10), Cond.constantLong RX15 103 (4294967296), Cond.constantLong RX15 99 (16)] ++ (u_ws RX15 TX15 28 ++ (ow_dm_X15_isDigit ++ [])))
theorem gd_dm_X15_scanNumber : ∀ w ∈ ow_dm_X15_scanNumber, (w.onTables && w.keeps) = true ∨ ∃ ty, w = Cond.arrayClass ty := List.forall_mem_cons.mpr ⟨good_of_word rfl, List.forall_mem_append.mpr ⟨fun w h => good_of_word (List.all_eq_true.mp (by decide +kernel) w h), List.forall_mem_append.mpr ⟨gu_X15, List.forall_mem_append.mpr ⟨gd_dm_X15_isDigit, fun _ h => nomatch h⟩⟩⟩⟩
theorem hi_dm_X15_scanNumber_X15 : ∀ w ∈ u_ws RX15 TX15 28, w ∈ ow_dm_X15_scanNumber := fun w h => List.mem_cons_of_mem _ (List.mem_append_right _ (List.mem_append_left _ h))
theorem gi_dm_X15_scanNumber_0 : GoodIn ow_dm_X15_scanNumber (wsS RX15 69 yX15_isDigit ow_dm_X15_isDigit) := goodIn_app (goodIn_of _ (by decide +kernel)) (fun w h => ⟨List.mem_cons_of_mem _ (List.mem_append_right _ (List.mem_append_right _ (List.mem_append_left _ h))), gd_dm_X15_isDigit w h⟩)
def dj_X15_scanNumber_204 (p : Program) (l : Launch) (e : Env) (s : State) (m : MethodId) (args : Array Value) (below : List Frame) (meth : Method) (c : Code) (Q : State → Prop) (A : Nat → Prop) (dC : Nat → ClassId) (dI : Nat → Nat → Nat) (a : Nat → Nat) (ac : Nat → ClassId) (g : Int32 → Int32 → Int64 → (St × (St × (St))) → Option (St × (St × (St)))) (r : St × (St × (St))) : Prop := ∀ (x1 : Int32) (x2 : Int32) (y1 : Int64) (s0 : St × (St × (St))) (H : Heap) (locs : List Loc) (ls : Array Slot), g x1 x2 y1 s0 = some r → va_P (dC, dI) vwCl (dw_X15 a ac s0) H → va_D A (dw_X15 a ac s0) → va_S A s.heap H locs → lv_has ls 5 [(0, .ref (a 0)), (1, .int x1), (2, .int x2)] → W p l e (headSpec ow_dm_X15_scanNumber ({ frames := 1, cells := 0, slots := 0, locals := 20 })).room s m args below meth c H locs 0 0 Q (F0 m 204 ls [.long y1, .ref (a 0)])
def dj_X15_scanNumber_186 (p : Program) (l : Launch) (e : Env) (s : State) (m : MethodId) (args : Array Value) (below : List Frame) (meth : Method) (c : Code) (Q : State → Prop) (A : Nat → Prop) (dC : Nat → ClassId) (dI : Nat → Nat → Nat) (a : Nat → Nat) (ac : Nat → ClassId) (g : Int32 → Int32 → (St × (St × (St))) → Option (St × (St × (St)))) (r : St × (St × (St))) : Prop := ∀ (x1 : Int32) (x2 : Int32) (s0 : St × (St × (St))) (H : Heap) (locs : List Loc) (ls : Array Slot), g x1 x2 s0 = some r → va_P (dC, dI) vwCl (dw_X15 a ac s0) H → va_D A (dw_X15 a ac s0) → va_S A s.heap H locs → lv_has ls 5 [(0, .ref (a 0)), (1, .int x1), (2, .int x2)] → W p l e (headSpec ow_dm_X15_scanNumber ({ frames := 1, cells := 0, slots := 0, locals := 20 })).room s m args below meth c H locs 0 0 Q (F0 m 186 ls [])
def dj_X15_scanNumber_180 (p : Program) (l : Launch) (e : Env) (s : State) (m : MethodId) (args : Array Value) (below : List Frame) (meth : Method) (c : Code) (Q : State → Prop) (A : Nat → Prop) (dC : Nat → ClassId) (dI : Nat → Nat → Nat) (a : Nat → Nat) (ac : Nat → ClassId) (g : Int32 → Int32 → (St × (St × (St))) → Option (St × (St × (St)))) (r : St × (St × (St))) : Prop := ∀ (x1 : Int32) (x2 : Int32) (s0 : St × (St × (St))) (H : Heap) (locs : List Loc) (ls : Array Slot), g x1 x2 s0 = some r → va_P (dC, dI) vwCl (dw_X15 a ac s0) H → va_D A (dw_X15 a ac s0) → va_S A s.heap H locs → lv_has ls 5 [(0, .ref (a 0)), (1, .int x1), (2, .int x2)] → W p l e (headSpec ow_dm_X15_scanNumber ({ frames := 1, cells := 0, slots := 0, locals := 20 })).room s m args below meth c H locs 0 0 Q (F0 m 180 ls [])
def dj_X15_scanNumber_154 (p : Program) (l : Launch) (e : Env) (s : State) (m : MethodId) (args : Array Value) (below : List Frame) (meth : Method) (c : Code) (Q : State → Prop) (A : Nat → Prop) (dC : Nat → ClassId) (dI : Nat → Nat → Nat) (a : Nat → Nat) (ac : Nat → ClassId) (g : Int32 → Int32 → Int32 → Int64 → Int64 → (St × (St × (St))) → Option (St × (St × (St)))) (r : St × (St × (St))) : Prop := ∀ (x1 : Int32) (x2 : Int32) (x4 : Int32) (y1 : Int64) (y2 : Int64) (s0 : St × (St × (St))) (H : Heap) (locs : List Loc) (ls : Array Slot), g x1 x2 x4 y1 y2 s0 = some r → va_P (dC, dI) vwCl (dw_X15 a ac s0) H → va_D A (dw_X15 a ac s0) → va_S A s.heap H locs → lv_has ls 5 [(0, .ref (a 0)), (1, .int x1), (2, .int x2), (4, .int x4)] → W p l e (headSpec ow_dm_X15_scanNumber ({ frames := 1, cells := 0, slots := 0, locals := 20 })).room s m args below meth c H locs 0 0 Q (F0 m 154 ls [.long y2, .long y1, .ref (a 0)])
def dj_X15_scanNumber_134 (p : Program) (l : Launch) (e : Env) (s : State) (m : MethodId) (args : Array Value) (below : List Frame) (meth : Method) (c : Code) (Q : State → Prop) (A : Nat → Prop) (dC : Nat → ClassId) (dI : Nat → Nat → Nat) (a : Nat → Nat) (ac : Nat → ClassId) (g : Int32 → Int32 → Int32 → (St × (St × (St))) → Option (St × (St × (St)))) (r : St × (St × (St))) : Prop := ∀ (x1 : Int32) (x2 : Int32) (y0 : Int32) (s0 : St × (St × (St))) (H : Heap) (locs : List Loc) (ls : Array Slot), g x1 x2 y0 s0 = some r → va_P (dC, dI) vwCl (dw_X15 a ac s0) H → va_D A (dw_X15 a ac s0) → va_S A s.heap H locs → lv_has ls 5 [(0, .ref (a 0)), (1, .int x1), (2, .int x2)] → W p l e (headSpec ow_dm_X15_scanNumber ({ frames := 1, cells := 0, slots := 0, locals := 20 })).room s m args below meth c H locs 0 0 Q (F0 m 134 ls [.int y0])
def dj_X15_scanNumber_132 (p : Program) (l : Launch) (e : Env) (s : State) (m : MethodId) (args : Array Value) (below : List Frame) (meth : Method) (c : Code) (Q : State → Prop) (A : Nat → Prop) (dC : Nat → ClassId) (dI : Nat → Nat → Nat) (a : Nat → Nat) (ac : Nat → ClassId) (g : Int32 → Int32 → (St × (St × (St))) → Option (St × (St × (St)))) (r : St × (St × (St))) : Prop := ∀ (x1 : Int32) (x2 : Int32) (s0 : St × (St × (St))) (H : Heap) (locs : List Loc) (ls : Array Slot), g x1 x2 s0 = some r → va_P (dC, dI) vwCl (dw_X15 a ac s0) H → va_D A (dw_X15 a ac s0) → va_S A s.heap H locs → lv_has ls 5 [(0, .ref (a 0)), (1, .int x1), (2, .int x2)] → W p l e (headSpec ow_dm_X15_scanNumber ({ frames := 1, cells := 0, slots := 0, locals := 20 })).room s m args below meth c H locs 0 0 Q (F0 m 132 ls [])
def dj_X15_scanNumber_77 (p : Program) (l : Launch) (e : Env) (s : State) (m : MethodId) (args : Array Value) (below : List Frame) (meth : Method) (c : Code) (Q : State → Prop) (A : Nat → Prop) (dC : Nat → ClassId) (dI : Nat → Nat → Nat) (a : Nat → Nat) (ac : Nat → ClassId) (g : Int32 → Int32 → (St × (St × (St))) → Option (St × (St × (St)))) (r : St × (St × (St))) : Prop := ∀ (x1 : Int32) (x2 : Int32) (s0 : St × (St × (St))) (H : Heap) (locs : List Loc) (ls : Array Slot), g x1 x2 s0 = some r → va_P (dC, dI) vwCl (dw_X15 a ac s0) H → va_D A (dw_X15 a ac s0) → va_S A s.heap H locs → lv_has ls 5 [(0, .ref (a 0)), (1, .int x1), (2, .int x2)] → W p l e (headSpec ow_dm_X15_scanNumber ({ frames := 1, cells := 0, slots := 0, locals := 20 })).room s m args below meth c H locs 0 0 Q (F0 m 77 ls [])
def dj_X15_scanNumber_76 (p : Program) (l : Launch) (e : Env) (s : State) (m : MethodId) (args : Array Value) (below : List Frame) (meth : Method) (c : Code) (Q : State → Prop) (A : Nat → Prop) (dC : Nat → ClassId) (dI : Nat → Nat → Nat) (a : Nat → Nat) (ac : Nat → ClassId) (g : Int32 → Int32 → (St × (St × (St))) → Option (St × (St × (St)))) (r : St × (St × (St))) : Prop := ∀ (x1 : Int32) (y0 : Int32) (s0 : St × (St × (St))) (H : Heap) (locs : List Loc) (ls : Array Slot), g x1 y0 s0 = some r → va_P (dC, dI) vwCl (dw_X15 a ac s0) H → va_D A (dw_X15 a ac s0) → va_S A s.heap H locs → lv_has ls 5 [(0, .ref (a 0)), (1, .int x1)] → W p l e (headSpec ow_dm_X15_scanNumber ({ frames := 1, cells := 0, slots := 0, locals := 20 })).room s m args below meth c H locs 0 0 Q (F0 m 76 ls [.int y0])
def dj_X15_scanNumber_48 (p : Program) (l : Launch) (e : Env) (s : State) (m : MethodId) (args : Array Value) (below : List Frame) (meth : Method) (c : Code) (Q : State → Prop) (A : Nat → Prop) (dC : Nat → ClassId) (dI : Nat → Nat → Nat) (a : Nat → Nat) (ac : Nat → ClassId) (g : Int32 → (St × (St × (St))) → Option (St × (St × (St)))) (r : St × (St × (St))) : Prop := ∀ (y0 : Int32) (s0 : St × (St × (St))) (H : Heap) (locs : List Loc) (ls : Array Slot), g y0 s0 = some r → va_P (dC, dI) vwCl (dw_X15 a ac s0) H → va_D A (dw_X15 a ac s0) → va_S A s.heap H locs → lv_has ls 5 [(0, .ref (a 0))] → W p l e (headSpec ow_dm_X15_scanNumber ({ frames := 1, cells := 0, slots := 0, locals := 20 })).room s m args below meth c H locs 0 0 Q (F0 m 48 ls [.int y0])
def dj_X15_scanNumber_47 (p : Program) (l : Launch) (e : Env) (s : State) (m : MethodId) (args : Array Value) (below : List Frame) (meth : Method) (c : Code) (Q : State → Prop) (A : Nat → Prop) (dC : Nat → ClassId) (dI : Nat → Nat → Nat) (a : Nat → Nat) (ac : Nat → ClassId) (g : (St × (St × (St))) → Option (St × (St × (St)))) (r : St × (St × (St))) : Prop := ∀ (s0 : St × (St × (St))) (H : Heap) (locs : List Loc) (ls : Array Slot), g s0 = some r → va_P (dC, dI) vwCl (dw_X15 a ac s0) H → va_D A (dw_X15 a ac s0) → va_S A s.heap H locs → lv_has ls 5 [(0, .ref (a 0))] → W p l e (headSpec ow_dm_X15_scanNumber ({ frames := 1, cells := 0, slots := 0, locals := 20 })).room s m args below meth c H locs 0 0 Q (F0 m 47 ls [])
def dj_X15_scanNumber_0 (p : Program) (l : Launch) (e : Env) (s : State) (m : MethodId) (args : Array Value) (below : List Frame) (meth : Method) (c : Code) (Q : State → Prop) (A : Nat → Prop) (dC : Nat → ClassId) (dI : Nat → Nat → Nat) (a : Nat → Nat) (ac : Nat → ClassId) (g : (St × (St × (St))) → Option (St × (St × (St)))) (r : St × (St × (St))) : Prop := ∀ (s0 : St × (St × (St))) (H : Heap) (locs : List Loc) (ls : Array Slot), g s0 = some r → va_P (dC, dI) vwCl (dw_X15 a ac s0) H → va_D A (dw_X15 a ac s0) → va_S A s.heap H locs → lv_has ls 5 [(0, .ref (a 0))] → W p l e (headSpec ow_dm_X15_scanNumber ({ frames := 1, cells := 0, slots := 0, locals := 20 })).room s m args below meth c H locs 0 0 Q (F0 m 0 ls [])
set_option maxHeartbeats 40000000 in
set_option maxRecDepth 100000 in
theorem db_X15_scanNumber_204 {p : Program} {l : Launch} {e : Env} {s : State} {m : MethodId} {args : Array Value} {below : List Frame} {meth : Method} {c : Code} {Q : State → Prop} {A : Nat → Prop} {dC : Nat → ClassId} {dI : Nat → Nat → Nat} {a : Nat → Nat} {ac : Nat → ClassId} {n : Nat} {r : St × (St × (St))} (C : nd_C p l s m args c A (dC, dI) cX15_scanNumber 5 RX15 ow_dm_X15_scanNumber (dk_X15 ac)) (K : nd_Kv p l e (headSpec ow_dm_X15_scanNumber ({ frames := 1, cells := 0, slots := 0, locals := 20 })).room s m args below meth c Q A (dC, dI) cX15_scanNumber (St × (St × (St))) (dw_X15 a ac) r) {g77 : Int32 → Int32 → (St × (St × (St))) → Option (St × (St × (St)))} (J77 : dj_X15_scanNumber_77 p l e s m args below meth c Q A dC dI a ac g77 r) : dj_X15_scanNumber_204 p l e s m args below meth c Q A dC dI a ac (df_X15_scanNumber_204 n g77) r := by
  obtain ⟨hlt, hx, hb, hml, hown, hts, hN, hA, hK⟩ := id C
  intro x1 x2 y1 s0 H locs ls h hP hD hS hl
  unfold df_X15_scanNumber_204 at h
  refine va_put (D := (dC, dI)) (ci := 16) (v := .long y1) (ty := .long) (C := RX15) (T := TX15) (N := 28) hx hb hts hi_dm_X15_scanNumber_X15 tyX15 tyX15_ok nmX15 hown hK hP hD hS 0 rfl rfl 15 (by decide) (hts (.fieldLink RX15 95 "TimeMachineModel$Conditions" "tokenValue" "J") (List.mem_of_getElem? (i := 4) rfl)) (fun _ h9 => h9) rfl (by decide +kernel) rfl rfl (Nat.le_of_ble_eq_true rfl) dX15_scanNumber_204 (fun H locs hP hD hS => ?_)
  obtain ⟨s18, es18, h⟩ := nd_let_e h
  have hP : va_P (dC, dI) vwCl (dw_X15 a ac s18) H := by rw [es18]; exact hP
  have hD : va_D A (dw_X15 a ac s18) := by rw [es18]; exact hD
  obtain ⟨z19, ez19, h⟩ := nd_let_e h
  refine lv_iinc (v := z19) (lv' := [(2, .int z19), (0, .ref (a 0)), (1, .int x1)]) hx hb dX15_scanNumber_207 hl (k := 2) rfl (by rw [ez19]) (by decide) rfl (fun ls hl => ?_)
  refine lv_goto (tgt := 77) hx hb dX15_scanNumber_210 (by decide) ?_
  exact (J77) (x1) (z19) s18 _ _ _ h hP hD hS (lv_sub hl [1, 2, 0] rfl)
set_option maxHeartbeats 40000000 in
set_option maxRecDepth 100000 in
theorem db_X15_scanNumber_186 {p : Program} {l : Launch} {e : Env} {s : State} {m : MethodId} {args : Array Value} {below : List Frame} {meth : Method} {c : Code} {Q : State → Prop} {A : Nat → Prop} {dC : Nat → ClassId} {dI : Nat → Nat → Nat} {a : Nat → Nat} {ac : Nat → ClassId} {n : Nat} {r : St × (St × (St))} (C : nd_C p l s m args c A (dC, dI) cX15_scanNumber 5 RX15 ow_dm_X15_scanNumber (dk_X15 ac)) (K : nd_Kv p l e (headSpec ow_dm_X15_scanNumber ({ frames := 1, cells := 0, slots := 0, locals := 20 })).room s m args below meth c Q A (dC, dI) cX15_scanNumber (St × (St × (St))) (dw_X15 a ac) r) {g77 : Int32 → Int32 → (St × (St × (St))) → Option (St × (St × (St)))} (J77 : dj_X15_scanNumber_77 p l e s m args below meth c Q A dC dI a ac g77 r) : dj_X15_scanNumber_186 p l e s m args below meth c Q A dC dI a ac (df_X15_scanNumber_186 n g77) r := by
  obtain ⟨hlt, hx, hb, hml, hown, hts, hN, hA, hK⟩ := id C
  intro x1 x2 s0 H locs ls h hP hD hS hl
  unfold df_X15_scanNumber_186 at h
  refine lv_aload_n hx hb dX15_scanNumber_186 rfl (lv_at hl 0 rfl) ?_
  refine lv_aload_n hx hb dX15_scanNumber_187 rfl (lv_at hl 0 rfl) ?_
  refine va_get (D := (dC, dI)) (ci := 16) (v := .int (sI s0.1 2)) (C := RX15) (T := TX15) (N := 28) hx hb hts hi_dm_X15_scanNumber_X15 hown hK hP 0 rfl rfl 10 (by decide) (hts (.fieldLink RX15 92 "TimeMachineModel$Conditions" "token" "I") (List.mem_of_getElem? (i := 3) rfl)) (fun _ h9 => h9) rfl dX15_scanNumber_188 ?_
  refine lv_bipush (v := 34) hx hb dX15_scanNumber_191 (by decide) ?_
  refine lv_icmp_ne (tgt := 200) hx hb dX15_scanNumber_193 (by decide) (fun c17 => ?_) (fun c17 => ?_)
  · have h := nd_neg h c17
    refine lv_aload_n hx hb dX15_scanNumber_200 rfl (lv_at hl 0 rfl) ?_
    refine va_get (D := (dC, dI)) (ci := 16) (v := .long (sL s0.1 0)) (C := RX15) (T := TX15) (N := 28) hx hb hts hi_dm_X15_scanNumber_X15 hown hK hP 0 rfl rfl 15 (by decide) (hts (.fieldLink RX15 95 "TimeMachineModel$Conditions" "tokenValue" "J") (List.mem_of_getElem? (i := 4) rfl)) (fun _ h9 => h9) rfl dX15_scanNumber_201 ?_
    exact (db_X15_scanNumber_204 C K J77) (x1) (x2) ((sL s0.1 0)) s0 _ _ _ h hP hD hS (lv_sub hl [0, 1, 2] rfl)
  · have h := nd_pos h c17
    refine lv_lconst (v := 0) hx hb dX15_scanNumber_196 (by decide) ?_
    refine lv_goto (tgt := 204) hx hb dX15_scanNumber_197 (by decide) ?_
    exact (db_X15_scanNumber_204 C K J77) (x1) (x2) (0) s0 _ _ _ h hP hD hS (lv_sub hl [0, 1, 2] rfl)
set_option maxHeartbeats 40000000 in
set_option maxRecDepth 100000 in
theorem db_X15_scanNumber_180 {p : Program} {l : Launch} {e : Env} {s : State} {m : MethodId} {args : Array Value} {below : List Frame} {meth : Method} {c : Code} {Q : State → Prop} {A : Nat → Prop} {dC : Nat → ClassId} {dI : Nat → Nat → Nat} {a : Nat → Nat} {ac : Nat → ClassId} {n : Nat} {r : St × (St × (St))} (C : nd_C p l s m args c A (dC, dI) cX15_scanNumber 5 RX15 ow_dm_X15_scanNumber (dk_X15 ac)) (K : nd_Kv p l e (headSpec ow_dm_X15_scanNumber ({ frames := 1, cells := 0, slots := 0, locals := 20 })).room s m args below meth c Q A (dC, dI) cX15_scanNumber (St × (St × (St))) (dw_X15 a ac) r) {g77 : Int32 → Int32 → (St × (St × (St))) → Option (St × (St × (St)))} (J77 : dj_X15_scanNumber_77 p l e s m args below meth c Q A dC dI a ac g77 r) : dj_X15_scanNumber_180 p l e s m args below meth c Q A dC dI a ac (df_X15_scanNumber_180 n g77) r := by
  obtain ⟨hlt, hx, hb, hml, hown, hts, hN, hA, hK⟩ := id C
  intro x1 x2 s0 H locs ls h hP hD hS hl
  unfold df_X15_scanNumber_180 at h
  refine lv_aload_n hx hb dX15_scanNumber_180 rfl (lv_at hl 0 rfl) ?_
  refine lv_bipush (v := 34) hx hb dX15_scanNumber_181 (by decide) ?_
  refine va_put (D := (dC, dI)) (ci := 16) (v := .int 34) (ty := .int) (C := RX15) (T := TX15) (N := 28) hx hb hts hi_dm_X15_scanNumber_X15 tyX15 tyX15_ok nmX15 hown hK hP hD hS 0 rfl rfl 10 (by decide) (hts (.fieldLink RX15 92 "TimeMachineModel$Conditions" "token" "I") (List.mem_of_getElem? (i := 3) rfl)) (fun _ h9 => h9) rfl (by decide +kernel) rfl rfl (Nat.le_of_ble_eq_true rfl) dX15_scanNumber_183 (fun H locs hP hD hS => ?_)
  obtain ⟨s16, es16, h⟩ := nd_let_e h
  have hP : va_P (dC, dI) vwCl (dw_X15 a ac s16) H := by rw [es16]; exact hP
  have hD : va_D A (dw_X15 a ac s16) := by rw [es16]; exact hD
  exact (db_X15_scanNumber_186 C K J77) (x1) (x2) s16 _ _ _ h hP hD hS (lv_sub hl [0, 1, 2] rfl)
set_option maxHeartbeats 40000000 in
set_option maxRecDepth 100000 in
theorem db_X15_scanNumber_154 {p : Program} {l : Launch} {e : Env} {s : State} {m : MethodId} {args : Array Value} {below : List Frame} {meth : Method} {c : Code} {Q : State → Prop} {A : Nat → Prop} {dC : Nat → ClassId} {dI : Nat → Nat → Nat} {a : Nat → Nat} {ac : Nat → ClassId} {n : Nat} {r : St × (St × (St))} (C : nd_C p l s m args c A (dC, dI) cX15_scanNumber 5 RX15 ow_dm_X15_scanNumber (dk_X15 ac)) (K : nd_Kv p l e (headSpec ow_dm_X15_scanNumber ({ frames := 1, cells := 0, slots := 0, locals := 20 })).room s m args below meth c Q A (dC, dI) cX15_scanNumber (St × (St × (St))) (dw_X15 a ac) r) {g77 : Int32 → Int32 → (St × (St × (St))) → Option (St × (St × (St)))} (J77 : dj_X15_scanNumber_77 p l e s m args below meth c Q A dC dI a ac g77 r) : dj_X15_scanNumber_154 p l e s m args below meth c Q A dC dI a ac (df_X15_scanNumber_154 n g77) r := by
  obtain ⟨hlt, hx, hb, hml, hown, hts, hN, hA, hK⟩ := id C
  intro x1 x2 x4 y1 y2 s0 H locs ls h hP hD hS hl
  unfold df_X15_scanNumber_154 at h
  refine lv_lmul hx hb dX15_scanNumber_154 ?_
  refine lv_iload hx hb dX15_scanNumber_155 (lv_at hl 3 rfl) ?_
  refine lv_i2l hx hb dX15_scanNumber_157 rfl ?_
  refine lv_ladd hx hb dX15_scanNumber_158 ?_
  refine va_put (D := (dC, dI)) (ci := 16) (v := .long ((((y1 : Int64) * y2) : Int64) + (x4.toInt64))) (ty := .long) (C := RX15) (T := TX15) (N := 28) hx hb hts hi_dm_X15_scanNumber_X15 tyX15 tyX15_ok nmX15 hown hK hP hD hS 0 rfl rfl 15 (by decide) (hts (.fieldLink RX15 95 "TimeMachineModel$Conditions" "tokenValue" "J") (List.mem_of_getElem? (i := 4) rfl)) (fun _ h9 => h9) rfl (by decide +kernel) rfl rfl (Nat.le_of_ble_eq_true rfl) dX15_scanNumber_159 (fun H locs hP hD hS => ?_)
  obtain ⟨s14, es14, h⟩ := nd_let_e h
  have hP : va_P (dC, dI) vwCl (dw_X15 a ac s14) H := by rw [es14]; exact hP
  have hD : va_D A (dw_X15 a ac s14) := by rw [es14]; exact hD
  refine lv_iload hx hb dX15_scanNumber_162 (lv_at hl 3 rfl) ?_
  refine lv_bipush (v := 99) hx hb dX15_scanNumber_164 (by decide) ?_
  refine lv_icmp_eq (tgt := 180) hx hb dX15_scanNumber_166 (by decide) (fun c15 => ?_) (fun c15 => ?_)
  · have h := nd_pos h c15
    exact (db_X15_scanNumber_180 C K J77) (x1) (x2) s14 _ _ _ h hP hD hS (lv_sub hl [0, 1, 2] rfl)
  · have h := nd_neg h c15
    refine lv_aload_n hx hb dX15_scanNumber_169 rfl (lv_at hl 0 rfl) ?_
    refine va_get (D := (dC, dI)) (ci := 16) (v := .long (sL s14.1 0)) (C := RX15) (T := TX15) (N := 28) hx hb hts hi_dm_X15_scanNumber_X15 hown hK hP 0 rfl rfl 15 (by decide) (hts (.fieldLink RX15 95 "TimeMachineModel$Conditions" "tokenValue" "J") (List.mem_of_getElem? (i := 4) rfl)) (fun _ h9 => h9) rfl dX15_scanNumber_170 ?_
    refine lv_ldc2 hx hb hown (hts (.constantLong RX15 103 (4294967296)) (List.mem_of_getElem? (i := 10) rfl)) dX15_scanNumber_173 ?_
    refine W.lcmp hx hb dX15_scanNumber_176 ?_
    refine lv_if_lt (tgt := 186) hx hb dX15_scanNumber_177 (by decide) (fun c20 => ?_) (fun c20 => ?_)
    · have h := nd_pos h c20
      exact (db_X15_scanNumber_186 C K J77) (x1) (x2) s14 _ _ _ h hP hD hS (lv_sub hl [0, 1, 2] rfl)
    · have h := nd_neg h c20
      exact (db_X15_scanNumber_180 C K J77) (x1) (x2) s14 _ _ _ h hP hD hS (lv_sub hl [0, 1, 2] rfl)
set_option maxHeartbeats 40000000 in
set_option maxRecDepth 100000 in
theorem db_X15_scanNumber_134 {p : Program} {l : Launch} {e : Env} {s : State} {m : MethodId} {args : Array Value} {below : List Frame} {meth : Method} {c : Code} {Q : State → Prop} {A : Nat → Prop} {dC : Nat → ClassId} {dI : Nat → Nat → Nat} {a : Nat → Nat} {ac : Nat → ClassId} {n : Nat} {r : St × (St × (St))} (C : nd_C p l s m args c A (dC, dI) cX15_scanNumber 5 RX15 ow_dm_X15_scanNumber (dk_X15 ac)) (K : nd_Kv p l e (headSpec ow_dm_X15_scanNumber ({ frames := 1, cells := 0, slots := 0, locals := 20 })).room s m args below meth c Q A (dC, dI) cX15_scanNumber (St × (St × (St))) (dw_X15 a ac) r) {g77 : Int32 → Int32 → (St × (St × (St))) → Option (St × (St × (St)))} (J77 : dj_X15_scanNumber_77 p l e s m args below meth c Q A dC dI a ac g77 r) : dj_X15_scanNumber_134 p l e s m args below meth c Q A dC dI a ac (df_X15_scanNumber_134 n g77) r := by
  obtain ⟨hlt, hx, hb, hml, hown, hts, hN, hA, hK⟩ := id C
  intro x1 x2 y0 s0 H locs ls h hP hD hS hl
  unfold df_X15_scanNumber_134 at h
  refine lv_istore (lv' := [(4, .int y0), (0, .ref (a 0)), (1, .int x1), (2, .int x2)]) hx hb dX15_scanNumber_134 hl (by decide) rfl (fun ls hl => ?_)
  refine lv_aload_n hx hb dX15_scanNumber_136 rfl (lv_at hl 1 rfl) ?_
  refine lv_aload_n hx hb dX15_scanNumber_137 rfl (lv_at hl 1 rfl) ?_
  refine va_get (D := (dC, dI)) (ci := 16) (v := .long (sL s0.1 0)) (C := RX15) (T := TX15) (N := 28) hx hb hts hi_dm_X15_scanNumber_X15 hown hK hP 0 rfl rfl 15 (by decide) (hts (.fieldLink RX15 95 "TimeMachineModel$Conditions" "tokenValue" "J") (List.mem_of_getElem? (i := 4) rfl)) (fun _ h9 => h9) rfl dX15_scanNumber_138 ?_
  refine lv_iload_n hx hb dX15_scanNumber_141 rfl (lv_at hl 2 rfl) ?_
  refine lv_if_eq (tgt := 151) hx hb dX15_scanNumber_142 (by decide) (fun c13 => ?_) (fun c13 => ?_)
  · have h := nd_pos h c13
    refine lv_ldc2 hx hb hown (hts (.constantLong RX15 101 (10)) (List.mem_of_getElem? (i := 9) rfl)) dX15_scanNumber_151 ?_
    exact (db_X15_scanNumber_154 C K J77) (x1) (x2) (y0) ((sL s0.1 0)) (10) s0 _ _ _ h hP hD hS (lv_sub hl [1, 2, 3, 0] rfl)
  · have h := nd_neg h c13
    refine lv_ldc2 hx hb hown (hts (.constantLong RX15 99 (16)) (List.mem_of_getElem? (i := 11) rfl)) dX15_scanNumber_145 ?_
    refine lv_goto (tgt := 154) hx hb dX15_scanNumber_148 (by decide) ?_
    exact (db_X15_scanNumber_154 C K J77) (x1) (x2) (y0) ((sL s0.1 0)) (16) s0 _ _ _ h hP hD hS (lv_sub hl [1, 2, 3, 0] rfl)
set_option maxHeartbeats 40000000 in
set_option maxRecDepth 100000 in
theorem db_X15_scanNumber_132 {p : Program} {l : Launch} {e : Env} {s : State} {m : MethodId} {args : Array Value} {below : List Frame} {meth : Method} {c : Code} {Q : State → Prop} {A : Nat → Prop} {dC : Nat → ClassId} {dI : Nat → Nat → Nat} {a : Nat → Nat} {ac : Nat → ClassId} {n : Nat} {r : St × (St × (St))} (C : nd_C p l s m args c A (dC, dI) cX15_scanNumber 5 RX15 ow_dm_X15_scanNumber (dk_X15 ac)) (K : nd_Kv p l e (headSpec ow_dm_X15_scanNumber ({ frames := 1, cells := 0, slots := 0, locals := 20 })).room s m args below meth c Q A (dC, dI) cX15_scanNumber (St × (St × (St))) (dw_X15 a ac) r) {g77 : Int32 → Int32 → (St × (St × (St))) → Option (St × (St × (St)))} (J77 : dj_X15_scanNumber_77 p l e s m args below meth c Q A dC dI a ac g77 r) : dj_X15_scanNumber_132 p l e s m args below meth c Q A dC dI a ac (df_X15_scanNumber_132 n g77) r := by
  obtain ⟨hlt, hx, hb, hml, hown, hts, hN, hA, hK⟩ := id C
  intro x1 x2 s0 H locs ls h hP hD hS hl
  unfold df_X15_scanNumber_132 at h
  refine lv_bipush (v := 99) hx hb dX15_scanNumber_132 (by decide) ?_
  exact (db_X15_scanNumber_134 C K J77) (x1) (x2) (99) s0 _ _ _ h hP hD hS (lv_sub hl [0, 1, 2] rfl)
set_option maxHeartbeats 40000000 in
set_option maxRecDepth 100000 in
theorem dB_X15_scanNumber_77 {p : Program} {l : Launch} {e : Env} {s : State} {m : MethodId} {args : Array Value} {below : List Frame} {meth : Method} {c : Code} {Q : State → Prop} {A : Nat → Prop} {dC : Nat → ClassId} {dI : Nat → Nat → Nat} {a : Nat → Nat} {ac : Nat → ClassId} {n : Nat} {r : St × (St × (St))} (C : nd_C p l s m args c A (dC, dI) cX15_scanNumber 5 RX15 ow_dm_X15_scanNumber (dk_X15 ac)) (K : nd_Kv p l e (headSpec ow_dm_X15_scanNumber ({ frames := 1, cells := 0, slots := 0, locals := 20 })).room s m args below meth c Q A (dC, dI) cX15_scanNumber (St × (St × (St))) (dw_X15 a ac) r) {g77 : Int32 → Int32 → (St × (St × (St))) → Option (St × (St × (St)))} (J77 : dj_X15_scanNumber_77 p l e s m args below meth c Q A dC dI a ac g77 r) : dj_X15_scanNumber_77 p l e s m args below meth c Q A dC dI a ac (dF_X15_scanNumber_77 n g77) r := by
  obtain ⟨hlt, hx, hb, hml, hown, hts, hN, hA, hK⟩ := id C
  intro x1 x2 s0 H locs ls h hP hD hS hl
  unfold dF_X15_scanNumber_77 at h
  refine lv_iload_n hx hb dX15_scanNumber_77 rfl (lv_at hl 2 rfl) ?_
  refine lv_aload_n hx hb dX15_scanNumber_78 rfl (lv_at hl 0 rfl) ?_
  refine va_get (D := (dC, dI)) (ci := 16) (v := .int (sI s0.1 1)) (C := RX15) (T := TX15) (N := 28) hx hb hts hi_dm_X15_scanNumber_X15 hown hK hP 0 rfl rfl 9 (by decide) (hts (.fieldLink RX15 73 "TimeMachineModel$Conditions" "at" "I") (List.mem_of_getElem? (i := 1) rfl)) (fun _ h9 => h9) rfl dX15_scanNumber_79 ?_
  refine lv_icmp_ge (tgt := 213) hx hb dX15_scanNumber_82 (by decide) (fun c5 => ?_) (fun c5 => ?_)
  · have h := nd_pos h c5
    exact K _ _ _ _ _ dX15_scanNumber_213 (Option.some.inj h).symm hP hD hS
  · have h := nd_neg h c5
    refine lv_aload_n hx hb dX15_scanNumber_85 rfl (lv_at hl 0 rfl) ?_
    refine va_get (D := (dC, dI)) (ci := 16) (v := .ref (a 1)) (C := RX15) (T := TX15) (N := 28) hx hb hts hi_dm_X15_scanNumber_X15 hown hK hP 0 rfl rfl 2 (by decide) (hts (.fieldLink RX15 7 "TimeMachineModel$Conditions" "text" "[C") (List.mem_of_getElem? (i := 5) rfl)) (fun _ h9 => h9) rfl dX15_scanNumber_86 ?_
    refine lv_iload_n hx hb dX15_scanNumber_89 rfl (lv_at hl 2 rfl) ?_
    obtain ⟨i6, h⟩ := nd_ck_e h
    refine va_cald (i := x2) hx hb hK hP 1 0 rfl rfl i6 dX15_scanNumber_90 ?_
    refine lv_topi (fun z7 ez7 => ?_)
    have h := nd_at h ez7
    refine lv_istore_n (lv' := [(3, .int z7), (0, .ref (a 0)), (1, .int x1), (2, .int x2)]) hx hb dX15_scanNumber_91 rfl hl (by decide) rfl (fun ls hl => ?_)
    refine lv_iload_n hx hb dX15_scanNumber_92 rfl (lv_at hl 0 rfl) ?_
    obtain ⟨q8, s9, hq, h⟩ := nd_b2_e h
    have hPc : va_P (dC, dI) vwCl (dw_P a ac ()) H := nd_p0
    have hDc : va_D A (dw_P a ac ()) := nd_d0
    have hKc : va_K (dC, dI) vwCl (dk_P ac) s := nd_y0 hK
    have hFc : ∀ q, va_A (dw_P a ac ()) H.size q → A q := nd_r0 hS hA
    refine nd_cSi (As := [.int z7]) (rest := []) (q := q8) (w' := dw_P a ac s9) ⟨hx, hb, hml, hown, hts⟩ (fun sz => dm_X15_isDigit l hlt dC dI a ac n (z7) () hq sz) (cwS 1 hts gi_dm_X15_scanNumber_0 rfl rfl rfl (by decide +kernel) ⟨Nat.le_of_ble_eq_true rfl, Nat.le_of_ble_eq_true rfl⟩) hPc hDc hKc hS hA hN rfl hl.1 rfl (Nat.le_of_ble_eq_true rfl) dX15_scanNumber_93 (fun H locs hP1 hD1 hk1 hS => ?_)
    have hP := nd_n0 hP hk1
    refine lv_if_eq (tgt := 106) hx hb dX15_scanNumber_96 (by decide) (fun c11 => ?_) (fun c11 => ?_)
    · have h := nd_pos h c11
      refine lv_iload_n hx hb dX15_scanNumber_106 rfl (lv_at hl 2 rfl) ?_
      refine lv_if_eq (tgt := 132) hx hb dX15_scanNumber_107 (by decide) (fun c12 => ?_) (fun c12 => ?_)
      · have h := nd_pos h c12
        exact (db_X15_scanNumber_132 C K J77) (x1) (x2) s0 _ _ _ h hP hD hS (lv_sub hl [1, 2, 3] rfl)
      · have h := nd_neg h c12
        refine lv_iload_n hx hb dX15_scanNumber_110 rfl (lv_at hl 0 rfl) ?_
        refine lv_bipush (v := 97) hx hb dX15_scanNumber_111 (by decide) ?_
        refine lv_icmp_lt (tgt := 132) hx hb dX15_scanNumber_113 (by decide) (fun c21 => ?_) (fun c21 => ?_)
        · have h := nd_pos h c21
          exact (db_X15_scanNumber_132 C K J77) (x1) (x2) s0 _ _ _ h hP hD hS (lv_sub hl [1, 2, 3] rfl)
        · have h := nd_neg h c21
          refine lv_iload_n hx hb dX15_scanNumber_116 rfl (lv_at hl 0 rfl) ?_
          refine lv_bipush (v := 102) hx hb dX15_scanNumber_117 (by decide) ?_
          refine lv_icmp_gt (tgt := 132) hx hb dX15_scanNumber_119 (by decide) (fun c22 => ?_) (fun c22 => ?_)
          · have h := nd_pos h c22
            exact (db_X15_scanNumber_132 C K J77) (x1) (x2) s0 _ _ _ h hP hD hS (lv_sub hl [1, 2, 3] rfl)
          · have h := nd_neg h c22
            refine lv_iload_n hx hb dX15_scanNumber_122 rfl (lv_at hl 0 rfl) ?_
            refine lv_bipush (v := 97) hx hb dX15_scanNumber_123 (by decide) ?_
            refine lv_isub hx hb dX15_scanNumber_125 ?_
            refine lv_bipush (v := 10) hx hb dX15_scanNumber_126 (by decide) ?_
            refine lv_iadd hx hb dX15_scanNumber_128 ?_
            refine lv_goto (tgt := 134) hx hb dX15_scanNumber_129 (by decide) ?_
            exact (db_X15_scanNumber_134 C K J77) (x1) (x2) (((z7 - 97) + 10)) s0 _ _ _ h hP hD hS (lv_sub hl [1, 2, 3] rfl)
    · have h := nd_neg h c11
      refine lv_iload_n hx hb dX15_scanNumber_99 rfl (lv_at hl 0 rfl) ?_
      refine lv_bipush (v := 48) hx hb dX15_scanNumber_100 (by decide) ?_
      refine lv_isub hx hb dX15_scanNumber_102 ?_
      refine lv_goto (tgt := 134) hx hb dX15_scanNumber_103 (by decide) ?_
      exact (db_X15_scanNumber_134 C K J77) (x1) (x2) ((z7 - 48)) s0 _ _ _ h hP hD hS (lv_sub hl [1, 2, 3] rfl)
set_option maxHeartbeats 40000000 in
set_option maxRecDepth 100000 in
theorem db_X15_scanNumber_77 {p : Program} {l : Launch} {e : Env} {s : State} {m : MethodId} {args : Array Value} {below : List Frame} {meth : Method} {c : Code} {Q : State → Prop} {A : Nat → Prop} {dC : Nat → ClassId} {dI : Nat → Nat → Nat} {a : Nat → Nat} {ac : Nat → ClassId} {n : Nat} {r : St × (St × (St))} (C : nd_C p l s m args c A (dC, dI) cX15_scanNumber 5 RX15 ow_dm_X15_scanNumber (dk_X15 ac)) (K : nd_Kv p l e (headSpec ow_dm_X15_scanNumber ({ frames := 1, cells := 0, slots := 0, locals := 20 })).room s m args below meth c Q A (dC, dI) cX15_scanNumber (St × (St × (St))) (dw_X15 a ac) r) (k : Nat) : dj_X15_scanNumber_77 p l e s m args below meth c Q A dC dI a ac (df_X15_scanNumber_77 n k) r := by
  induction k with
  | zero => intro x1 x2 s0 H locs ls h; exact nomatch (show (none : Option (St × (St × (St)))) = some r from h)
  | succ k ih => exact dB_X15_scanNumber_77 C K ih
set_option maxHeartbeats 40000000 in
set_option maxRecDepth 100000 in
theorem db_X15_scanNumber_76 {p : Program} {l : Launch} {e : Env} {s : State} {m : MethodId} {args : Array Value} {below : List Frame} {meth : Method} {c : Code} {Q : State → Prop} {A : Nat → Prop} {dC : Nat → ClassId} {dI : Nat → Nat → Nat} {a : Nat → Nat} {ac : Nat → ClassId} {n : Nat} {r : St × (St × (St))} (C : nd_C p l s m args c A (dC, dI) cX15_scanNumber 5 RX15 ow_dm_X15_scanNumber (dk_X15 ac)) (K : nd_Kv p l e (headSpec ow_dm_X15_scanNumber ({ frames := 1, cells := 0, slots := 0, locals := 20 })).room s m args below meth c Q A (dC, dI) cX15_scanNumber (St × (St × (St))) (dw_X15 a ac) r) : dj_X15_scanNumber_76 p l e s m args below meth c Q A dC dI a ac (df_X15_scanNumber_76 n) r := by
  obtain ⟨hlt, hx, hb, hml, hown, hts, hN, hA, hK⟩ := id C
  intro x1 y0 s0 H locs ls h hP hD hS hl
  unfold df_X15_scanNumber_76 at h
  refine lv_istore_n (lv' := [(2, .int y0), (0, .ref (a 0)), (1, .int x1)]) hx hb dX15_scanNumber_76 rfl hl (by decide) rfl (fun ls hl => ?_)
  exact (db_X15_scanNumber_77 C K n) (x1) (y0) s0 _ _ _ h hP hD hS (lv_sub hl [1, 2, 0] rfl)
set_option maxHeartbeats 40000000 in
set_option maxRecDepth 100000 in
theorem db_X15_scanNumber_48 {p : Program} {l : Launch} {e : Env} {s : State} {m : MethodId} {args : Array Value} {below : List Frame} {meth : Method} {c : Code} {Q : State → Prop} {A : Nat → Prop} {dC : Nat → ClassId} {dI : Nat → Nat → Nat} {a : Nat → Nat} {ac : Nat → ClassId} {n : Nat} {r : St × (St × (St))} (C : nd_C p l s m args c A (dC, dI) cX15_scanNumber 5 RX15 ow_dm_X15_scanNumber (dk_X15 ac)) (K : nd_Kv p l e (headSpec ow_dm_X15_scanNumber ({ frames := 1, cells := 0, slots := 0, locals := 20 })).room s m args below meth c Q A (dC, dI) cX15_scanNumber (St × (St × (St))) (dw_X15 a ac) r) : dj_X15_scanNumber_48 p l e s m args below meth c Q A dC dI a ac (df_X15_scanNumber_48 n) r := by
  obtain ⟨hlt, hx, hb, hml, hown, hts, hN, hA, hK⟩ := id C
  intro y0 s0 H locs ls h hP hD hS hl
  unfold df_X15_scanNumber_48 at h
  refine lv_istore_n (lv' := [(1, .int y0), (0, .ref (a 0))]) hx hb dX15_scanNumber_48 rfl hl (by decide) rfl (fun ls hl => ?_)
  refine lv_aload_n hx hb dX15_scanNumber_49 rfl (lv_at hl 1 rfl) ?_
  refine lv_iconst (v := 1) hx hb dX15_scanNumber_50 (by decide) ?_
  refine va_put (D := (dC, dI)) (ci := 16) (v := .int 1) (ty := .int) (C := RX15) (T := TX15) (N := 28) hx hb hts hi_dm_X15_scanNumber_X15 tyX15 tyX15_ok nmX15 hown hK hP hD hS 0 rfl rfl 10 (by decide) (hts (.fieldLink RX15 92 "TimeMachineModel$Conditions" "token" "I") (List.mem_of_getElem? (i := 3) rfl)) (fun _ h9 => h9) rfl (by decide +kernel) rfl rfl (Nat.le_of_ble_eq_true rfl) dX15_scanNumber_51 (fun H locs hP hD hS => ?_)
  obtain ⟨s2, es2, h⟩ := nd_let_e h
  have hP : va_P (dC, dI) vwCl (dw_X15 a ac s2) H := by rw [es2]; exact hP
  have hD : va_D A (dw_X15 a ac s2) := by rw [es2]; exact hD
  refine lv_aload_n hx hb dX15_scanNumber_54 rfl (lv_at hl 1 rfl) ?_
  refine lv_lconst (v := 0) hx hb dX15_scanNumber_55 (by decide) ?_
  refine va_put (D := (dC, dI)) (ci := 16) (v := .long 0) (ty := .long) (C := RX15) (T := TX15) (N := 28) hx hb hts hi_dm_X15_scanNumber_X15 tyX15 tyX15_ok nmX15 hown hK hP hD hS 0 rfl rfl 15 (by decide) (hts (.fieldLink RX15 95 "TimeMachineModel$Conditions" "tokenValue" "J") (List.mem_of_getElem? (i := 4) rfl)) (fun _ h9 => h9) rfl (by decide +kernel) rfl rfl (Nat.le_of_ble_eq_true rfl) dX15_scanNumber_56 (fun H locs hP hD hS => ?_)
  obtain ⟨s3, es3, h⟩ := nd_let_e h
  have hP : va_P (dC, dI) vwCl (dw_X15 a ac s3) H := by rw [es3]; exact hP
  have hD : va_D A (dw_X15 a ac s3) := by rw [es3]; exact hD
  refine lv_iload_n hx hb dX15_scanNumber_59 rfl (lv_at hl 0 rfl) ?_
  refine lv_if_eq (tgt := 72) hx hb dX15_scanNumber_60 (by decide) (fun c4 => ?_) (fun c4 => ?_)
  · have h := nd_pos h c4
    refine lv_aload_n hx hb dX15_scanNumber_72 rfl (lv_at hl 1 rfl) ?_
    refine va_get (D := (dC, dI)) (ci := 16) (v := .int (sI s3.1 3)) (C := RX15) (T := TX15) (N := 28) hx hb hts hi_dm_X15_scanNumber_X15 hown hK hP 0 rfl rfl 11 (by decide) (hts (.fieldLink RX15 80 "TimeMachineModel$Conditions" "start" "I") (List.mem_of_getElem? (i := 2) rfl)) (fun _ h9 => h9) rfl dX15_scanNumber_73 ?_
    exact (db_X15_scanNumber_76 C K) (y0) ((sI s3.1 3)) s3 _ _ _ h hP hD hS (lv_sub hl [1, 0] rfl)
  · have h := nd_neg h c4
    refine lv_aload_n hx hb dX15_scanNumber_63 rfl (lv_at hl 1 rfl) ?_
    refine va_get (D := (dC, dI)) (ci := 16) (v := .int (sI s3.1 3)) (C := RX15) (T := TX15) (N := 28) hx hb hts hi_dm_X15_scanNumber_X15 hown hK hP 0 rfl rfl 11 (by decide) (hts (.fieldLink RX15 80 "TimeMachineModel$Conditions" "start" "I") (List.mem_of_getElem? (i := 2) rfl)) (fun _ h9 => h9) rfl dX15_scanNumber_64 ?_
    refine lv_iconst (v := 2) hx hb dX15_scanNumber_67 (by decide) ?_
    refine lv_iadd hx hb dX15_scanNumber_68 ?_
    refine lv_goto (tgt := 76) hx hb dX15_scanNumber_69 (by decide) ?_
    exact (db_X15_scanNumber_76 C K) (y0) (((sI s3.1 3) + 2)) s3 _ _ _ h hP hD hS (lv_sub hl [1, 0] rfl)
set_option maxHeartbeats 40000000 in
set_option maxRecDepth 100000 in
theorem db_X15_scanNumber_47 {p : Program} {l : Launch} {e : Env} {s : State} {m : MethodId} {args : Array Value} {below : List Frame} {meth : Method} {c : Code} {Q : State → Prop} {A : Nat → Prop} {dC : Nat → ClassId} {dI : Nat → Nat → Nat} {a : Nat → Nat} {ac : Nat → ClassId} {n : Nat} {r : St × (St × (St))} (C : nd_C p l s m args c A (dC, dI) cX15_scanNumber 5 RX15 ow_dm_X15_scanNumber (dk_X15 ac)) (K : nd_Kv p l e (headSpec ow_dm_X15_scanNumber ({ frames := 1, cells := 0, slots := 0, locals := 20 })).room s m args below meth c Q A (dC, dI) cX15_scanNumber (St × (St × (St))) (dw_X15 a ac) r) : dj_X15_scanNumber_47 p l e s m args below meth c Q A dC dI a ac (df_X15_scanNumber_47 n) r := by
  obtain ⟨hlt, hx, hb, hml, hown, hts, hN, hA, hK⟩ := id C
  intro s0 H locs ls h hP hD hS hl
  unfold df_X15_scanNumber_47 at h
  refine lv_iconst (v := 0) hx hb dX15_scanNumber_47 (by decide) ?_
  exact (db_X15_scanNumber_48 C K) (0) s0 _ _ _ h hP hD hS (lv_sub hl [0] rfl)
set_option maxHeartbeats 40000000 in
set_option maxRecDepth 100000 in
theorem db_X15_scanNumber_0 {p : Program} {l : Launch} {e : Env} {s : State} {m : MethodId} {args : Array Value} {below : List Frame} {meth : Method} {c : Code} {Q : State → Prop} {A : Nat → Prop} {dC : Nat → ClassId} {dI : Nat → Nat → Nat} {a : Nat → Nat} {ac : Nat → ClassId} {n : Nat} {r : St × (St × (St))} (C : nd_C p l s m args c A (dC, dI) cX15_scanNumber 5 RX15 ow_dm_X15_scanNumber (dk_X15 ac)) (K : nd_Kv p l e (headSpec ow_dm_X15_scanNumber ({ frames := 1, cells := 0, slots := 0, locals := 20 })).room s m args below meth c Q A (dC, dI) cX15_scanNumber (St × (St × (St))) (dw_X15 a ac) r) : dj_X15_scanNumber_0 p l e s m args below meth c Q A dC dI a ac (df_X15_scanNumber_0 n) r := by
  obtain ⟨hlt, hx, hb, hml, hown, hts, hN, hA, hK⟩ := id C
  intro s0 H locs ls h hP hD hS hl
  unfold df_X15_scanNumber_0 at h
  refine lv_aload_n hx hb dX15_scanNumber_0 rfl (lv_at hl 0 rfl) ?_
  refine va_get (D := (dC, dI)) (ci := 16) (v := .int (sI s0.1 1)) (C := RX15) (T := TX15) (N := 28) hx hb hts hi_dm_X15_scanNumber_X15 hown hK hP 0 rfl rfl 9 (by decide) (hts (.fieldLink RX15 73 "TimeMachineModel$Conditions" "at" "I") (List.mem_of_getElem? (i := 1) rfl)) (fun _ h9 => h9) rfl dX15_scanNumber_1 ?_
  refine lv_aload_n hx hb dX15_scanNumber_4 rfl (lv_at hl 0 rfl) ?_
  refine va_get (D := (dC, dI)) (ci := 16) (v := .int (sI s0.1 3)) (C := RX15) (T := TX15) (N := 28) hx hb hts hi_dm_X15_scanNumber_X15 hown hK hP 0 rfl rfl 11 (by decide) (hts (.fieldLink RX15 80 "TimeMachineModel$Conditions" "start" "I") (List.mem_of_getElem? (i := 2) rfl)) (fun _ h9 => h9) rfl dX15_scanNumber_5 ?_
  refine lv_isub hx hb dX15_scanNumber_8 ?_
  refine lv_iconst (v := 2) hx hb dX15_scanNumber_9 (by decide) ?_
  refine lv_icmp_le (tgt := 47) hx hb dX15_scanNumber_10 (by decide) (fun c1 => ?_) (fun c1 => ?_)
  · have h := nd_pos h c1
    exact (db_X15_scanNumber_47 C K)  s0 _ _ _ h hP hD hS (lv_sub hl [0] rfl)
  · have h := nd_neg h c1
    refine lv_aload_n hx hb dX15_scanNumber_13 rfl (lv_at hl 0 rfl) ?_
    refine va_get (D := (dC, dI)) (ci := 16) (v := .ref (a 1)) (C := RX15) (T := TX15) (N := 28) hx hb hts hi_dm_X15_scanNumber_X15 hown hK hP 0 rfl rfl 2 (by decide) (hts (.fieldLink RX15 7 "TimeMachineModel$Conditions" "text" "[C") (List.mem_of_getElem? (i := 5) rfl)) (fun _ h9 => h9) rfl dX15_scanNumber_14 ?_
    refine lv_aload_n hx hb dX15_scanNumber_17 rfl (lv_at hl 0 rfl) ?_
    refine va_get (D := (dC, dI)) (ci := 16) (v := .int (sI s0.1 3)) (C := RX15) (T := TX15) (N := 28) hx hb hts hi_dm_X15_scanNumber_X15 hown hK hP 0 rfl rfl 11 (by decide) (hts (.fieldLink RX15 80 "TimeMachineModel$Conditions" "start" "I") (List.mem_of_getElem? (i := 2) rfl)) (fun _ h9 => h9) rfl dX15_scanNumber_18 ?_
    obtain ⟨i23, h⟩ := nd_ck_e h
    refine va_cald (i := (sI s0.1 3)) hx hb hK hP 1 0 rfl rfl i23 dX15_scanNumber_21 ?_
    refine lv_bipush (v := 48) hx hb dX15_scanNumber_22 (by decide) ?_
    refine lv_icmp_ne (tgt := 47) hx hb dX15_scanNumber_24 (by decide) (fun c24 => ?_) (fun c24 => ?_)
    · have h := nd_neg h c24
      exact (db_X15_scanNumber_47 C K)  s0 _ _ _ h hP hD hS (lv_sub hl [0] rfl)
    · have h := nd_pos h c24
      refine lv_aload_n hx hb dX15_scanNumber_27 rfl (lv_at hl 0 rfl) ?_
      refine va_get (D := (dC, dI)) (ci := 16) (v := .ref (a 1)) (C := RX15) (T := TX15) (N := 28) hx hb hts hi_dm_X15_scanNumber_X15 hown hK hP 0 rfl rfl 2 (by decide) (hts (.fieldLink RX15 7 "TimeMachineModel$Conditions" "text" "[C") (List.mem_of_getElem? (i := 5) rfl)) (fun _ h9 => h9) rfl dX15_scanNumber_28 ?_
      refine lv_aload_n hx hb dX15_scanNumber_31 rfl (lv_at hl 0 rfl) ?_
      refine va_get (D := (dC, dI)) (ci := 16) (v := .int (sI s0.1 3)) (C := RX15) (T := TX15) (N := 28) hx hb hts hi_dm_X15_scanNumber_X15 hown hK hP 0 rfl rfl 11 (by decide) (hts (.fieldLink RX15 80 "TimeMachineModel$Conditions" "start" "I") (List.mem_of_getElem? (i := 2) rfl)) (fun _ h9 => h9) rfl dX15_scanNumber_32 ?_
      refine lv_iconst (v := 1) hx hb dX15_scanNumber_35 (by decide) ?_
      refine lv_iadd hx hb dX15_scanNumber_36 ?_
      obtain ⟨i25, h⟩ := nd_ck_e h
      refine va_cald (i := ((sI s0.1 3) + 1)) hx hb hK hP 1 0 rfl rfl i25 dX15_scanNumber_37 ?_
      refine lv_bipush (v := 120) hx hb dX15_scanNumber_38 (by decide) ?_
      refine lv_icmp_ne (tgt := 47) hx hb dX15_scanNumber_40 (by decide) (fun c26 => ?_) (fun c26 => ?_)
      · have h := nd_neg h c26
        exact (db_X15_scanNumber_47 C K)  s0 _ _ _ h hP hD hS (lv_sub hl [0] rfl)
      · have h := nd_pos h c26
        refine lv_iconst (v := 1) hx hb dX15_scanNumber_43 (by decide) ?_
        refine lv_goto (tgt := 48) hx hb dX15_scanNumber_44 (by decide) ?_
        exact (db_X15_scanNumber_48 C K) (1) s0 _ _ _ h hP hD hS (lv_sub hl [0] rfl)
set_option maxHeartbeats 40000000 in
set_option maxRecDepth 100000 in
theorem dm_X15_scanNumber (l : Launch) (hlt : l.stackTraces = false) (dC : Nat → ClassId) (dI : Nat → Nat → Nat) (a : Nat → Nat) (ac : Nat → ClassId) (n : Nat) (s0 : St × (St × (St))) {r : St × (St × (St))} (h : df_X15_scanNumber n s0 = some r) (sz : Nat) : Met l yX15_scanNumber ow_dm_X15_scanNumber ({ frames := 1, cells := 0, slots := 0, locals := 20 }) (va_Pc [.ref (a 0)] (fun U => U.heap.size = sz ∧ va_P (dC, dI) vwCl (dw_X15 a ac s0) U.heap ∧ va_K (dC, dI) vwCl (dk_X15 ac) U ∧ va_D (fun _ => True) (dw_X15 a ac s0) ∧ nv_E dI (va_A (dw_X15 a ac s0) sz) U)) (va_Qv (fun _ => True) (fun (_ : Unit) t => va_P (dC, dI) vwCl (dw_X15 a ac r) t.heap ∧ va_K (dC, dI) vwCl (dk_X15 ac) t ∧ va_D (va_A (dw_X15 a ac s0) sz) (dw_X15 a ac r)) (va_A (dw_X15 a ac s0) sz)) 0 0 (va_A (dw_X15 a ac s0) sz) := by
  refine Met.ofW (cc := cX15_scanNumber) (maxL := 5) (ret := none) (by decide) rfl ?_
  intro p e s m args below meth c s₁ B hml hv
  obtain ⟨rfl, hsz, hP, hK, hD0, hN⟩ := hv
  have hx := B.exec
  have hb := B.bytes
  have hr := B.returns
  have hts := atoms_spec (ws := ow_dm_X15_scanNumber) B.pre
  have hown : s.vm.findClass RX15 = some m.cls := findClass_of_methodNamed B.named
  have hlocks := B.notSynchronized
  subst hsz
  have hD := hD0.self (sz := s.heap.size)
  generalize hAe : va_A (dw_X15 a ac s0) s.heap.size = A at hD hN ⊢
  have hA : ∀ q : Nat, s.heap.size ≤ q → A q := fun q h => by rw [← hAe]; exact Or.inr h
  have hl := lv_entry ([.ref (a 0)]) (n := 5) (Nat.le_of_ble_eq_true rfl)
  rw [lg_entry_eq]
  generalize (lg_sl ([.ref (a 0)]) ++ List.replicate (5 - (lg_sl ([.ref (a 0)])).length) Slot.unset).toArray = ls at hl ⊢
  have hl : lv_has ls 5 [(0, .ref (a 0))] := hl
  exact db_X15_scanNumber_0 (dC := dC) (dI := dI) (a := a) (ac := ac) (n := n) (r := r) ⟨hlt, hx, hb, hml, hown, hts, hN, hA, hK⟩ (fun pc τ H locs ls d er hP hD hS => by subst er; exact W.vret hx hb hr (fun t ht hW => ⟨⟨(), rfl, trivial, by rw [ht]; exact hP, va_K.moved hW.alike hK, hD⟩, hS.F ht⟩) hS.2.2 d) s0 _ _ _ h hP hD va_S.rf (lv_sub hl [0] rfl)
def ow_dm_X15_scan : List Cond := Cond.code yX15_scan cX15_scan 5 none :: ([Cond.fieldLink RX15 73 "TimeMachineModel$Conditions" "at" "I", Cond.methodLink RX15 76 yX15_charAt, Cond.instanceMethod yX15_charAt, Cond.selects RX15 yX15_charAt yX15_charAt, Cond.initialized RX15, Cond.fieldLink RX15 80 "TimeMachineModel$Conditions" "start" "I", Cond.methodLink RX15 83 yX15_isPlain, Cond.static yX15_isPlain, Cond.fieldLink RX15 92 "TimeMachineModel$Conditions" "token" "I", Cond.methodLink RX15 69 yX15_isDigit, Cond.static yX15_isDigit, Cond.methodLink RX15 89 yX15_scanWord, Cond.instanceMethod yX15_scanWord, Cond.selects RX15 yX15_scanWord yX15_scanWord, Cond.methodLink RX15 86 yX15_scanNumber, Cond.instanceMethod yX15_scanNumber, Cond.selects RX15 yX15_scanNumber yX15_scanNumber] ++ (u_ws RX15 TX15 28 ++ (ow_dm_X15_charAt ++ (ow_dm_X15_isPlain ++ (ow_dm_X15_isDigit ++ (ow_dm_X15_scanWord ++ (ow_dm_X15_scanNumber ++ [])))))))
theorem gd_dm_X15_scan : ∀ w ∈ ow_dm_X15_scan, (w.onTables && w.keeps) = true ∨ ∃ ty, w = Cond.arrayClass ty := List.forall_mem_cons.mpr ⟨good_of_word rfl, List.forall_mem_append.mpr ⟨fun w h => good_of_word (List.all_eq_true.mp (by decide +kernel) w h), List.forall_mem_append.mpr ⟨gu_X15, List.forall_mem_append.mpr ⟨gd_dm_X15_charAt, List.forall_mem_append.mpr ⟨gd_dm_X15_isPlain, List.forall_mem_append.mpr ⟨gd_dm_X15_isDigit, List.forall_mem_append.mpr ⟨gd_dm_X15_scanWord, List.forall_mem_append.mpr ⟨gd_dm_X15_scanNumber, fun _ h => nomatch h⟩⟩⟩⟩⟩⟩⟩⟩
theorem hi_dm_X15_scan_X15 : ∀ w ∈ u_ws RX15 TX15 28, w ∈ ow_dm_X15_scan := fun w h => List.mem_cons_of_mem _ (List.mem_append_right _ (List.mem_append_left _ h))
theorem gi_dm_X15_scan_0 : GoodIn ow_dm_X15_scan (wsV RX15 76 RX15 yX15_charAt ow_dm_X15_charAt) := goodIn_app (goodIn_of _ (by decide +kernel)) (fun w h => ⟨List.mem_cons_of_mem _ (List.mem_append_right _ (List.mem_append_right _ (List.mem_append_left _ h))), gd_dm_X15_charAt w h⟩)
theorem gi_dm_X15_scan_1 : GoodIn ow_dm_X15_scan (wsS RX15 83 yX15_isPlain ow_dm_X15_isPlain) := goodIn_app (goodIn_of _ (by decide +kernel)) (fun w h => ⟨List.mem_cons_of_mem _ (List.mem_append_right _ (List.mem_append_right _ (List.mem_append_right _ (List.mem_append_left _ h)))), gd_dm_X15_isPlain w h⟩)
theorem gi_dm_X15_scan_2 : GoodIn ow_dm_X15_scan (wsS RX15 69 yX15_isDigit ow_dm_X15_isDigit) := goodIn_app (goodIn_of _ (by decide +kernel)) (fun w h => ⟨List.mem_cons_of_mem _ (List.mem_append_right _ (List.mem_append_right _ (List.mem_append_right _ (List.mem_append_right _ (List.mem_append_left _ h))))), gd_dm_X15_isDigit w h⟩)
theorem gi_dm_X15_scan_3 : GoodIn ow_dm_X15_scan (wsV RX15 89 RX15 yX15_scanWord ow_dm_X15_scanWord) := goodIn_app (goodIn_of _ (by decide +kernel)) (fun w h => ⟨List.mem_cons_of_mem _ (List.mem_append_right _ (List.mem_append_right _ (List.mem_append_right _ (List.mem_append_right _ (List.mem_append_right _ (List.mem_append_left _ h)))))), gd_dm_X15_scanWord w h⟩)
theorem gi_dm_X15_scan_4 : GoodIn ow_dm_X15_scan (wsV RX15 86 RX15 yX15_scanNumber ow_dm_X15_scanNumber) := goodIn_app (goodIn_of _ (by decide +kernel)) (fun w h => ⟨List.mem_cons_of_mem _ (List.mem_append_right _ (List.mem_append_right _ (List.mem_append_right _ (List.mem_append_right _ (List.mem_append_right _ (List.mem_append_right _ (List.mem_append_left _ h))))))), gd_dm_X15_scanNumber w h⟩)
def dj_X15_scan_453 (p : Program) (l : Launch) (e : Env) (s : State) (m : MethodId) (args : Array Value) (below : List Frame) (meth : Method) (c : Code) (Q : State → Prop) (A : Nat → Prop) (dC : Nat → ClassId) (dI : Nat → Nat → Nat) (a : Nat → Nat) (ac : Nat → ClassId) (g : Int32 → Int32 → (St × (St × (St))) → Option (St × (St × (St)))) (r : St × (St × (St))) : Prop := ∀ (y1 : Int32) (y2 : Int32) (s0 : St × (St × (St))) (H : Heap) (locs : List Loc) (ls : Array Slot), g y1 y2 s0 = some r → va_P (dC, dI) vwCl (dw_X15 a ac s0) H → va_D A (dw_X15 a ac s0) → va_S A s.heap H locs → lv_has ls 5 [] → W p l e (headSpec ow_dm_X15_scan ({ frames := 2, cells := 0, slots := 0, locals := 49 })).room s m args below meth c H locs 0 0 Q (F0 m 453 ls [.int y2, .int y1, .ref (a 0)])
def dj_X15_scan_436 (p : Program) (l : Launch) (e : Env) (s : State) (m : MethodId) (args : Array Value) (below : List Frame) (meth : Method) (c : Code) (Q : State → Prop) (A : Nat → Prop) (dC : Nat → ClassId) (dI : Nat → Nat → Nat) (a : Nat → Nat) (ac : Nat → ClassId) (g : Int32 → Int32 → (St × (St × (St))) → Option (St × (St × (St)))) (r : St × (St × (St))) : Prop := ∀ (x3 : Int32) (y1 : Int32) (s0 : St × (St × (St))) (H : Heap) (locs : List Loc) (ls : Array Slot), g x3 y1 s0 = some r → va_P (dC, dI) vwCl (dw_X15 a ac s0) H → va_D A (dw_X15 a ac s0) → va_S A s.heap H locs → lv_has ls 5 [(0, .ref (a 0)), (3, .int x3)] → W p l e (headSpec ow_dm_X15_scan ({ frames := 2, cells := 0, slots := 0, locals := 49 })).room s m args below meth c H locs 0 0 Q (F0 m 436 ls [.int y1, .ref (a 0)])
def dj_X15_scan_423 (p : Program) (l : Launch) (e : Env) (s : State) (m : MethodId) (args : Array Value) (below : List Frame) (meth : Method) (c : Code) (Q : State → Prop) (A : Nat → Prop) (dC : Nat → ClassId) (dI : Nat → Nat → Nat) (a : Nat → Nat) (ac : Nat → ClassId) (g : Int32 → Int32 → (St × (St × (St))) → Option (St × (St × (St)))) (r : St × (St × (St))) : Prop := ∀ (x3 : Int32) (y0 : Int32) (s0 : St × (St × (St))) (H : Heap) (locs : List Loc) (ls : Array Slot), g x3 y0 s0 = some r → va_P (dC, dI) vwCl (dw_X15 a ac s0) H → va_D A (dw_X15 a ac s0) → va_S A s.heap H locs → lv_has ls 5 [(0, .ref (a 0)), (3, .int x3)] → W p l e (headSpec ow_dm_X15_scan ({ frames := 2, cells := 0, slots := 0, locals := 49 })).room s m args below meth c H locs 0 0 Q (F0 m 423 ls [.int y0])
def dj_X15_scan_244 (p : Program) (l : Launch) (e : Env) (s : State) (m : MethodId) (args : Array Value) (below : List Frame) (meth : Method) (c : Code) (Q : State → Prop) (A : Nat → Prop) (dC : Nat → ClassId) (dI : Nat → Nat → Nat) (a : Nat → Nat) (ac : Nat → ClassId) (g : Int32 → Int32 → (St × (St × (St))) → Option (St × (St × (St)))) (r : St × (St × (St))) : Prop := ∀ (x1 : Int32) (y0 : Int32) (s0 : St × (St × (St))) (H : Heap) (locs : List Loc) (ls : Array Slot), g x1 y0 s0 = some r → va_P (dC, dI) vwCl (dw_X15 a ac s0) H → va_D A (dw_X15 a ac s0) → va_S A s.heap H locs → lv_has ls 5 [(0, .ref (a 0)), (1, .int x1)] → W p l e (headSpec ow_dm_X15_scan ({ frames := 2, cells := 0, slots := 0, locals := 49 })).room s m args below meth c H locs 0 0 Q (F0 m 244 ls [.int y0])
def dj_X15_scan_243 (p : Program) (l : Launch) (e : Env) (s : State) (m : MethodId) (args : Array Value) (below : List Frame) (meth : Method) (c : Code) (Q : State → Prop) (A : Nat → Prop) (dC : Nat → ClassId) (dI : Nat → Nat → Nat) (a : Nat → Nat) (ac : Nat → ClassId) (g : Int32 → (St × (St × (St))) → Option (St × (St × (St)))) (r : St × (St × (St))) : Prop := ∀ (x1 : Int32) (s0 : St × (St × (St))) (H : Heap) (locs : List Loc) (ls : Array Slot), g x1 s0 = some r → va_P (dC, dI) vwCl (dw_X15 a ac s0) H → va_D A (dw_X15 a ac s0) → va_S A s.heap H locs → lv_has ls 5 [(0, .ref (a 0)), (1, .int x1)] → W p l e (headSpec ow_dm_X15_scan ({ frames := 2, cells := 0, slots := 0, locals := 49 })).room s m args below meth c H locs 0 0 Q (F0 m 243 ls [])
def dj_X15_scan_226 (p : Program) (l : Launch) (e : Env) (s : State) (m : MethodId) (args : Array Value) (below : List Frame) (meth : Method) (c : Code) (Q : State → Prop) (A : Nat → Prop) (dC : Nat → ClassId) (dI : Nat → Nat → Nat) (a : Nat → Nat) (ac : Nat → ClassId) (g : Int32 → Int32 → (St × (St × (St))) → Option (St × (St × (St)))) (r : St × (St × (St))) : Prop := ∀ (x1 : Int32) (x2 : Int32) (s0 : St × (St × (St))) (H : Heap) (locs : List Loc) (ls : Array Slot), g x1 x2 s0 = some r → va_P (dC, dI) vwCl (dw_X15 a ac s0) H → va_D A (dw_X15 a ac s0) → va_S A s.heap H locs → lv_has ls 5 [(0, .ref (a 0)), (1, .int x1), (2, .int x2)] → W p l e (headSpec ow_dm_X15_scan ({ frames := 2, cells := 0, slots := 0, locals := 49 })).room s m args below meth c H locs 0 0 Q (F0 m 226 ls [])
def dj_X15_scan_209 (p : Program) (l : Launch) (e : Env) (s : State) (m : MethodId) (args : Array Value) (below : List Frame) (meth : Method) (c : Code) (Q : State → Prop) (A : Nat → Prop) (dC : Nat → ClassId) (dI : Nat → Nat → Nat) (a : Nat → Nat) (ac : Nat → ClassId) (g : Int32 → Int32 → (St × (St × (St))) → Option (St × (St × (St)))) (r : St × (St × (St))) : Prop := ∀ (x1 : Int32) (x2 : Int32) (s0 : St × (St × (St))) (H : Heap) (locs : List Loc) (ls : Array Slot), g x1 x2 s0 = some r → va_P (dC, dI) vwCl (dw_X15 a ac s0) H → va_D A (dw_X15 a ac s0) → va_S A s.heap H locs → lv_has ls 5 [(0, .ref (a 0)), (1, .int x1), (2, .int x2)] → W p l e (headSpec ow_dm_X15_scan ({ frames := 2, cells := 0, slots := 0, locals := 49 })).room s m args below meth c H locs 0 0 Q (F0 m 209 ls [])
def dj_X15_scan_192 (p : Program) (l : Launch) (e : Env) (s : State) (m : MethodId) (args : Array Value) (below : List Frame) (meth : Method) (c : Code) (Q : State → Prop) (A : Nat → Prop) (dC : Nat → ClassId) (dI : Nat → Nat → Nat) (a : Nat → Nat) (ac : Nat → ClassId) (g : Int32 → Int32 → (St × (St × (St))) → Option (St × (St × (St)))) (r : St × (St × (St))) : Prop := ∀ (x1 : Int32) (x2 : Int32) (s0 : St × (St × (St))) (H : Heap) (locs : List Loc) (ls : Array Slot), g x1 x2 s0 = some r → va_P (dC, dI) vwCl (dw_X15 a ac s0) H → va_D A (dw_X15 a ac s0) → va_S A s.heap H locs → lv_has ls 5 [(0, .ref (a 0)), (1, .int x1), (2, .int x2)] → W p l e (headSpec ow_dm_X15_scan ({ frames := 2, cells := 0, slots := 0, locals := 49 })).room s m args below meth c H locs 0 0 Q (F0 m 192 ls [])
def dj_X15_scan_175 (p : Program) (l : Launch) (e : Env) (s : State) (m : MethodId) (args : Array Value) (below : List Frame) (meth : Method) (c : Code) (Q : State → Prop) (A : Nat → Prop) (dC : Nat → ClassId) (dI : Nat → Nat → Nat) (a : Nat → Nat) (ac : Nat → ClassId) (g : Int32 → Int32 → (St × (St × (St))) → Option (St × (St × (St)))) (r : St × (St × (St))) : Prop := ∀ (x1 : Int32) (x2 : Int32) (s0 : St × (St × (St))) (H : Heap) (locs : List Loc) (ls : Array Slot), g x1 x2 s0 = some r → va_P (dC, dI) vwCl (dw_X15 a ac s0) H → va_D A (dw_X15 a ac s0) → va_S A s.heap H locs → lv_has ls 5 [(0, .ref (a 0)), (1, .int x1), (2, .int x2)] → W p l e (headSpec ow_dm_X15_scan ({ frames := 2, cells := 0, slots := 0, locals := 49 })).room s m args below meth c H locs 0 0 Q (F0 m 175 ls [])
def dj_X15_scan_158 (p : Program) (l : Launch) (e : Env) (s : State) (m : MethodId) (args : Array Value) (below : List Frame) (meth : Method) (c : Code) (Q : State → Prop) (A : Nat → Prop) (dC : Nat → ClassId) (dI : Nat → Nat → Nat) (a : Nat → Nat) (ac : Nat → ClassId) (g : Int32 → Int32 → (St × (St × (St))) → Option (St × (St × (St)))) (r : St × (St × (St))) : Prop := ∀ (x1 : Int32) (x2 : Int32) (s0 : St × (St × (St))) (H : Heap) (locs : List Loc) (ls : Array Slot), g x1 x2 s0 = some r → va_P (dC, dI) vwCl (dw_X15 a ac s0) H → va_D A (dw_X15 a ac s0) → va_S A s.heap H locs → lv_has ls 5 [(0, .ref (a 0)), (1, .int x1), (2, .int x2)] → W p l e (headSpec ow_dm_X15_scan ({ frames := 2, cells := 0, slots := 0, locals := 49 })).room s m args below meth c H locs 0 0 Q (F0 m 158 ls [])
def dj_X15_scan_141 (p : Program) (l : Launch) (e : Env) (s : State) (m : MethodId) (args : Array Value) (below : List Frame) (meth : Method) (c : Code) (Q : State → Prop) (A : Nat → Prop) (dC : Nat → ClassId) (dI : Nat → Nat → Nat) (a : Nat → Nat) (ac : Nat → ClassId) (g : Int32 → Int32 → (St × (St × (St))) → Option (St × (St × (St)))) (r : St × (St × (St))) : Prop := ∀ (x1 : Int32) (x2 : Int32) (s0 : St × (St × (St))) (H : Heap) (locs : List Loc) (ls : Array Slot), g x1 x2 s0 = some r → va_P (dC, dI) vwCl (dw_X15 a ac s0) H → va_D A (dw_X15 a ac s0) → va_S A s.heap H locs → lv_has ls 5 [(0, .ref (a 0)), (1, .int x1), (2, .int x2)] → W p l e (headSpec ow_dm_X15_scan ({ frames := 2, cells := 0, slots := 0, locals := 49 })).room s m args below meth c H locs 0 0 Q (F0 m 141 ls [])
def dj_X15_scan_124 (p : Program) (l : Launch) (e : Env) (s : State) (m : MethodId) (args : Array Value) (below : List Frame) (meth : Method) (c : Code) (Q : State → Prop) (A : Nat → Prop) (dC : Nat → ClassId) (dI : Nat → Nat → Nat) (a : Nat → Nat) (ac : Nat → ClassId) (g : Int32 → Int32 → (St × (St × (St))) → Option (St × (St × (St)))) (r : St × (St × (St))) : Prop := ∀ (x1 : Int32) (x2 : Int32) (s0 : St × (St × (St))) (H : Heap) (locs : List Loc) (ls : Array Slot), g x1 x2 s0 = some r → va_P (dC, dI) vwCl (dw_X15 a ac s0) H → va_D A (dw_X15 a ac s0) → va_S A s.heap H locs → lv_has ls 5 [(0, .ref (a 0)), (1, .int x1), (2, .int x2)] → W p l e (headSpec ow_dm_X15_scan ({ frames := 2, cells := 0, slots := 0, locals := 49 })).room s m args below meth c H locs 0 0 Q (F0 m 124 ls [])
def dj_X15_scan_95 (p : Program) (l : Launch) (e : Env) (s : State) (m : MethodId) (args : Array Value) (below : List Frame) (meth : Method) (c : Code) (Q : State → Prop) (A : Nat → Prop) (dC : Nat → ClassId) (dI : Nat → Nat → Nat) (a : Nat → Nat) (ac : Nat → ClassId) (g : (St × (St × (St))) → Option (St × (St × (St)))) (r : St × (St × (St))) : Prop := ∀ (s0 : St × (St × (St))) (H : Heap) (locs : List Loc) (ls : Array Slot), g s0 = some r → va_P (dC, dI) vwCl (dw_X15 a ac s0) H → va_D A (dw_X15 a ac s0) → va_S A s.heap H locs → lv_has ls 5 [] → W p l e (headSpec ow_dm_X15_scan ({ frames := 2, cells := 0, slots := 0, locals := 49 })).room s m args below meth c H locs 0 0 Q (F0 m 95 ls [])
def dj_X15_scan_50 (p : Program) (l : Launch) (e : Env) (s : State) (m : MethodId) (args : Array Value) (below : List Frame) (meth : Method) (c : Code) (Q : State → Prop) (A : Nat → Prop) (dC : Nat → ClassId) (dI : Nat → Nat → Nat) (a : Nat → Nat) (ac : Nat → ClassId) (g : Int32 → (St × (St × (St))) → Option (St × (St × (St)))) (r : St × (St × (St))) : Prop := ∀ (x1 : Int32) (s0 : St × (St × (St))) (H : Heap) (locs : List Loc) (ls : Array Slot), g x1 s0 = some r → va_P (dC, dI) vwCl (dw_X15 a ac s0) H → va_D A (dw_X15 a ac s0) → va_S A s.heap H locs → lv_has ls 5 [(0, .ref (a 0)), (1, .int x1)] → W p l e (headSpec ow_dm_X15_scan ({ frames := 2, cells := 0, slots := 0, locals := 49 })).room s m args below meth c H locs 0 0 Q (F0 m 50 ls [])
def dj_X15_scan_0 (p : Program) (l : Launch) (e : Env) (s : State) (m : MethodId) (args : Array Value) (below : List Frame) (meth : Method) (c : Code) (Q : State → Prop) (A : Nat → Prop) (dC : Nat → ClassId) (dI : Nat → Nat → Nat) (a : Nat → Nat) (ac : Nat → ClassId) (g : (St × (St × (St))) → Option (St × (St × (St)))) (r : St × (St × (St))) : Prop := ∀ (s0 : St × (St × (St))) (H : Heap) (locs : List Loc) (ls : Array Slot), g s0 = some r → va_P (dC, dI) vwCl (dw_X15 a ac s0) H → va_D A (dw_X15 a ac s0) → va_S A s.heap H locs → lv_has ls 5 [(0, .ref (a 0))] → W p l e (headSpec ow_dm_X15_scan ({ frames := 2, cells := 0, slots := 0, locals := 49 })).room s m args below meth c H locs 0 0 Q (F0 m 0 ls [])
set_option maxHeartbeats 40000000 in
set_option maxRecDepth 100000 in
theorem db_X15_scan_453 {p : Program} {l : Launch} {e : Env} {s : State} {m : MethodId} {args : Array Value} {below : List Frame} {meth : Method} {c : Code} {Q : State → Prop} {A : Nat → Prop} {dC : Nat → ClassId} {dI : Nat → Nat → Nat} {a : Nat → Nat} {ac : Nat → ClassId} {n : Nat} {r : St × (St × (St))} (C : nd_C p l s m args c A (dC, dI) cX15_scan 5 RX15 ow_dm_X15_scan (dk_X15 ac)) (K : nd_Kv p l e (headSpec ow_dm_X15_scan ({ frames := 2, cells := 0, slots := 0, locals := 49 })).room s m args below meth c Q A (dC, dI) cX15_scan (St × (St × (St))) (dw_X15 a ac) r) : dj_X15_scan_453 p l e s m args below meth c Q A dC dI a ac (df_X15_scan_453 n) r := by
  obtain ⟨hlt, hx, hb, hml, hown, hts, hN, hA, hK⟩ := id C
  intro y1 y2 s0 H locs ls h hP hD hS hl
  unfold df_X15_scan_453 at h
  refine lv_iadd hx hb dX15_scan_453 ?_
  refine va_put (D := (dC, dI)) (ci := 16) (v := .int (y1 + y2)) (ty := .int) (C := RX15) (T := TX15) (N := 28) hx hb hts hi_dm_X15_scan_X15 tyX15 tyX15_ok nmX15 hown hK hP hD hS 0 rfl rfl 9 (by decide) (hts (.fieldLink RX15 73 "TimeMachineModel$Conditions" "at" "I") (List.mem_of_getElem? (i := 1) rfl)) (fun _ h9 => h9) rfl (by decide +kernel) rfl rfl (Nat.le_of_ble_eq_true rfl) dX15_scan_454 (fun H locs hP hD hS => ?_)
  obtain ⟨s43, es43, h⟩ := nd_let_e h
  have hP : va_P (dC, dI) vwCl (dw_X15 a ac s43) H := by rw [es43]; exact hP
  have hD : va_D A (dw_X15 a ac s43) := by rw [es43]; exact hD
  exact K _ _ _ _ _ dX15_scan_457 (Option.some.inj h).symm hP hD hS
set_option maxHeartbeats 40000000 in
set_option maxRecDepth 100000 in
theorem db_X15_scan_436 {p : Program} {l : Launch} {e : Env} {s : State} {m : MethodId} {args : Array Value} {below : List Frame} {meth : Method} {c : Code} {Q : State → Prop} {A : Nat → Prop} {dC : Nat → ClassId} {dI : Nat → Nat → Nat} {a : Nat → Nat} {ac : Nat → ClassId} {n : Nat} {r : St × (St × (St))} (C : nd_C p l s m args c A (dC, dI) cX15_scan 5 RX15 ow_dm_X15_scan (dk_X15 ac)) (K : nd_Kv p l e (headSpec ow_dm_X15_scan ({ frames := 2, cells := 0, slots := 0, locals := 49 })).room s m args below meth c Q A (dC, dI) cX15_scan (St × (St × (St))) (dw_X15 a ac) r) : dj_X15_scan_436 p l e s m args below meth c Q A dC dI a ac (df_X15_scan_436 n) r := by
  obtain ⟨hlt, hx, hb, hml, hown, hts, hN, hA, hK⟩ := id C
  intro x3 y1 s0 H locs ls h hP hD hS hl
  unfold df_X15_scan_436 at h
  refine va_put (D := (dC, dI)) (ci := 16) (v := .int y1) (ty := .int) (C := RX15) (T := TX15) (N := 28) hx hb hts hi_dm_X15_scan_X15 tyX15 tyX15_ok nmX15 hown hK hP hD hS 0 rfl rfl 10 (by decide) (hts (.fieldLink RX15 92 "TimeMachineModel$Conditions" "token" "I") (List.mem_of_getElem? (i := 9) rfl)) (fun _ h9 => h9) rfl (by decide +kernel) rfl rfl (Nat.le_of_ble_eq_true rfl) dX15_scan_436 (fun H locs hP hD hS => ?_)
  obtain ⟨s41, es41, h⟩ := nd_let_e h
  have hP : va_P (dC, dI) vwCl (dw_X15 a ac s41) H := by rw [es41]; exact hP
  have hD : va_D A (dw_X15 a ac s41) := by rw [es41]; exact hD
  refine lv_aload_n hx hb dX15_scan_439 rfl (lv_at hl 0 rfl) ?_
  refine lv_dup hx hb dX15_scan_440 rfl ?_
  refine va_get (D := (dC, dI)) (ci := 16) (v := .int (sI s41.1 1)) (C := RX15) (T := TX15) (N := 28) hx hb hts hi_dm_X15_scan_X15 hown hK hP 0 rfl rfl 9 (by decide) (hts (.fieldLink RX15 73 "TimeMachineModel$Conditions" "at" "I") (List.mem_of_getElem? (i := 1) rfl)) (fun _ h9 => h9) rfl dX15_scan_441 ?_
  refine lv_iload_n hx hb dX15_scan_444 rfl (lv_at hl 1 rfl) ?_
  refine lv_if_le (tgt := 452) hx hb dX15_scan_445 (by decide) (fun c42 => ?_) (fun c42 => ?_)
  · have h := nd_pos h c42
    refine lv_iconst (v := 1) hx hb dX15_scan_452 (by decide) ?_
    exact (db_X15_scan_453 C K) ((sI s41.1 1)) (1) s41 _ _ _ h hP hD hS (lv_sub hl [] rfl)
  · have h := nd_neg h c42
    refine lv_iconst (v := 2) hx hb dX15_scan_448 (by decide) ?_
    refine lv_goto (tgt := 453) hx hb dX15_scan_449 (by decide) ?_
    exact (db_X15_scan_453 C K) ((sI s41.1 1)) (2) s41 _ _ _ h hP hD hS (lv_sub hl [] rfl)
set_option maxHeartbeats 40000000 in
set_option maxRecDepth 100000 in
theorem db_X15_scan_423 {p : Program} {l : Launch} {e : Env} {s : State} {m : MethodId} {args : Array Value} {below : List Frame} {meth : Method} {c : Code} {Q : State → Prop} {A : Nat → Prop} {dC : Nat → ClassId} {dI : Nat → Nat → Nat} {a : Nat → Nat} {ac : Nat → ClassId} {n : Nat} {r : St × (St × (St))} (C : nd_C p l s m args c A (dC, dI) cX15_scan 5 RX15 ow_dm_X15_scan (dk_X15 ac)) (K : nd_Kv p l e (headSpec ow_dm_X15_scan ({ frames := 2, cells := 0, slots := 0, locals := 49 })).room s m args below meth c Q A (dC, dI) cX15_scan (St × (St × (St))) (dw_X15 a ac) r) : dj_X15_scan_423 p l e s m args below meth c Q A dC dI a ac (df_X15_scan_423 n) r := by
  obtain ⟨hlt, hx, hb, hml, hown, hts, hN, hA, hK⟩ := id C
  intro x3 y0 s0 H locs ls h hP hD hS hl
  unfold df_X15_scan_423 at h
  refine lv_istore (lv' := [(4, .int y0), (0, .ref (a 0)), (3, .int x3)]) hx hb dX15_scan_423 hl (by decide) rfl (fun ls hl => ?_)
  refine lv_aload_n hx hb dX15_scan_425 rfl (lv_at hl 1 rfl) ?_
  refine lv_iload_n hx hb dX15_scan_426 rfl (lv_at hl 2 rfl) ?_
  refine lv_if_le (tgt := 434) hx hb dX15_scan_427 (by decide) (fun c40 => ?_) (fun c40 => ?_)
  · have h := nd_pos h c40
    refine lv_iload hx hb dX15_scan_434 (lv_at hl 0 rfl) ?_
    exact (db_X15_scan_436 C K) (x3) (y0) s0 _ _ _ h hP hD hS (lv_sub hl [1, 2] rfl)
  · have h := nd_neg h c40
    refine lv_iload_n hx hb dX15_scan_430 rfl (lv_at hl 2 rfl) ?_
    refine lv_goto (tgt := 436) hx hb dX15_scan_431 (by decide) ?_
    exact (db_X15_scan_436 C K) (x3) (x3) s0 _ _ _ h hP hD hS (lv_sub hl [1, 2] rfl)
set_option maxHeartbeats 40000000 in
set_option maxRecDepth 100000 in
theorem db_X15_scan_244 {p : Program} {l : Launch} {e : Env} {s : State} {m : MethodId} {args : Array Value} {below : List Frame} {meth : Method} {c : Code} {Q : State → Prop} {A : Nat → Prop} {dC : Nat → ClassId} {dI : Nat → Nat → Nat} {a : Nat → Nat} {ac : Nat → ClassId} {n : Nat} {r : St × (St × (St))} (C : nd_C p l s m args c A (dC, dI) cX15_scan 5 RX15 ow_dm_X15_scan (dk_X15 ac)) (K : nd_Kv p l e (headSpec ow_dm_X15_scan ({ frames := 2, cells := 0, slots := 0, locals := 49 })).room s m args below meth c Q A (dC, dI) cX15_scan (St × (St × (St))) (dw_X15 a ac) r) : dj_X15_scan_244 p l e s m args below meth c Q A dC dI a ac (df_X15_scan_244 n) r := by
  obtain ⟨hlt, hx, hb, hml, hown, hts, hN, hA, hK⟩ := id C
  intro x1 y0 s0 H locs ls h hP hD hS hl
  unfold df_X15_scan_244 at h
  refine lv_istore_n (lv' := [(3, .int y0), (0, .ref (a 0)), (1, .int x1)]) hx hb dX15_scan_244 rfl hl (by decide) rfl (fun ls hl => ?_)
  refine lv_iload_n hx hb dX15_scan_245 rfl (lv_at hl 2 rfl) ?_
  refine lv_bipush (v := 60) hx hb dX15_scan_246 (by decide) ?_
  refine lv_icmp_ne (tgt := 256) hx hb dX15_scan_248 (by decide) (fun c24 => ?_) (fun c24 => ?_)
  · have h := nd_neg h c24
    refine lv_iload_n hx hb dX15_scan_256 rfl (lv_at hl 2 rfl) ?_
    refine lv_bipush (v := 62) hx hb dX15_scan_257 (by decide) ?_
    refine lv_icmp_ne (tgt := 267) hx hb dX15_scan_259 (by decide) (fun c25 => ?_) (fun c25 => ?_)
    · have h := nd_neg h c25
      refine lv_iload_n hx hb dX15_scan_267 rfl (lv_at hl 2 rfl) ?_
      refine lv_bipush (v := 124) hx hb dX15_scan_268 (by decide) ?_
      refine lv_icmp_ne (tgt := 278) hx hb dX15_scan_270 (by decide) (fun c26 => ?_) (fun c26 => ?_)
      · have h := nd_neg h c26
        refine lv_iload_n hx hb dX15_scan_278 rfl (lv_at hl 2 rfl) ?_
        refine lv_bipush (v := 94) hx hb dX15_scan_279 (by decide) ?_
        refine lv_icmp_ne (tgt := 289) hx hb dX15_scan_281 (by decide) (fun c27 => ?_) (fun c27 => ?_)
        · have h := nd_neg h c27
          refine lv_iload_n hx hb dX15_scan_289 rfl (lv_at hl 2 rfl) ?_
          refine lv_bipush (v := 38) hx hb dX15_scan_290 (by decide) ?_
          refine lv_icmp_ne (tgt := 300) hx hb dX15_scan_292 (by decide) (fun c28 => ?_) (fun c28 => ?_)
          · have h := nd_neg h c28
            refine lv_iload_n hx hb dX15_scan_300 rfl (lv_at hl 2 rfl) ?_
            refine lv_bipush (v := 43) hx hb dX15_scan_301 (by decide) ?_
            refine lv_icmp_ne (tgt := 311) hx hb dX15_scan_303 (by decide) (fun c29 => ?_) (fun c29 => ?_)
            · have h := nd_neg h c29
              refine lv_iload_n hx hb dX15_scan_311 rfl (lv_at hl 2 rfl) ?_
              refine lv_bipush (v := 45) hx hb dX15_scan_312 (by decide) ?_
              refine lv_icmp_ne (tgt := 322) hx hb dX15_scan_314 (by decide) (fun c30 => ?_) (fun c30 => ?_)
              · have h := nd_neg h c30
                refine lv_iload_n hx hb dX15_scan_322 rfl (lv_at hl 2 rfl) ?_
                refine lv_bipush (v := 42) hx hb dX15_scan_323 (by decide) ?_
                refine lv_icmp_ne (tgt := 333) hx hb dX15_scan_325 (by decide) (fun c31 => ?_) (fun c31 => ?_)
                · have h := nd_neg h c31
                  refine lv_iload_n hx hb dX15_scan_333 rfl (lv_at hl 2 rfl) ?_
                  refine lv_bipush (v := 47) hx hb dX15_scan_334 (by decide) ?_
                  refine lv_icmp_ne (tgt := 344) hx hb dX15_scan_336 (by decide) (fun c32 => ?_) (fun c32 => ?_)
                  · have h := nd_neg h c32
                    refine lv_iload_n hx hb dX15_scan_344 rfl (lv_at hl 2 rfl) ?_
                    refine lv_bipush (v := 37) hx hb dX15_scan_345 (by decide) ?_
                    refine lv_icmp_ne (tgt := 355) hx hb dX15_scan_347 (by decide) (fun c33 => ?_) (fun c33 => ?_)
                    · have h := nd_neg h c33
                      refine lv_iload_n hx hb dX15_scan_355 rfl (lv_at hl 2 rfl) ?_
                      refine lv_bipush (v := 33) hx hb dX15_scan_356 (by decide) ?_
                      refine lv_icmp_ne (tgt := 366) hx hb dX15_scan_358 (by decide) (fun c34 => ?_) (fun c34 => ?_)
                      · have h := nd_neg h c34
                        refine lv_iload_n hx hb dX15_scan_366 rfl (lv_at hl 2 rfl) ?_
                        refine lv_bipush (v := 126) hx hb dX15_scan_367 (by decide) ?_
                        refine lv_icmp_ne (tgt := 377) hx hb dX15_scan_369 (by decide) (fun c35 => ?_) (fun c35 => ?_)
                        · have h := nd_neg h c35
                          refine lv_iload_n hx hb dX15_scan_377 rfl (lv_at hl 2 rfl) ?_
                          refine lv_bipush (v := 40) hx hb dX15_scan_378 (by decide) ?_
                          refine lv_icmp_ne (tgt := 388) hx hb dX15_scan_380 (by decide) (fun c36 => ?_) (fun c36 => ?_)
                          · have h := nd_neg h c36
                            refine lv_iload_n hx hb dX15_scan_388 rfl (lv_at hl 2 rfl) ?_
                            refine lv_bipush (v := 41) hx hb dX15_scan_389 (by decide) ?_
                            refine lv_icmp_ne (tgt := 399) hx hb dX15_scan_391 (by decide) (fun c37 => ?_) (fun c37 => ?_)
                            · have h := nd_neg h c37
                              refine lv_iload_n hx hb dX15_scan_399 rfl (lv_at hl 2 rfl) ?_
                              refine lv_bipush (v := 91) hx hb dX15_scan_400 (by decide) ?_
                              refine lv_icmp_ne (tgt := 410) hx hb dX15_scan_402 (by decide) (fun c38 => ?_) (fun c38 => ?_)
                              · have h := nd_neg h c38
                                refine lv_iload_n hx hb dX15_scan_410 rfl (lv_at hl 2 rfl) ?_
                                refine lv_bipush (v := 93) hx hb dX15_scan_411 (by decide) ?_
                                refine lv_icmp_ne (tgt := 421) hx hb dX15_scan_413 (by decide) (fun c39 => ?_) (fun c39 => ?_)
                                · have h := nd_neg h c39
                                  refine lv_bipush (v := 34) hx hb dX15_scan_421 (by decide) ?_
                                  exact (db_X15_scan_423 C K) (y0) (34) s0 _ _ _ h hP hD hS (lv_sub hl [1, 0] rfl)
                                · have h := nd_pos h c39
                                  refine lv_bipush (v := 33) hx hb dX15_scan_416 (by decide) ?_
                                  refine lv_goto (tgt := 423) hx hb dX15_scan_418 (by decide) ?_
                                  exact (db_X15_scan_423 C K) (y0) (33) s0 _ _ _ h hP hD hS (lv_sub hl [1, 0] rfl)
                              · have h := nd_pos h c38
                                refine lv_bipush (v := 32) hx hb dX15_scan_405 (by decide) ?_
                                refine lv_goto (tgt := 423) hx hb dX15_scan_407 (by decide) ?_
                                exact (db_X15_scan_423 C K) (y0) (32) s0 _ _ _ h hP hD hS (lv_sub hl [1, 0] rfl)
                            · have h := nd_pos h c37
                              refine lv_bipush (v := 31) hx hb dX15_scan_394 (by decide) ?_
                              refine lv_goto (tgt := 423) hx hb dX15_scan_396 (by decide) ?_
                              exact (db_X15_scan_423 C K) (y0) (31) s0 _ _ _ h hP hD hS (lv_sub hl [1, 0] rfl)
                          · have h := nd_pos h c36
                            refine lv_bipush (v := 30) hx hb dX15_scan_383 (by decide) ?_
                            refine lv_goto (tgt := 423) hx hb dX15_scan_385 (by decide) ?_
                            exact (db_X15_scan_423 C K) (y0) (30) s0 _ _ _ h hP hD hS (lv_sub hl [1, 0] rfl)
                        · have h := nd_pos h c35
                          refine lv_bipush (v := 29) hx hb dX15_scan_372 (by decide) ?_
                          refine lv_goto (tgt := 423) hx hb dX15_scan_374 (by decide) ?_
                          exact (db_X15_scan_423 C K) (y0) (29) s0 _ _ _ h hP hD hS (lv_sub hl [1, 0] rfl)
                      · have h := nd_pos h c34
                        refine lv_bipush (v := 28) hx hb dX15_scan_361 (by decide) ?_
                        refine lv_goto (tgt := 423) hx hb dX15_scan_363 (by decide) ?_
                        exact (db_X15_scan_423 C K) (y0) (28) s0 _ _ _ h hP hD hS (lv_sub hl [1, 0] rfl)
                    · have h := nd_pos h c33
                      refine lv_bipush (v := 27) hx hb dX15_scan_350 (by decide) ?_
                      refine lv_goto (tgt := 423) hx hb dX15_scan_352 (by decide) ?_
                      exact (db_X15_scan_423 C K) (y0) (27) s0 _ _ _ h hP hD hS (lv_sub hl [1, 0] rfl)
                  · have h := nd_pos h c32
                    refine lv_bipush (v := 26) hx hb dX15_scan_339 (by decide) ?_
                    refine lv_goto (tgt := 423) hx hb dX15_scan_341 (by decide) ?_
                    exact (db_X15_scan_423 C K) (y0) (26) s0 _ _ _ h hP hD hS (lv_sub hl [1, 0] rfl)
                · have h := nd_pos h c31
                  refine lv_bipush (v := 25) hx hb dX15_scan_328 (by decide) ?_
                  refine lv_goto (tgt := 423) hx hb dX15_scan_330 (by decide) ?_
                  exact (db_X15_scan_423 C K) (y0) (25) s0 _ _ _ h hP hD hS (lv_sub hl [1, 0] rfl)
              · have h := nd_pos h c30
                refine lv_bipush (v := 24) hx hb dX15_scan_317 (by decide) ?_
                refine lv_goto (tgt := 423) hx hb dX15_scan_319 (by decide) ?_
                exact (db_X15_scan_423 C K) (y0) (24) s0 _ _ _ h hP hD hS (lv_sub hl [1, 0] rfl)
            · have h := nd_pos h c29
              refine lv_bipush (v := 23) hx hb dX15_scan_306 (by decide) ?_
              refine lv_goto (tgt := 423) hx hb dX15_scan_308 (by decide) ?_
              exact (db_X15_scan_423 C K) (y0) (23) s0 _ _ _ h hP hD hS (lv_sub hl [1, 0] rfl)
          · have h := nd_pos h c28
            refine lv_bipush (v := 20) hx hb dX15_scan_295 (by decide) ?_
            refine lv_goto (tgt := 423) hx hb dX15_scan_297 (by decide) ?_
            exact (db_X15_scan_423 C K) (y0) (20) s0 _ _ _ h hP hD hS (lv_sub hl [1, 0] rfl)
        · have h := nd_pos h c27
          refine lv_bipush (v := 19) hx hb dX15_scan_284 (by decide) ?_
          refine lv_goto (tgt := 423) hx hb dX15_scan_286 (by decide) ?_
          exact (db_X15_scan_423 C K) (y0) (19) s0 _ _ _ h hP hD hS (lv_sub hl [1, 0] rfl)
      · have h := nd_pos h c26
        refine lv_bipush (v := 18) hx hb dX15_scan_273 (by decide) ?_
        refine lv_goto (tgt := 423) hx hb dX15_scan_275 (by decide) ?_
        exact (db_X15_scan_423 C K) (y0) (18) s0 _ _ _ h hP hD hS (lv_sub hl [1, 0] rfl)
    · have h := nd_pos h c25
      refine lv_bipush (v := 16) hx hb dX15_scan_262 (by decide) ?_
      refine lv_goto (tgt := 423) hx hb dX15_scan_264 (by decide) ?_
      exact (db_X15_scan_423 C K) (y0) (16) s0 _ _ _ h hP hD hS (lv_sub hl [1, 0] rfl)
  · have h := nd_pos h c24
    refine lv_bipush (v := 14) hx hb dX15_scan_251 (by decide) ?_
    refine lv_goto (tgt := 423) hx hb dX15_scan_253 (by decide) ?_
    exact (db_X15_scan_423 C K) (y0) (14) s0 _ _ _ h hP hD hS (lv_sub hl [1, 0] rfl)
set_option maxHeartbeats 40000000 in
set_option maxRecDepth 100000 in
theorem db_X15_scan_243 {p : Program} {l : Launch} {e : Env} {s : State} {m : MethodId} {args : Array Value} {below : List Frame} {meth : Method} {c : Code} {Q : State → Prop} {A : Nat → Prop} {dC : Nat → ClassId} {dI : Nat → Nat → Nat} {a : Nat → Nat} {ac : Nat → ClassId} {n : Nat} {r : St × (St × (St))} (C : nd_C p l s m args c A (dC, dI) cX15_scan 5 RX15 ow_dm_X15_scan (dk_X15 ac)) (K : nd_Kv p l e (headSpec ow_dm_X15_scan ({ frames := 2, cells := 0, slots := 0, locals := 49 })).room s m args below meth c Q A (dC, dI) cX15_scan (St × (St × (St))) (dw_X15 a ac) r) : dj_X15_scan_243 p l e s m args below meth c Q A dC dI a ac (df_X15_scan_243 n) r := by
  obtain ⟨hlt, hx, hb, hml, hown, hts, hN, hA, hK⟩ := id C
  intro x1 s0 H locs ls h hP hD hS hl
  unfold df_X15_scan_243 at h
  refine lv_iconst (v := 0) hx hb dX15_scan_243 (by decide) ?_
  exact (db_X15_scan_244 C K) (x1) (0) s0 _ _ _ h hP hD hS (lv_sub hl [0, 1] rfl)
set_option maxHeartbeats 40000000 in
set_option maxRecDepth 100000 in
theorem db_X15_scan_226 {p : Program} {l : Launch} {e : Env} {s : State} {m : MethodId} {args : Array Value} {below : List Frame} {meth : Method} {c : Code} {Q : State → Prop} {A : Nat → Prop} {dC : Nat → ClassId} {dI : Nat → Nat → Nat} {a : Nat → Nat} {ac : Nat → ClassId} {n : Nat} {r : St × (St × (St))} (C : nd_C p l s m args c A (dC, dI) cX15_scan 5 RX15 ow_dm_X15_scan (dk_X15 ac)) (K : nd_Kv p l e (headSpec ow_dm_X15_scan ({ frames := 2, cells := 0, slots := 0, locals := 49 })).room s m args below meth c Q A (dC, dI) cX15_scan (St × (St × (St))) (dw_X15 a ac) r) : dj_X15_scan_226 p l e s m args below meth c Q A dC dI a ac (df_X15_scan_226 n) r := by
  obtain ⟨hlt, hx, hb, hml, hown, hts, hN, hA, hK⟩ := id C
  intro x1 x2 s0 H locs ls h hP hD hS hl
  unfold df_X15_scan_226 at h
  refine lv_iload_n hx hb dX15_scan_226 rfl (lv_at hl 1 rfl) ?_
  refine lv_bipush (v := 62) hx hb dX15_scan_227 (by decide) ?_
  refine lv_icmp_ne (tgt := 243) hx hb dX15_scan_229 (by decide) (fun c23 => ?_) (fun c23 => ?_)
  · have h := nd_neg h c23
    exact (db_X15_scan_243 C K) (x1) s0 _ _ _ h hP hD hS (lv_sub hl [0, 1] rfl)
  · have h := nd_pos h c23
    refine lv_iload_n hx hb dX15_scan_232 rfl (lv_at hl 2 rfl) ?_
    refine lv_bipush (v := 62) hx hb dX15_scan_233 (by decide) ?_
    refine lv_icmp_ne (tgt := 243) hx hb dX15_scan_235 (by decide) (fun c44 => ?_) (fun c44 => ?_)
    · have h := nd_neg h c44
      exact (db_X15_scan_243 C K) (x1) s0 _ _ _ h hP hD hS (lv_sub hl [0, 1] rfl)
    · have h := nd_pos h c44
      refine lv_bipush (v := 22) hx hb dX15_scan_238 (by decide) ?_
      refine lv_goto (tgt := 244) hx hb dX15_scan_240 (by decide) ?_
      exact (db_X15_scan_244 C K) (x1) (22) s0 _ _ _ h hP hD hS (lv_sub hl [0, 1] rfl)
set_option maxHeartbeats 40000000 in
set_option maxRecDepth 100000 in
theorem db_X15_scan_209 {p : Program} {l : Launch} {e : Env} {s : State} {m : MethodId} {args : Array Value} {below : List Frame} {meth : Method} {c : Code} {Q : State → Prop} {A : Nat → Prop} {dC : Nat → ClassId} {dI : Nat → Nat → Nat} {a : Nat → Nat} {ac : Nat → ClassId} {n : Nat} {r : St × (St × (St))} (C : nd_C p l s m args c A (dC, dI) cX15_scan 5 RX15 ow_dm_X15_scan (dk_X15 ac)) (K : nd_Kv p l e (headSpec ow_dm_X15_scan ({ frames := 2, cells := 0, slots := 0, locals := 49 })).room s m args below meth c Q A (dC, dI) cX15_scan (St × (St × (St))) (dw_X15 a ac) r) : dj_X15_scan_209 p l e s m args below meth c Q A dC dI a ac (df_X15_scan_209 n) r := by
  obtain ⟨hlt, hx, hb, hml, hown, hts, hN, hA, hK⟩ := id C
  intro x1 x2 s0 H locs ls h hP hD hS hl
  unfold df_X15_scan_209 at h
  refine lv_iload_n hx hb dX15_scan_209 rfl (lv_at hl 1 rfl) ?_
  refine lv_bipush (v := 60) hx hb dX15_scan_210 (by decide) ?_
  refine lv_icmp_ne (tgt := 226) hx hb dX15_scan_212 (by decide) (fun c22 => ?_) (fun c22 => ?_)
  · have h := nd_neg h c22
    exact (db_X15_scan_226 C K) (x1) (x2) s0 _ _ _ h hP hD hS (lv_sub hl [0, 1, 2] rfl)
  · have h := nd_pos h c22
    refine lv_iload_n hx hb dX15_scan_215 rfl (lv_at hl 2 rfl) ?_
    refine lv_bipush (v := 60) hx hb dX15_scan_216 (by decide) ?_
    refine lv_icmp_ne (tgt := 226) hx hb dX15_scan_218 (by decide) (fun c45 => ?_) (fun c45 => ?_)
    · have h := nd_neg h c45
      exact (db_X15_scan_226 C K) (x1) (x2) s0 _ _ _ h hP hD hS (lv_sub hl [0, 1, 2] rfl)
    · have h := nd_pos h c45
      refine lv_bipush (v := 21) hx hb dX15_scan_221 (by decide) ?_
      refine lv_goto (tgt := 244) hx hb dX15_scan_223 (by decide) ?_
      exact (db_X15_scan_244 C K) (x1) (21) s0 _ _ _ h hP hD hS (lv_sub hl [0, 1] rfl)
set_option maxHeartbeats 40000000 in
set_option maxRecDepth 100000 in
theorem db_X15_scan_192 {p : Program} {l : Launch} {e : Env} {s : State} {m : MethodId} {args : Array Value} {below : List Frame} {meth : Method} {c : Code} {Q : State → Prop} {A : Nat → Prop} {dC : Nat → ClassId} {dI : Nat → Nat → Nat} {a : Nat → Nat} {ac : Nat → ClassId} {n : Nat} {r : St × (St × (St))} (C : nd_C p l s m args c A (dC, dI) cX15_scan 5 RX15 ow_dm_X15_scan (dk_X15 ac)) (K : nd_Kv p l e (headSpec ow_dm_X15_scan ({ frames := 2, cells := 0, slots := 0, locals := 49 })).room s m args below meth c Q A (dC, dI) cX15_scan (St × (St × (St))) (dw_X15 a ac) r) : dj_X15_scan_192 p l e s m args below meth c Q A dC dI a ac (df_X15_scan_192 n) r := by
  obtain ⟨hlt, hx, hb, hml, hown, hts, hN, hA, hK⟩ := id C
  intro x1 x2 s0 H locs ls h hP hD hS hl
  unfold df_X15_scan_192 at h
  refine lv_iload_n hx hb dX15_scan_192 rfl (lv_at hl 1 rfl) ?_
  refine lv_bipush (v := 62) hx hb dX15_scan_193 (by decide) ?_
  refine lv_icmp_ne (tgt := 209) hx hb dX15_scan_195 (by decide) (fun c21 => ?_) (fun c21 => ?_)
  · have h := nd_neg h c21
    exact (db_X15_scan_209 C K) (x1) (x2) s0 _ _ _ h hP hD hS (lv_sub hl [0, 1, 2] rfl)
  · have h := nd_pos h c21
    refine lv_iload_n hx hb dX15_scan_198 rfl (lv_at hl 2 rfl) ?_
    refine lv_bipush (v := 61) hx hb dX15_scan_199 (by decide) ?_
    refine lv_icmp_ne (tgt := 209) hx hb dX15_scan_201 (by decide) (fun c46 => ?_) (fun c46 => ?_)
    · have h := nd_neg h c46
      exact (db_X15_scan_209 C K) (x1) (x2) s0 _ _ _ h hP hD hS (lv_sub hl [0, 1, 2] rfl)
    · have h := nd_pos h c46
      refine lv_bipush (v := 17) hx hb dX15_scan_204 (by decide) ?_
      refine lv_goto (tgt := 244) hx hb dX15_scan_206 (by decide) ?_
      exact (db_X15_scan_244 C K) (x1) (17) s0 _ _ _ h hP hD hS (lv_sub hl [0, 1] rfl)
set_option maxHeartbeats 40000000 in
set_option maxRecDepth 100000 in
theorem db_X15_scan_175 {p : Program} {l : Launch} {e : Env} {s : State} {m : MethodId} {args : Array Value} {below : List Frame} {meth : Method} {c : Code} {Q : State → Prop} {A : Nat → Prop} {dC : Nat → ClassId} {dI : Nat → Nat → Nat} {a : Nat → Nat} {ac : Nat → ClassId} {n : Nat} {r : St × (St × (St))} (C : nd_C p l s m args c A (dC, dI) cX15_scan 5 RX15 ow_dm_X15_scan (dk_X15 ac)) (K : nd_Kv p l e (headSpec ow_dm_X15_scan ({ frames := 2, cells := 0, slots := 0, locals := 49 })).room s m args below meth c Q A (dC, dI) cX15_scan (St × (St × (St))) (dw_X15 a ac) r) : dj_X15_scan_175 p l e s m args below meth c Q A dC dI a ac (df_X15_scan_175 n) r := by
  obtain ⟨hlt, hx, hb, hml, hown, hts, hN, hA, hK⟩ := id C
  intro x1 x2 s0 H locs ls h hP hD hS hl
  unfold df_X15_scan_175 at h
  refine lv_iload_n hx hb dX15_scan_175 rfl (lv_at hl 1 rfl) ?_
  refine lv_bipush (v := 60) hx hb dX15_scan_176 (by decide) ?_
  refine lv_icmp_ne (tgt := 192) hx hb dX15_scan_178 (by decide) (fun c20 => ?_) (fun c20 => ?_)
  · have h := nd_neg h c20
    exact (db_X15_scan_192 C K) (x1) (x2) s0 _ _ _ h hP hD hS (lv_sub hl [0, 1, 2] rfl)
  · have h := nd_pos h c20
    refine lv_iload_n hx hb dX15_scan_181 rfl (lv_at hl 2 rfl) ?_
    refine lv_bipush (v := 61) hx hb dX15_scan_182 (by decide) ?_
    refine lv_icmp_ne (tgt := 192) hx hb dX15_scan_184 (by decide) (fun c47 => ?_) (fun c47 => ?_)
    · have h := nd_neg h c47
      exact (db_X15_scan_192 C K) (x1) (x2) s0 _ _ _ h hP hD hS (lv_sub hl [0, 1, 2] rfl)
    · have h := nd_pos h c47
      refine lv_bipush (v := 15) hx hb dX15_scan_187 (by decide) ?_
      refine lv_goto (tgt := 244) hx hb dX15_scan_189 (by decide) ?_
      exact (db_X15_scan_244 C K) (x1) (15) s0 _ _ _ h hP hD hS (lv_sub hl [0, 1] rfl)
set_option maxHeartbeats 40000000 in
set_option maxRecDepth 100000 in
theorem db_X15_scan_158 {p : Program} {l : Launch} {e : Env} {s : State} {m : MethodId} {args : Array Value} {below : List Frame} {meth : Method} {c : Code} {Q : State → Prop} {A : Nat → Prop} {dC : Nat → ClassId} {dI : Nat → Nat → Nat} {a : Nat → Nat} {ac : Nat → ClassId} {n : Nat} {r : St × (St × (St))} (C : nd_C p l s m args c A (dC, dI) cX15_scan 5 RX15 ow_dm_X15_scan (dk_X15 ac)) (K : nd_Kv p l e (headSpec ow_dm_X15_scan ({ frames := 2, cells := 0, slots := 0, locals := 49 })).room s m args below meth c Q A (dC, dI) cX15_scan (St × (St × (St))) (dw_X15 a ac) r) : dj_X15_scan_158 p l e s m args below meth c Q A dC dI a ac (df_X15_scan_158 n) r := by
  obtain ⟨hlt, hx, hb, hml, hown, hts, hN, hA, hK⟩ := id C
  intro x1 x2 s0 H locs ls h hP hD hS hl
  unfold df_X15_scan_158 at h
  refine lv_iload_n hx hb dX15_scan_158 rfl (lv_at hl 1 rfl) ?_
  refine lv_bipush (v := 33) hx hb dX15_scan_159 (by decide) ?_
  refine lv_icmp_ne (tgt := 175) hx hb dX15_scan_161 (by decide) (fun c19 => ?_) (fun c19 => ?_)
  · have h := nd_neg h c19
    exact (db_X15_scan_175 C K) (x1) (x2) s0 _ _ _ h hP hD hS (lv_sub hl [0, 1, 2] rfl)
  · have h := nd_pos h c19
    refine lv_iload_n hx hb dX15_scan_164 rfl (lv_at hl 2 rfl) ?_
    refine lv_bipush (v := 61) hx hb dX15_scan_165 (by decide) ?_
    refine lv_icmp_ne (tgt := 175) hx hb dX15_scan_167 (by decide) (fun c48 => ?_) (fun c48 => ?_)
    · have h := nd_neg h c48
      exact (db_X15_scan_175 C K) (x1) (x2) s0 _ _ _ h hP hD hS (lv_sub hl [0, 1, 2] rfl)
    · have h := nd_pos h c48
      refine lv_bipush (v := 13) hx hb dX15_scan_170 (by decide) ?_
      refine lv_goto (tgt := 244) hx hb dX15_scan_172 (by decide) ?_
      exact (db_X15_scan_244 C K) (x1) (13) s0 _ _ _ h hP hD hS (lv_sub hl [0, 1] rfl)
set_option maxHeartbeats 40000000 in
set_option maxRecDepth 100000 in
theorem db_X15_scan_141 {p : Program} {l : Launch} {e : Env} {s : State} {m : MethodId} {args : Array Value} {below : List Frame} {meth : Method} {c : Code} {Q : State → Prop} {A : Nat → Prop} {dC : Nat → ClassId} {dI : Nat → Nat → Nat} {a : Nat → Nat} {ac : Nat → ClassId} {n : Nat} {r : St × (St × (St))} (C : nd_C p l s m args c A (dC, dI) cX15_scan 5 RX15 ow_dm_X15_scan (dk_X15 ac)) (K : nd_Kv p l e (headSpec ow_dm_X15_scan ({ frames := 2, cells := 0, slots := 0, locals := 49 })).room s m args below meth c Q A (dC, dI) cX15_scan (St × (St × (St))) (dw_X15 a ac) r) : dj_X15_scan_141 p l e s m args below meth c Q A dC dI a ac (df_X15_scan_141 n) r := by
  obtain ⟨hlt, hx, hb, hml, hown, hts, hN, hA, hK⟩ := id C
  intro x1 x2 s0 H locs ls h hP hD hS hl
  unfold df_X15_scan_141 at h
  refine lv_iload_n hx hb dX15_scan_141 rfl (lv_at hl 1 rfl) ?_
  refine lv_bipush (v := 61) hx hb dX15_scan_142 (by decide) ?_
  refine lv_icmp_ne (tgt := 158) hx hb dX15_scan_144 (by decide) (fun c18 => ?_) (fun c18 => ?_)
  · have h := nd_neg h c18
    exact (db_X15_scan_158 C K) (x1) (x2) s0 _ _ _ h hP hD hS (lv_sub hl [0, 1, 2] rfl)
  · have h := nd_pos h c18
    refine lv_iload_n hx hb dX15_scan_147 rfl (lv_at hl 2 rfl) ?_
    refine lv_bipush (v := 61) hx hb dX15_scan_148 (by decide) ?_
    refine lv_icmp_ne (tgt := 158) hx hb dX15_scan_150 (by decide) (fun c49 => ?_) (fun c49 => ?_)
    · have h := nd_neg h c49
      exact (db_X15_scan_158 C K) (x1) (x2) s0 _ _ _ h hP hD hS (lv_sub hl [0, 1, 2] rfl)
    · have h := nd_pos h c49
      refine lv_bipush (v := 12) hx hb dX15_scan_153 (by decide) ?_
      refine lv_goto (tgt := 244) hx hb dX15_scan_155 (by decide) ?_
      exact (db_X15_scan_244 C K) (x1) (12) s0 _ _ _ h hP hD hS (lv_sub hl [0, 1] rfl)
set_option maxHeartbeats 40000000 in
set_option maxRecDepth 100000 in
theorem db_X15_scan_124 {p : Program} {l : Launch} {e : Env} {s : State} {m : MethodId} {args : Array Value} {below : List Frame} {meth : Method} {c : Code} {Q : State → Prop} {A : Nat → Prop} {dC : Nat → ClassId} {dI : Nat → Nat → Nat} {a : Nat → Nat} {ac : Nat → ClassId} {n : Nat} {r : St × (St × (St))} (C : nd_C p l s m args c A (dC, dI) cX15_scan 5 RX15 ow_dm_X15_scan (dk_X15 ac)) (K : nd_Kv p l e (headSpec ow_dm_X15_scan ({ frames := 2, cells := 0, slots := 0, locals := 49 })).room s m args below meth c Q A (dC, dI) cX15_scan (St × (St × (St))) (dw_X15 a ac) r) : dj_X15_scan_124 p l e s m args below meth c Q A dC dI a ac (df_X15_scan_124 n) r := by
  obtain ⟨hlt, hx, hb, hml, hown, hts, hN, hA, hK⟩ := id C
  intro x1 x2 s0 H locs ls h hP hD hS hl
  unfold df_X15_scan_124 at h
  refine lv_iload_n hx hb dX15_scan_124 rfl (lv_at hl 1 rfl) ?_
  refine lv_bipush (v := 38) hx hb dX15_scan_125 (by decide) ?_
  refine lv_icmp_ne (tgt := 141) hx hb dX15_scan_127 (by decide) (fun c17 => ?_) (fun c17 => ?_)
  · have h := nd_neg h c17
    exact (db_X15_scan_141 C K) (x1) (x2) s0 _ _ _ h hP hD hS (lv_sub hl [0, 1, 2] rfl)
  · have h := nd_pos h c17
    refine lv_iload_n hx hb dX15_scan_130 rfl (lv_at hl 2 rfl) ?_
    refine lv_bipush (v := 38) hx hb dX15_scan_131 (by decide) ?_
    refine lv_icmp_ne (tgt := 141) hx hb dX15_scan_133 (by decide) (fun c50 => ?_) (fun c50 => ?_)
    · have h := nd_neg h c50
      exact (db_X15_scan_141 C K) (x1) (x2) s0 _ _ _ h hP hD hS (lv_sub hl [0, 1, 2] rfl)
    · have h := nd_pos h c50
      refine lv_bipush (v := 11) hx hb dX15_scan_136 (by decide) ?_
      refine lv_goto (tgt := 244) hx hb dX15_scan_138 (by decide) ?_
      exact (db_X15_scan_244 C K) (x1) (11) s0 _ _ _ h hP hD hS (lv_sub hl [0, 1] rfl)
set_option maxHeartbeats 40000000 in
set_option maxRecDepth 100000 in
theorem db_X15_scan_95 {p : Program} {l : Launch} {e : Env} {s : State} {m : MethodId} {args : Array Value} {below : List Frame} {meth : Method} {c : Code} {Q : State → Prop} {A : Nat → Prop} {dC : Nat → ClassId} {dI : Nat → Nat → Nat} {a : Nat → Nat} {ac : Nat → ClassId} {n : Nat} {r : St × (St × (St))} (C : nd_C p l s m args c A (dC, dI) cX15_scan 5 RX15 ow_dm_X15_scan (dk_X15 ac)) (K : nd_Kv p l e (headSpec ow_dm_X15_scan ({ frames := 2, cells := 0, slots := 0, locals := 49 })).room s m args below meth c Q A (dC, dI) cX15_scan (St × (St × (St))) (dw_X15 a ac) r) : dj_X15_scan_95 p l e s m args below meth c Q A dC dI a ac (df_X15_scan_95 n) r := by
  obtain ⟨hlt, hx, hb, hml, hown, hts, hN, hA, hK⟩ := id C
  intro s0 H locs ls h hP hD hS hl
  unfold df_X15_scan_95 at h
  exact K _ _ _ _ _ dX15_scan_95 (Option.some.inj h).symm hP hD hS
set_option maxHeartbeats 40000000 in
set_option maxRecDepth 100000 in
theorem dB_X15_scan_50 {p : Program} {l : Launch} {e : Env} {s : State} {m : MethodId} {args : Array Value} {below : List Frame} {meth : Method} {c : Code} {Q : State → Prop} {A : Nat → Prop} {dC : Nat → ClassId} {dI : Nat → Nat → Nat} {a : Nat → Nat} {ac : Nat → ClassId} {n : Nat} {r : St × (St × (St))} (C : nd_C p l s m args c A (dC, dI) cX15_scan 5 RX15 ow_dm_X15_scan (dk_X15 ac)) (K : nd_Kv p l e (headSpec ow_dm_X15_scan ({ frames := 2, cells := 0, slots := 0, locals := 49 })).room s m args below meth c Q A (dC, dI) cX15_scan (St × (St × (St))) (dw_X15 a ac) r) {g50 : Int32 → (St × (St × (St))) → Option (St × (St × (St)))} (J50 : dj_X15_scan_50 p l e s m args below meth c Q A dC dI a ac g50 r) : dj_X15_scan_50 p l e s m args below meth c Q A dC dI a ac (dF_X15_scan_50 n g50) r := by
  obtain ⟨hlt, hx, hb, hml, hown, hts, hN, hA, hK⟩ := id C
  intro x1 s0 H locs ls h hP hD hS hl
  unfold dF_X15_scan_50 at h
  refine lv_aload_n hx hb dX15_scan_50 rfl (lv_at hl 0 rfl) ?_
  refine lv_aload_n hx hb dX15_scan_51 rfl (lv_at hl 0 rfl) ?_
  refine va_get (D := (dC, dI)) (ci := 16) (v := .int (sI s0.1 1)) (C := RX15) (T := TX15) (N := 28) hx hb hts hi_dm_X15_scan_X15 hown hK hP 0 rfl rfl 9 (by decide) (hts (.fieldLink RX15 73 "TimeMachineModel$Conditions" "at" "I") (List.mem_of_getElem? (i := 1) rfl)) (fun _ h9 => h9) rfl dX15_scan_52 ?_
  obtain ⟨q52, s53, hq, h⟩ := nd_b2_e h
  have hPc := hP
  have hDc := hD
  have hKc := hK
  have hFc := nd_rs hD hS hA
  refine nd_cVi (As := [.int (sI s0.1 1)]) (rest := []) (q := q52) (w' := dw_X15 a ac s53) ⟨hx, hb, hml, hown, hts⟩ (fun sz => dm_X15_charAt l hlt dC dI a ac n ((sI s0.1 1)) s0 hq sz) (cwV 1 hts gi_dm_X15_scan_0 rfl rfl rfl (by decide +kernel) ⟨Nat.le_of_ble_eq_true rfl, Nat.le_of_ble_eq_true rfl⟩) hPc hDc hKc hS hA hN (va_recv hKc hPc (ci := 16) (q0 := 0) rfl rfl) rfl hl.1 rfl (Nat.le_of_ble_eq_true rfl) dX15_scan_55 (fun H locs hP1 hD1 hk1 hS => ?_)
  have hP := hP1
  have hD := hD1.weaken (fun k q _ h => hFc q.1 h)
  obtain ⟨q55, s56, hq, h⟩ := nd_b2_e h
  have hPc : va_P (dC, dI) vwCl (dw_P a ac ()) H := nd_p0
  have hDc : va_D A (dw_P a ac ()) := nd_d0
  have hKc : va_K (dC, dI) vwCl (dk_P ac) s := nd_y0 hK
  have hFc : ∀ q, va_A (dw_P a ac ()) H.size q → A q := nd_r0 hS hA
  refine nd_cSi (As := [.int q52]) (rest := []) (q := q55) (w' := dw_P a ac s56) ⟨hx, hb, hml, hown, hts⟩ (fun sz => dm_X15_isPlain l hlt dC dI a ac n (q52) () hq sz) (cwS 1 hts gi_dm_X15_scan_1 rfl rfl rfl (by decide +kernel) ⟨Nat.le_of_ble_eq_true rfl, Nat.le_of_ble_eq_true rfl⟩) hPc hDc hKc hS hA hN rfl hl.1 rfl (Nat.le_of_ble_eq_true rfl) dX15_scan_58 (fun H locs hP1 hD1 hk1 hS => ?_)
  have hP := nd_n0 hP hk1
  refine lv_if_eq (tgt := 77) hx hb dX15_scan_61 (by decide) (fun c58 => ?_) (fun c58 => ?_)
  · have h := nd_pos h c58
    refine lv_iload_n hx hb dX15_scan_77 rfl (lv_at hl 1 rfl) ?_
    obtain ⟨q59, s60, hq, h⟩ := nd_b2_e h
    have hPc : va_P (dC, dI) vwCl (dw_P a ac ()) H := nd_p0
    have hDc : va_D A (dw_P a ac ()) := nd_d0
    have hKc : va_K (dC, dI) vwCl (dk_P ac) s := nd_y0 hK
    have hFc : ∀ q, va_A (dw_P a ac ()) H.size q → A q := nd_r0 hS hA
    refine nd_cSi (As := [.int x1]) (rest := []) (q := q59) (w' := dw_P a ac s60) ⟨hx, hb, hml, hown, hts⟩ (fun sz => dm_X15_isDigit l hlt dC dI a ac n (x1) () hq sz) (cwS 1 hts gi_dm_X15_scan_2 rfl rfl rfl (by decide +kernel) ⟨Nat.le_of_ble_eq_true rfl, Nat.le_of_ble_eq_true rfl⟩) hPc hDc hKc hS hA hN rfl hl.1 rfl (Nat.le_of_ble_eq_true rfl) dX15_scan_78 (fun H locs hP1 hD1 hk1 hS => ?_)
    have hP := nd_n0 hP hk1
    refine lv_if_eq (tgt := 91) hx hb dX15_scan_81 (by decide) (fun c62 => ?_) (fun c62 => ?_)
    · have h := nd_pos h c62
      refine lv_aload_n hx hb dX15_scan_91 rfl (lv_at hl 0 rfl) ?_
      obtain ⟨s64, hq, h⟩ := nd_b1_e h
      have hPc := hP
      have hDc := hD
      have hKc := hK
      have hFc := nd_rs hD hS hA
      refine nd_cVv (As := []) (rest := []) (w' := dw_X15 a ac s64) ⟨hx, hb, hml, hown, hts⟩ (fun sz => dm_X15_scanWord l hlt dC dI a ac n  s53 hq sz) (cwV 0 hts gi_dm_X15_scan_3 rfl rfl rfl (by decide +kernel) ⟨Nat.le_of_ble_eq_true rfl, Nat.le_of_ble_eq_true rfl⟩) hPc hDc hKc hS hA hN (va_recv hKc hPc (ci := 16) (q0 := 0) rfl rfl) rfl hl.1 rfl (Nat.le_of_ble_eq_true rfl) dX15_scan_92 (fun H locs hP1 hD1 hk1 hS => ?_)
      have hP := hP1
      have hD := hD1.weaken (fun k q _ h => hFc q.1 h)
      exact (db_X15_scan_95 C K)  s64 _ _ _ h hP hD hS (lv_sub hl [] rfl)
    · have h := nd_neg h c62
      refine lv_aload_n hx hb dX15_scan_84 rfl (lv_at hl 0 rfl) ?_
      obtain ⟨s67, hq, h⟩ := nd_b1_e h
      have hPc := hP
      have hDc := hD
      have hKc := hK
      have hFc := nd_rs hD hS hA
      refine nd_cVv (As := []) (rest := []) (w' := dw_X15 a ac s67) ⟨hx, hb, hml, hown, hts⟩ (fun sz => dm_X15_scanNumber l hlt dC dI a ac n  s53 hq sz) (cwV 0 hts gi_dm_X15_scan_4 rfl rfl rfl (by decide +kernel) ⟨Nat.le_of_ble_eq_true rfl, Nat.le_of_ble_eq_true rfl⟩) hPc hDc hKc hS hA hN (va_recv hKc hPc (ci := 16) (q0 := 0) rfl rfl) rfl hl.1 rfl (Nat.le_of_ble_eq_true rfl) dX15_scan_85 (fun H locs hP1 hD1 hk1 hS => ?_)
      have hP := hP1
      have hD := hD1.weaken (fun k q _ h => hFc q.1 h)
      refine lv_goto (tgt := 95) hx hb dX15_scan_88 (by decide) ?_
      exact (db_X15_scan_95 C K)  s67 _ _ _ h hP hD hS (lv_sub hl [] rfl)
  · have h := nd_neg h c58
    refine lv_aload_n hx hb dX15_scan_64 rfl (lv_at hl 0 rfl) ?_
    refine lv_dup hx hb dX15_scan_65 rfl ?_
    refine va_get (D := (dC, dI)) (ci := 16) (v := .int (sI s53.1 1)) (C := RX15) (T := TX15) (N := 28) hx hb hts hi_dm_X15_scan_X15 hown hK hP 0 rfl rfl 9 (by decide) (hts (.fieldLink RX15 73 "TimeMachineModel$Conditions" "at" "I") (List.mem_of_getElem? (i := 1) rfl)) (fun _ h9 => h9) rfl dX15_scan_66 ?_
    refine lv_iconst (v := 1) hx hb dX15_scan_69 (by decide) ?_
    refine lv_iadd hx hb dX15_scan_70 ?_
    refine va_put (D := (dC, dI)) (ci := 16) (v := .int ((sI s53.1 1) + 1)) (ty := .int) (C := RX15) (T := TX15) (N := 28) hx hb hts hi_dm_X15_scan_X15 tyX15 tyX15_ok nmX15 hown hK hP hD hS 0 rfl rfl 9 (by decide) (hts (.fieldLink RX15 73 "TimeMachineModel$Conditions" "at" "I") (List.mem_of_getElem? (i := 1) rfl)) (fun _ h9 => h9) rfl (by decide +kernel) rfl rfl (Nat.le_of_ble_eq_true rfl) dX15_scan_71 (fun H locs hP hD hS => ?_)
    obtain ⟨s69, es69, h⟩ := nd_let_e h
    have hP : va_P (dC, dI) vwCl (dw_X15 a ac s69) H := by rw [es69]; exact hP
    have hD : va_D A (dw_X15 a ac s69) := by rw [es69]; exact hD
    refine lv_goto (tgt := 50) hx hb dX15_scan_74 (by decide) ?_
    exact (J50) (x1) s69 _ _ _ h hP hD hS (lv_sub hl [0, 1] rfl)
set_option maxHeartbeats 40000000 in
set_option maxRecDepth 100000 in
theorem db_X15_scan_50 {p : Program} {l : Launch} {e : Env} {s : State} {m : MethodId} {args : Array Value} {below : List Frame} {meth : Method} {c : Code} {Q : State → Prop} {A : Nat → Prop} {dC : Nat → ClassId} {dI : Nat → Nat → Nat} {a : Nat → Nat} {ac : Nat → ClassId} {n : Nat} {r : St × (St × (St))} (C : nd_C p l s m args c A (dC, dI) cX15_scan 5 RX15 ow_dm_X15_scan (dk_X15 ac)) (K : nd_Kv p l e (headSpec ow_dm_X15_scan ({ frames := 2, cells := 0, slots := 0, locals := 49 })).room s m args below meth c Q A (dC, dI) cX15_scan (St × (St × (St))) (dw_X15 a ac) r) (k : Nat) : dj_X15_scan_50 p l e s m args below meth c Q A dC dI a ac (df_X15_scan_50 n k) r := by
  induction k with
  | zero => intro x1 s0 H locs ls h; exact nomatch (show (none : Option (St × (St × (St)))) = some r from h)
  | succ k ih => exact dB_X15_scan_50 C K ih
set_option maxHeartbeats 40000000 in
set_option maxRecDepth 100000 in
theorem dB_X15_scan_0 {p : Program} {l : Launch} {e : Env} {s : State} {m : MethodId} {args : Array Value} {below : List Frame} {meth : Method} {c : Code} {Q : State → Prop} {A : Nat → Prop} {dC : Nat → ClassId} {dI : Nat → Nat → Nat} {a : Nat → Nat} {ac : Nat → ClassId} {n : Nat} {r : St × (St × (St))} (C : nd_C p l s m args c A (dC, dI) cX15_scan 5 RX15 ow_dm_X15_scan (dk_X15 ac)) (K : nd_Kv p l e (headSpec ow_dm_X15_scan ({ frames := 2, cells := 0, slots := 0, locals := 49 })).room s m args below meth c Q A (dC, dI) cX15_scan (St × (St × (St))) (dw_X15 a ac) r) {g0 : (St × (St × (St))) → Option (St × (St × (St)))} (J0 : dj_X15_scan_0 p l e s m args below meth c Q A dC dI a ac g0 r) : dj_X15_scan_0 p l e s m args below meth c Q A dC dI a ac (dF_X15_scan_0 n g0) r := by
  obtain ⟨hlt, hx, hb, hml, hown, hts, hN, hA, hK⟩ := id C
  intro s0 H locs ls h hP hD hS hl
  unfold dF_X15_scan_0 at h
  refine lv_aload_n hx hb dX15_scan_0 rfl (lv_at hl 0 rfl) ?_
  refine lv_aload_n hx hb dX15_scan_1 rfl (lv_at hl 0 rfl) ?_
  refine va_get (D := (dC, dI)) (ci := 16) (v := .int (sI s0.1 1)) (C := RX15) (T := TX15) (N := 28) hx hb hts hi_dm_X15_scan_X15 hown hK hP 0 rfl rfl 9 (by decide) (hts (.fieldLink RX15 73 "TimeMachineModel$Conditions" "at" "I") (List.mem_of_getElem? (i := 1) rfl)) (fun _ h9 => h9) rfl dX15_scan_2 ?_
  obtain ⟨q1, s2, hq, h⟩ := nd_b2_e h
  have hPc := hP
  have hDc := hD
  have hKc := hK
  have hFc := nd_rs hD hS hA
  refine nd_cVi (As := [.int (sI s0.1 1)]) (rest := []) (q := q1) (w' := dw_X15 a ac s2) ⟨hx, hb, hml, hown, hts⟩ (fun sz => dm_X15_charAt l hlt dC dI a ac n ((sI s0.1 1)) s0 hq sz) (cwV 1 hts gi_dm_X15_scan_0 rfl rfl rfl (by decide +kernel) ⟨Nat.le_of_ble_eq_true rfl, Nat.le_of_ble_eq_true rfl⟩) hPc hDc hKc hS hA hN (va_recv hKc hPc (ci := 16) (q0 := 0) rfl rfl) rfl hl.1 rfl (Nat.le_of_ble_eq_true rfl) dX15_scan_5 (fun H locs hP1 hD1 hk1 hS => ?_)
  have hP := hP1
  have hD := hD1.weaken (fun k q _ h => hFc q.1 h)
  refine lv_bipush (v := 32) hx hb dX15_scan_8 (by decide) ?_
  refine lv_icmp_ne (tgt := 26) hx hb dX15_scan_10 (by decide) (fun c4 => ?_) (fun c4 => ?_)
  · have h := nd_neg h c4
    refine lv_aload_n hx hb dX15_scan_26 rfl (lv_at hl 0 rfl) ?_
    refine lv_aload_n hx hb dX15_scan_27 rfl (lv_at hl 0 rfl) ?_
    refine va_get (D := (dC, dI)) (ci := 16) (v := .int (sI s2.1 1)) (C := RX15) (T := TX15) (N := 28) hx hb hts hi_dm_X15_scan_X15 hown hK hP 0 rfl rfl 9 (by decide) (hts (.fieldLink RX15 73 "TimeMachineModel$Conditions" "at" "I") (List.mem_of_getElem? (i := 1) rfl)) (fun _ h9 => h9) rfl dX15_scan_28 ?_
    refine va_put (D := (dC, dI)) (ci := 16) (v := .int (sI s2.1 1)) (ty := .int) (C := RX15) (T := TX15) (N := 28) hx hb hts hi_dm_X15_scan_X15 tyX15 tyX15_ok nmX15 hown hK hP hD hS 0 rfl rfl 11 (by decide) (hts (.fieldLink RX15 80 "TimeMachineModel$Conditions" "start" "I") (List.mem_of_getElem? (i := 6) rfl)) (fun _ h9 => h9) rfl (by decide +kernel) rfl rfl (Nat.le_of_ble_eq_true rfl) dX15_scan_31 (fun H locs hP hD hS => ?_)
    obtain ⟨s5, es5, h⟩ := nd_let_e h
    have hP : va_P (dC, dI) vwCl (dw_X15 a ac s5) H := by rw [es5]; exact hP
    have hD : va_D A (dw_X15 a ac s5) := by rw [es5]; exact hD
    refine lv_aload_n hx hb dX15_scan_34 rfl (lv_at hl 0 rfl) ?_
    refine lv_aload_n hx hb dX15_scan_35 rfl (lv_at hl 0 rfl) ?_
    refine va_get (D := (dC, dI)) (ci := 16) (v := .int (sI s5.1 1)) (C := RX15) (T := TX15) (N := 28) hx hb hts hi_dm_X15_scan_X15 hown hK hP 0 rfl rfl 9 (by decide) (hts (.fieldLink RX15 73 "TimeMachineModel$Conditions" "at" "I") (List.mem_of_getElem? (i := 1) rfl)) (fun _ h9 => h9) rfl dX15_scan_36 ?_
    obtain ⟨q6, s7, hq, h⟩ := nd_b2_e h
    have hPc := hP
    have hDc := hD
    have hKc := hK
    have hFc := nd_rs hD hS hA
    refine nd_cVi (As := [.int (sI s5.1 1)]) (rest := []) (q := q6) (w' := dw_X15 a ac s7) ⟨hx, hb, hml, hown, hts⟩ (fun sz => dm_X15_charAt l hlt dC dI a ac n ((sI s5.1 1)) s5 hq sz) (cwV 1 hts gi_dm_X15_scan_0 rfl rfl rfl (by decide +kernel) ⟨Nat.le_of_ble_eq_true rfl, Nat.le_of_ble_eq_true rfl⟩) hPc hDc hKc hS hA hN (va_recv hKc hPc (ci := 16) (q0 := 0) rfl rfl) rfl hl.1 rfl (Nat.le_of_ble_eq_true rfl) dX15_scan_39 (fun H locs hP1 hD1 hk1 hS => ?_)
    have hP := hP1
    have hD := hD1.weaken (fun k q _ h => hFc q.1 h)
    refine lv_istore_n (lv' := [(1, .int q6), (0, .ref (a 0))]) hx hb dX15_scan_42 rfl hl (by decide) rfl (fun ls hl => ?_)
    refine lv_iload_n hx hb dX15_scan_43 rfl (lv_at hl 0 rfl) ?_
    obtain ⟨q9, s10, hq, h⟩ := nd_b2_e h
    have hPc : va_P (dC, dI) vwCl (dw_P a ac ()) H := nd_p0
    have hDc : va_D A (dw_P a ac ()) := nd_d0
    have hKc : va_K (dC, dI) vwCl (dk_P ac) s := nd_y0 hK
    have hFc : ∀ q, va_A (dw_P a ac ()) H.size q → A q := nd_r0 hS hA
    refine nd_cSi (As := [.int q6]) (rest := []) (q := q9) (w' := dw_P a ac s10) ⟨hx, hb, hml, hown, hts⟩ (fun sz => dm_X15_isPlain l hlt dC dI a ac n (q6) () hq sz) (cwS 1 hts gi_dm_X15_scan_1 rfl rfl rfl (by decide +kernel) ⟨Nat.le_of_ble_eq_true rfl, Nat.le_of_ble_eq_true rfl⟩) hPc hDc hKc hS hA hN rfl hl.1 rfl (Nat.le_of_ble_eq_true rfl) dX15_scan_44 (fun H locs hP1 hD1 hk1 hS => ?_)
    have hP := nd_n0 hP hk1
    refine lv_if_eq (tgt := 96) hx hb dX15_scan_47 (by decide) (fun c12 => ?_) (fun c12 => ?_)
    · have h := nd_pos h c12
      refine lv_aload_n hx hb dX15_scan_96 rfl (lv_at hl 1 rfl) ?_
      refine lv_aload_n hx hb dX15_scan_97 rfl (lv_at hl 1 rfl) ?_
      refine va_get (D := (dC, dI)) (ci := 16) (v := .int (sI s7.1 1)) (C := RX15) (T := TX15) (N := 28) hx hb hts hi_dm_X15_scan_X15 hown hK hP 0 rfl rfl 9 (by decide) (hts (.fieldLink RX15 73 "TimeMachineModel$Conditions" "at" "I") (List.mem_of_getElem? (i := 1) rfl)) (fun _ h9 => h9) rfl dX15_scan_98 ?_
      refine lv_iconst (v := 1) hx hb dX15_scan_101 (by decide) ?_
      refine lv_iadd hx hb dX15_scan_102 ?_
      obtain ⟨q13, s14, hq, h⟩ := nd_b2_e h
      have hPc := hP
      have hDc := hD
      have hKc := hK
      have hFc := nd_rs hD hS hA
      refine nd_cVi (As := [.int ((sI s7.1 1) + 1)]) (rest := []) (q := q13) (w' := dw_X15 a ac s14) ⟨hx, hb, hml, hown, hts⟩ (fun sz => dm_X15_charAt l hlt dC dI a ac n (((sI s7.1 1) + 1)) s7 hq sz) (cwV 1 hts gi_dm_X15_scan_0 rfl rfl rfl (by decide +kernel) ⟨Nat.le_of_ble_eq_true rfl, Nat.le_of_ble_eq_true rfl⟩) hPc hDc hKc hS hA hN (va_recv hKc hPc (ci := 16) (q0 := 0) rfl rfl) rfl hl.1 rfl (Nat.le_of_ble_eq_true rfl) dX15_scan_103 (fun H locs hP1 hD1 hk1 hS => ?_)
      have hP := hP1
      have hD := hD1.weaken (fun k q _ h => hFc q.1 h)
      refine lv_istore_n (lv' := [(2, .int q13), (1, .int q6), (0, .ref (a 0))]) hx hb dX15_scan_106 rfl hl (by decide) rfl (fun ls hl => ?_)
      refine lv_iload_n hx hb dX15_scan_107 rfl (lv_at hl 1 rfl) ?_
      refine lv_bipush (v := 124) hx hb dX15_scan_108 (by decide) ?_
      refine lv_icmp_ne (tgt := 124) hx hb dX15_scan_110 (by decide) (fun c16 => ?_) (fun c16 => ?_)
      · have h := nd_neg h c16
        exact (db_X15_scan_124 C K) (q6) (q13) s14 _ _ _ h hP hD hS (lv_sub hl [2, 1, 0] rfl)
      · have h := nd_pos h c16
        refine lv_iload_n hx hb dX15_scan_113 rfl (lv_at hl 0 rfl) ?_
        refine lv_bipush (v := 124) hx hb dX15_scan_114 (by decide) ?_
        refine lv_icmp_ne (tgt := 124) hx hb dX15_scan_116 (by decide) (fun c51 => ?_) (fun c51 => ?_)
        · have h := nd_neg h c51
          exact (db_X15_scan_124 C K) (q6) (q13) s14 _ _ _ h hP hD hS (lv_sub hl [2, 1, 0] rfl)
        · have h := nd_pos h c51
          refine lv_bipush (v := 10) hx hb dX15_scan_119 (by decide) ?_
          refine lv_goto (tgt := 244) hx hb dX15_scan_121 (by decide) ?_
          exact (db_X15_scan_244 C K) (q6) (10) s14 _ _ _ h hP hD hS (lv_sub hl [2, 1] rfl)
    · have h := nd_neg h c12
      exact (db_X15_scan_50 C K n) (q6) s7 _ _ _ h hP hD hS (lv_sub hl [1, 0] rfl)
  · have h := nd_pos h c4
    refine lv_aload_n hx hb dX15_scan_13 rfl (lv_at hl 0 rfl) ?_
    refine lv_dup hx hb dX15_scan_14 rfl ?_
    refine va_get (D := (dC, dI)) (ci := 16) (v := .int (sI s2.1 1)) (C := RX15) (T := TX15) (N := 28) hx hb hts hi_dm_X15_scan_X15 hown hK hP 0 rfl rfl 9 (by decide) (hts (.fieldLink RX15 73 "TimeMachineModel$Conditions" "at" "I") (List.mem_of_getElem? (i := 1) rfl)) (fun _ h9 => h9) rfl dX15_scan_15 ?_
    refine lv_iconst (v := 1) hx hb dX15_scan_18 (by decide) ?_
    refine lv_iadd hx hb dX15_scan_19 ?_
    refine va_put (D := (dC, dI)) (ci := 16) (v := .int ((sI s2.1 1) + 1)) (ty := .int) (C := RX15) (T := TX15) (N := 28) hx hb hts hi_dm_X15_scan_X15 tyX15 tyX15_ok nmX15 hown hK hP hD hS 0 rfl rfl 9 (by decide) (hts (.fieldLink RX15 73 "TimeMachineModel$Conditions" "at" "I") (List.mem_of_getElem? (i := 1) rfl)) (fun _ h9 => h9) rfl (by decide +kernel) rfl rfl (Nat.le_of_ble_eq_true rfl) dX15_scan_20 (fun H locs hP hD hS => ?_)
    obtain ⟨s70, es70, h⟩ := nd_let_e h
    have hP : va_P (dC, dI) vwCl (dw_X15 a ac s70) H := by rw [es70]; exact hP
    have hD : va_D A (dw_X15 a ac s70) := by rw [es70]; exact hD
    refine lv_goto (tgt := 0) hx hb dX15_scan_23 (by decide) ?_
    exact (J0)  s70 _ _ _ h hP hD hS (lv_sub hl [0] rfl)
set_option maxHeartbeats 40000000 in
set_option maxRecDepth 100000 in
theorem db_X15_scan_0 {p : Program} {l : Launch} {e : Env} {s : State} {m : MethodId} {args : Array Value} {below : List Frame} {meth : Method} {c : Code} {Q : State → Prop} {A : Nat → Prop} {dC : Nat → ClassId} {dI : Nat → Nat → Nat} {a : Nat → Nat} {ac : Nat → ClassId} {n : Nat} {r : St × (St × (St))} (C : nd_C p l s m args c A (dC, dI) cX15_scan 5 RX15 ow_dm_X15_scan (dk_X15 ac)) (K : nd_Kv p l e (headSpec ow_dm_X15_scan ({ frames := 2, cells := 0, slots := 0, locals := 49 })).room s m args below meth c Q A (dC, dI) cX15_scan (St × (St × (St))) (dw_X15 a ac) r) (k : Nat) : dj_X15_scan_0 p l e s m args below meth c Q A dC dI a ac (df_X15_scan_0 n k) r := by
  induction k with
  | zero => intro s0 H locs ls h; exact nomatch (show (none : Option (St × (St × (St)))) = some r from h)
  | succ k ih => exact dB_X15_scan_0 C K ih
set_option maxHeartbeats 40000000 in
set_option maxRecDepth 100000 in
theorem dm_X15_scan (l : Launch) (hlt : l.stackTraces = false) (dC : Nat → ClassId) (dI : Nat → Nat → Nat) (a : Nat → Nat) (ac : Nat → ClassId) (n : Nat) (s0 : St × (St × (St))) {r : St × (St × (St))} (h : df_X15_scan n s0 = some r) (sz : Nat) : Met l yX15_scan ow_dm_X15_scan ({ frames := 2, cells := 0, slots := 0, locals := 49 }) (va_Pc [.ref (a 0)] (fun U => U.heap.size = sz ∧ va_P (dC, dI) vwCl (dw_X15 a ac s0) U.heap ∧ va_K (dC, dI) vwCl (dk_X15 ac) U ∧ va_D (fun _ => True) (dw_X15 a ac s0) ∧ nv_E dI (va_A (dw_X15 a ac s0) sz) U)) (va_Qv (fun _ => True) (fun (_ : Unit) t => va_P (dC, dI) vwCl (dw_X15 a ac r) t.heap ∧ va_K (dC, dI) vwCl (dk_X15 ac) t ∧ va_D (va_A (dw_X15 a ac s0) sz) (dw_X15 a ac r)) (va_A (dw_X15 a ac s0) sz)) 0 0 (va_A (dw_X15 a ac s0) sz) := by
  refine Met.ofW (cc := cX15_scan) (maxL := 5) (ret := none) (by decide) rfl ?_
  intro p e s m args below meth c s₁ B hml hv
  obtain ⟨rfl, hsz, hP, hK, hD0, hN⟩ := hv
  have hx := B.exec
  have hb := B.bytes
  have hr := B.returns
  have hts := atoms_spec (ws := ow_dm_X15_scan) B.pre
  have hown : s.vm.findClass RX15 = some m.cls := findClass_of_methodNamed B.named
  have hlocks := B.notSynchronized
  subst hsz
  have hD := hD0.self (sz := s.heap.size)
  generalize hAe : va_A (dw_X15 a ac s0) s.heap.size = A at hD hN ⊢
  have hA : ∀ q : Nat, s.heap.size ≤ q → A q := fun q h => by rw [← hAe]; exact Or.inr h
  have hl := lv_entry ([.ref (a 0)]) (n := 5) (Nat.le_of_ble_eq_true rfl)
  rw [lg_entry_eq]
  generalize (lg_sl ([.ref (a 0)]) ++ List.replicate (5 - (lg_sl ([.ref (a 0)])).length) Slot.unset).toArray = ls at hl ⊢
  have hl : lv_has ls 5 [(0, .ref (a 0))] := hl
  exact db_X15_scan_0 (dC := dC) (dI := dI) (a := a) (ac := ac) (n := n) (r := r) ⟨hlt, hx, hb, hml, hown, hts, hN, hA, hK⟩ (fun pc τ H locs ls d er hP hD hS => by subst er; exact W.vret hx hb hr (fun t ht hW => ⟨⟨(), rfl, trivial, by rw [ht]; exact hP, va_K.moved hW.alike hK, hD⟩, hS.F ht⟩) hS.2.2 d) n s0 _ _ _ h hP hD va_S.rf (lv_sub hl [0] rfl)
def ow_dm_X15_meet : List Cond := Cond.code yX15_meet cX15_meet 3 none :: ([Cond.fieldLink RX15 125 "TimeMachineModel$Conditions" "fault" "I"] ++ (u_ws RX15 TX15 28 ++ []))
theorem gd_dm_X15_meet : ∀ w ∈ ow_dm_X15_meet, (w.onTables && w.keeps) = true ∨ ∃ ty, w = Cond.arrayClass ty := List.forall_mem_cons.mpr ⟨good_of_word rfl, List.forall_mem_append.mpr ⟨fun w h => good_of_word (List.all_eq_true.mp (by decide +kernel) w h), List.forall_mem_append.mpr ⟨gu_X15, fun _ h => nomatch h⟩⟩⟩
theorem hi_dm_X15_meet_X15 : ∀ w ∈ u_ws RX15 TX15 28, w ∈ ow_dm_X15_meet := fun w h => List.mem_cons_of_mem _ (List.mem_append_right _ (List.mem_append_left _ h))
def dj_X15_meet_17 (p : Program) (l : Launch) (e : Env) (s : State) (m : MethodId) (args : Array Value) (below : List Frame) (meth : Method) (c : Code) (Q : State → Prop) (A : Nat → Prop) (dC : Nat → ClassId) (dI : Nat → Nat → Nat) (a : Nat → Nat) (ac : Nat → ClassId) (g : (St × (St × (St))) → Option (St × (St × (St)))) (r : St × (St × (St))) : Prop := ∀ (s0 : St × (St × (St))) (H : Heap) (locs : List Loc) (ls : Array Slot), g s0 = some r → va_P (dC, dI) vwCl (dw_X15 a ac s0) H → va_D A (dw_X15 a ac s0) → va_S A s.heap H locs → lv_has ls 3 [] → W p l e (headSpec ow_dm_X15_meet ({ frames := 0, cells := 0, slots := 0, locals := 0 })).room s m args below meth c H locs 0 0 Q (F0 m 17 ls [])
def dj_X15_meet_0 (p : Program) (l : Launch) (e : Env) (s : State) (m : MethodId) (args : Array Value) (below : List Frame) (meth : Method) (c : Code) (Q : State → Prop) (A : Nat → Prop) (dC : Nat → ClassId) (dI : Nat → Nat → Nat) (a : Nat → Nat) (ac : Nat → ClassId) (g : Int32 → Int32 → (St × (St × (St))) → Option (St × (St × (St)))) (r : St × (St × (St))) : Prop := ∀ (v0 : Int32) (v1 : Int32) (s0 : St × (St × (St))) (H : Heap) (locs : List Loc) (ls : Array Slot), g v0 v1 s0 = some r → va_P (dC, dI) vwCl (dw_X15 a ac s0) H → va_D A (dw_X15 a ac s0) → va_S A s.heap H locs → lv_has ls 3 [(0, .ref (a 0)), (1, .int v0), (2, .int v1)] → W p l e (headSpec ow_dm_X15_meet ({ frames := 0, cells := 0, slots := 0, locals := 0 })).room s m args below meth c H locs 0 0 Q (F0 m 0 ls [])
set_option maxHeartbeats 40000000 in
set_option maxRecDepth 100000 in
theorem db_X15_meet_17 {p : Program} {l : Launch} {e : Env} {s : State} {m : MethodId} {args : Array Value} {below : List Frame} {meth : Method} {c : Code} {Q : State → Prop} {A : Nat → Prop} {dC : Nat → ClassId} {dI : Nat → Nat → Nat} {a : Nat → Nat} {ac : Nat → ClassId} {n : Nat} {r : St × (St × (St))} (C : nd_C p l s m args c A (dC, dI) cX15_meet 3 RX15 ow_dm_X15_meet (dk_X15 ac)) (K : nd_Kv p l e (headSpec ow_dm_X15_meet ({ frames := 0, cells := 0, slots := 0, locals := 0 })).room s m args below meth c Q A (dC, dI) cX15_meet (St × (St × (St))) (dw_X15 a ac) r) : dj_X15_meet_17 p l e s m args below meth c Q A dC dI a ac (df_X15_meet_17 n) r := by
  obtain ⟨hlt, hx, hb, hml, hown, hts, hN, hA, hK⟩ := id C
  intro s0 H locs ls h hP hD hS hl
  unfold df_X15_meet_17 at h
  exact K _ _ _ _ _ dX15_meet_17 (Option.some.inj h).symm hP hD hS
set_option maxHeartbeats 40000000 in
set_option maxRecDepth 100000 in
theorem db_X15_meet_0 {p : Program} {l : Launch} {e : Env} {s : State} {m : MethodId} {args : Array Value} {below : List Frame} {meth : Method} {c : Code} {Q : State → Prop} {A : Nat → Prop} {dC : Nat → ClassId} {dI : Nat → Nat → Nat} {a : Nat → Nat} {ac : Nat → ClassId} {n : Nat} {r : St × (St × (St))} (C : nd_C p l s m args c A (dC, dI) cX15_meet 3 RX15 ow_dm_X15_meet (dk_X15 ac)) (K : nd_Kv p l e (headSpec ow_dm_X15_meet ({ frames := 0, cells := 0, slots := 0, locals := 0 })).room s m args below meth c Q A (dC, dI) cX15_meet (St × (St × (St))) (dw_X15 a ac) r) : dj_X15_meet_0 p l e s m args below meth c Q A dC dI a ac (df_X15_meet_0 n) r := by
  obtain ⟨hlt, hx, hb, hml, hown, hts, hN, hA, hK⟩ := id C
  intro v0 v1 s0 H locs ls h hP hD hS hl
  unfold df_X15_meet_0 at h
  refine lv_aload_n hx hb dX15_meet_0 rfl (lv_at hl 0 rfl) ?_
  refine va_get (D := (dC, dI)) (ci := 16) (v := .int (sI s0.1 6)) (C := RX15) (T := TX15) (N := 28) hx hb hts hi_dm_X15_meet_X15 hown hK hP 0 rfl rfl 14 (by decide) (hts (.fieldLink RX15 125 "TimeMachineModel$Conditions" "fault" "I") (List.mem_of_getElem? (i := 1) rfl)) (fun _ h9 => h9) rfl dX15_meet_1 ?_
  refine lv_if_ne (tgt := 17) hx hb dX15_meet_4 (by decide) (fun c1 => ?_) (fun c1 => ?_)
  · have h := nd_neg h c1
    exact (db_X15_meet_17 C K)  s0 _ _ _ h hP hD hS (lv_sub hl [] rfl)
  · have h := nd_pos h c1
    refine lv_aload_n hx hb dX15_meet_7 rfl (lv_at hl 0 rfl) ?_
    refine lv_iload_n hx hb dX15_meet_8 rfl (lv_at hl 1 rfl) ?_
    refine lv_bipush (v := 8) hx hb dX15_meet_9 (by decide) ?_
    refine lv_iload_n hx hb dX15_meet_11 rfl (lv_at hl 2 rfl) ?_
    refine lv_imul hx hb dX15_meet_12 ?_
    refine lv_iadd hx hb dX15_meet_13 ?_
    refine va_put (D := (dC, dI)) (ci := 16) (v := .int (v0 + (8 * v1))) (ty := .int) (C := RX15) (T := TX15) (N := 28) hx hb hts hi_dm_X15_meet_X15 tyX15 tyX15_ok nmX15 hown hK hP hD hS 0 rfl rfl 14 (by decide) (hts (.fieldLink RX15 125 "TimeMachineModel$Conditions" "fault" "I") (List.mem_of_getElem? (i := 1) rfl)) (fun _ h9 => h9) rfl (by decide +kernel) rfl rfl (Nat.le_of_ble_eq_true rfl) dX15_meet_14 (fun H locs hP hD hS => ?_)
    obtain ⟨s2, es2, h⟩ := nd_let_e h
    have hP : va_P (dC, dI) vwCl (dw_X15 a ac s2) H := by rw [es2]; exact hP
    have hD : va_D A (dw_X15 a ac s2) := by rw [es2]; exact hD
    exact (db_X15_meet_17 C K)  s2 _ _ _ h hP hD hS (lv_sub hl [] rfl)
set_option maxHeartbeats 40000000 in
set_option maxRecDepth 100000 in
theorem dm_X15_meet (l : Launch) (hlt : l.stackTraces = false) (dC : Nat → ClassId) (dI : Nat → Nat → Nat) (a : Nat → Nat) (ac : Nat → ClassId) (n : Nat) (v0 : Int32) (v1 : Int32) (s0 : St × (St × (St))) {r : St × (St × (St))} (h : df_X15_meet n v0 v1 s0 = some r) (sz : Nat) : Met l yX15_meet ow_dm_X15_meet ({ frames := 0, cells := 0, slots := 0, locals := 0 }) (va_Pc [.ref (a 0), .int v0, .int v1] (fun U => U.heap.size = sz ∧ va_P (dC, dI) vwCl (dw_X15 a ac s0) U.heap ∧ va_K (dC, dI) vwCl (dk_X15 ac) U ∧ va_D (fun _ => True) (dw_X15 a ac s0) ∧ nv_E dI (va_A (dw_X15 a ac s0) sz) U)) (va_Qv (fun _ => True) (fun (_ : Unit) t => va_P (dC, dI) vwCl (dw_X15 a ac r) t.heap ∧ va_K (dC, dI) vwCl (dk_X15 ac) t ∧ va_D (va_A (dw_X15 a ac s0) sz) (dw_X15 a ac r)) (va_A (dw_X15 a ac s0) sz)) 0 0 (va_A (dw_X15 a ac s0) sz) := by
  refine Met.ofW (cc := cX15_meet) (maxL := 3) (ret := none) (by decide) rfl ?_
  intro p e s m args below meth c s₁ B hml hv
  obtain ⟨rfl, hsz, hP, hK, hD0, hN⟩ := hv
  have hx := B.exec
  have hb := B.bytes
  have hr := B.returns
  have hts := atoms_spec (ws := ow_dm_X15_meet) B.pre
  have hown : s.vm.findClass RX15 = some m.cls := findClass_of_methodNamed B.named
  have hlocks := B.notSynchronized
  subst hsz
  have hD := hD0.self (sz := s.heap.size)
  generalize hAe : va_A (dw_X15 a ac s0) s.heap.size = A at hD hN ⊢
  have hA : ∀ q : Nat, s.heap.size ≤ q → A q := fun q h => by rw [← hAe]; exact Or.inr h
  have hl := lv_entry ([.ref (a 0), .int v0, .int v1]) (n := 3) (Nat.le_of_ble_eq_true rfl)
  rw [lg_entry_eq]
  generalize (lg_sl ([.ref (a 0), .int v0, .int v1]) ++ List.replicate (3 - (lg_sl ([.ref (a 0), .int v0, .int v1])).length) Slot.unset).toArray = ls at hl ⊢
  have hl : lv_has ls 3 [(0, .ref (a 0)), (1, .int v0), (2, .int v1)] := hl
  exact db_X15_meet_0 (dC := dC) (dI := dI) (a := a) (ac := ac) (n := n) (r := r) ⟨hlt, hx, hb, hml, hown, hts, hN, hA, hK⟩ (fun pc τ H locs ls d er hP hD hS => by subst er; exact W.vret hx hb hr (fun t ht hW => ⟨⟨(), rfl, trivial, by rw [ht]; exact hP, va_K.moved hW.alike hK, hD⟩, hS.F ht⟩) hS.2.2 d) v0 v1 s0 _ _ _ h hP hD va_S.rf (lv_sub hl [0, 1, 2] rfl)
def ow_dm_X15_begins : List Cond := Cond.code yX15_begins cX15_begins 1 (some .boolean) :: ([] ++ [])
theorem gd_dm_X15_begins : ∀ w ∈ ow_dm_X15_begins, (w.onTables && w.keeps) = true ∨ ∃ ty, w = Cond.arrayClass ty := List.forall_mem_cons.mpr ⟨good_of_word rfl, List.forall_mem_append.mpr ⟨fun w h => good_of_word (List.all_eq_true.mp (by decide +kernel) w h), fun _ h => nomatch h⟩⟩
def dj_X15_begins_41 (p : Program) (l : Launch) (e : Env) (s : State) (m : MethodId) (args : Array Value) (below : List Frame) (meth : Method) (c : Code) (Q : State → Prop) (A : Nat → Prop) (dC : Nat → ClassId) (dI : Nat → Nat → Nat) (a : Nat → Nat) (ac : Nat → ClassId) (g : Int32 → (Unit) → Option (Int32 × (Unit))) (r : Int32 × (Unit)) : Prop := ∀ (y0 : Int32) (s0 : Unit) (H : Heap) (locs : List Loc) (ls : Array Slot), g y0 s0 = some r → va_P (dC, dI) vwCl (dw_P a ac s0) H → va_D A (dw_P a ac s0) → va_S A s.heap H locs → lv_has ls 1 [] → W p l e (headSpec ow_dm_X15_begins ({ frames := 0, cells := 0, slots := 0, locals := 0 })).room s m args below meth c H locs 0 0 Q (F0 m 41 ls [.int y0])
def dj_X15_begins_36 (p : Program) (l : Launch) (e : Env) (s : State) (m : MethodId) (args : Array Value) (below : List Frame) (meth : Method) (c : Code) (Q : State → Prop) (A : Nat → Prop) (dC : Nat → ClassId) (dI : Nat → Nat → Nat) (a : Nat → Nat) (ac : Nat → ClassId) (g : (Unit) → Option (Int32 × (Unit))) (r : Int32 × (Unit)) : Prop := ∀ (s0 : Unit) (H : Heap) (locs : List Loc) (ls : Array Slot), g s0 = some r → va_P (dC, dI) vwCl (dw_P a ac s0) H → va_D A (dw_P a ac s0) → va_S A s.heap H locs → lv_has ls 1 [] → W p l e (headSpec ow_dm_X15_begins ({ frames := 0, cells := 0, slots := 0, locals := 0 })).room s m args below meth c H locs 0 0 Q (F0 m 36 ls [])
def dj_X15_begins_0 (p : Program) (l : Launch) (e : Env) (s : State) (m : MethodId) (args : Array Value) (below : List Frame) (meth : Method) (c : Code) (Q : State → Prop) (A : Nat → Prop) (dC : Nat → ClassId) (dI : Nat → Nat → Nat) (a : Nat → Nat) (ac : Nat → ClassId) (g : Int32 → (Unit) → Option (Int32 × (Unit))) (r : Int32 × (Unit)) : Prop := ∀ (v0 : Int32) (s0 : Unit) (H : Heap) (locs : List Loc) (ls : Array Slot), g v0 s0 = some r → va_P (dC, dI) vwCl (dw_P a ac s0) H → va_D A (dw_P a ac s0) → va_S A s.heap H locs → lv_has ls 1 [(0, .int v0)] → W p l e (headSpec ow_dm_X15_begins ({ frames := 0, cells := 0, slots := 0, locals := 0 })).room s m args below meth c H locs 0 0 Q (F0 m 0 ls [])
set_option maxHeartbeats 40000000 in
set_option maxRecDepth 100000 in
theorem db_X15_begins_41 {p : Program} {l : Launch} {e : Env} {s : State} {m : MethodId} {args : Array Value} {below : List Frame} {meth : Method} {c : Code} {Q : State → Prop} {A : Nat → Prop} {dC : Nat → ClassId} {dI : Nat → Nat → Nat} {a : Nat → Nat} {ac : Nat → ClassId} {n : Nat} {r : Int32 × (Unit)} (C : nd_C p l s m args c A (dC, dI) cX15_begins 1 RX15 ow_dm_X15_begins (dk_P ac)) (K : nd_Ki p l e (headSpec ow_dm_X15_begins ({ frames := 0, cells := 0, slots := 0, locals := 0 })).room s m args below meth c Q A (dC, dI) cX15_begins .boolean (Unit) (dw_P a ac) r) : dj_X15_begins_41 p l e s m args below meth c Q A dC dI a ac (df_X15_begins_41 n) r := by
  obtain ⟨hlt, hx, hb, hml, hown, hts, hN, hA, hK⟩ := id C
  intro y0 s0 H locs ls h hP hD hS hl
  unfold df_X15_begins_41 at h
  obtain ⟨n2, h⟩ := nd_z_e ⟨_, rfl⟩ h
  exact K _ _ _ _ _ _ dX15_begins_41 n2 (Option.some.inj h).symm hP hD hS
set_option maxHeartbeats 40000000 in
set_option maxRecDepth 100000 in
theorem db_X15_begins_36 {p : Program} {l : Launch} {e : Env} {s : State} {m : MethodId} {args : Array Value} {below : List Frame} {meth : Method} {c : Code} {Q : State → Prop} {A : Nat → Prop} {dC : Nat → ClassId} {dI : Nat → Nat → Nat} {a : Nat → Nat} {ac : Nat → ClassId} {n : Nat} {r : Int32 × (Unit)} (C : nd_C p l s m args c A (dC, dI) cX15_begins 1 RX15 ow_dm_X15_begins (dk_P ac)) (K : nd_Ki p l e (headSpec ow_dm_X15_begins ({ frames := 0, cells := 0, slots := 0, locals := 0 })).room s m args below meth c Q A (dC, dI) cX15_begins .boolean (Unit) (dw_P a ac) r) : dj_X15_begins_36 p l e s m args below meth c Q A dC dI a ac (df_X15_begins_36 n) r := by
  obtain ⟨hlt, hx, hb, hml, hown, hts, hN, hA, hK⟩ := id C
  intro s0 H locs ls h hP hD hS hl
  unfold df_X15_begins_36 at h
  refine lv_iconst (v := 1) hx hb dX15_begins_36 (by decide) ?_
  refine lv_goto (tgt := 41) hx hb dX15_begins_37 (by decide) ?_
  exact (db_X15_begins_41 C K) (1) s0 _ _ _ h hP hD hS (lv_sub hl [] rfl)
set_option maxHeartbeats 40000000 in
set_option maxRecDepth 100000 in
theorem db_X15_begins_0 {p : Program} {l : Launch} {e : Env} {s : State} {m : MethodId} {args : Array Value} {below : List Frame} {meth : Method} {c : Code} {Q : State → Prop} {A : Nat → Prop} {dC : Nat → ClassId} {dI : Nat → Nat → Nat} {a : Nat → Nat} {ac : Nat → ClassId} {n : Nat} {r : Int32 × (Unit)} (C : nd_C p l s m args c A (dC, dI) cX15_begins 1 RX15 ow_dm_X15_begins (dk_P ac)) (K : nd_Ki p l e (headSpec ow_dm_X15_begins ({ frames := 0, cells := 0, slots := 0, locals := 0 })).room s m args below meth c Q A (dC, dI) cX15_begins .boolean (Unit) (dw_P a ac) r) : dj_X15_begins_0 p l e s m args below meth c Q A dC dI a ac (df_X15_begins_0 n) r := by
  obtain ⟨hlt, hx, hb, hml, hown, hts, hN, hA, hK⟩ := id C
  intro v0 s0 H locs ls h hP hD hS hl
  unfold df_X15_begins_0 at h
  refine lv_iload_n hx hb dX15_begins_0 rfl (lv_at hl 0 rfl) ?_
  refine lv_bipush (v := 10) hx hb dX15_begins_1 (by decide) ?_
  refine lv_icmp_lt (tgt := 36) hx hb dX15_begins_3 (by decide) (fun c1 => ?_) (fun c1 => ?_)
  · have h := nd_pos h c1
    exact (db_X15_begins_36 C K)  s0 _ _ _ h hP hD hS (lv_sub hl [] rfl)
  · have h := nd_neg h c1
    refine lv_iload_n hx hb dX15_begins_6 rfl (lv_at hl 0 rfl) ?_
    refine lv_bipush (v := 24) hx hb dX15_begins_7 (by decide) ?_
    refine lv_icmp_eq (tgt := 36) hx hb dX15_begins_9 (by decide) (fun c3 => ?_) (fun c3 => ?_)
    · have h := nd_pos h c3
      exact (db_X15_begins_36 C K)  s0 _ _ _ h hP hD hS (lv_sub hl [] rfl)
    · have h := nd_neg h c3
      refine lv_iload_n hx hb dX15_begins_12 rfl (lv_at hl 0 rfl) ?_
      refine lv_bipush (v := 28) hx hb dX15_begins_13 (by decide) ?_
      refine lv_icmp_eq (tgt := 36) hx hb dX15_begins_15 (by decide) (fun c4 => ?_) (fun c4 => ?_)
      · have h := nd_pos h c4
        exact (db_X15_begins_36 C K)  s0 _ _ _ h hP hD hS (lv_sub hl [] rfl)
      · have h := nd_neg h c4
        refine lv_iload_n hx hb dX15_begins_18 rfl (lv_at hl 0 rfl) ?_
        refine lv_bipush (v := 29) hx hb dX15_begins_19 (by decide) ?_
        refine lv_icmp_eq (tgt := 36) hx hb dX15_begins_21 (by decide) (fun c5 => ?_) (fun c5 => ?_)
        · have h := nd_pos h c5
          exact (db_X15_begins_36 C K)  s0 _ _ _ h hP hD hS (lv_sub hl [] rfl)
        · have h := nd_neg h c5
          refine lv_iload_n hx hb dX15_begins_24 rfl (lv_at hl 0 rfl) ?_
          refine lv_bipush (v := 30) hx hb dX15_begins_25 (by decide) ?_
          refine lv_icmp_eq (tgt := 36) hx hb dX15_begins_27 (by decide) (fun c6 => ?_) (fun c6 => ?_)
          · have h := nd_pos h c6
            exact (db_X15_begins_36 C K)  s0 _ _ _ h hP hD hS (lv_sub hl [] rfl)
          · have h := nd_neg h c6
            refine lv_iload_n hx hb dX15_begins_30 rfl (lv_at hl 0 rfl) ?_
            refine lv_bipush (v := 32) hx hb dX15_begins_31 (by decide) ?_
            refine lv_icmp_ne (tgt := 40) hx hb dX15_begins_33 (by decide) (fun c7 => ?_) (fun c7 => ?_)
            · have h := nd_neg h c7
              refine lv_iconst (v := 0) hx hb dX15_begins_40 (by decide) ?_
              exact (db_X15_begins_41 C K) (0) s0 _ _ _ h hP hD hS (lv_sub hl [] rfl)
            · have h := nd_pos h c7
              exact (db_X15_begins_36 C K)  s0 _ _ _ h hP hD hS (lv_sub hl [] rfl)
set_option maxHeartbeats 40000000 in
set_option maxRecDepth 100000 in
theorem dm_X15_begins (l : Launch) (hlt : l.stackTraces = false) (dC : Nat → ClassId) (dI : Nat → Nat → Nat) (a : Nat → Nat) (ac : Nat → ClassId) (n : Nat) (v0 : Int32) (s0 : Unit) {r : Int32 × (Unit)} (h : df_X15_begins n v0 s0 = some r) (sz : Nat) : Met l yX15_begins ow_dm_X15_begins ({ frames := 0, cells := 0, slots := 0, locals := 0 }) (va_Pc [.int v0] (fun U => U.heap.size = sz ∧ va_P (dC, dI) vwCl (dw_P a ac s0) U.heap ∧ va_K (dC, dI) vwCl (dk_P ac) U ∧ va_D (fun _ => True) (dw_P a ac s0) ∧ nv_E dI (va_A (dw_P a ac s0) sz) U)) (va_Qi (fun x _ => x = r.1) (fun (_ : Unit) t => va_P (dC, dI) vwCl (dw_P a ac r.2) t.heap ∧ va_K (dC, dI) vwCl (dk_P ac) t ∧ va_D (va_A (dw_P a ac s0) sz) (dw_P a ac r.2)) (va_A (dw_P a ac s0) sz)) 0 0 (va_A (dw_P a ac s0) sz) := by
  refine Met.ofW (cc := cX15_begins) (maxL := 1) (ret := (some .boolean)) (by decide) rfl ?_
  intro p e s m args below meth c s₁ B hml hv
  obtain ⟨rfl, hsz, hP, hK, hD0, hN⟩ := hv
  have hx := B.exec
  have hb := B.bytes
  have hr := B.returns
  have hts := atoms_spec (ws := ow_dm_X15_begins) B.pre
  have hown : s.vm.findClass RX15 = some m.cls := findClass_of_methodNamed B.named
  have hlocks := B.notSynchronized
  subst hsz
  have hD := hD0.self (sz := s.heap.size)
  generalize hAe : va_A (dw_P a ac s0) s.heap.size = A at hD hN ⊢
  have hA : ∀ q : Nat, s.heap.size ≤ q → A q := fun q h => by rw [← hAe]; exact Or.inr h
  have hl := lv_entry ([.int v0]) (n := 1) (Nat.le_of_ble_eq_true rfl)
  rw [lg_entry_eq]
  generalize (lg_sl ([.int v0]) ++ List.replicate (1 - (lg_sl ([.int v0])).length) Slot.unset).toArray = ls at hl ⊢
  have hl : lv_has ls 1 [(0, .int v0)] := hl
  exact db_X15_begins_0 (dC := dC) (dI := dI) (a := a) (ac := ac) (n := n) (r := r) ⟨hlt, hx, hb, hml, hown, hts, hN, hA, hK⟩ (fun pc v τ H locs ls d z er hP hD hS => by subst er; exact W.zret (v := v) hx hb hr z (fun t ht hW => ⟨⟨v, (), rfl, rfl, by rw [ht]; exact hP, va_K.moved hW.alike hK, hD⟩, hS.F ht⟩) hS.2.2 d) v0 s0 _ _ _ h hP hD va_S.rf (lv_sub hl [0] rfl)
def ow_dm_X15_isBetween : List Cond := Cond.code yX15_isBetween cX15_isBetween 1 (some .boolean) :: ([] ++ [])
theorem gd_dm_X15_isBetween : ∀ w ∈ ow_dm_X15_isBetween, (w.onTables && w.keeps) = true ∨ ∃ ty, w = Cond.arrayClass ty := List.forall_mem_cons.mpr ⟨good_of_word rfl, List.forall_mem_append.mpr ⟨fun w h => good_of_word (List.all_eq_true.mp (by decide +kernel) w h), fun _ h => nomatch h⟩⟩
def dj_X15_isBetween_17 (p : Program) (l : Launch) (e : Env) (s : State) (m : MethodId) (args : Array Value) (below : List Frame) (meth : Method) (c : Code) (Q : State → Prop) (A : Nat → Prop) (dC : Nat → ClassId) (dI : Nat → Nat → Nat) (a : Nat → Nat) (ac : Nat → ClassId) (g : Int32 → (Unit) → Option (Int32 × (Unit))) (r : Int32 × (Unit)) : Prop := ∀ (y0 : Int32) (s0 : Unit) (H : Heap) (locs : List Loc) (ls : Array Slot), g y0 s0 = some r → va_P (dC, dI) vwCl (dw_P a ac s0) H → va_D A (dw_P a ac s0) → va_S A s.heap H locs → lv_has ls 1 [] → W p l e (headSpec ow_dm_X15_isBetween ({ frames := 0, cells := 0, slots := 0, locals := 0 })).room s m args below meth c H locs 0 0 Q (F0 m 17 ls [.int y0])
def dj_X15_isBetween_16 (p : Program) (l : Launch) (e : Env) (s : State) (m : MethodId) (args : Array Value) (below : List Frame) (meth : Method) (c : Code) (Q : State → Prop) (A : Nat → Prop) (dC : Nat → ClassId) (dI : Nat → Nat → Nat) (a : Nat → Nat) (ac : Nat → ClassId) (g : (Unit) → Option (Int32 × (Unit))) (r : Int32 × (Unit)) : Prop := ∀ (s0 : Unit) (H : Heap) (locs : List Loc) (ls : Array Slot), g s0 = some r → va_P (dC, dI) vwCl (dw_P a ac s0) H → va_D A (dw_P a ac s0) → va_S A s.heap H locs → lv_has ls 1 [] → W p l e (headSpec ow_dm_X15_isBetween ({ frames := 0, cells := 0, slots := 0, locals := 0 })).room s m args below meth c H locs 0 0 Q (F0 m 16 ls [])
def dj_X15_isBetween_0 (p : Program) (l : Launch) (e : Env) (s : State) (m : MethodId) (args : Array Value) (below : List Frame) (meth : Method) (c : Code) (Q : State → Prop) (A : Nat → Prop) (dC : Nat → ClassId) (dI : Nat → Nat → Nat) (a : Nat → Nat) (ac : Nat → ClassId) (g : Int32 → (Unit) → Option (Int32 × (Unit))) (r : Int32 × (Unit)) : Prop := ∀ (v0 : Int32) (s0 : Unit) (H : Heap) (locs : List Loc) (ls : Array Slot), g v0 s0 = some r → va_P (dC, dI) vwCl (dw_P a ac s0) H → va_D A (dw_P a ac s0) → va_S A s.heap H locs → lv_has ls 1 [(0, .int v0)] → W p l e (headSpec ow_dm_X15_isBetween ({ frames := 0, cells := 0, slots := 0, locals := 0 })).room s m args below meth c H locs 0 0 Q (F0 m 0 ls [])
set_option maxHeartbeats 40000000 in
set_option maxRecDepth 100000 in
theorem db_X15_isBetween_17 {p : Program} {l : Launch} {e : Env} {s : State} {m : MethodId} {args : Array Value} {below : List Frame} {meth : Method} {c : Code} {Q : State → Prop} {A : Nat → Prop} {dC : Nat → ClassId} {dI : Nat → Nat → Nat} {a : Nat → Nat} {ac : Nat → ClassId} {n : Nat} {r : Int32 × (Unit)} (C : nd_C p l s m args c A (dC, dI) cX15_isBetween 1 RX15 ow_dm_X15_isBetween (dk_P ac)) (K : nd_Ki p l e (headSpec ow_dm_X15_isBetween ({ frames := 0, cells := 0, slots := 0, locals := 0 })).room s m args below meth c Q A (dC, dI) cX15_isBetween .boolean (Unit) (dw_P a ac) r) : dj_X15_isBetween_17 p l e s m args below meth c Q A dC dI a ac (df_X15_isBetween_17 n) r := by
  obtain ⟨hlt, hx, hb, hml, hown, hts, hN, hA, hK⟩ := id C
  intro y0 s0 H locs ls h hP hD hS hl
  unfold df_X15_isBetween_17 at h
  obtain ⟨n2, h⟩ := nd_z_e ⟨_, rfl⟩ h
  exact K _ _ _ _ _ _ dX15_isBetween_17 n2 (Option.some.inj h).symm hP hD hS
set_option maxHeartbeats 40000000 in
set_option maxRecDepth 100000 in
theorem db_X15_isBetween_16 {p : Program} {l : Launch} {e : Env} {s : State} {m : MethodId} {args : Array Value} {below : List Frame} {meth : Method} {c : Code} {Q : State → Prop} {A : Nat → Prop} {dC : Nat → ClassId} {dI : Nat → Nat → Nat} {a : Nat → Nat} {ac : Nat → ClassId} {n : Nat} {r : Int32 × (Unit)} (C : nd_C p l s m args c A (dC, dI) cX15_isBetween 1 RX15 ow_dm_X15_isBetween (dk_P ac)) (K : nd_Ki p l e (headSpec ow_dm_X15_isBetween ({ frames := 0, cells := 0, slots := 0, locals := 0 })).room s m args below meth c Q A (dC, dI) cX15_isBetween .boolean (Unit) (dw_P a ac) r) : dj_X15_isBetween_16 p l e s m args below meth c Q A dC dI a ac (df_X15_isBetween_16 n) r := by
  obtain ⟨hlt, hx, hb, hml, hown, hts, hN, hA, hK⟩ := id C
  intro s0 H locs ls h hP hD hS hl
  unfold df_X15_isBetween_16 at h
  refine lv_iconst (v := 0) hx hb dX15_isBetween_16 (by decide) ?_
  exact (db_X15_isBetween_17 C K) (0) s0 _ _ _ h hP hD hS (lv_sub hl [] rfl)
set_option maxHeartbeats 40000000 in
set_option maxRecDepth 100000 in
theorem db_X15_isBetween_0 {p : Program} {l : Launch} {e : Env} {s : State} {m : MethodId} {args : Array Value} {below : List Frame} {meth : Method} {c : Code} {Q : State → Prop} {A : Nat → Prop} {dC : Nat → ClassId} {dI : Nat → Nat → Nat} {a : Nat → Nat} {ac : Nat → ClassId} {n : Nat} {r : Int32 × (Unit)} (C : nd_C p l s m args c A (dC, dI) cX15_isBetween 1 RX15 ow_dm_X15_isBetween (dk_P ac)) (K : nd_Ki p l e (headSpec ow_dm_X15_isBetween ({ frames := 0, cells := 0, slots := 0, locals := 0 })).room s m args below meth c Q A (dC, dI) cX15_isBetween .boolean (Unit) (dw_P a ac) r) : dj_X15_isBetween_0 p l e s m args below meth c Q A dC dI a ac (df_X15_isBetween_0 n) r := by
  obtain ⟨hlt, hx, hb, hml, hown, hts, hN, hA, hK⟩ := id C
  intro v0 s0 H locs ls h hP hD hS hl
  unfold df_X15_isBetween_0 at h
  refine lv_iload_n hx hb dX15_isBetween_0 rfl (lv_at hl 0 rfl) ?_
  refine lv_bipush (v := 10) hx hb dX15_isBetween_1 (by decide) ?_
  refine lv_icmp_lt (tgt := 16) hx hb dX15_isBetween_3 (by decide) (fun c1 => ?_) (fun c1 => ?_)
  · have h := nd_pos h c1
    exact (db_X15_isBetween_16 C K)  s0 _ _ _ h hP hD hS (lv_sub hl [] rfl)
  · have h := nd_neg h c1
    refine lv_iload_n hx hb dX15_isBetween_6 rfl (lv_at hl 0 rfl) ?_
    refine lv_bipush (v := 27) hx hb dX15_isBetween_7 (by decide) ?_
    refine lv_icmp_gt (tgt := 16) hx hb dX15_isBetween_9 (by decide) (fun c3 => ?_) (fun c3 => ?_)
    · have h := nd_pos h c3
      exact (db_X15_isBetween_16 C K)  s0 _ _ _ h hP hD hS (lv_sub hl [] rfl)
    · have h := nd_neg h c3
      refine lv_iconst (v := 1) hx hb dX15_isBetween_12 (by decide) ?_
      refine lv_goto (tgt := 17) hx hb dX15_isBetween_13 (by decide) ?_
      exact (db_X15_isBetween_17 C K) (1) s0 _ _ _ h hP hD hS (lv_sub hl [] rfl)
set_option maxHeartbeats 40000000 in
set_option maxRecDepth 100000 in
theorem dm_X15_isBetween (l : Launch) (hlt : l.stackTraces = false) (dC : Nat → ClassId) (dI : Nat → Nat → Nat) (a : Nat → Nat) (ac : Nat → ClassId) (n : Nat) (v0 : Int32) (s0 : Unit) {r : Int32 × (Unit)} (h : df_X15_isBetween n v0 s0 = some r) (sz : Nat) : Met l yX15_isBetween ow_dm_X15_isBetween ({ frames := 0, cells := 0, slots := 0, locals := 0 }) (va_Pc [.int v0] (fun U => U.heap.size = sz ∧ va_P (dC, dI) vwCl (dw_P a ac s0) U.heap ∧ va_K (dC, dI) vwCl (dk_P ac) U ∧ va_D (fun _ => True) (dw_P a ac s0) ∧ nv_E dI (va_A (dw_P a ac s0) sz) U)) (va_Qi (fun x _ => x = r.1) (fun (_ : Unit) t => va_P (dC, dI) vwCl (dw_P a ac r.2) t.heap ∧ va_K (dC, dI) vwCl (dk_P ac) t ∧ va_D (va_A (dw_P a ac s0) sz) (dw_P a ac r.2)) (va_A (dw_P a ac s0) sz)) 0 0 (va_A (dw_P a ac s0) sz) := by
  refine Met.ofW (cc := cX15_isBetween) (maxL := 1) (ret := (some .boolean)) (by decide) rfl ?_
  intro p e s m args below meth c s₁ B hml hv
  obtain ⟨rfl, hsz, hP, hK, hD0, hN⟩ := hv
  have hx := B.exec
  have hb := B.bytes
  have hr := B.returns
  have hts := atoms_spec (ws := ow_dm_X15_isBetween) B.pre
  have hown : s.vm.findClass RX15 = some m.cls := findClass_of_methodNamed B.named
  have hlocks := B.notSynchronized
  subst hsz
  have hD := hD0.self (sz := s.heap.size)
  generalize hAe : va_A (dw_P a ac s0) s.heap.size = A at hD hN ⊢
  have hA : ∀ q : Nat, s.heap.size ≤ q → A q := fun q h => by rw [← hAe]; exact Or.inr h
  have hl := lv_entry ([.int v0]) (n := 1) (Nat.le_of_ble_eq_true rfl)
  rw [lg_entry_eq]
  generalize (lg_sl ([.int v0]) ++ List.replicate (1 - (lg_sl ([.int v0])).length) Slot.unset).toArray = ls at hl ⊢
  have hl : lv_has ls 1 [(0, .int v0)] := hl
  exact db_X15_isBetween_0 (dC := dC) (dI := dI) (a := a) (ac := ac) (n := n) (r := r) ⟨hlt, hx, hb, hml, hown, hts, hN, hA, hK⟩ (fun pc v τ H locs ls d z er hP hD hS => by subst er; exact W.zret (v := v) hx hb hr z (fun t ht hW => ⟨⟨v, (), rfl, rfl, by rw [ht]; exact hP, va_K.moved hW.alike hK, hD⟩, hS.F ht⟩) hS.2.2 d) v0 s0 _ _ _ h hP hD va_S.rf (lv_sub hl [0] rfl)
def ow_dm_X15_remembers : List Cond := Cond.code yX15_remembers cX15_remembers 3 (some .boolean) :: ([Cond.fieldLink RX15 128 "TimeMachineModel$Conditions" "opened" "I", Cond.fieldLink RX15 40 "TimeMachineModel$Conditions" "openAt" "[I", Cond.fieldLink RX15 34 "TimeMachineModel$Conditions" "newKind" "[I"] ++ (u_ws RX15 TX15 28 ++ []))
theorem gd_dm_X15_remembers : ∀ w ∈ ow_dm_X15_remembers, (w.onTables && w.keeps) = true ∨ ∃ ty, w = Cond.arrayClass ty := List.forall_mem_cons.mpr ⟨good_of_word rfl, List.forall_mem_append.mpr ⟨fun w h => good_of_word (List.all_eq_true.mp (by decide +kernel) w h), List.forall_mem_append.mpr ⟨gu_X15, fun _ h => nomatch h⟩⟩⟩
theorem hi_dm_X15_remembers_X15 : ∀ w ∈ u_ws RX15 TX15 28, w ∈ ow_dm_X15_remembers := fun w h => List.mem_cons_of_mem _ (List.mem_append_right _ (List.mem_append_left _ h))
def dj_X15_remembers_66 (p : Program) (l : Launch) (e : Env) (s : State) (m : MethodId) (args : Array Value) (below : List Frame) (meth : Method) (c : Code) (Q : State → Prop) (A : Nat → Prop) (dC : Nat → ClassId) (dI : Nat → Nat → Nat) (a : Nat → Nat) (ac : Nat → ClassId) (g : Int32 → Int32 → (St × (St × (St))) → Option (Int32 × (St × (St × (St))))) (r : Int32 × (St × (St × (St)))) : Prop := ∀ (x2 : Int32) (y0 : Int32) (s0 : St × (St × (St))) (H : Heap) (locs : List Loc) (ls : Array Slot), g x2 y0 s0 = some r → va_P (dC, dI) vwCl (dw_X15 a ac s0) H → va_D A (dw_X15 a ac s0) → va_S A s.heap H locs → lv_has ls 3 [(0, .ref (a 0)), (2, .int x2)] → W p l e (headSpec ow_dm_X15_remembers ({ frames := 0, cells := 0, slots := 0, locals := 0 })).room s m args below meth c H locs 0 0 Q (F0 m 66 ls [.int y0])
def dj_X15_remembers_61 (p : Program) (l : Launch) (e : Env) (s : State) (m : MethodId) (args : Array Value) (below : List Frame) (meth : Method) (c : Code) (Q : State → Prop) (A : Nat → Prop) (dC : Nat → ClassId) (dI : Nat → Nat → Nat) (a : Nat → Nat) (ac : Nat → ClassId) (g : Int32 → (St × (St × (St))) → Option (Int32 × (St × (St × (St))))) (r : Int32 × (St × (St × (St)))) : Prop := ∀ (x2 : Int32) (s0 : St × (St × (St))) (H : Heap) (locs : List Loc) (ls : Array Slot), g x2 s0 = some r → va_P (dC, dI) vwCl (dw_X15 a ac s0) H → va_D A (dw_X15 a ac s0) → va_S A s.heap H locs → lv_has ls 3 [(0, .ref (a 0)), (2, .int x2)] → W p l e (headSpec ow_dm_X15_remembers ({ frames := 0, cells := 0, slots := 0, locals := 0 })).room s m args below meth c H locs 0 0 Q (F0 m 61 ls [])
def dj_X15_remembers_65 (p : Program) (l : Launch) (e : Env) (s : State) (m : MethodId) (args : Array Value) (below : List Frame) (meth : Method) (c : Code) (Q : State → Prop) (A : Nat → Prop) (dC : Nat → ClassId) (dI : Nat → Nat → Nat) (a : Nat → Nat) (ac : Nat → ClassId) (g : Int32 → (St × (St × (St))) → Option (Int32 × (St × (St × (St))))) (r : Int32 × (St × (St × (St)))) : Prop := ∀ (x2 : Int32) (s0 : St × (St × (St))) (H : Heap) (locs : List Loc) (ls : Array Slot), g x2 s0 = some r → va_P (dC, dI) vwCl (dw_X15 a ac s0) H → va_D A (dw_X15 a ac s0) → va_S A s.heap H locs → lv_has ls 3 [(0, .ref (a 0)), (2, .int x2)] → W p l e (headSpec ow_dm_X15_remembers ({ frames := 0, cells := 0, slots := 0, locals := 0 })).room s m args below meth c H locs 0 0 Q (F0 m 65 ls [])
def dj_X15_remembers_4 (p : Program) (l : Launch) (e : Env) (s : State) (m : MethodId) (args : Array Value) (below : List Frame) (meth : Method) (c : Code) (Q : State → Prop) (A : Nat → Prop) (dC : Nat → ClassId) (dI : Nat → Nat → Nat) (a : Nat → Nat) (ac : Nat → ClassId) (g : Int32 → Int32 → (St × (St × (St))) → Option (Int32 × (St × (St × (St))))) (r : Int32 × (St × (St × (St)))) : Prop := ∀ (x1 : Int32) (x2 : Int32) (s0 : St × (St × (St))) (H : Heap) (locs : List Loc) (ls : Array Slot), g x1 x2 s0 = some r → va_P (dC, dI) vwCl (dw_X15 a ac s0) H → va_D A (dw_X15 a ac s0) → va_S A s.heap H locs → lv_has ls 3 [(0, .ref (a 0)), (1, .int x1), (2, .int x2)] → W p l e (headSpec ow_dm_X15_remembers ({ frames := 0, cells := 0, slots := 0, locals := 0 })).room s m args below meth c H locs 0 0 Q (F0 m 4 ls [])
def dj_X15_remembers_0 (p : Program) (l : Launch) (e : Env) (s : State) (m : MethodId) (args : Array Value) (below : List Frame) (meth : Method) (c : Code) (Q : State → Prop) (A : Nat → Prop) (dC : Nat → ClassId) (dI : Nat → Nat → Nat) (a : Nat → Nat) (ac : Nat → ClassId) (g : (St × (St × (St))) → Option (Int32 × (St × (St × (St))))) (r : Int32 × (St × (St × (St)))) : Prop := ∀ (s0 : St × (St × (St))) (H : Heap) (locs : List Loc) (ls : Array Slot), g s0 = some r → va_P (dC, dI) vwCl (dw_X15 a ac s0) H → va_D A (dw_X15 a ac s0) → va_S A s.heap H locs → lv_has ls 3 [(0, .ref (a 0))] → W p l e (headSpec ow_dm_X15_remembers ({ frames := 0, cells := 0, slots := 0, locals := 0 })).room s m args below meth c H locs 0 0 Q (F0 m 0 ls [])
set_option maxHeartbeats 40000000 in
set_option maxRecDepth 100000 in
theorem db_X15_remembers_66 {p : Program} {l : Launch} {e : Env} {s : State} {m : MethodId} {args : Array Value} {below : List Frame} {meth : Method} {c : Code} {Q : State → Prop} {A : Nat → Prop} {dC : Nat → ClassId} {dI : Nat → Nat → Nat} {a : Nat → Nat} {ac : Nat → ClassId} {n : Nat} {r : Int32 × (St × (St × (St)))} (C : nd_C p l s m args c A (dC, dI) cX15_remembers 3 RX15 ow_dm_X15_remembers (dk_X15 ac)) (K : nd_Ki p l e (headSpec ow_dm_X15_remembers ({ frames := 0, cells := 0, slots := 0, locals := 0 })).room s m args below meth c Q A (dC, dI) cX15_remembers .boolean (St × (St × (St))) (dw_X15 a ac) r) {g4 : Int32 → Int32 → (St × (St × (St))) → Option (Int32 × (St × (St × (St))))} (J4 : dj_X15_remembers_4 p l e s m args below meth c Q A dC dI a ac g4 r) : dj_X15_remembers_66 p l e s m args below meth c Q A dC dI a ac (df_X15_remembers_66 n g4) r := by
  obtain ⟨hlt, hx, hb, hml, hown, hts, hN, hA, hK⟩ := id C
  intro x2 y0 s0 H locs ls h hP hD hS hl
  unfold df_X15_remembers_66 at h
  refine lv_istore_n (lv' := [(1, .int y0), (0, .ref (a 0)), (2, .int x2)]) hx hb dX15_remembers_66 rfl hl (by decide) rfl (fun ls hl => ?_)
  obtain ⟨z4, ez4, h⟩ := nd_let_e h
  refine lv_iinc (v := z4) (lv' := [(2, .int z4), (1, .int y0), (0, .ref (a 0))]) hx hb dX15_remembers_67 hl (k := 2) rfl (by rw [ez4]) (by decide) rfl (fun ls hl => ?_)
  refine lv_goto (tgt := 4) hx hb dX15_remembers_70 (by decide) ?_
  exact (J4) (y0) (z4) s0 _ _ _ h hP hD hS (lv_sub hl [2, 1, 0] rfl)
set_option maxHeartbeats 40000000 in
set_option maxRecDepth 100000 in
theorem db_X15_remembers_61 {p : Program} {l : Launch} {e : Env} {s : State} {m : MethodId} {args : Array Value} {below : List Frame} {meth : Method} {c : Code} {Q : State → Prop} {A : Nat → Prop} {dC : Nat → ClassId} {dI : Nat → Nat → Nat} {a : Nat → Nat} {ac : Nat → ClassId} {n : Nat} {r : Int32 × (St × (St × (St)))} (C : nd_C p l s m args c A (dC, dI) cX15_remembers 3 RX15 ow_dm_X15_remembers (dk_X15 ac)) (K : nd_Ki p l e (headSpec ow_dm_X15_remembers ({ frames := 0, cells := 0, slots := 0, locals := 0 })).room s m args below meth c Q A (dC, dI) cX15_remembers .boolean (St × (St × (St))) (dw_X15 a ac) r) {g4 : Int32 → Int32 → (St × (St × (St))) → Option (Int32 × (St × (St × (St))))} (J4 : dj_X15_remembers_4 p l e s m args below meth c Q A dC dI a ac g4 r) : dj_X15_remembers_61 p l e s m args below meth c Q A dC dI a ac (df_X15_remembers_61 n g4) r := by
  obtain ⟨hlt, hx, hb, hml, hown, hts, hN, hA, hK⟩ := id C
  intro x2 s0 H locs ls h hP hD hS hl
  unfold df_X15_remembers_61 at h
  refine lv_iconst (v := 1) hx hb dX15_remembers_61 (by decide) ?_
  refine lv_goto (tgt := 66) hx hb dX15_remembers_62 (by decide) ?_
  exact (db_X15_remembers_66 C K J4) (x2) (1) s0 _ _ _ h hP hD hS (lv_sub hl [0, 1] rfl)
set_option maxHeartbeats 40000000 in
set_option maxRecDepth 100000 in
theorem db_X15_remembers_65 {p : Program} {l : Launch} {e : Env} {s : State} {m : MethodId} {args : Array Value} {below : List Frame} {meth : Method} {c : Code} {Q : State → Prop} {A : Nat → Prop} {dC : Nat → ClassId} {dI : Nat → Nat → Nat} {a : Nat → Nat} {ac : Nat → ClassId} {n : Nat} {r : Int32 × (St × (St × (St)))} (C : nd_C p l s m args c A (dC, dI) cX15_remembers 3 RX15 ow_dm_X15_remembers (dk_X15 ac)) (K : nd_Ki p l e (headSpec ow_dm_X15_remembers ({ frames := 0, cells := 0, slots := 0, locals := 0 })).room s m args below meth c Q A (dC, dI) cX15_remembers .boolean (St × (St × (St))) (dw_X15 a ac) r) {g4 : Int32 → Int32 → (St × (St × (St))) → Option (Int32 × (St × (St × (St))))} (J4 : dj_X15_remembers_4 p l e s m args below meth c Q A dC dI a ac g4 r) : dj_X15_remembers_65 p l e s m args below meth c Q A dC dI a ac (df_X15_remembers_65 n g4) r := by
  obtain ⟨hlt, hx, hb, hml, hown, hts, hN, hA, hK⟩ := id C
  intro x2 s0 H locs ls h hP hD hS hl
  unfold df_X15_remembers_65 at h
  refine lv_iconst (v := 0) hx hb dX15_remembers_65 (by decide) ?_
  exact (db_X15_remembers_66 C K J4) (x2) (0) s0 _ _ _ h hP hD hS (lv_sub hl [0, 1] rfl)
set_option maxHeartbeats 40000000 in
set_option maxRecDepth 100000 in
theorem dB_X15_remembers_4 {p : Program} {l : Launch} {e : Env} {s : State} {m : MethodId} {args : Array Value} {below : List Frame} {meth : Method} {c : Code} {Q : State → Prop} {A : Nat → Prop} {dC : Nat → ClassId} {dI : Nat → Nat → Nat} {a : Nat → Nat} {ac : Nat → ClassId} {n : Nat} {r : Int32 × (St × (St × (St)))} (C : nd_C p l s m args c A (dC, dI) cX15_remembers 3 RX15 ow_dm_X15_remembers (dk_X15 ac)) (K : nd_Ki p l e (headSpec ow_dm_X15_remembers ({ frames := 0, cells := 0, slots := 0, locals := 0 })).room s m args below meth c Q A (dC, dI) cX15_remembers .boolean (St × (St × (St))) (dw_X15 a ac) r) {g4 : Int32 → Int32 → (St × (St × (St))) → Option (Int32 × (St × (St × (St))))} (J4 : dj_X15_remembers_4 p l e s m args below meth c Q A dC dI a ac g4 r) : dj_X15_remembers_4 p l e s m args below meth c Q A dC dI a ac (dF_X15_remembers_4 n g4) r := by
  obtain ⟨hlt, hx, hb, hml, hown, hts, hN, hA, hK⟩ := id C
  intro x1 x2 s0 H locs ls h hP hD hS hl
  unfold dF_X15_remembers_4 at h
  refine lv_iload_n hx hb dX15_remembers_4 rfl (lv_at hl 2 rfl) ?_
  refine lv_aload_n hx hb dX15_remembers_5 rfl (lv_at hl 0 rfl) ?_
  refine va_get (D := (dC, dI)) (ci := 16) (v := .int (sI s0.1 5)) (C := RX15) (T := TX15) (N := 28) hx hb hts hi_dm_X15_remembers_X15 hown hK hP 0 rfl rfl 13 (by decide) (hts (.fieldLink RX15 128 "TimeMachineModel$Conditions" "opened" "I") (List.mem_of_getElem? (i := 1) rfl)) (fun _ h9 => h9) rfl dX15_remembers_6 ?_
  refine lv_icmp_ge (tgt := 73) hx hb dX15_remembers_9 (by decide) (fun c1 => ?_) (fun c1 => ?_)
  · have h := nd_pos h c1
    refine lv_iload_n hx hb dX15_remembers_73 rfl (lv_at hl 1 rfl) ?_
    obtain ⟨n2, h⟩ := nd_z_e ⟨_, rfl⟩ h
    exact K _ _ _ _ _ _ dX15_remembers_74 n2 (Option.some.inj h).symm hP hD hS
  · have h := nd_neg h c1
    refine lv_iload_n hx hb dX15_remembers_12 rfl (lv_at hl 1 rfl) ?_
    refine lv_if_ne (tgt := 61) hx hb dX15_remembers_13 (by decide) (fun c3 => ?_) (fun c3 => ?_)
    · have h := nd_neg h c3
      exact (db_X15_remembers_61 C K J4) (x2) s0 _ _ _ h hP hD hS (lv_sub hl [0, 2] rfl)
    · have h := nd_pos h c3
      refine lv_aload_n hx hb dX15_remembers_16 rfl (lv_at hl 0 rfl) ?_
      refine va_get (D := (dC, dI)) (ci := 16) (v := .ref (a 10)) (C := RX15) (T := TX15) (N := 28) hx hb hts hi_dm_X15_remembers_X15 hown hK hP 0 rfl rfl 18 (by decide) (hts (.fieldLink RX15 40 "TimeMachineModel$Conditions" "openAt" "[I") (List.mem_of_getElem? (i := 2) rfl)) (fun _ h9 => h9) rfl dX15_remembers_17 ?_
      refine lv_iload_n hx hb dX15_remembers_20 rfl (lv_at hl 2 rfl) ?_
      obtain ⟨i5, h⟩ := nd_ck_e h
      refine va_iald (i := x2) hx hb hK hP 10 9 rfl rfl i5 dX15_remembers_21 ?_
      refine lv_if_le (tgt := 65) hx hb dX15_remembers_22 (by decide) (fun c6 => ?_) (fun c6 => ?_)
      · have h := nd_pos h c6
        exact (db_X15_remembers_65 C K J4) (x2) s0 _ _ _ h hP hD hS (lv_sub hl [0, 2] rfl)
      · have h := nd_neg h c6
        refine lv_aload_n hx hb dX15_remembers_25 rfl (lv_at hl 0 rfl) ?_
        refine va_get (D := (dC, dI)) (ci := 16) (v := .ref (a 8)) (C := RX15) (T := TX15) (N := 28) hx hb hts hi_dm_X15_remembers_X15 hown hK hP 0 rfl rfl 16 (by decide) (hts (.fieldLink RX15 34 "TimeMachineModel$Conditions" "newKind" "[I") (List.mem_of_getElem? (i := 3) rfl)) (fun _ h9 => h9) rfl dX15_remembers_26 ?_
        refine lv_aload_n hx hb dX15_remembers_29 rfl (lv_at hl 0 rfl) ?_
        refine va_get (D := (dC, dI)) (ci := 16) (v := .ref (a 10)) (C := RX15) (T := TX15) (N := 28) hx hb hts hi_dm_X15_remembers_X15 hown hK hP 0 rfl rfl 18 (by decide) (hts (.fieldLink RX15 40 "TimeMachineModel$Conditions" "openAt" "[I") (List.mem_of_getElem? (i := 2) rfl)) (fun _ h9 => h9) rfl dX15_remembers_30 ?_
        refine lv_iload_n hx hb dX15_remembers_33 rfl (lv_at hl 2 rfl) ?_
        obtain ⟨i7, h⟩ := nd_ck_e h
        refine va_iald (i := x2) hx hb hK hP 10 9 rfl rfl i7 dX15_remembers_34 ?_
        refine lv_iconst (v := 1) hx hb dX15_remembers_35 (by decide) ?_
        refine lv_isub hx hb dX15_remembers_36 ?_
        obtain ⟨i8, h⟩ := nd_ck_e h
        refine va_iald (i := ((sR s0.1 7 (Int32.toNatClampNeg x2)) - 1)) hx hb hK hP 8 7 rfl rfl i8 dX15_remembers_37 ?_
        refine lv_bipush (v := 8) hx hb dX15_remembers_38 (by decide) ?_
        refine lv_icmp_eq (tgt := 61) hx hb dX15_remembers_40 (by decide) (fun c9 => ?_) (fun c9 => ?_)
        · have h := nd_pos h c9
          exact (db_X15_remembers_61 C K J4) (x2) s0 _ _ _ h hP hD hS (lv_sub hl [0, 2] rfl)
        · have h := nd_neg h c9
          refine lv_aload_n hx hb dX15_remembers_43 rfl (lv_at hl 0 rfl) ?_
          refine va_get (D := (dC, dI)) (ci := 16) (v := .ref (a 8)) (C := RX15) (T := TX15) (N := 28) hx hb hts hi_dm_X15_remembers_X15 hown hK hP 0 rfl rfl 16 (by decide) (hts (.fieldLink RX15 34 "TimeMachineModel$Conditions" "newKind" "[I") (List.mem_of_getElem? (i := 3) rfl)) (fun _ h9 => h9) rfl dX15_remembers_44 ?_
          refine lv_aload_n hx hb dX15_remembers_47 rfl (lv_at hl 0 rfl) ?_
          refine va_get (D := (dC, dI)) (ci := 16) (v := .ref (a 10)) (C := RX15) (T := TX15) (N := 28) hx hb hts hi_dm_X15_remembers_X15 hown hK hP 0 rfl rfl 18 (by decide) (hts (.fieldLink RX15 40 "TimeMachineModel$Conditions" "openAt" "[I") (List.mem_of_getElem? (i := 2) rfl)) (fun _ h9 => h9) rfl dX15_remembers_48 ?_
          refine lv_iload_n hx hb dX15_remembers_51 rfl (lv_at hl 2 rfl) ?_
          obtain ⟨i10, h⟩ := nd_ck_e h
          refine va_iald (i := x2) hx hb hK hP 10 9 rfl rfl i10 dX15_remembers_52 ?_
          refine lv_iconst (v := 1) hx hb dX15_remembers_53 (by decide) ?_
          refine lv_isub hx hb dX15_remembers_54 ?_
          obtain ⟨i11, h⟩ := nd_ck_e h
          refine va_iald (i := ((sR s0.1 7 (Int32.toNatClampNeg x2)) - 1)) hx hb hK hP 8 7 rfl rfl i11 dX15_remembers_55 ?_
          refine lv_bipush (v := 9) hx hb dX15_remembers_56 (by decide) ?_
          refine lv_icmp_ne (tgt := 65) hx hb dX15_remembers_58 (by decide) (fun c12 => ?_) (fun c12 => ?_)
          · have h := nd_neg h c12
            exact (db_X15_remembers_65 C K J4) (x2) s0 _ _ _ h hP hD hS (lv_sub hl [0, 2] rfl)
          · have h := nd_pos h c12
            exact (db_X15_remembers_61 C K J4) (x2) s0 _ _ _ h hP hD hS (lv_sub hl [0, 2] rfl)
set_option maxHeartbeats 40000000 in
set_option maxRecDepth 100000 in
theorem db_X15_remembers_4 {p : Program} {l : Launch} {e : Env} {s : State} {m : MethodId} {args : Array Value} {below : List Frame} {meth : Method} {c : Code} {Q : State → Prop} {A : Nat → Prop} {dC : Nat → ClassId} {dI : Nat → Nat → Nat} {a : Nat → Nat} {ac : Nat → ClassId} {n : Nat} {r : Int32 × (St × (St × (St)))} (C : nd_C p l s m args c A (dC, dI) cX15_remembers 3 RX15 ow_dm_X15_remembers (dk_X15 ac)) (K : nd_Ki p l e (headSpec ow_dm_X15_remembers ({ frames := 0, cells := 0, slots := 0, locals := 0 })).room s m args below meth c Q A (dC, dI) cX15_remembers .boolean (St × (St × (St))) (dw_X15 a ac) r) (k : Nat) : dj_X15_remembers_4 p l e s m args below meth c Q A dC dI a ac (df_X15_remembers_4 n k) r := by
  induction k with
  | zero => intro x1 x2 s0 H locs ls h; exact nomatch (show (none : Option (Int32 × (St × (St × (St))))) = some r from h)
  | succ k ih => exact dB_X15_remembers_4 C K ih
set_option maxHeartbeats 40000000 in
set_option maxRecDepth 100000 in
theorem db_X15_remembers_0 {p : Program} {l : Launch} {e : Env} {s : State} {m : MethodId} {args : Array Value} {below : List Frame} {meth : Method} {c : Code} {Q : State → Prop} {A : Nat → Prop} {dC : Nat → ClassId} {dI : Nat → Nat → Nat} {a : Nat → Nat} {ac : Nat → ClassId} {n : Nat} {r : Int32 × (St × (St × (St)))} (C : nd_C p l s m args c A (dC, dI) cX15_remembers 3 RX15 ow_dm_X15_remembers (dk_X15 ac)) (K : nd_Ki p l e (headSpec ow_dm_X15_remembers ({ frames := 0, cells := 0, slots := 0, locals := 0 })).room s m args below meth c Q A (dC, dI) cX15_remembers .boolean (St × (St × (St))) (dw_X15 a ac) r) : dj_X15_remembers_0 p l e s m args below meth c Q A dC dI a ac (df_X15_remembers_0 n) r := by
  obtain ⟨hlt, hx, hb, hml, hown, hts, hN, hA, hK⟩ := id C
  intro s0 H locs ls h hP hD hS hl
  unfold df_X15_remembers_0 at h
  refine lv_iconst (v := 0) hx hb dX15_remembers_0 (by decide) ?_
  refine lv_istore_n (lv' := [(1, .int 0), (0, .ref (a 0))]) hx hb dX15_remembers_1 rfl hl (by decide) rfl (fun ls hl => ?_)
  refine lv_iconst (v := 0) hx hb dX15_remembers_2 (by decide) ?_
  refine lv_istore_n (lv' := [(2, .int 0), (1, .int 0), (0, .ref (a 0))]) hx hb dX15_remembers_3 rfl hl (by decide) rfl (fun ls hl => ?_)
  exact (db_X15_remembers_4 C K n) (0) (0) s0 _ _ _ h hP hD hS (lv_sub hl [2, 1, 0] rfl)
set_option maxHeartbeats 40000000 in
set_option maxRecDepth 100000 in
theorem dm_X15_remembers (l : Launch) (hlt : l.stackTraces = false) (dC : Nat → ClassId) (dI : Nat → Nat → Nat) (a : Nat → Nat) (ac : Nat → ClassId) (n : Nat) (s0 : St × (St × (St))) {r : Int32 × (St × (St × (St)))} (h : df_X15_remembers n s0 = some r) (sz : Nat) : Met l yX15_remembers ow_dm_X15_remembers ({ frames := 0, cells := 0, slots := 0, locals := 0 }) (va_Pc [.ref (a 0)] (fun U => U.heap.size = sz ∧ va_P (dC, dI) vwCl (dw_X15 a ac s0) U.heap ∧ va_K (dC, dI) vwCl (dk_X15 ac) U ∧ va_D (fun _ => True) (dw_X15 a ac s0) ∧ nv_E dI (va_A (dw_X15 a ac s0) sz) U)) (va_Qi (fun x _ => x = r.1) (fun (_ : Unit) t => va_P (dC, dI) vwCl (dw_X15 a ac r.2) t.heap ∧ va_K (dC, dI) vwCl (dk_X15 ac) t ∧ va_D (va_A (dw_X15 a ac s0) sz) (dw_X15 a ac r.2)) (va_A (dw_X15 a ac s0) sz)) 0 0 (va_A (dw_X15 a ac s0) sz) := by
  refine Met.ofW (cc := cX15_remembers) (maxL := 3) (ret := (some .boolean)) (by decide) rfl ?_
  intro p e s m args below meth c s₁ B hml hv
  obtain ⟨rfl, hsz, hP, hK, hD0, hN⟩ := hv
  have hx := B.exec
  have hb := B.bytes
  have hr := B.returns
  have hts := atoms_spec (ws := ow_dm_X15_remembers) B.pre
  have hown : s.vm.findClass RX15 = some m.cls := findClass_of_methodNamed B.named
  have hlocks := B.notSynchronized
  subst hsz
  have hD := hD0.self (sz := s.heap.size)
  generalize hAe : va_A (dw_X15 a ac s0) s.heap.size = A at hD hN ⊢
  have hA : ∀ q : Nat, s.heap.size ≤ q → A q := fun q h => by rw [← hAe]; exact Or.inr h
  have hl := lv_entry ([.ref (a 0)]) (n := 3) (Nat.le_of_ble_eq_true rfl)
  rw [lg_entry_eq]
  generalize (lg_sl ([.ref (a 0)]) ++ List.replicate (3 - (lg_sl ([.ref (a 0)])).length) Slot.unset).toArray = ls at hl ⊢
  have hl : lv_has ls 3 [(0, .ref (a 0))] := hl
  exact db_X15_remembers_0 (dC := dC) (dI := dI) (a := a) (ac := ac) (n := n) (r := r) ⟨hlt, hx, hb, hml, hown, hts, hN, hA, hK⟩ (fun pc v τ H locs ls d z er hP hD hS => by subst er; exact W.zret (v := v) hx hb hr z (fun t ht hW => ⟨⟨v, (), rfl, rfl, by rw [ht]; exact hP, va_K.moved hW.alike hK, hD⟩, hS.F ht⟩) hS.2.2 d) s0 _ _ _ h hP hD va_S.rf (lv_sub hl [0] rfl)
def ow_dm_X15_take : List Cond := Cond.code yX15_take cX15_take 1 none :: ([Cond.fieldLink RX15 34 "TimeMachineModel$Conditions" "newKind" "[I", Cond.fieldLink RX15 131 "TimeMachineModel$Conditions" "tokens" "I", Cond.fieldLink RX15 92 "TimeMachineModel$Conditions" "token" "I", Cond.fieldLink RX15 43 "TimeMachineModel$Conditions" "newNumber" "[J", Cond.fieldLink RX15 95 "TimeMachineModel$Conditions" "tokenValue" "J", Cond.fieldLink RX15 37 "TimeMachineModel$Conditions" "newPartner" "[I"] ++ (u_ws RX15 TX15 28 ++ []))
theorem gd_dm_X15_take : ∀ w ∈ ow_dm_X15_take, (w.onTables && w.keeps) = true ∨ ∃ ty, w = Cond.arrayClass ty := List.forall_mem_cons.mpr ⟨good_of_word rfl, List.forall_mem_append.mpr ⟨fun w h => good_of_word (List.all_eq_true.mp (by decide +kernel) w h), List.forall_mem_append.mpr ⟨gu_X15, fun _ h => nomatch h⟩⟩⟩
theorem hi_dm_X15_take_X15 : ∀ w ∈ u_ws RX15 TX15 28, w ∈ ow_dm_X15_take := fun w h => List.mem_cons_of_mem _ (List.mem_append_right _ (List.mem_append_left _ h))
def dj_X15_take_0 (p : Program) (l : Launch) (e : Env) (s : State) (m : MethodId) (args : Array Value) (below : List Frame) (meth : Method) (c : Code) (Q : State → Prop) (A : Nat → Prop) (dC : Nat → ClassId) (dI : Nat → Nat → Nat) (a : Nat → Nat) (ac : Nat → ClassId) (g : (St × (St × (St))) → Option (St × (St × (St)))) (r : St × (St × (St))) : Prop := ∀ (s0 : St × (St × (St))) (H : Heap) (locs : List Loc) (ls : Array Slot), g s0 = some r → va_P (dC, dI) vwCl (dw_X15 a ac s0) H → va_D A (dw_X15 a ac s0) → va_S A s.heap H locs → lv_has ls 1 [(0, .ref (a 0))] → W p l e (headSpec ow_dm_X15_take ({ frames := 0, cells := 0, slots := 0, locals := 0 })).room s m args below meth c H locs 0 0 Q (F0 m 0 ls [])
set_option maxHeartbeats 40000000 in
set_option maxRecDepth 100000 in
theorem db_X15_take_0 {p : Program} {l : Launch} {e : Env} {s : State} {m : MethodId} {args : Array Value} {below : List Frame} {meth : Method} {c : Code} {Q : State → Prop} {A : Nat → Prop} {dC : Nat → ClassId} {dI : Nat → Nat → Nat} {a : Nat → Nat} {ac : Nat → ClassId} {n : Nat} {r : St × (St × (St))} (C : nd_C p l s m args c A (dC, dI) cX15_take 1 RX15 ow_dm_X15_take (dk_X15 ac)) (K : nd_Kv p l e (headSpec ow_dm_X15_take ({ frames := 0, cells := 0, slots := 0, locals := 0 })).room s m args below meth c Q A (dC, dI) cX15_take (St × (St × (St))) (dw_X15 a ac) r) : dj_X15_take_0 p l e s m args below meth c Q A dC dI a ac (df_X15_take_0 n) r := by
  obtain ⟨hlt, hx, hb, hml, hown, hts, hN, hA, hK⟩ := id C
  intro s0 H locs ls h hP hD hS hl
  unfold df_X15_take_0 at h
  refine lv_aload_n hx hb dX15_take_0 rfl (lv_at hl 0 rfl) ?_
  refine va_get (D := (dC, dI)) (ci := 16) (v := .ref (a 8)) (C := RX15) (T := TX15) (N := 28) hx hb hts hi_dm_X15_take_X15 hown hK hP 0 rfl rfl 16 (by decide) (hts (.fieldLink RX15 34 "TimeMachineModel$Conditions" "newKind" "[I") (List.mem_of_getElem? (i := 1) rfl)) (fun _ h9 => h9) rfl dX15_take_1 ?_
  refine lv_aload_n hx hb dX15_take_4 rfl (lv_at hl 0 rfl) ?_
  refine va_get (D := (dC, dI)) (ci := 16) (v := .int (sI s0.1 4)) (C := RX15) (T := TX15) (N := 28) hx hb hts hi_dm_X15_take_X15 hown hK hP 0 rfl rfl 12 (by decide) (hts (.fieldLink RX15 131 "TimeMachineModel$Conditions" "tokens" "I") (List.mem_of_getElem? (i := 2) rfl)) (fun _ h9 => h9) rfl dX15_take_5 ?_
  refine lv_aload_n hx hb dX15_take_8 rfl (lv_at hl 0 rfl) ?_
  refine va_get (D := (dC, dI)) (ci := 16) (v := .int (sI s0.1 2)) (C := RX15) (T := TX15) (N := 28) hx hb hts hi_dm_X15_take_X15 hown hK hP 0 rfl rfl 10 (by decide) (hts (.fieldLink RX15 92 "TimeMachineModel$Conditions" "token" "I") (List.mem_of_getElem? (i := 3) rfl)) (fun _ h9 => h9) rfl dX15_take_9 ?_
  obtain ⟨i1, h⟩ := nd_ck_e h
  refine va_iast (i := (sI s0.1 4)) (x := (sI s0.1 2)) hx hb hK hP hD hS 8 7 rfl rfl i1 dX15_take_12 (fun H locs hP hD hS => ?_)
  obtain ⟨s2, es2, h⟩ := nd_let_e h
  have hP : va_P (dC, dI) vwCl (dw_X15 a ac s2) H := by rw [es2]; exact hP
  have hD : va_D A (dw_X15 a ac s2) := by rw [es2]; exact hD
  refine lv_aload_n hx hb dX15_take_13 rfl (lv_at hl 0 rfl) ?_
  refine va_get (D := (dC, dI)) (ci := 16) (v := .ref (a 11)) (C := RX15) (T := TX15) (N := 28) hx hb hts hi_dm_X15_take_X15 hown hK hP 0 rfl rfl 19 (by decide) (hts (.fieldLink RX15 43 "TimeMachineModel$Conditions" "newNumber" "[J") (List.mem_of_getElem? (i := 4) rfl)) (fun _ h9 => h9) rfl dX15_take_14 ?_
  refine lv_aload_n hx hb dX15_take_17 rfl (lv_at hl 0 rfl) ?_
  refine va_get (D := (dC, dI)) (ci := 16) (v := .int (sI s2.1 4)) (C := RX15) (T := TX15) (N := 28) hx hb hts hi_dm_X15_take_X15 hown hK hP 0 rfl rfl 12 (by decide) (hts (.fieldLink RX15 131 "TimeMachineModel$Conditions" "tokens" "I") (List.mem_of_getElem? (i := 2) rfl)) (fun _ h9 => h9) rfl dX15_take_18 ?_
  refine lv_aload_n hx hb dX15_take_21 rfl (lv_at hl 0 rfl) ?_
  refine va_get (D := (dC, dI)) (ci := 16) (v := .long (sL s2.1 0)) (C := RX15) (T := TX15) (N := 28) hx hb hts hi_dm_X15_take_X15 hown hK hP 0 rfl rfl 15 (by decide) (hts (.fieldLink RX15 95 "TimeMachineModel$Conditions" "tokenValue" "J") (List.mem_of_getElem? (i := 5) rfl)) (fun _ h9 => h9) rfl dX15_take_22 ?_
  obtain ⟨i3, h⟩ := nd_ck_e h
  refine va_last (i := (sI s2.1 4)) (x := (sL s2.1 0)) hx hb hK hP hD hS 11 10 rfl rfl i3 dX15_take_25 (fun H locs hP hD hS => ?_)
  obtain ⟨s4, es4, h⟩ := nd_let_e h
  have hP : va_P (dC, dI) vwCl (dw_X15 a ac s4) H := by rw [es4]; exact hP
  have hD : va_D A (dw_X15 a ac s4) := by rw [es4]; exact hD
  refine lv_aload_n hx hb dX15_take_26 rfl (lv_at hl 0 rfl) ?_
  refine va_get (D := (dC, dI)) (ci := 16) (v := .ref (a 9)) (C := RX15) (T := TX15) (N := 28) hx hb hts hi_dm_X15_take_X15 hown hK hP 0 rfl rfl 17 (by decide) (hts (.fieldLink RX15 37 "TimeMachineModel$Conditions" "newPartner" "[I") (List.mem_of_getElem? (i := 6) rfl)) (fun _ h9 => h9) rfl dX15_take_27 ?_
  refine lv_aload_n hx hb dX15_take_30 rfl (lv_at hl 0 rfl) ?_
  refine va_get (D := (dC, dI)) (ci := 16) (v := .int (sI s4.1 4)) (C := RX15) (T := TX15) (N := 28) hx hb hts hi_dm_X15_take_X15 hown hK hP 0 rfl rfl 12 (by decide) (hts (.fieldLink RX15 131 "TimeMachineModel$Conditions" "tokens" "I") (List.mem_of_getElem? (i := 2) rfl)) (fun _ h9 => h9) rfl dX15_take_31 ?_
  refine lv_iconst (v := (-1)) hx hb dX15_take_34 (by decide) ?_
  obtain ⟨i5, h⟩ := nd_ck_e h
  refine va_iast (i := (sI s4.1 4)) (x := (-1)) hx hb hK hP hD hS 9 8 rfl rfl i5 dX15_take_35 (fun H locs hP hD hS => ?_)
  obtain ⟨s6, es6, h⟩ := nd_let_e h
  have hP : va_P (dC, dI) vwCl (dw_X15 a ac s6) H := by rw [es6]; exact hP
  have hD : va_D A (dw_X15 a ac s6) := by rw [es6]; exact hD
  refine lv_aload_n hx hb dX15_take_36 rfl (lv_at hl 0 rfl) ?_
  refine lv_dup hx hb dX15_take_37 rfl ?_
  refine va_get (D := (dC, dI)) (ci := 16) (v := .int (sI s6.1 4)) (C := RX15) (T := TX15) (N := 28) hx hb hts hi_dm_X15_take_X15 hown hK hP 0 rfl rfl 12 (by decide) (hts (.fieldLink RX15 131 "TimeMachineModel$Conditions" "tokens" "I") (List.mem_of_getElem? (i := 2) rfl)) (fun _ h9 => h9) rfl dX15_take_38 ?_
  refine lv_iconst (v := 1) hx hb dX15_take_41 (by decide) ?_
  refine lv_iadd hx hb dX15_take_42 ?_
  refine va_put (D := (dC, dI)) (ci := 16) (v := .int ((sI s6.1 4) + 1)) (ty := .int) (C := RX15) (T := TX15) (N := 28) hx hb hts hi_dm_X15_take_X15 tyX15 tyX15_ok nmX15 hown hK hP hD hS 0 rfl rfl 12 (by decide) (hts (.fieldLink RX15 131 "TimeMachineModel$Conditions" "tokens" "I") (List.mem_of_getElem? (i := 2) rfl)) (fun _ h9 => h9) rfl (by decide +kernel) rfl rfl (Nat.le_of_ble_eq_true rfl) dX15_take_43 (fun H locs hP hD hS => ?_)
  obtain ⟨s7, es7, h⟩ := nd_let_e h
  have hP : va_P (dC, dI) vwCl (dw_X15 a ac s7) H := by rw [es7]; exact hP
  have hD : va_D A (dw_X15 a ac s7) := by rw [es7]; exact hD
  exact K _ _ _ _ _ dX15_take_46 (Option.some.inj h).symm hP hD hS
set_option maxHeartbeats 40000000 in
set_option maxRecDepth 100000 in
theorem dm_X15_take (l : Launch) (hlt : l.stackTraces = false) (dC : Nat → ClassId) (dI : Nat → Nat → Nat) (a : Nat → Nat) (ac : Nat → ClassId) (n : Nat) (s0 : St × (St × (St))) {r : St × (St × (St))} (h : df_X15_take n s0 = some r) (sz : Nat) : Met l yX15_take ow_dm_X15_take ({ frames := 0, cells := 0, slots := 0, locals := 0 }) (va_Pc [.ref (a 0)] (fun U => U.heap.size = sz ∧ va_P (dC, dI) vwCl (dw_X15 a ac s0) U.heap ∧ va_K (dC, dI) vwCl (dk_X15 ac) U ∧ va_D (fun _ => True) (dw_X15 a ac s0) ∧ nv_E dI (va_A (dw_X15 a ac s0) sz) U)) (va_Qv (fun _ => True) (fun (_ : Unit) t => va_P (dC, dI) vwCl (dw_X15 a ac r) t.heap ∧ va_K (dC, dI) vwCl (dk_X15 ac) t ∧ va_D (va_A (dw_X15 a ac s0) sz) (dw_X15 a ac r)) (va_A (dw_X15 a ac s0) sz)) 0 0 (va_A (dw_X15 a ac s0) sz) := by
  refine Met.ofW (cc := cX15_take) (maxL := 1) (ret := none) (by decide) rfl ?_
  intro p e s m args below meth c s₁ B hml hv
  obtain ⟨rfl, hsz, hP, hK, hD0, hN⟩ := hv
  have hx := B.exec
  have hb := B.bytes
  have hr := B.returns
  have hts := atoms_spec (ws := ow_dm_X15_take) B.pre
  have hown : s.vm.findClass RX15 = some m.cls := findClass_of_methodNamed B.named
  have hlocks := B.notSynchronized
  subst hsz
  have hD := hD0.self (sz := s.heap.size)
  generalize hAe : va_A (dw_X15 a ac s0) s.heap.size = A at hD hN ⊢
  have hA : ∀ q : Nat, s.heap.size ≤ q → A q := fun q h => by rw [← hAe]; exact Or.inr h
  have hl := lv_entry ([.ref (a 0)]) (n := 1) (Nat.le_of_ble_eq_true rfl)
  rw [lg_entry_eq]
  generalize (lg_sl ([.ref (a 0)]) ++ List.replicate (1 - (lg_sl ([.ref (a 0)])).length) Slot.unset).toArray = ls at hl ⊢
  have hl : lv_has ls 1 [(0, .ref (a 0))] := hl
  exact db_X15_take_0 (dC := dC) (dI := dI) (a := a) (ac := ac) (n := n) (r := r) ⟨hlt, hx, hb, hml, hown, hts, hN, hA, hK⟩ (fun pc τ H locs ls d er hP hD hS => by subst er; exact W.vret hx hb hr (fun t ht hW => ⟨⟨(), rfl, trivial, by rw [ht]; exact hP, va_K.moved hW.alike hK, hD⟩, hS.F ht⟩) hS.2.2 d) s0 _ _ _ h hP hD va_S.rf (lv_sub hl [0] rfl)
def ow_dm_X15_shut : List Cond := Cond.code yX15_shut cX15_shut 1 none :: ([Cond.fieldLink RX15 128 "TimeMachineModel$Conditions" "opened" "I", Cond.fieldLink RX15 37 "TimeMachineModel$Conditions" "newPartner" "[I", Cond.fieldLink RX15 40 "TimeMachineModel$Conditions" "openAt" "[I", Cond.fieldLink RX15 131 "TimeMachineModel$Conditions" "tokens" "I", Cond.methodLink RX15 134 yX15_take, Cond.instanceMethod yX15_take, Cond.selects RX15 yX15_take yX15_take, Cond.initialized RX15] ++ (u_ws RX15 TX15 28 ++ (ow_dm_X15_take ++ [])))
theorem gd_dm_X15_shut : ∀ w ∈ ow_dm_X15_shut, (w.onTables && w.keeps) = true ∨ ∃ ty, w = Cond.arrayClass ty := List.forall_mem_cons.mpr ⟨good_of_word rfl, List.forall_mem_append.mpr ⟨fun w h => good_of_word (List.all_eq_true.mp (by decide +kernel) w h), List.forall_mem_append.mpr ⟨gu_X15, List.forall_mem_append.mpr ⟨gd_dm_X15_take, fun _ h => nomatch h⟩⟩⟩⟩
theorem hi_dm_X15_shut_X15 : ∀ w ∈ u_ws RX15 TX15 28, w ∈ ow_dm_X15_shut := fun w h => List.mem_cons_of_mem _ (List.mem_append_right _ (List.mem_append_left _ h))
theorem gi_dm_X15_shut_0 : GoodIn ow_dm_X15_shut (wsV RX15 134 RX15 yX15_take ow_dm_X15_take) := goodIn_app (goodIn_of _ (by decide +kernel)) (fun w h => ⟨List.mem_cons_of_mem _ (List.mem_append_right _ (List.mem_append_right _ (List.mem_append_left _ h))), gd_dm_X15_take w h⟩)
def dj_X15_shut_0 (p : Program) (l : Launch) (e : Env) (s : State) (m : MethodId) (args : Array Value) (below : List Frame) (meth : Method) (c : Code) (Q : State → Prop) (A : Nat → Prop) (dC : Nat → ClassId) (dI : Nat → Nat → Nat) (a : Nat → Nat) (ac : Nat → ClassId) (g : (St × (St × (St))) → Option (St × (St × (St)))) (r : St × (St × (St))) : Prop := ∀ (s0 : St × (St × (St))) (H : Heap) (locs : List Loc) (ls : Array Slot), g s0 = some r → va_P (dC, dI) vwCl (dw_X15 a ac s0) H → va_D A (dw_X15 a ac s0) → va_S A s.heap H locs → lv_has ls 1 [(0, .ref (a 0))] → W p l e (headSpec ow_dm_X15_shut ({ frames := 1, cells := 0, slots := 0, locals := 20 })).room s m args below meth c H locs 0 0 Q (F0 m 0 ls [])
set_option maxHeartbeats 40000000 in
set_option maxRecDepth 100000 in
theorem db_X15_shut_0 {p : Program} {l : Launch} {e : Env} {s : State} {m : MethodId} {args : Array Value} {below : List Frame} {meth : Method} {c : Code} {Q : State → Prop} {A : Nat → Prop} {dC : Nat → ClassId} {dI : Nat → Nat → Nat} {a : Nat → Nat} {ac : Nat → ClassId} {n : Nat} {r : St × (St × (St))} (C : nd_C p l s m args c A (dC, dI) cX15_shut 1 RX15 ow_dm_X15_shut (dk_X15 ac)) (K : nd_Kv p l e (headSpec ow_dm_X15_shut ({ frames := 1, cells := 0, slots := 0, locals := 20 })).room s m args below meth c Q A (dC, dI) cX15_shut (St × (St × (St))) (dw_X15 a ac) r) : dj_X15_shut_0 p l e s m args below meth c Q A dC dI a ac (df_X15_shut_0 n) r := by
  obtain ⟨hlt, hx, hb, hml, hown, hts, hN, hA, hK⟩ := id C
  intro s0 H locs ls h hP hD hS hl
  unfold df_X15_shut_0 at h
  refine lv_aload_n hx hb dX15_shut_0 rfl (lv_at hl 0 rfl) ?_
  refine lv_dup hx hb dX15_shut_1 rfl ?_
  refine va_get (D := (dC, dI)) (ci := 16) (v := .int (sI s0.1 5)) (C := RX15) (T := TX15) (N := 28) hx hb hts hi_dm_X15_shut_X15 hown hK hP 0 rfl rfl 13 (by decide) (hts (.fieldLink RX15 128 "TimeMachineModel$Conditions" "opened" "I") (List.mem_of_getElem? (i := 1) rfl)) (fun _ h9 => h9) rfl dX15_shut_2 ?_
  refine lv_iconst (v := 1) hx hb dX15_shut_5 (by decide) ?_
  refine lv_isub hx hb dX15_shut_6 ?_
  refine va_put (D := (dC, dI)) (ci := 16) (v := .int ((sI s0.1 5) - 1)) (ty := .int) (C := RX15) (T := TX15) (N := 28) hx hb hts hi_dm_X15_shut_X15 tyX15 tyX15_ok nmX15 hown hK hP hD hS 0 rfl rfl 13 (by decide) (hts (.fieldLink RX15 128 "TimeMachineModel$Conditions" "opened" "I") (List.mem_of_getElem? (i := 1) rfl)) (fun _ h9 => h9) rfl (by decide +kernel) rfl rfl (Nat.le_of_ble_eq_true rfl) dX15_shut_7 (fun H locs hP hD hS => ?_)
  obtain ⟨s1, es1, h⟩ := nd_let_e h
  have hP : va_P (dC, dI) vwCl (dw_X15 a ac s1) H := by rw [es1]; exact hP
  have hD : va_D A (dw_X15 a ac s1) := by rw [es1]; exact hD
  refine lv_aload_n hx hb dX15_shut_10 rfl (lv_at hl 0 rfl) ?_
  refine va_get (D := (dC, dI)) (ci := 16) (v := .ref (a 9)) (C := RX15) (T := TX15) (N := 28) hx hb hts hi_dm_X15_shut_X15 hown hK hP 0 rfl rfl 17 (by decide) (hts (.fieldLink RX15 37 "TimeMachineModel$Conditions" "newPartner" "[I") (List.mem_of_getElem? (i := 2) rfl)) (fun _ h9 => h9) rfl dX15_shut_11 ?_
  refine lv_aload_n hx hb dX15_shut_14 rfl (lv_at hl 0 rfl) ?_
  refine va_get (D := (dC, dI)) (ci := 16) (v := .ref (a 10)) (C := RX15) (T := TX15) (N := 28) hx hb hts hi_dm_X15_shut_X15 hown hK hP 0 rfl rfl 18 (by decide) (hts (.fieldLink RX15 40 "TimeMachineModel$Conditions" "openAt" "[I") (List.mem_of_getElem? (i := 3) rfl)) (fun _ h9 => h9) rfl dX15_shut_15 ?_
  refine lv_aload_n hx hb dX15_shut_18 rfl (lv_at hl 0 rfl) ?_
  refine va_get (D := (dC, dI)) (ci := 16) (v := .int (sI s1.1 5)) (C := RX15) (T := TX15) (N := 28) hx hb hts hi_dm_X15_shut_X15 hown hK hP 0 rfl rfl 13 (by decide) (hts (.fieldLink RX15 128 "TimeMachineModel$Conditions" "opened" "I") (List.mem_of_getElem? (i := 1) rfl)) (fun _ h9 => h9) rfl dX15_shut_19 ?_
  obtain ⟨i2, h⟩ := nd_ck_e h
  refine va_iald (i := (sI s1.1 5)) hx hb hK hP 10 9 rfl rfl i2 dX15_shut_22 ?_
  refine lv_aload_n hx hb dX15_shut_23 rfl (lv_at hl 0 rfl) ?_
  refine va_get (D := (dC, dI)) (ci := 16) (v := .int (sI s1.1 4)) (C := RX15) (T := TX15) (N := 28) hx hb hts hi_dm_X15_shut_X15 hown hK hP 0 rfl rfl 12 (by decide) (hts (.fieldLink RX15 131 "TimeMachineModel$Conditions" "tokens" "I") (List.mem_of_getElem? (i := 4) rfl)) (fun _ h9 => h9) rfl dX15_shut_24 ?_
  obtain ⟨i3, h⟩ := nd_ck_e h
  refine va_iast (i := (sR s1.1 7 (Int32.toNatClampNeg (sI s1.1 5)))) (x := (sI s1.1 4)) hx hb hK hP hD hS 9 8 rfl rfl i3 dX15_shut_27 (fun H locs hP hD hS => ?_)
  obtain ⟨s4, es4, h⟩ := nd_let_e h
  have hP : va_P (dC, dI) vwCl (dw_X15 a ac s4) H := by rw [es4]; exact hP
  have hD : va_D A (dw_X15 a ac s4) := by rw [es4]; exact hD
  refine lv_aload_n hx hb dX15_shut_28 rfl (lv_at hl 0 rfl) ?_
  obtain ⟨s6, hq, h⟩ := nd_b1_e h
  have hPc := hP
  have hDc := hD
  have hKc := hK
  have hFc := nd_rs hD hS hA
  refine nd_cVv (As := []) (rest := []) (w' := dw_X15 a ac s6) ⟨hx, hb, hml, hown, hts⟩ (fun sz => dm_X15_take l hlt dC dI a ac n  s4 hq sz) (cwV 0 hts gi_dm_X15_shut_0 rfl rfl rfl (by decide +kernel) ⟨Nat.le_of_ble_eq_true rfl, Nat.le_of_ble_eq_true rfl⟩) hPc hDc hKc hS hA hN (va_recv hKc hPc (ci := 16) (q0 := 0) rfl rfl) rfl hl.1 rfl (Nat.le_of_ble_eq_true rfl) dX15_shut_29 (fun H locs hP1 hD1 hk1 hS => ?_)
  have hP := hP1
  have hD := hD1.weaken (fun k q _ h => hFc q.1 h)
  refine lv_aload_n hx hb dX15_shut_32 rfl (lv_at hl 0 rfl) ?_
  refine va_get (D := (dC, dI)) (ci := 16) (v := .ref (a 9)) (C := RX15) (T := TX15) (N := 28) hx hb hts hi_dm_X15_shut_X15 hown hK hP 0 rfl rfl 17 (by decide) (hts (.fieldLink RX15 37 "TimeMachineModel$Conditions" "newPartner" "[I") (List.mem_of_getElem? (i := 2) rfl)) (fun _ h9 => h9) rfl dX15_shut_33 ?_
  refine lv_aload_n hx hb dX15_shut_36 rfl (lv_at hl 0 rfl) ?_
  refine va_get (D := (dC, dI)) (ci := 16) (v := .int (sI s6.1 4)) (C := RX15) (T := TX15) (N := 28) hx hb hts hi_dm_X15_shut_X15 hown hK hP 0 rfl rfl 12 (by decide) (hts (.fieldLink RX15 131 "TimeMachineModel$Conditions" "tokens" "I") (List.mem_of_getElem? (i := 4) rfl)) (fun _ h9 => h9) rfl dX15_shut_37 ?_
  refine lv_iconst (v := 1) hx hb dX15_shut_40 (by decide) ?_
  refine lv_isub hx hb dX15_shut_41 ?_
  refine lv_aload_n hx hb dX15_shut_42 rfl (lv_at hl 0 rfl) ?_
  refine va_get (D := (dC, dI)) (ci := 16) (v := .ref (a 10)) (C := RX15) (T := TX15) (N := 28) hx hb hts hi_dm_X15_shut_X15 hown hK hP 0 rfl rfl 18 (by decide) (hts (.fieldLink RX15 40 "TimeMachineModel$Conditions" "openAt" "[I") (List.mem_of_getElem? (i := 3) rfl)) (fun _ h9 => h9) rfl dX15_shut_43 ?_
  refine lv_aload_n hx hb dX15_shut_46 rfl (lv_at hl 0 rfl) ?_
  refine va_get (D := (dC, dI)) (ci := 16) (v := .int (sI s6.1 5)) (C := RX15) (T := TX15) (N := 28) hx hb hts hi_dm_X15_shut_X15 hown hK hP 0 rfl rfl 13 (by decide) (hts (.fieldLink RX15 128 "TimeMachineModel$Conditions" "opened" "I") (List.mem_of_getElem? (i := 1) rfl)) (fun _ h9 => h9) rfl dX15_shut_47 ?_
  obtain ⟨i8, h⟩ := nd_ck_e h
  refine va_iald (i := (sI s6.1 5)) hx hb hK hP 10 9 rfl rfl i8 dX15_shut_50 ?_
  obtain ⟨i9, h⟩ := nd_ck_e h
  refine va_iast (i := ((sI s6.1 4) - 1)) (x := (sR s6.1 7 (Int32.toNatClampNeg (sI s6.1 5)))) hx hb hK hP hD hS 9 8 rfl rfl i9 dX15_shut_51 (fun H locs hP hD hS => ?_)
  obtain ⟨s10, es10, h⟩ := nd_let_e h
  have hP : va_P (dC, dI) vwCl (dw_X15 a ac s10) H := by rw [es10]; exact hP
  have hD : va_D A (dw_X15 a ac s10) := by rw [es10]; exact hD
  exact K _ _ _ _ _ dX15_shut_52 (Option.some.inj h).symm hP hD hS
set_option maxHeartbeats 40000000 in
set_option maxRecDepth 100000 in
theorem dm_X15_shut (l : Launch) (hlt : l.stackTraces = false) (dC : Nat → ClassId) (dI : Nat → Nat → Nat) (a : Nat → Nat) (ac : Nat → ClassId) (n : Nat) (s0 : St × (St × (St))) {r : St × (St × (St))} (h : df_X15_shut n s0 = some r) (sz : Nat) : Met l yX15_shut ow_dm_X15_shut ({ frames := 1, cells := 0, slots := 0, locals := 20 }) (va_Pc [.ref (a 0)] (fun U => U.heap.size = sz ∧ va_P (dC, dI) vwCl (dw_X15 a ac s0) U.heap ∧ va_K (dC, dI) vwCl (dk_X15 ac) U ∧ va_D (fun _ => True) (dw_X15 a ac s0) ∧ nv_E dI (va_A (dw_X15 a ac s0) sz) U)) (va_Qv (fun _ => True) (fun (_ : Unit) t => va_P (dC, dI) vwCl (dw_X15 a ac r) t.heap ∧ va_K (dC, dI) vwCl (dk_X15 ac) t ∧ va_D (va_A (dw_X15 a ac s0) sz) (dw_X15 a ac r)) (va_A (dw_X15 a ac s0) sz)) 0 0 (va_A (dw_X15 a ac s0) sz) := by
  refine Met.ofW (cc := cX15_shut) (maxL := 1) (ret := none) (by decide) rfl ?_
  intro p e s m args below meth c s₁ B hml hv
  obtain ⟨rfl, hsz, hP, hK, hD0, hN⟩ := hv
  have hx := B.exec
  have hb := B.bytes
  have hr := B.returns
  have hts := atoms_spec (ws := ow_dm_X15_shut) B.pre
  have hown : s.vm.findClass RX15 = some m.cls := findClass_of_methodNamed B.named
  have hlocks := B.notSynchronized
  subst hsz
  have hD := hD0.self (sz := s.heap.size)
  generalize hAe : va_A (dw_X15 a ac s0) s.heap.size = A at hD hN ⊢
  have hA : ∀ q : Nat, s.heap.size ≤ q → A q := fun q h => by rw [← hAe]; exact Or.inr h
  have hl := lv_entry ([.ref (a 0)]) (n := 1) (Nat.le_of_ble_eq_true rfl)
  rw [lg_entry_eq]
  generalize (lg_sl ([.ref (a 0)]) ++ List.replicate (1 - (lg_sl ([.ref (a 0)])).length) Slot.unset).toArray = ls at hl ⊢
  have hl : lv_has ls 1 [(0, .ref (a 0))] := hl
  exact db_X15_shut_0 (dC := dC) (dI := dI) (a := a) (ac := ac) (n := n) (r := r) ⟨hlt, hx, hb, hml, hown, hts, hN, hA, hK⟩ (fun pc τ H locs ls d er hP hD hS => by subst er; exact W.vret hx hb hr (fun t ht hW => ⟨⟨(), rfl, trivial, by rw [ht]; exact hP, va_K.moved hW.alike hK, hD⟩, hS.F ht⟩) hS.2.2 d) s0 _ _ _ h hP hD va_S.rf (lv_sub hl [0] rfl)
def ow_dm_X15_read : List Cond := Cond.code yX15_read cX15_read 6 (some .int) :: ([Cond.fieldLink RX15 125 "TimeMachineModel$Conditions" "fault" "I", Cond.fieldLink RX15 128 "TimeMachineModel$Conditions" "opened" "I", Cond.fieldLink RX15 131 "TimeMachineModel$Conditions" "tokens" "I", Cond.fieldLink RX15 73 "TimeMachineModel$Conditions" "at" "I", Cond.fieldLink RX15 65 "TimeMachineModel$Conditions" "size" "I", Cond.methodLink RX15 150 yX15_meet, Cond.instanceMethod yX15_meet, Cond.selects RX15 yX15_meet yX15_meet, Cond.initialized RX15, Cond.methodLink RX15 76 yX15_charAt, Cond.instanceMethod yX15_charAt, Cond.selects RX15 yX15_charAt yX15_charAt, Cond.methodLink RX15 137 yX15_scan, Cond.instanceMethod yX15_scan, Cond.selects RX15 yX15_scan yX15_scan, Cond.fieldLink RX15 92 "TimeMachineModel$Conditions" "token" "I", Cond.methodLink RX15 134 yX15_take, Cond.instanceMethod yX15_take, Cond.selects RX15 yX15_take yX15_take, Cond.fieldLink RX15 40 "TimeMachineModel$Conditions" "openAt" "[I", Cond.methodLink RX15 154 yX15_shut, Cond.instanceMethod yX15_shut, Cond.selects RX15 yX15_shut yX15_shut, Cond.fieldLink RX15 80 "TimeMachineModel$Conditions" "start" "I", Cond.methodLink RX15 146 yX15_remembers, Cond.instanceMethod yX15_remembers, Cond.selects RX15 yX15_remembers yX15_remembers, Cond.methodLink RX15 143 yX15_isBetween, Cond.static yX15_isBetween, Cond.methodLink RX15 140 yX15_begins, Cond.static yX15_begins, Cond.fieldLink RX15 34 "TimeMachineModel$Conditions" "newKind" "[I"] ++ (u_ws RX15 TX15 28 ++ (ow_dm_X15_meet ++ (ow_dm_X15_charAt ++ (ow_dm_X15_scan ++ (ow_dm_X15_take ++ (ow_dm_X15_shut ++ (ow_dm_X15_remembers ++ (ow_dm_X15_isBetween ++ (ow_dm_X15_begins ++ []))))))))))
theorem gd_dm_X15_read : ∀ w ∈ ow_dm_X15_read, (w.onTables && w.keeps) = true ∨ ∃ ty, w = Cond.arrayClass ty := List.forall_mem_cons.mpr ⟨good_of_word rfl, List.forall_mem_append.mpr ⟨fun w h => good_of_word (List.all_eq_true.mp (by decide +kernel) w h), List.forall_mem_append.mpr ⟨gu_X15, List.forall_mem_append.mpr ⟨gd_dm_X15_meet, List.forall_mem_append.mpr ⟨gd_dm_X15_charAt, List.forall_mem_append.mpr ⟨gd_dm_X15_scan, List.forall_mem_append.mpr ⟨gd_dm_X15_take, List.forall_mem_append.mpr ⟨gd_dm_X15_shut, List.forall_mem_append.mpr ⟨gd_dm_X15_remembers, List.forall_mem_append.mpr ⟨gd_dm_X15_isBetween, List.forall_mem_append.mpr ⟨gd_dm_X15_begins, fun _ h => nomatch h⟩⟩⟩⟩⟩⟩⟩⟩⟩⟩⟩
theorem hi_dm_X15_read_X15 : ∀ w ∈ u_ws RX15 TX15 28, w ∈ ow_dm_X15_read := fun w h => List.mem_cons_of_mem _ (List.mem_append_right _ (List.mem_append_left _ h))
theorem gi_dm_X15_read_0 : GoodIn ow_dm_X15_read (wsV RX15 150 RX15 yX15_meet ow_dm_X15_meet) := goodIn_app (goodIn_of _ (by decide +kernel)) (fun w h => ⟨List.mem_cons_of_mem _ (List.mem_append_right _ (List.mem_append_right _ (List.mem_append_left _ h))), gd_dm_X15_meet w h⟩)
theorem gi_dm_X15_read_1 : GoodIn ow_dm_X15_read (wsV RX15 76 RX15 yX15_charAt ow_dm_X15_charAt) := goodIn_app (goodIn_of _ (by decide +kernel)) (fun w h => ⟨List.mem_cons_of_mem _ (List.mem_append_right _ (List.mem_append_right _ (List.mem_append_right _ (List.mem_append_left _ h)))), gd_dm_X15_charAt w h⟩)
theorem gi_dm_X15_read_2 : GoodIn ow_dm_X15_read (wsV RX15 137 RX15 yX15_scan ow_dm_X15_scan) := goodIn_app (goodIn_of _ (by decide +kernel)) (fun w h => ⟨List.mem_cons_of_mem _ (List.mem_append_right _ (List.mem_append_right _ (List.mem_append_right _ (List.mem_append_right _ (List.mem_append_left _ h))))), gd_dm_X15_scan w h⟩)
theorem gi_dm_X15_read_3 : GoodIn ow_dm_X15_read (wsV RX15 134 RX15 yX15_take ow_dm_X15_take) := goodIn_app (goodIn_of _ (by decide +kernel)) (fun w h => ⟨List.mem_cons_of_mem _ (List.mem_append_right _ (List.mem_append_right _ (List.mem_append_right _ (List.mem_append_right _ (List.mem_append_right _ (List.mem_append_left _ h)))))), gd_dm_X15_take w h⟩)
theorem gi_dm_X15_read_4 : GoodIn ow_dm_X15_read (wsV RX15 154 RX15 yX15_shut ow_dm_X15_shut) := goodIn_app (goodIn_of _ (by decide +kernel)) (fun w h => ⟨List.mem_cons_of_mem _ (List.mem_append_right _ (List.mem_append_right _ (List.mem_append_right _ (List.mem_append_right _ (List.mem_append_right _ (List.mem_append_right _ (List.mem_append_left _ h))))))), gd_dm_X15_shut w h⟩)
theorem gi_dm_X15_read_5 : GoodIn ow_dm_X15_read (wsV RX15 146 RX15 yX15_remembers ow_dm_X15_remembers) := goodIn_app (goodIn_of _ (by decide +kernel)) (fun w h => ⟨List.mem_cons_of_mem _ (List.mem_append_right _ (List.mem_append_right _ (List.mem_append_right _ (List.mem_append_right _ (List.mem_append_right _ (List.mem_append_right _ (List.mem_append_right _ (List.mem_append_left _ h)))))))), gd_dm_X15_remembers w h⟩)
theorem gi_dm_X15_read_6 : GoodIn ow_dm_X15_read (wsS RX15 143 yX15_isBetween ow_dm_X15_isBetween) := goodIn_app (goodIn_of _ (by decide +kernel)) (fun w h => ⟨List.mem_cons_of_mem _ (List.mem_append_right _ (List.mem_append_right _ (List.mem_append_right _ (List.mem_append_right _ (List.mem_append_right _ (List.mem_append_right _ (List.mem_append_right _ (List.mem_append_right _ (List.mem_append_left _ h))))))))), gd_dm_X15_isBetween w h⟩)
theorem gi_dm_X15_read_7 : GoodIn ow_dm_X15_read (wsS RX15 140 yX15_begins ow_dm_X15_begins) := goodIn_app (goodIn_of _ (by decide +kernel)) (fun w h => ⟨List.mem_cons_of_mem _ (List.mem_append_right _ (List.mem_append_right _ (List.mem_append_right _ (List.mem_append_right _ (List.mem_append_right _ (List.mem_append_right _ (List.mem_append_right _ (List.mem_append_right _ (List.mem_append_right _ (List.mem_append_left _ h)))))))))), gd_dm_X15_begins w h⟩)
def dj_X15_read_484 (p : Program) (l : Launch) (e : Env) (s : State) (m : MethodId) (args : Array Value) (below : List Frame) (meth : Method) (c : Code) (Q : State → Prop) (A : Nat → Prop) (dC : Nat → ClassId) (dI : Nat → Nat → Nat) (a : Nat → Nat) (ac : Nat → ClassId) (g : Int32 → (St × (St × (St))) → Option (Int32 × (St × (St × (St))))) (r : Int32 × (St × (St × (St)))) : Prop := ∀ (x1 : Int32) (s0 : St × (St × (St))) (H : Heap) (locs : List Loc) (ls : Array Slot), g x1 s0 = some r → va_P (dC, dI) vwCl (dw_X15 a ac s0) H → va_D A (dw_X15 a ac s0) → va_S A s.heap H locs → lv_has ls 6 [(1, .int x1)] → W p l e (headSpec ow_dm_X15_read ({ frames := 3, cells := 0, slots := 0, locals := 73 })).room s m args below meth c H locs 0 0 Q (F0 m 484 ls [])
def dj_X15_read_475 (p : Program) (l : Launch) (e : Env) (s : State) (m : MethodId) (args : Array Value) (below : List Frame) (meth : Method) (c : Code) (Q : State → Prop) (A : Nat → Prop) (dC : Nat → ClassId) (dI : Nat → Nat → Nat) (a : Nat → Nat) (ac : Nat → ClassId) (g : Int32 → (St × (St × (St))) → Option (Int32 × (St × (St × (St))))) (r : Int32 × (St × (St × (St)))) : Prop := ∀ (x1 : Int32) (s0 : St × (St × (St))) (H : Heap) (locs : List Loc) (ls : Array Slot), g x1 s0 = some r → va_P (dC, dI) vwCl (dw_X15 a ac s0) H → va_D A (dw_X15 a ac s0) → va_S A s.heap H locs → lv_has ls 6 [(0, .ref (a 0)), (1, .int x1)] → W p l e (headSpec ow_dm_X15_read ({ frames := 3, cells := 0, slots := 0, locals := 73 })).room s m args below meth c H locs 0 0 Q (F0 m 475 ls [])
def dj_X15_read_463 (p : Program) (l : Launch) (e : Env) (s : State) (m : MethodId) (args : Array Value) (below : List Frame) (meth : Method) (c : Code) (Q : State → Prop) (A : Nat → Prop) (dC : Nat → ClassId) (dI : Nat → Nat → Nat) (a : Nat → Nat) (ac : Nat → ClassId) (g : Int32 → Int32 → (St × (St × (St))) → Option (Int32 × (St × (St × (St))))) (r : Int32 × (St × (St × (St)))) : Prop := ∀ (x1 : Int32) (x2 : Int32) (s0 : St × (St × (St))) (H : Heap) (locs : List Loc) (ls : Array Slot), g x1 x2 s0 = some r → va_P (dC, dI) vwCl (dw_X15 a ac s0) H → va_D A (dw_X15 a ac s0) → va_S A s.heap H locs → lv_has ls 6 [(0, .ref (a 0)), (1, .int x1), (2, .int x2)] → W p l e (headSpec ow_dm_X15_read ({ frames := 3, cells := 0, slots := 0, locals := 73 })).room s m args below meth c H locs 0 0 Q (F0 m 463 ls [])
def dj_X15_read_459 (p : Program) (l : Launch) (e : Env) (s : State) (m : MethodId) (args : Array Value) (below : List Frame) (meth : Method) (c : Code) (Q : State → Prop) (A : Nat → Prop) (dC : Nat → ClassId) (dI : Nat → Nat → Nat) (a : Nat → Nat) (ac : Nat → ClassId) (g : Int32 → Int32 → (St × (St × (St))) → Option (Int32 × (St × (St × (St))))) (r : Int32 × (St × (St × (St)))) : Prop := ∀ (x1 : Int32) (y0 : Int32) (s0 : St × (St × (St))) (H : Heap) (locs : List Loc) (ls : Array Slot), g x1 y0 s0 = some r → va_P (dC, dI) vwCl (dw_X15 a ac s0) H → va_D A (dw_X15 a ac s0) → va_S A s.heap H locs → lv_has ls 6 [(0, .ref (a 0)), (1, .int x1)] → W p l e (headSpec ow_dm_X15_read ({ frames := 3, cells := 0, slots := 0, locals := 73 })).room s m args below meth c H locs 0 0 Q (F0 m 459 ls [.int y0])
def dj_X15_read_419 (p : Program) (l : Launch) (e : Env) (s : State) (m : MethodId) (args : Array Value) (below : List Frame) (meth : Method) (c : Code) (Q : State → Prop) (A : Nat → Prop) (dC : Nat → ClassId) (dI : Nat → Nat → Nat) (a : Nat → Nat) (ac : Nat → ClassId) (g : Int32 → (St × (St × (St))) → Option (Int32 × (St × (St × (St))))) (r : Int32 × (St × (St × (St)))) : Prop := ∀ (x1 : Int32) (s0 : St × (St × (St))) (H : Heap) (locs : List Loc) (ls : Array Slot), g x1 s0 = some r → va_P (dC, dI) vwCl (dw_X15 a ac s0) H → va_D A (dw_X15 a ac s0) → va_S A s.heap H locs → lv_has ls 6 [(0, .ref (a 0)), (1, .int x1)] → W p l e (headSpec ow_dm_X15_read ({ frames := 3, cells := 0, slots := 0, locals := 73 })).room s m args below meth c H locs 0 0 Q (F0 m 419 ls [])
def dj_X15_read_441 (p : Program) (l : Launch) (e : Env) (s : State) (m : MethodId) (args : Array Value) (below : List Frame) (meth : Method) (c : Code) (Q : State → Prop) (A : Nat → Prop) (dC : Nat → ClassId) (dI : Nat → Nat → Nat) (a : Nat → Nat) (ac : Nat → ClassId) (g : Int32 → (St × (St × (St))) → Option (Int32 × (St × (St × (St))))) (r : Int32 × (St × (St × (St)))) : Prop := ∀ (x1 : Int32) (s0 : St × (St × (St))) (H : Heap) (locs : List Loc) (ls : Array Slot), g x1 s0 = some r → va_P (dC, dI) vwCl (dw_X15 a ac s0) H → va_D A (dw_X15 a ac s0) → va_S A s.heap H locs → lv_has ls 6 [(0, .ref (a 0)), (1, .int x1)] → W p l e (headSpec ow_dm_X15_read ({ frames := 3, cells := 0, slots := 0, locals := 73 })).room s m args below meth c H locs 0 0 Q (F0 m 441 ls [])
def dj_X15_read_397 (p : Program) (l : Launch) (e : Env) (s : State) (m : MethodId) (args : Array Value) (below : List Frame) (meth : Method) (c : Code) (Q : State → Prop) (A : Nat → Prop) (dC : Nat → ClassId) (dI : Nat → Nat → Nat) (a : Nat → Nat) (ac : Nat → ClassId) (g : Int32 → (St × (St × (St))) → Option (Int32 × (St × (St × (St))))) (r : Int32 × (St × (St × (St)))) : Prop := ∀ (x1 : Int32) (s0 : St × (St × (St))) (H : Heap) (locs : List Loc) (ls : Array Slot), g x1 s0 = some r → va_P (dC, dI) vwCl (dw_X15 a ac s0) H → va_D A (dw_X15 a ac s0) → va_S A s.heap H locs → lv_has ls 6 [(0, .ref (a 0)), (1, .int x1)] → W p l e (headSpec ow_dm_X15_read ({ frames := 3, cells := 0, slots := 0, locals := 73 })).room s m args below meth c H locs 0 0 Q (F0 m 397 ls [])
def dj_X15_read_345 (p : Program) (l : Launch) (e : Env) (s : State) (m : MethodId) (args : Array Value) (below : List Frame) (meth : Method) (c : Code) (Q : State → Prop) (A : Nat → Prop) (dC : Nat → ClassId) (dI : Nat → Nat → Nat) (a : Nat → Nat) (ac : Nat → ClassId) (g : Int32 → Int32 → Int32 → Int32 → (St × (St × (St))) → Option (Int32 × (St × (St × (St))))) (r : Int32 × (St × (St × (St)))) : Prop := ∀ (x1 : Int32) (x2 : Int32) (x3 : Int32) (x5 : Int32) (s0 : St × (St × (St))) (H : Heap) (locs : List Loc) (ls : Array Slot), g x1 x2 x3 x5 s0 = some r → va_P (dC, dI) vwCl (dw_X15 a ac s0) H → va_D A (dw_X15 a ac s0) → va_S A s.heap H locs → lv_has ls 6 [(0, .ref (a 0)), (1, .int x1), (2, .int x2), (3, .int x3), (5, .int x5)] → W p l e (headSpec ow_dm_X15_read ({ frames := 3, cells := 0, slots := 0, locals := 73 })).room s m args below meth c H locs 0 0 Q (F0 m 345 ls [])
def dj_X15_read_322 (p : Program) (l : Launch) (e : Env) (s : State) (m : MethodId) (args : Array Value) (below : List Frame) (meth : Method) (c : Code) (Q : State → Prop) (A : Nat → Prop) (dC : Nat → ClassId) (dI : Nat → Nat → Nat) (a : Nat → Nat) (ac : Nat → ClassId) (g : Int32 → Int32 → Int32 → Int32 → (St × (St × (St))) → Option (Int32 × (St × (St × (St))))) (r : Int32 × (St × (St × (St)))) : Prop := ∀ (x1 : Int32) (x2 : Int32) (x3 : Int32) (x5 : Int32) (s0 : St × (St × (St))) (H : Heap) (locs : List Loc) (ls : Array Slot), g x1 x2 x3 x5 s0 = some r → va_P (dC, dI) vwCl (dw_X15 a ac s0) H → va_D A (dw_X15 a ac s0) → va_S A s.heap H locs → lv_has ls 6 [(0, .ref (a 0)), (1, .int x1), (2, .int x2), (3, .int x3), (5, .int x5)] → W p l e (headSpec ow_dm_X15_read ({ frames := 3, cells := 0, slots := 0, locals := 73 })).room s m args below meth c H locs 0 0 Q (F0 m 322 ls [])
def dj_X15_read_262 (p : Program) (l : Launch) (e : Env) (s : State) (m : MethodId) (args : Array Value) (below : List Frame) (meth : Method) (c : Code) (Q : State → Prop) (A : Nat → Prop) (dC : Nat → ClassId) (dI : Nat → Nat → Nat) (a : Nat → Nat) (ac : Nat → ClassId) (g : Int32 → Int32 → Int32 → Int32 → Int32 → (St × (St × (St))) → Option (Int32 × (St × (St × (St))))) (r : Int32 × (St × (St × (St)))) : Prop := ∀ (x1 : Int32) (x2 : Int32) (x3 : Int32) (x5 : Int32) (y0 : Int32) (s0 : St × (St × (St))) (H : Heap) (locs : List Loc) (ls : Array Slot), g x1 x2 x3 x5 y0 s0 = some r → va_P (dC, dI) vwCl (dw_X15 a ac s0) H → va_D A (dw_X15 a ac s0) → va_S A s.heap H locs → lv_has ls 6 [(0, .ref (a 0)), (1, .int x1), (2, .int x2), (3, .int x3), (5, .int x5)] → W p l e (headSpec ow_dm_X15_read ({ frames := 3, cells := 0, slots := 0, locals := 73 })).room s m args below meth c H locs 0 0 Q (F0 m 262 ls [.int y0])
def dj_X15_read_261 (p : Program) (l : Launch) (e : Env) (s : State) (m : MethodId) (args : Array Value) (below : List Frame) (meth : Method) (c : Code) (Q : State → Prop) (A : Nat → Prop) (dC : Nat → ClassId) (dI : Nat → Nat → Nat) (a : Nat → Nat) (ac : Nat → ClassId) (g : Int32 → Int32 → Int32 → Int32 → (St × (St × (St))) → Option (Int32 × (St × (St × (St))))) (r : Int32 × (St × (St × (St)))) : Prop := ∀ (x1 : Int32) (x2 : Int32) (x3 : Int32) (x5 : Int32) (s0 : St × (St × (St))) (H : Heap) (locs : List Loc) (ls : Array Slot), g x1 x2 x3 x5 s0 = some r → va_P (dC, dI) vwCl (dw_X15 a ac s0) H → va_D A (dw_X15 a ac s0) → va_S A s.heap H locs → lv_has ls 6 [(0, .ref (a 0)), (1, .int x1), (2, .int x2), (3, .int x3), (5, .int x5)] → W p l e (headSpec ow_dm_X15_read ({ frames := 3, cells := 0, slots := 0, locals := 73 })).room s m args below meth c H locs 0 0 Q (F0 m 261 ls [])
def dj_X15_read_257 (p : Program) (l : Launch) (e : Env) (s : State) (m : MethodId) (args : Array Value) (below : List Frame) (meth : Method) (c : Code) (Q : State → Prop) (A : Nat → Prop) (dC : Nat → ClassId) (dI : Nat → Nat → Nat) (a : Nat → Nat) (ac : Nat → ClassId) (g : Int32 → Int32 → Int32 → Int32 → (St × (St × (St))) → Option (Int32 × (St × (St × (St))))) (r : Int32 × (St × (St × (St)))) : Prop := ∀ (x1 : Int32) (x2 : Int32) (x3 : Int32) (x5 : Int32) (s0 : St × (St × (St))) (H : Heap) (locs : List Loc) (ls : Array Slot), g x1 x2 x3 x5 s0 = some r → va_P (dC, dI) vwCl (dw_X15 a ac s0) H → va_D A (dw_X15 a ac s0) → va_S A s.heap H locs → lv_has ls 6 [(0, .ref (a 0)), (1, .int x1), (2, .int x2), (3, .int x3), (5, .int x5)] → W p l e (headSpec ow_dm_X15_read ({ frames := 3, cells := 0, slots := 0, locals := 73 })).room s m args below meth c H locs 0 0 Q (F0 m 257 ls [])
def dj_X15_read_250 (p : Program) (l : Launch) (e : Env) (s : State) (m : MethodId) (args : Array Value) (below : List Frame) (meth : Method) (c : Code) (Q : State → Prop) (A : Nat → Prop) (dC : Nat → ClassId) (dI : Nat → Nat → Nat) (a : Nat → Nat) (ac : Nat → ClassId) (g : Int32 → Int32 → Int32 → Int32 → (St × (St × (St))) → Option (Int32 × (St × (St × (St))))) (r : Int32 × (St × (St × (St)))) : Prop := ∀ (x1 : Int32) (x2 : Int32) (x3 : Int32) (x5 : Int32) (s0 : St × (St × (St))) (H : Heap) (locs : List Loc) (ls : Array Slot), g x1 x2 x3 x5 s0 = some r → va_P (dC, dI) vwCl (dw_X15 a ac s0) H → va_D A (dw_X15 a ac s0) → va_S A s.heap H locs → lv_has ls 6 [(0, .ref (a 0)), (1, .int x1), (2, .int x2), (3, .int x3), (5, .int x5)] → W p l e (headSpec ow_dm_X15_read ({ frames := 3, cells := 0, slots := 0, locals := 73 })).room s m args below meth c H locs 0 0 Q (F0 m 250 ls [])
def dj_X15_read_225 (p : Program) (l : Launch) (e : Env) (s : State) (m : MethodId) (args : Array Value) (below : List Frame) (meth : Method) (c : Code) (Q : State → Prop) (A : Nat → Prop) (dC : Nat → ClassId) (dI : Nat → Nat → Nat) (a : Nat → Nat) (ac : Nat → ClassId) (g : Int32 → Int32 → Int32 → Int32 → Int32 → (St × (St × (St))) → Option (Int32 × (St × (St × (St))))) (r : Int32 × (St × (St × (St)))) : Prop := ∀ (x1 : Int32) (x2 : Int32) (x3 : Int32) (x4 : Int32) (y0 : Int32) (s0 : St × (St × (St))) (H : Heap) (locs : List Loc) (ls : Array Slot), g x1 x2 x3 x4 y0 s0 = some r → va_P (dC, dI) vwCl (dw_X15 a ac s0) H → va_D A (dw_X15 a ac s0) → va_S A s.heap H locs → lv_has ls 6 [(0, .ref (a 0)), (1, .int x1), (2, .int x2), (3, .int x3), (4, .int x4)] → W p l e (headSpec ow_dm_X15_read ({ frames := 3, cells := 0, slots := 0, locals := 73 })).room s m args below meth c H locs 0 0 Q (F0 m 225 ls [.int y0])
def dj_X15_read_220 (p : Program) (l : Launch) (e : Env) (s : State) (m : MethodId) (args : Array Value) (below : List Frame) (meth : Method) (c : Code) (Q : State → Prop) (A : Nat → Prop) (dC : Nat → ClassId) (dI : Nat → Nat → Nat) (a : Nat → Nat) (ac : Nat → ClassId) (g : Int32 → Int32 → Int32 → Int32 → (St × (St × (St))) → Option (Int32 × (St × (St × (St))))) (r : Int32 × (St × (St × (St)))) : Prop := ∀ (x1 : Int32) (x2 : Int32) (x3 : Int32) (x4 : Int32) (s0 : St × (St × (St))) (H : Heap) (locs : List Loc) (ls : Array Slot), g x1 x2 x3 x4 s0 = some r → va_P (dC, dI) vwCl (dw_X15 a ac s0) H → va_D A (dw_X15 a ac s0) → va_S A s.heap H locs → lv_has ls 6 [(0, .ref (a 0)), (1, .int x1), (2, .int x2), (3, .int x3), (4, .int x4)] → W p l e (headSpec ow_dm_X15_read ({ frames := 3, cells := 0, slots := 0, locals := 73 })).room s m args below meth c H locs 0 0 Q (F0 m 220 ls [])
def dj_X15_read_200 (p : Program) (l : Launch) (e : Env) (s : State) (m : MethodId) (args : Array Value) (below : List Frame) (meth : Method) (c : Code) (Q : State → Prop) (A : Nat → Prop) (dC : Nat → ClassId) (dI : Nat → Nat → Nat) (a : Nat → Nat) (ac : Nat → ClassId) (g : Int32 → Int32 → Int32 → Int32 → (St × (St × (St))) → Option (Int32 × (St × (St × (St))))) (r : Int32 × (St × (St × (St)))) : Prop := ∀ (x1 : Int32) (x2 : Int32) (x3 : Int32) (y0 : Int32) (s0 : St × (St × (St))) (H : Heap) (locs : List Loc) (ls : Array Slot), g x1 x2 x3 y0 s0 = some r → va_P (dC, dI) vwCl (dw_X15 a ac s0) H → va_D A (dw_X15 a ac s0) → va_S A s.heap H locs → lv_has ls 6 [(0, .ref (a 0)), (1, .int x1), (2, .int x2), (3, .int x3)] → W p l e (headSpec ow_dm_X15_read ({ frames := 3, cells := 0, slots := 0, locals := 73 })).room s m args below meth c H locs 0 0 Q (F0 m 200 ls [.int y0])
def dj_X15_read_199 (p : Program) (l : Launch) (e : Env) (s : State) (m : MethodId) (args : Array Value) (below : List Frame) (meth : Method) (c : Code) (Q : State → Prop) (A : Nat → Prop) (dC : Nat → ClassId) (dI : Nat → Nat → Nat) (a : Nat → Nat) (ac : Nat → ClassId) (g : Int32 → Int32 → Int32 → (St × (St × (St))) → Option (Int32 × (St × (St × (St))))) (r : Int32 × (St × (St × (St)))) : Prop := ∀ (x1 : Int32) (x2 : Int32) (x3 : Int32) (s0 : St × (St × (St))) (H : Heap) (locs : List Loc) (ls : Array Slot), g x1 x2 x3 s0 = some r → va_P (dC, dI) vwCl (dw_X15 a ac s0) H → va_D A (dw_X15 a ac s0) → va_S A s.heap H locs → lv_has ls 6 [(0, .ref (a 0)), (1, .int x1), (2, .int x2), (3, .int x3)] → W p l e (headSpec ow_dm_X15_read ({ frames := 3, cells := 0, slots := 0, locals := 73 })).room s m args below meth c H locs 0 0 Q (F0 m 199 ls [])
def dj_X15_read_195 (p : Program) (l : Launch) (e : Env) (s : State) (m : MethodId) (args : Array Value) (below : List Frame) (meth : Method) (c : Code) (Q : State → Prop) (A : Nat → Prop) (dC : Nat → ClassId) (dI : Nat → Nat → Nat) (a : Nat → Nat) (ac : Nat → ClassId) (g : Int32 → Int32 → Int32 → (St × (St × (St))) → Option (Int32 × (St × (St × (St))))) (r : Int32 × (St × (St × (St)))) : Prop := ∀ (x1 : Int32) (x2 : Int32) (x3 : Int32) (s0 : St × (St × (St))) (H : Heap) (locs : List Loc) (ls : Array Slot), g x1 x2 x3 s0 = some r → va_P (dC, dI) vwCl (dw_X15 a ac s0) H → va_D A (dw_X15 a ac s0) → va_S A s.heap H locs → lv_has ls 6 [(0, .ref (a 0)), (1, .int x1), (2, .int x2), (3, .int x3)] → W p l e (headSpec ow_dm_X15_read ({ frames := 3, cells := 0, slots := 0, locals := 73 })).room s m args below meth c H locs 0 0 Q (F0 m 195 ls [])
def dj_X15_read_192 (p : Program) (l : Launch) (e : Env) (s : State) (m : MethodId) (args : Array Value) (below : List Frame) (meth : Method) (c : Code) (Q : State → Prop) (A : Nat → Prop) (dC : Nat → ClassId) (dI : Nat → Nat → Nat) (a : Nat → Nat) (ac : Nat → ClassId) (g : Int32 → Int32 → Int32 → Int32 → Int32 → (St × (St × (St))) → Option (Int32 × (St × (St × (St))))) (r : Int32 × (St × (St × (St)))) : Prop := ∀ (x1 : Int32) (x2 : Int32) (x3 : Int32) (y0 : Int32) (y1 : Int32) (s0 : St × (St × (St))) (H : Heap) (locs : List Loc) (ls : Array Slot), g x1 x2 x3 y0 y1 s0 = some r → va_P (dC, dI) vwCl (dw_X15 a ac s0) H → va_D A (dw_X15 a ac s0) → va_S A s.heap H locs → lv_has ls 6 [(0, .ref (a 0)), (1, .int x1), (2, .int x2), (3, .int x3)] → W p l e (headSpec ow_dm_X15_read ({ frames := 3, cells := 0, slots := 0, locals := 73 })).room s m args below meth c H locs 0 0 Q (F0 m 192 ls [.int y1, .int y0])
def dj_X15_read_127 (p : Program) (l : Launch) (e : Env) (s : State) (m : MethodId) (args : Array Value) (below : List Frame) (meth : Method) (c : Code) (Q : State → Prop) (A : Nat → Prop) (dC : Nat → ClassId) (dI : Nat → Nat → Nat) (a : Nat → Nat) (ac : Nat → ClassId) (g : Int32 → Int32 → Int32 → (St × (St × (St))) → Option (Int32 × (St × (St × (St))))) (r : Int32 × (St × (St × (St)))) : Prop := ∀ (x1 : Int32) (x2 : Int32) (y0 : Int32) (s0 : St × (St × (St))) (H : Heap) (locs : List Loc) (ls : Array Slot), g x1 x2 y0 s0 = some r → va_P (dC, dI) vwCl (dw_X15 a ac s0) H → va_D A (dw_X15 a ac s0) → va_S A s.heap H locs → lv_has ls 6 [(0, .ref (a 0)), (1, .int x1), (2, .int x2)] → W p l e (headSpec ow_dm_X15_read ({ frames := 3, cells := 0, slots := 0, locals := 73 })).room s m args below meth c H locs 0 0 Q (F0 m 127 ls [.int y0])
def dj_X15_read_126 (p : Program) (l : Launch) (e : Env) (s : State) (m : MethodId) (args : Array Value) (below : List Frame) (meth : Method) (c : Code) (Q : State → Prop) (A : Nat → Prop) (dC : Nat → ClassId) (dI : Nat → Nat → Nat) (a : Nat → Nat) (ac : Nat → ClassId) (g : Int32 → Int32 → (St × (St × (St))) → Option (Int32 × (St × (St × (St))))) (r : Int32 × (St × (St × (St)))) : Prop := ∀ (x1 : Int32) (x2 : Int32) (s0 : St × (St × (St))) (H : Heap) (locs : List Loc) (ls : Array Slot), g x1 x2 s0 = some r → va_P (dC, dI) vwCl (dw_X15 a ac s0) H → va_D A (dw_X15 a ac s0) → va_S A s.heap H locs → lv_has ls 6 [(0, .ref (a 0)), (1, .int x1), (2, .int x2)] → W p l e (headSpec ow_dm_X15_read ({ frames := 3, cells := 0, slots := 0, locals := 73 })).room s m args below meth c H locs 0 0 Q (F0 m 126 ls [])
def dj_X15_read_119 (p : Program) (l : Launch) (e : Env) (s : State) (m : MethodId) (args : Array Value) (below : List Frame) (meth : Method) (c : Code) (Q : State → Prop) (A : Nat → Prop) (dC : Nat → ClassId) (dI : Nat → Nat → Nat) (a : Nat → Nat) (ac : Nat → ClassId) (g : Int32 → Int32 → Int32 → Int32 → (St × (St × (St))) → Option (Int32 × (St × (St × (St))))) (r : Int32 × (St × (St × (St)))) : Prop := ∀ (x1 : Int32) (x2 : Int32) (y0 : Int32) (y1 : Int32) (s0 : St × (St × (St))) (H : Heap) (locs : List Loc) (ls : Array Slot), g x1 x2 y0 y1 s0 = some r → va_P (dC, dI) vwCl (dw_X15 a ac s0) H → va_D A (dw_X15 a ac s0) → va_S A s.heap H locs → lv_has ls 6 [(0, .ref (a 0)), (1, .int x1), (2, .int x2)] → W p l e (headSpec ow_dm_X15_read ({ frames := 3, cells := 0, slots := 0, locals := 73 })).room s m args below meth c H locs 0 0 Q (F0 m 119 ls [.int y1, .int y0])
def dj_X15_read_31 (p : Program) (l : Launch) (e : Env) (s : State) (m : MethodId) (args : Array Value) (below : List Frame) (meth : Method) (c : Code) (Q : State → Prop) (A : Nat → Prop) (dC : Nat → ClassId) (dI : Nat → Nat → Nat) (a : Nat → Nat) (ac : Nat → ClassId) (g : Int32 → Int32 → (St × (St × (St))) → Option (Int32 × (St × (St × (St))))) (r : Int32 × (St × (St × (St)))) : Prop := ∀ (x1 : Int32) (x2 : Int32) (s0 : St × (St × (St))) (H : Heap) (locs : List Loc) (ls : Array Slot), g x1 x2 s0 = some r → va_P (dC, dI) vwCl (dw_X15 a ac s0) H → va_D A (dw_X15 a ac s0) → va_S A s.heap H locs → lv_has ls 6 [(0, .ref (a 0)), (1, .int x1), (2, .int x2)] → W p l e (headSpec ow_dm_X15_read ({ frames := 3, cells := 0, slots := 0, locals := 73 })).room s m args below meth c H locs 0 0 Q (F0 m 31 ls [])
def dj_X15_read_24 (p : Program) (l : Launch) (e : Env) (s : State) (m : MethodId) (args : Array Value) (below : List Frame) (meth : Method) (c : Code) (Q : State → Prop) (A : Nat → Prop) (dC : Nat → ClassId) (dI : Nat → Nat → Nat) (a : Nat → Nat) (ac : Nat → ClassId) (g : Int32 → Int32 → (St × (St × (St))) → Option (Int32 × (St × (St × (St))))) (r : Int32 × (St × (St × (St)))) : Prop := ∀ (x1 : Int32) (x2 : Int32) (s0 : St × (St × (St))) (H : Heap) (locs : List Loc) (ls : Array Slot), g x1 x2 s0 = some r → va_P (dC, dI) vwCl (dw_X15 a ac s0) H → va_D A (dw_X15 a ac s0) → va_S A s.heap H locs → lv_has ls 6 [(0, .ref (a 0)), (1, .int x1), (2, .int x2)] → W p l e (headSpec ow_dm_X15_read ({ frames := 3, cells := 0, slots := 0, locals := 73 })).room s m args below meth c H locs 0 0 Q (F0 m 24 ls [])
def dj_X15_read_0 (p : Program) (l : Launch) (e : Env) (s : State) (m : MethodId) (args : Array Value) (below : List Frame) (meth : Method) (c : Code) (Q : State → Prop) (A : Nat → Prop) (dC : Nat → ClassId) (dI : Nat → Nat → Nat) (a : Nat → Nat) (ac : Nat → ClassId) (g : (St × (St × (St))) → Option (Int32 × (St × (St × (St))))) (r : Int32 × (St × (St × (St)))) : Prop := ∀ (s0 : St × (St × (St))) (H : Heap) (locs : List Loc) (ls : Array Slot), g s0 = some r → va_P (dC, dI) vwCl (dw_X15 a ac s0) H → va_D A (dw_X15 a ac s0) → va_S A s.heap H locs → lv_has ls 6 [(0, .ref (a 0))] → W p l e (headSpec ow_dm_X15_read ({ frames := 3, cells := 0, slots := 0, locals := 73 })).room s m args below meth c H locs 0 0 Q (F0 m 0 ls [])
set_option maxHeartbeats 40000000 in
set_option maxRecDepth 100000 in
theorem db_X15_read_484 {p : Program} {l : Launch} {e : Env} {s : State} {m : MethodId} {args : Array Value} {below : List Frame} {meth : Method} {c : Code} {Q : State → Prop} {A : Nat → Prop} {dC : Nat → ClassId} {dI : Nat → Nat → Nat} {a : Nat → Nat} {ac : Nat → ClassId} {n : Nat} {r : Int32 × (St × (St × (St)))} (C : nd_C p l s m args c A (dC, dI) cX15_read 6 RX15 ow_dm_X15_read (dk_X15 ac)) (K : nd_Ki p l e (headSpec ow_dm_X15_read ({ frames := 3, cells := 0, slots := 0, locals := 73 })).room s m args below meth c Q A (dC, dI) cX15_read .int (St × (St × (St))) (dw_X15 a ac) r) : dj_X15_read_484 p l e s m args below meth c Q A dC dI a ac (df_X15_read_484 n) r := by
  obtain ⟨hlt, hx, hb, hml, hown, hts, hN, hA, hK⟩ := id C
  intro x1 s0 H locs ls h hP hD hS hl
  unfold df_X15_read_484 at h
  refine lv_iload_n hx hb dX15_read_484 rfl (lv_at hl 0 rfl) ?_
  exact K _ _ _ _ _ _ dX15_read_485 rfl (Option.some.inj h).symm hP hD hS
set_option maxHeartbeats 40000000 in
set_option maxRecDepth 100000 in
theorem db_X15_read_475 {p : Program} {l : Launch} {e : Env} {s : State} {m : MethodId} {args : Array Value} {below : List Frame} {meth : Method} {c : Code} {Q : State → Prop} {A : Nat → Prop} {dC : Nat → ClassId} {dI : Nat → Nat → Nat} {a : Nat → Nat} {ac : Nat → ClassId} {n : Nat} {r : Int32 × (St × (St × (St)))} (C : nd_C p l s m args c A (dC, dI) cX15_read 6 RX15 ow_dm_X15_read (dk_X15 ac)) (K : nd_Ki p l e (headSpec ow_dm_X15_read ({ frames := 3, cells := 0, slots := 0, locals := 73 })).room s m args below meth c Q A (dC, dI) cX15_read .int (St × (St × (St))) (dw_X15 a ac) r) : dj_X15_read_475 p l e s m args below meth c Q A dC dI a ac (df_X15_read_475 n) r := by
  obtain ⟨hlt, hx, hb, hml, hown, hts, hN, hA, hK⟩ := id C
  intro x1 s0 H locs ls h hP hD hS hl
  unfold df_X15_read_475 at h
  refine lv_aload_n hx hb dX15_read_475 rfl (lv_at hl 0 rfl) ?_
  refine lv_iconst (v := 1) hx hb dX15_read_476 (by decide) ?_
  refine lv_aload_n hx hb dX15_read_477 rfl (lv_at hl 0 rfl) ?_
  refine va_get (D := (dC, dI)) (ci := 16) (v := .int (sI s0.1 0)) (C := RX15) (T := TX15) (N := 28) hx hb hts hi_dm_X15_read_X15 hown hK hP 0 rfl rfl 1 (by decide) (hts (.fieldLink RX15 65 "TimeMachineModel$Conditions" "size" "I") (List.mem_of_getElem? (i := 5) rfl)) (fun _ h9 => h9) rfl dX15_read_478 ?_
  obtain ⟨s8, hq, h⟩ := nd_b1_e h
  have hPc := hP
  have hDc := hD
  have hKc := hK
  have hFc := nd_rs hD hS hA
  refine nd_cVv (As := [.int 1, .int (sI s0.1 0)]) (rest := []) (w' := dw_X15 a ac s8) ⟨hx, hb, hml, hown, hts⟩ (fun sz => dm_X15_meet l hlt dC dI a ac n (1) ((sI s0.1 0)) s0 hq sz) (cwV 2 hts gi_dm_X15_read_0 rfl rfl rfl (by decide +kernel) ⟨Nat.le_of_ble_eq_true rfl, Nat.le_of_ble_eq_true rfl⟩) hPc hDc hKc hS hA hN (va_recv hKc hPc (ci := 16) (q0 := 0) rfl rfl) rfl hl.1 rfl (Nat.le_of_ble_eq_true rfl) dX15_read_481 (fun H locs hP1 hD1 hk1 hS => ?_)
  have hP := hP1
  have hD := hD1.weaken (fun k q _ h => hFc q.1 h)
  exact (db_X15_read_484 C K) (x1) s8 _ _ _ h hP hD hS (lv_sub hl [1] rfl)
set_option maxHeartbeats 40000000 in
set_option maxRecDepth 100000 in
theorem db_X15_read_463 {p : Program} {l : Launch} {e : Env} {s : State} {m : MethodId} {args : Array Value} {below : List Frame} {meth : Method} {c : Code} {Q : State → Prop} {A : Nat → Prop} {dC : Nat → ClassId} {dI : Nat → Nat → Nat} {a : Nat → Nat} {ac : Nat → ClassId} {n : Nat} {r : Int32 × (St × (St × (St)))} (C : nd_C p l s m args c A (dC, dI) cX15_read 6 RX15 ow_dm_X15_read (dk_X15 ac)) (K : nd_Ki p l e (headSpec ow_dm_X15_read ({ frames := 3, cells := 0, slots := 0, locals := 73 })).room s m args below meth c Q A (dC, dI) cX15_read .int (St × (St × (St))) (dw_X15 a ac) r) : dj_X15_read_463 p l e s m args below meth c Q A dC dI a ac (df_X15_read_463 n) r := by
  obtain ⟨hlt, hx, hb, hml, hown, hts, hN, hA, hK⟩ := id C
  intro x1 x2 s0 H locs ls h hP hD hS hl
  unfold df_X15_read_463 at h
  refine lv_iload_n hx hb dX15_read_463 rfl (lv_at hl 2 rfl) ?_
  refine lv_iconst (v := 1) hx hb dX15_read_464 (by decide) ?_
  refine lv_icmp_ne (tgt := 475) hx hb dX15_read_465 (by decide) (fun c6 => ?_) (fun c6 => ?_)
  · have h := nd_neg h c6
    exact (db_X15_read_475 C K) (x1) s0 _ _ _ h hP hD hS (lv_sub hl [0, 1] rfl)
  · have h := nd_pos h c6
    refine lv_aload_n hx hb dX15_read_468 rfl (lv_at hl 0 rfl) ?_
    refine va_get (D := (dC, dI)) (ci := 16) (v := .int (sI s0.1 5)) (C := RX15) (T := TX15) (N := 28) hx hb hts hi_dm_X15_read_X15 hown hK hP 0 rfl rfl 13 (by decide) (hts (.fieldLink RX15 128 "TimeMachineModel$Conditions" "opened" "I") (List.mem_of_getElem? (i := 2) rfl)) (fun _ h9 => h9) rfl dX15_read_469 ?_
    refine lv_if_le (tgt := 484) hx hb dX15_read_472 (by decide) (fun c10 => ?_) (fun c10 => ?_)
    · have h := nd_pos h c10
      exact (db_X15_read_484 C K) (x1) s0 _ _ _ h hP hD hS (lv_sub hl [1] rfl)
    · have h := nd_neg h c10
      exact (db_X15_read_475 C K) (x1) s0 _ _ _ h hP hD hS (lv_sub hl [0, 1] rfl)
set_option maxHeartbeats 40000000 in
set_option maxRecDepth 100000 in
theorem db_X15_read_459 {p : Program} {l : Launch} {e : Env} {s : State} {m : MethodId} {args : Array Value} {below : List Frame} {meth : Method} {c : Code} {Q : State → Prop} {A : Nat → Prop} {dC : Nat → ClassId} {dI : Nat → Nat → Nat} {a : Nat → Nat} {ac : Nat → ClassId} {n : Nat} {r : Int32 × (St × (St × (St)))} (C : nd_C p l s m args c A (dC, dI) cX15_read 6 RX15 ow_dm_X15_read (dk_X15 ac)) (K : nd_Ki p l e (headSpec ow_dm_X15_read ({ frames := 3, cells := 0, slots := 0, locals := 73 })).room s m args below meth c Q A (dC, dI) cX15_read .int (St × (St × (St))) (dw_X15 a ac) r) {g24 : Int32 → Int32 → (St × (St × (St))) → Option (Int32 × (St × (St × (St))))} (J24 : dj_X15_read_24 p l e s m args below meth c Q A dC dI a ac g24 r) : dj_X15_read_459 p l e s m args below meth c Q A dC dI a ac (df_X15_read_459 n g24) r := by
  obtain ⟨hlt, hx, hb, hml, hown, hts, hN, hA, hK⟩ := id C
  intro x1 y0 s0 H locs ls h hP hD hS hl
  unfold df_X15_read_459 at h
  refine lv_istore_n (lv' := [(2, .int y0), (0, .ref (a 0)), (1, .int x1)]) hx hb dX15_read_459 rfl hl (by decide) rfl (fun ls hl => ?_)
  refine lv_goto (tgt := 24) hx hb dX15_read_460 (by decide) ?_
  exact (J24) (x1) (y0) s0 _ _ _ h hP hD hS (lv_sub hl [1, 2, 0] rfl)
set_option maxHeartbeats 40000000 in
set_option maxRecDepth 100000 in
theorem db_X15_read_419 {p : Program} {l : Launch} {e : Env} {s : State} {m : MethodId} {args : Array Value} {below : List Frame} {meth : Method} {c : Code} {Q : State → Prop} {A : Nat → Prop} {dC : Nat → ClassId} {dI : Nat → Nat → Nat} {a : Nat → Nat} {ac : Nat → ClassId} {n : Nat} {r : Int32 × (St × (St × (St)))} (C : nd_C p l s m args c A (dC, dI) cX15_read 6 RX15 ow_dm_X15_read (dk_X15 ac)) (K : nd_Ki p l e (headSpec ow_dm_X15_read ({ frames := 3, cells := 0, slots := 0, locals := 73 })).room s m args below meth c Q A (dC, dI) cX15_read .int (St × (St × (St))) (dw_X15 a ac) r) {g24 : Int32 → Int32 → (St × (St × (St))) → Option (Int32 × (St × (St × (St))))} (J24 : dj_X15_read_24 p l e s m args below meth c Q A dC dI a ac g24 r) : dj_X15_read_419 p l e s m args below meth c Q A dC dI a ac (df_X15_read_419 n g24) r := by
  obtain ⟨hlt, hx, hb, hml, hown, hts, hN, hA, hK⟩ := id C
  intro x1 s0 H locs ls h hP hD hS hl
  unfold df_X15_read_419 at h
  refine lv_iconst (v := 2) hx hb dX15_read_419 (by decide) ?_
  refine lv_goto (tgt := 459) hx hb dX15_read_420 (by decide) ?_
  exact (db_X15_read_459 C K J24) (x1) (2) s0 _ _ _ h hP hD hS (lv_sub hl [0, 1] rfl)
set_option maxHeartbeats 40000000 in
set_option maxRecDepth 100000 in
theorem db_X15_read_441 {p : Program} {l : Launch} {e : Env} {s : State} {m : MethodId} {args : Array Value} {below : List Frame} {meth : Method} {c : Code} {Q : State → Prop} {A : Nat → Prop} {dC : Nat → ClassId} {dI : Nat → Nat → Nat} {a : Nat → Nat} {ac : Nat → ClassId} {n : Nat} {r : Int32 × (St × (St × (St)))} (C : nd_C p l s m args c A (dC, dI) cX15_read 6 RX15 ow_dm_X15_read (dk_X15 ac)) (K : nd_Ki p l e (headSpec ow_dm_X15_read ({ frames := 3, cells := 0, slots := 0, locals := 73 })).room s m args below meth c Q A (dC, dI) cX15_read .int (St × (St × (St))) (dw_X15 a ac) r) {g24 : Int32 → Int32 → (St × (St × (St))) → Option (Int32 × (St × (St × (St))))} (J24 : dj_X15_read_24 p l e s m args below meth c Q A dC dI a ac g24 r) : dj_X15_read_441 p l e s m args below meth c Q A dC dI a ac (df_X15_read_441 n g24) r := by
  obtain ⟨hlt, hx, hb, hml, hown, hts, hN, hA, hK⟩ := id C
  intro x1 s0 H locs ls h hP hD hS hl
  unfold df_X15_read_441 at h
  refine lv_iconst (v := 3) hx hb dX15_read_441 (by decide) ?_
  refine lv_goto (tgt := 459) hx hb dX15_read_442 (by decide) ?_
  exact (db_X15_read_459 C K J24) (x1) (3) s0 _ _ _ h hP hD hS (lv_sub hl [0, 1] rfl)
set_option maxHeartbeats 40000000 in
set_option maxRecDepth 100000 in
theorem db_X15_read_397 {p : Program} {l : Launch} {e : Env} {s : State} {m : MethodId} {args : Array Value} {below : List Frame} {meth : Method} {c : Code} {Q : State → Prop} {A : Nat → Prop} {dC : Nat → ClassId} {dI : Nat → Nat → Nat} {a : Nat → Nat} {ac : Nat → ClassId} {n : Nat} {r : Int32 × (St × (St × (St)))} (C : nd_C p l s m args c A (dC, dI) cX15_read 6 RX15 ow_dm_X15_read (dk_X15 ac)) (K : nd_Ki p l e (headSpec ow_dm_X15_read ({ frames := 3, cells := 0, slots := 0, locals := 73 })).room s m args below meth c Q A (dC, dI) cX15_read .int (St × (St × (St))) (dw_X15 a ac) r) {g24 : Int32 → Int32 → (St × (St × (St))) → Option (Int32 × (St × (St × (St))))} (J24 : dj_X15_read_24 p l e s m args below meth c Q A dC dI a ac g24 r) : dj_X15_read_397 p l e s m args below meth c Q A dC dI a ac (df_X15_read_397 n g24) r := by
  obtain ⟨hlt, hx, hb, hml, hown, hts, hN, hA, hK⟩ := id C
  intro x1 s0 H locs ls h hP hD hS hl
  unfold df_X15_read_397 at h
  refine lv_aload_n hx hb dX15_read_397 rfl (lv_at hl 0 rfl) ?_
  obtain ⟨s32, hq, h⟩ := nd_b1_e h
  have hPc := hP
  have hDc := hD
  have hKc := hK
  have hFc := nd_rs hD hS hA
  refine nd_cVv (As := []) (rest := []) (w' := dw_X15 a ac s32) ⟨hx, hb, hml, hown, hts⟩ (fun sz => dm_X15_take l hlt dC dI a ac n  s0 hq sz) (cwV 0 hts gi_dm_X15_read_3 rfl rfl rfl (by decide +kernel) ⟨Nat.le_of_ble_eq_true rfl, Nat.le_of_ble_eq_true rfl⟩) hPc hDc hKc hS hA hN (va_recv hKc hPc (ci := 16) (q0 := 0) rfl rfl) rfl hl.1 rfl (Nat.le_of_ble_eq_true rfl) dX15_read_398 (fun H locs hP1 hD1 hk1 hS => ?_)
  have hP := hP1
  have hD := hD1.weaken (fun k q _ h => hFc q.1 h)
  refine lv_aload_n hx hb dX15_read_401 rfl (lv_at hl 0 rfl) ?_
  refine va_get (D := (dC, dI)) (ci := 16) (v := .int (sI s32.1 2)) (C := RX15) (T := TX15) (N := 28) hx hb hts hi_dm_X15_read_X15 hown hK hP 0 rfl rfl 10 (by decide) (hts (.fieldLink RX15 92 "TimeMachineModel$Conditions" "token" "I") (List.mem_of_getElem? (i := 16) rfl)) (fun _ h9 => h9) rfl dX15_read_402 ?_
  refine lv_bipush (v := 6) hx hb dX15_read_405 (by decide) ?_
  refine lv_icmp_eq (tgt := 419) hx hb dX15_read_407 (by decide) (fun c34 => ?_) (fun c34 => ?_)
  · have h := nd_pos h c34
    exact (db_X15_read_419 C K J24) (x1) s32 _ _ _ h hP hD hS (lv_sub hl [0, 1] rfl)
  · have h := nd_neg h c34
    refine lv_aload_n hx hb dX15_read_410 rfl (lv_at hl 0 rfl) ?_
    refine va_get (D := (dC, dI)) (ci := 16) (v := .int (sI s32.1 2)) (C := RX15) (T := TX15) (N := 28) hx hb hts hi_dm_X15_read_X15 hown hK hP 0 rfl rfl 10 (by decide) (hts (.fieldLink RX15 92 "TimeMachineModel$Conditions" "token" "I") (List.mem_of_getElem? (i := 16) rfl)) (fun _ h9 => h9) rfl dX15_read_411 ?_
    refine lv_bipush (v := 7) hx hb dX15_read_414 (by decide) ?_
    refine lv_icmp_ne (tgt := 423) hx hb dX15_read_416 (by decide) (fun c35 => ?_) (fun c35 => ?_)
    · have h := nd_neg h c35
      refine lv_aload_n hx hb dX15_read_423 rfl (lv_at hl 0 rfl) ?_
      refine va_get (D := (dC, dI)) (ci := 16) (v := .int (sI s32.1 2)) (C := RX15) (T := TX15) (N := 28) hx hb hts hi_dm_X15_read_X15 hown hK hP 0 rfl rfl 10 (by decide) (hts (.fieldLink RX15 92 "TimeMachineModel$Conditions" "token" "I") (List.mem_of_getElem? (i := 16) rfl)) (fun _ h9 => h9) rfl dX15_read_424 ?_
      refine lv_bipush (v := 8) hx hb dX15_read_427 (by decide) ?_
      refine lv_icmp_eq (tgt := 441) hx hb dX15_read_429 (by decide) (fun c36 => ?_) (fun c36 => ?_)
      · have h := nd_pos h c36
        exact (db_X15_read_441 C K J24) (x1) s32 _ _ _ h hP hD hS (lv_sub hl [0, 1] rfl)
      · have h := nd_neg h c36
        refine lv_aload_n hx hb dX15_read_432 rfl (lv_at hl 0 rfl) ?_
        refine va_get (D := (dC, dI)) (ci := 16) (v := .int (sI s32.1 2)) (C := RX15) (T := TX15) (N := 28) hx hb hts hi_dm_X15_read_X15 hown hK hP 0 rfl rfl 10 (by decide) (hts (.fieldLink RX15 92 "TimeMachineModel$Conditions" "token" "I") (List.mem_of_getElem? (i := 16) rfl)) (fun _ h9 => h9) rfl dX15_read_433 ?_
        refine lv_bipush (v := 9) hx hb dX15_read_436 (by decide) ?_
        refine lv_icmp_ne (tgt := 445) hx hb dX15_read_438 (by decide) (fun c37 => ?_) (fun c37 => ?_)
        · have h := nd_neg h c37
          refine lv_aload_n hx hb dX15_read_445 rfl (lv_at hl 0 rfl) ?_
          refine va_get (D := (dC, dI)) (ci := 16) (v := .int (sI s32.1 2)) (C := RX15) (T := TX15) (N := 28) hx hb hts hi_dm_X15_read_X15 hown hK hP 0 rfl rfl 10 (by decide) (hts (.fieldLink RX15 92 "TimeMachineModel$Conditions" "token" "I") (List.mem_of_getElem? (i := 16) rfl)) (fun _ h9 => h9) rfl dX15_read_446 ?_
          refine lv_bipush (v := 6) hx hb dX15_read_449 (by decide) ?_
          refine lv_icmp_ge (tgt := 458) hx hb dX15_read_451 (by decide) (fun c38 => ?_) (fun c38 => ?_)
          · have h := nd_pos h c38
            refine lv_iconst (v := 0) hx hb dX15_read_458 (by decide) ?_
            exact (db_X15_read_459 C K J24) (x1) (0) s32 _ _ _ h hP hD hS (lv_sub hl [0, 1] rfl)
          · have h := nd_neg h c38
            refine lv_iconst (v := 1) hx hb dX15_read_454 (by decide) ?_
            refine lv_goto (tgt := 459) hx hb dX15_read_455 (by decide) ?_
            exact (db_X15_read_459 C K J24) (x1) (1) s32 _ _ _ h hP hD hS (lv_sub hl [0, 1] rfl)
        · have h := nd_pos h c37
          exact (db_X15_read_441 C K J24) (x1) s32 _ _ _ h hP hD hS (lv_sub hl [0, 1] rfl)
    · have h := nd_pos h c35
      exact (db_X15_read_419 C K J24) (x1) s32 _ _ _ h hP hD hS (lv_sub hl [0, 1] rfl)
set_option maxHeartbeats 40000000 in
set_option maxRecDepth 100000 in
theorem db_X15_read_345 {p : Program} {l : Launch} {e : Env} {s : State} {m : MethodId} {args : Array Value} {below : List Frame} {meth : Method} {c : Code} {Q : State → Prop} {A : Nat → Prop} {dC : Nat → ClassId} {dI : Nat → Nat → Nat} {a : Nat → Nat} {ac : Nat → ClassId} {n : Nat} {r : Int32 × (St × (St × (St)))} (C : nd_C p l s m args c A (dC, dI) cX15_read 6 RX15 ow_dm_X15_read (dk_X15 ac)) (K : nd_Ki p l e (headSpec ow_dm_X15_read ({ frames := 3, cells := 0, slots := 0, locals := 73 })).room s m args below meth c Q A (dC, dI) cX15_read .int (St × (St × (St))) (dw_X15 a ac) r) {g24 : Int32 → Int32 → (St × (St × (St))) → Option (Int32 × (St × (St × (St))))} (J24 : dj_X15_read_24 p l e s m args below meth c Q A dC dI a ac g24 r) : dj_X15_read_345 p l e s m args below meth c Q A dC dI a ac (df_X15_read_345 n g24) r := by
  obtain ⟨hlt, hx, hb, hml, hown, hts, hN, hA, hK⟩ := id C
  intro x1 x2 x3 x5 s0 H locs ls h hP hD hS hl
  unfold df_X15_read_345 at h
  refine lv_aload_n hx hb dX15_read_345 rfl (lv_at hl 0 rfl) ?_
  refine va_get (D := (dC, dI)) (ci := 16) (v := .int (sI s0.1 6)) (C := RX15) (T := TX15) (N := 28) hx hb hts hi_dm_X15_read_X15 hown hK hP 0 rfl rfl 14 (by decide) (hts (.fieldLink RX15 125 "TimeMachineModel$Conditions" "fault" "I") (List.mem_of_getElem? (i := 1) rfl)) (fun _ h9 => h9) rfl dX15_read_346 ?_
  refine lv_if_le (tgt := 355) hx hb dX15_read_349 (by decide) (fun c27 => ?_) (fun c27 => ?_)
  · have h := nd_pos h c27
    refine lv_iload_n hx hb dX15_read_355 rfl (lv_at hl 3 rfl) ?_
    refine lv_if_eq (tgt := 366) hx hb dX15_read_356 (by decide) (fun c28 => ?_) (fun c28 => ?_)
    · have h := nd_pos h c28
      obtain ⟨z29, ez29, h⟩ := nd_let_e h
      refine lv_iinc (v := z29) (lv' := [(1, .int z29), (0, .ref (a 0)), (2, .int x2), (3, .int x3), (5, .int x5)]) hx hb dX15_read_366 hl (k := 1) rfl (by rw [ez29]) (by decide) rfl (fun ls hl => ?_)
      refine lv_iload hx hb dX15_read_369 (lv_at hl 4 rfl) ?_
      refine lv_if_eq (tgt := 397) hx hb dX15_read_371 (by decide) (fun c30 => ?_) (fun c30 => ?_)
      · have h := nd_pos h c30
        exact (db_X15_read_397 C K J24) (z29) s0 _ _ _ h hP hD hS (lv_sub hl [1, 0] rfl)
      · have h := nd_neg h c30
        refine lv_aload_n hx hb dX15_read_374 rfl (lv_at hl 1 rfl) ?_
        refine va_get (D := (dC, dI)) (ci := 16) (v := .ref (a 10)) (C := RX15) (T := TX15) (N := 28) hx hb hts hi_dm_X15_read_X15 hown hK hP 0 rfl rfl 18 (by decide) (hts (.fieldLink RX15 40 "TimeMachineModel$Conditions" "openAt" "[I") (List.mem_of_getElem? (i := 20) rfl)) (fun _ h9 => h9) rfl dX15_read_375 ?_
        refine lv_aload_n hx hb dX15_read_378 rfl (lv_at hl 1 rfl) ?_
        refine va_get (D := (dC, dI)) (ci := 16) (v := .int (sI s0.1 5)) (C := RX15) (T := TX15) (N := 28) hx hb hts hi_dm_X15_read_X15 hown hK hP 0 rfl rfl 13 (by decide) (hts (.fieldLink RX15 128 "TimeMachineModel$Conditions" "opened" "I") (List.mem_of_getElem? (i := 2) rfl)) (fun _ h9 => h9) rfl dX15_read_379 ?_
        refine lv_aload_n hx hb dX15_read_382 rfl (lv_at hl 1 rfl) ?_
        refine va_get (D := (dC, dI)) (ci := 16) (v := .int (sI s0.1 4)) (C := RX15) (T := TX15) (N := 28) hx hb hts hi_dm_X15_read_X15 hown hK hP 0 rfl rfl 12 (by decide) (hts (.fieldLink RX15 131 "TimeMachineModel$Conditions" "tokens" "I") (List.mem_of_getElem? (i := 3) rfl)) (fun _ h9 => h9) rfl dX15_read_383 ?_
        obtain ⟨i39, h⟩ := nd_ck_e h
        refine va_iast (i := (sI s0.1 5)) (x := (sI s0.1 4)) hx hb hK hP hD hS 10 9 rfl rfl i39 dX15_read_386 (fun H locs hP hD hS => ?_)
        obtain ⟨s40, es40, h⟩ := nd_let_e h
        have hP : va_P (dC, dI) vwCl (dw_X15 a ac s40) H := by rw [es40]; exact hP
        have hD : va_D A (dw_X15 a ac s40) := by rw [es40]; exact hD
        refine lv_aload_n hx hb dX15_read_387 rfl (lv_at hl 1 rfl) ?_
        refine lv_dup hx hb dX15_read_388 rfl ?_
        refine va_get (D := (dC, dI)) (ci := 16) (v := .int (sI s40.1 5)) (C := RX15) (T := TX15) (N := 28) hx hb hts hi_dm_X15_read_X15 hown hK hP 0 rfl rfl 13 (by decide) (hts (.fieldLink RX15 128 "TimeMachineModel$Conditions" "opened" "I") (List.mem_of_getElem? (i := 2) rfl)) (fun _ h9 => h9) rfl dX15_read_389 ?_
        refine lv_iconst (v := 1) hx hb dX15_read_392 (by decide) ?_
        refine lv_iadd hx hb dX15_read_393 ?_
        refine va_put (D := (dC, dI)) (ci := 16) (v := .int ((sI s40.1 5) + 1)) (ty := .int) (C := RX15) (T := TX15) (N := 28) hx hb hts hi_dm_X15_read_X15 tyX15 tyX15_ok nmX15 hown hK hP hD hS 0 rfl rfl 13 (by decide) (hts (.fieldLink RX15 128 "TimeMachineModel$Conditions" "opened" "I") (List.mem_of_getElem? (i := 2) rfl)) (fun _ h9 => h9) rfl (by decide +kernel) rfl rfl (Nat.le_of_ble_eq_true rfl) dX15_read_394 (fun H locs hP hD hS => ?_)
        obtain ⟨s41, es41, h⟩ := nd_let_e h
        have hP : va_P (dC, dI) vwCl (dw_X15 a ac s41) H := by rw [es41]; exact hP
        have hD : va_D A (dw_X15 a ac s41) := by rw [es41]; exact hD
        exact (db_X15_read_397 C K J24) (z29) s41 _ _ _ h hP hD hS (lv_sub hl [1, 0] rfl)
    · have h := nd_neg h c28
      refine lv_aload_n hx hb dX15_read_359 rfl (lv_at hl 0 rfl) ?_
      obtain ⟨s43, hq, h⟩ := nd_b1_e h
      have hPc := hP
      have hDc := hD
      have hKc := hK
      have hFc := nd_rs hD hS hA
      refine nd_cVv (As := []) (rest := []) (w' := dw_X15 a ac s43) ⟨hx, hb, hml, hown, hts⟩ (fun sz => dm_X15_shut l hlt dC dI a ac n  s0 hq sz) (cwV 0 hts gi_dm_X15_read_4 rfl rfl rfl (by decide +kernel) ⟨Nat.le_of_ble_eq_true rfl, Nat.le_of_ble_eq_true rfl⟩) hPc hDc hKc hS hA hN (va_recv hKc hPc (ci := 16) (q0 := 0) rfl rfl) rfl hl.1 rfl (Nat.le_of_ble_eq_true rfl) dX15_read_360 (fun H locs hP1 hD1 hk1 hS => ?_)
      have hP := hP1
      have hD := hD1.weaken (fun k q _ h => hFc q.1 h)
      refine lv_goto (tgt := 24) hx hb dX15_read_363 (by decide) ?_
      exact (J24) (x1) (x2) s43 _ _ _ h hP hD hS (lv_sub hl [0, 1, 2] rfl)
  · have h := nd_neg h c27
    refine lv_goto (tgt := 463) hx hb dX15_read_352 (by decide) ?_
    exact (db_X15_read_463 C K) (x1) (x2) s0 _ _ _ h hP hD hS (lv_sub hl [0, 1, 2] rfl)
set_option maxHeartbeats 40000000 in
set_option maxRecDepth 100000 in
theorem db_X15_read_322 {p : Program} {l : Launch} {e : Env} {s : State} {m : MethodId} {args : Array Value} {below : List Frame} {meth : Method} {c : Code} {Q : State → Prop} {A : Nat → Prop} {dC : Nat → ClassId} {dI : Nat → Nat → Nat} {a : Nat → Nat} {ac : Nat → ClassId} {n : Nat} {r : Int32 × (St × (St × (St)))} (C : nd_C p l s m args c A (dC, dI) cX15_read 6 RX15 ow_dm_X15_read (dk_X15 ac)) (K : nd_Ki p l e (headSpec ow_dm_X15_read ({ frames := 3, cells := 0, slots := 0, locals := 73 })).room s m args below meth c Q A (dC, dI) cX15_read .int (St × (St × (St))) (dw_X15 a ac) r) {g24 : Int32 → Int32 → (St × (St × (St))) → Option (Int32 × (St × (St × (St))))} (J24 : dj_X15_read_24 p l e s m args below meth c Q A dC dI a ac g24 r) : dj_X15_read_322 p l e s m args below meth c Q A dC dI a ac (df_X15_read_322 n g24) r := by
  obtain ⟨hlt, hx, hb, hml, hown, hts, hN, hA, hK⟩ := id C
  intro x1 x2 x3 x5 s0 H locs ls h hP hD hS hl
  unfold df_X15_read_322 at h
  refine lv_iload hx hb dX15_read_322 (lv_at hl 4 rfl) ?_
  refine lv_if_eq (tgt := 345) hx hb dX15_read_324 (by decide) (fun c26 => ?_) (fun c26 => ?_)
  · have h := nd_pos h c26
    exact (db_X15_read_345 C K J24) (x1) (x2) (x3) (x5) s0 _ _ _ h hP hD hS (lv_sub hl [0, 1, 2, 3, 4] rfl)
  · have h := nd_neg h c26
    refine lv_aload_n hx hb dX15_read_327 rfl (lv_at hl 0 rfl) ?_
    refine va_get (D := (dC, dI)) (ci := 16) (v := .int (sI s0.1 5)) (C := RX15) (T := TX15) (N := 28) hx hb hts hi_dm_X15_read_X15 hown hK hP 0 rfl rfl 13 (by decide) (hts (.fieldLink RX15 128 "TimeMachineModel$Conditions" "opened" "I") (List.mem_of_getElem? (i := 2) rfl)) (fun _ h9 => h9) rfl dX15_read_328 ?_
    refine lv_bipush (v := 8) hx hb dX15_read_331 (by decide) ?_
    refine lv_icmp_ne (tgt := 345) hx hb dX15_read_333 (by decide) (fun c45 => ?_) (fun c45 => ?_)
    · have h := nd_neg h c45
      exact (db_X15_read_345 C K J24) (x1) (x2) (x3) (x5) s0 _ _ _ h hP hD hS (lv_sub hl [0, 1, 2, 3, 4] rfl)
    · have h := nd_pos h c45
      refine lv_aload_n hx hb dX15_read_336 rfl (lv_at hl 0 rfl) ?_
      refine lv_iconst (v := 4) hx hb dX15_read_337 (by decide) ?_
      refine lv_aload_n hx hb dX15_read_338 rfl (lv_at hl 0 rfl) ?_
      refine va_get (D := (dC, dI)) (ci := 16) (v := .int (sI s0.1 3)) (C := RX15) (T := TX15) (N := 28) hx hb hts hi_dm_X15_read_X15 hown hK hP 0 rfl rfl 11 (by decide) (hts (.fieldLink RX15 80 "TimeMachineModel$Conditions" "start" "I") (List.mem_of_getElem? (i := 24) rfl)) (fun _ h9 => h9) rfl dX15_read_339 ?_
      obtain ⟨s47, hq, h⟩ := nd_b1_e h
      have hPc := hP
      have hDc := hD
      have hKc := hK
      have hFc := nd_rs hD hS hA
      refine nd_cVv (As := [.int 4, .int (sI s0.1 3)]) (rest := []) (w' := dw_X15 a ac s47) ⟨hx, hb, hml, hown, hts⟩ (fun sz => dm_X15_meet l hlt dC dI a ac n (4) ((sI s0.1 3)) s0 hq sz) (cwV 2 hts gi_dm_X15_read_0 rfl rfl rfl (by decide +kernel) ⟨Nat.le_of_ble_eq_true rfl, Nat.le_of_ble_eq_true rfl⟩) hPc hDc hKc hS hA hN (va_recv hKc hPc (ci := 16) (q0 := 0) rfl rfl) rfl hl.1 rfl (Nat.le_of_ble_eq_true rfl) dX15_read_342 (fun H locs hP1 hD1 hk1 hS => ?_)
      have hP := hP1
      have hD := hD1.weaken (fun k q _ h => hFc q.1 h)
      exact (db_X15_read_345 C K J24) (x1) (x2) (x3) (x5) s47 _ _ _ h hP hD hS (lv_sub hl [0, 1, 2, 3, 4] rfl)
set_option maxHeartbeats 40000000 in
set_option maxRecDepth 100000 in
theorem db_X15_read_262 {p : Program} {l : Launch} {e : Env} {s : State} {m : MethodId} {args : Array Value} {below : List Frame} {meth : Method} {c : Code} {Q : State → Prop} {A : Nat → Prop} {dC : Nat → ClassId} {dI : Nat → Nat → Nat} {a : Nat → Nat} {ac : Nat → ClassId} {n : Nat} {r : Int32 × (St × (St × (St)))} (C : nd_C p l s m args c A (dC, dI) cX15_read 6 RX15 ow_dm_X15_read (dk_X15 ac)) (K : nd_Ki p l e (headSpec ow_dm_X15_read ({ frames := 3, cells := 0, slots := 0, locals := 73 })).room s m args below meth c Q A (dC, dI) cX15_read .int (St × (St × (St))) (dw_X15 a ac) r) {g24 : Int32 → Int32 → (St × (St × (St))) → Option (Int32 × (St × (St × (St))))} (J24 : dj_X15_read_24 p l e s m args below meth c Q A dC dI a ac g24 r) : dj_X15_read_262 p l e s m args below meth c Q A dC dI a ac (df_X15_read_262 n g24) r := by
  obtain ⟨hlt, hx, hb, hml, hown, hts, hN, hA, hK⟩ := id C
  intro x1 x2 x3 x5 y0 s0 H locs ls h hP hD hS hl
  unfold df_X15_read_262 at h
  refine lv_istore (lv' := [(4, .int y0), (0, .ref (a 0)), (1, .int x1), (2, .int x2), (3, .int x3), (5, .int x5)]) hx hb dX15_read_262 hl (by decide) rfl (fun ls hl => ?_)
  refine lv_iload hx hb dX15_read_264 (lv_at hl 0 rfl) ?_
  refine lv_if_ne (tgt := 281) hx hb dX15_read_266 (by decide) (fun c23 => ?_) (fun c23 => ?_)
  · have h := nd_neg h c23
    refine lv_aload_n hx hb dX15_read_281 rfl (lv_at hl 1 rfl) ?_
    refine va_get (D := (dC, dI)) (ci := 16) (v := .int (sI s0.1 2)) (C := RX15) (T := TX15) (N := 28) hx hb hts hi_dm_X15_read_X15 hown hK hP 0 rfl rfl 10 (by decide) (hts (.fieldLink RX15 92 "TimeMachineModel$Conditions" "token" "I") (List.mem_of_getElem? (i := 16) rfl)) (fun _ h9 => h9) rfl dX15_read_282 ?_
    refine lv_if_ne (tgt := 300) hx hb dX15_read_285 (by decide) (fun c24 => ?_) (fun c24 => ?_)
    · have h := nd_neg h c24
      refine lv_iload_n hx hb dX15_read_300 rfl (lv_at hl 4 rfl) ?_
      refine lv_if_ne (tgt := 322) hx hb dX15_read_301 (by decide) (fun c25 => ?_) (fun c25 => ?_)
      · have h := nd_neg h c25
        exact (db_X15_read_322 C K J24) (x1) (x2) (x3) (x5) s0 _ _ _ h hP hD hS (lv_sub hl [1, 2, 3, 4, 5] rfl)
      · have h := nd_pos h c25
        refine lv_iload_n hx hb dX15_read_304 rfl (lv_at hl 2 rfl) ?_
        refine lv_bipush (v := 40) hx hb dX15_read_305 (by decide) ?_
        refine lv_icmp_ne (tgt := 322) hx hb dX15_read_307 (by decide) (fun c49 => ?_) (fun c49 => ?_)
        · have h := nd_neg h c49
          exact (db_X15_read_322 C K J24) (x1) (x2) (x3) (x5) s0 _ _ _ h hP hD hS (lv_sub hl [1, 2, 3, 4, 5] rfl)
        · have h := nd_pos h c49
          refine lv_aload_n hx hb dX15_read_310 rfl (lv_at hl 1 rfl) ?_
          refine lv_iconst (v := 3) hx hb dX15_read_311 (by decide) ?_
          refine lv_aload_n hx hb dX15_read_312 rfl (lv_at hl 1 rfl) ?_
          refine va_get (D := (dC, dI)) (ci := 16) (v := .int (sI s0.1 3)) (C := RX15) (T := TX15) (N := 28) hx hb hts hi_dm_X15_read_X15 hown hK hP 0 rfl rfl 11 (by decide) (hts (.fieldLink RX15 80 "TimeMachineModel$Conditions" "start" "I") (List.mem_of_getElem? (i := 24) rfl)) (fun _ h9 => h9) rfl dX15_read_313 ?_
          obtain ⟨s51, hq, h⟩ := nd_b1_e h
          have hPc := hP
          have hDc := hD
          have hKc := hK
          have hFc := nd_rs hD hS hA
          refine nd_cVv (As := [.int 3, .int (sI s0.1 3)]) (rest := []) (w' := dw_X15 a ac s51) ⟨hx, hb, hml, hown, hts⟩ (fun sz => dm_X15_meet l hlt dC dI a ac n (3) ((sI s0.1 3)) s0 hq sz) (cwV 2 hts gi_dm_X15_read_0 rfl rfl rfl (by decide +kernel) ⟨Nat.le_of_ble_eq_true rfl, Nat.le_of_ble_eq_true rfl⟩) hPc hDc hKc hS hA hN (va_recv hKc hPc (ci := 16) (q0 := 0) rfl rfl) rfl hl.1 rfl (Nat.le_of_ble_eq_true rfl) dX15_read_316 (fun H locs hP1 hD1 hk1 hS => ?_)
          have hP := hP1
          have hD := hD1.weaken (fun k q _ h => hFc q.1 h)
          refine lv_goto (tgt := 345) hx hb dX15_read_319 (by decide) ?_
          exact (db_X15_read_345 C K J24) (x1) (x2) (x3) (x5) s51 _ _ _ h hP hD hS (lv_sub hl [1, 2, 3, 4, 5] rfl)
    · have h := nd_pos h c24
      refine lv_aload_n hx hb dX15_read_288 rfl (lv_at hl 1 rfl) ?_
      refine lv_iconst (v := 2) hx hb dX15_read_289 (by decide) ?_
      refine lv_aload_n hx hb dX15_read_290 rfl (lv_at hl 1 rfl) ?_
      refine va_get (D := (dC, dI)) (ci := 16) (v := .int (sI s0.1 3)) (C := RX15) (T := TX15) (N := 28) hx hb hts hi_dm_X15_read_X15 hown hK hP 0 rfl rfl 11 (by decide) (hts (.fieldLink RX15 80 "TimeMachineModel$Conditions" "start" "I") (List.mem_of_getElem? (i := 24) rfl)) (fun _ h9 => h9) rfl dX15_read_291 ?_
      obtain ⟨s54, hq, h⟩ := nd_b1_e h
      have hPc := hP
      have hDc := hD
      have hKc := hK
      have hFc := nd_rs hD hS hA
      refine nd_cVv (As := [.int 2, .int (sI s0.1 3)]) (rest := []) (w' := dw_X15 a ac s54) ⟨hx, hb, hml, hown, hts⟩ (fun sz => dm_X15_meet l hlt dC dI a ac n (2) ((sI s0.1 3)) s0 hq sz) (cwV 2 hts gi_dm_X15_read_0 rfl rfl rfl (by decide +kernel) ⟨Nat.le_of_ble_eq_true rfl, Nat.le_of_ble_eq_true rfl⟩) hPc hDc hKc hS hA hN (va_recv hKc hPc (ci := 16) (q0 := 0) rfl rfl) rfl hl.1 rfl (Nat.le_of_ble_eq_true rfl) dX15_read_294 (fun H locs hP1 hD1 hk1 hS => ?_)
      have hP := hP1
      have hD := hD1.weaken (fun k q _ h => hFc q.1 h)
      refine lv_goto (tgt := 345) hx hb dX15_read_297 (by decide) ?_
      exact (db_X15_read_345 C K J24) (x1) (x2) (x3) (x5) s54 _ _ _ h hP hD hS (lv_sub hl [1, 2, 3, 4, 5] rfl)
  · have h := nd_pos h c23
    refine lv_aload_n hx hb dX15_read_269 rfl (lv_at hl 1 rfl) ?_
    refine lv_iconst (v := 1) hx hb dX15_read_270 (by decide) ?_
    refine lv_aload_n hx hb dX15_read_271 rfl (lv_at hl 1 rfl) ?_
    refine va_get (D := (dC, dI)) (ci := 16) (v := .int (sI s0.1 3)) (C := RX15) (T := TX15) (N := 28) hx hb hts hi_dm_X15_read_X15 hown hK hP 0 rfl rfl 11 (by decide) (hts (.fieldLink RX15 80 "TimeMachineModel$Conditions" "start" "I") (List.mem_of_getElem? (i := 24) rfl)) (fun _ h9 => h9) rfl dX15_read_272 ?_
    obtain ⟨s57, hq, h⟩ := nd_b1_e h
    have hPc := hP
    have hDc := hD
    have hKc := hK
    have hFc := nd_rs hD hS hA
    refine nd_cVv (As := [.int 1, .int (sI s0.1 3)]) (rest := []) (w' := dw_X15 a ac s57) ⟨hx, hb, hml, hown, hts⟩ (fun sz => dm_X15_meet l hlt dC dI a ac n (1) ((sI s0.1 3)) s0 hq sz) (cwV 2 hts gi_dm_X15_read_0 rfl rfl rfl (by decide +kernel) ⟨Nat.le_of_ble_eq_true rfl, Nat.le_of_ble_eq_true rfl⟩) hPc hDc hKc hS hA hN (va_recv hKc hPc (ci := 16) (q0 := 0) rfl rfl) rfl hl.1 rfl (Nat.le_of_ble_eq_true rfl) dX15_read_275 (fun H locs hP1 hD1 hk1 hS => ?_)
    have hP := hP1
    have hD := hD1.weaken (fun k q _ h => hFc q.1 h)
    refine lv_goto (tgt := 345) hx hb dX15_read_278 (by decide) ?_
    exact (db_X15_read_345 C K J24) (x1) (x2) (x3) (x5) s57 _ _ _ h hP hD hS (lv_sub hl [1, 2, 3, 4, 5] rfl)
set_option maxHeartbeats 40000000 in
set_option maxRecDepth 100000 in
theorem db_X15_read_261 {p : Program} {l : Launch} {e : Env} {s : State} {m : MethodId} {args : Array Value} {below : List Frame} {meth : Method} {c : Code} {Q : State → Prop} {A : Nat → Prop} {dC : Nat → ClassId} {dI : Nat → Nat → Nat} {a : Nat → Nat} {ac : Nat → ClassId} {n : Nat} {r : Int32 × (St × (St × (St)))} (C : nd_C p l s m args c A (dC, dI) cX15_read 6 RX15 ow_dm_X15_read (dk_X15 ac)) (K : nd_Ki p l e (headSpec ow_dm_X15_read ({ frames := 3, cells := 0, slots := 0, locals := 73 })).room s m args below meth c Q A (dC, dI) cX15_read .int (St × (St × (St))) (dw_X15 a ac) r) {g24 : Int32 → Int32 → (St × (St × (St))) → Option (Int32 × (St × (St × (St))))} (J24 : dj_X15_read_24 p l e s m args below meth c Q A dC dI a ac g24 r) : dj_X15_read_261 p l e s m args below meth c Q A dC dI a ac (df_X15_read_261 n g24) r := by
  obtain ⟨hlt, hx, hb, hml, hown, hts, hN, hA, hK⟩ := id C
  intro x1 x2 x3 x5 s0 H locs ls h hP hD hS hl
  unfold df_X15_read_261 at h
  refine lv_iconst (v := 0) hx hb dX15_read_261 (by decide) ?_
  exact (db_X15_read_262 C K J24) (x1) (x2) (x3) (x5) (0) s0 _ _ _ h hP hD hS (lv_sub hl [0, 1, 2, 3, 4] rfl)
set_option maxHeartbeats 40000000 in
set_option maxRecDepth 100000 in
theorem db_X15_read_257 {p : Program} {l : Launch} {e : Env} {s : State} {m : MethodId} {args : Array Value} {below : List Frame} {meth : Method} {c : Code} {Q : State → Prop} {A : Nat → Prop} {dC : Nat → ClassId} {dI : Nat → Nat → Nat} {a : Nat → Nat} {ac : Nat → ClassId} {n : Nat} {r : Int32 × (St × (St × (St)))} (C : nd_C p l s m args c A (dC, dI) cX15_read 6 RX15 ow_dm_X15_read (dk_X15 ac)) (K : nd_Ki p l e (headSpec ow_dm_X15_read ({ frames := 3, cells := 0, slots := 0, locals := 73 })).room s m args below meth c Q A (dC, dI) cX15_read .int (St × (St × (St))) (dw_X15 a ac) r) {g24 : Int32 → Int32 → (St × (St × (St))) → Option (Int32 × (St × (St × (St))))} (J24 : dj_X15_read_24 p l e s m args below meth c Q A dC dI a ac g24 r) : dj_X15_read_257 p l e s m args below meth c Q A dC dI a ac (df_X15_read_257 n g24) r := by
  obtain ⟨hlt, hx, hb, hml, hown, hts, hN, hA, hK⟩ := id C
  intro x1 x2 x3 x5 s0 H locs ls h hP hD hS hl
  unfold df_X15_read_257 at h
  refine lv_iconst (v := 1) hx hb dX15_read_257 (by decide) ?_
  refine lv_goto (tgt := 262) hx hb dX15_read_258 (by decide) ?_
  exact (db_X15_read_262 C K J24) (x1) (x2) (x3) (x5) (1) s0 _ _ _ h hP hD hS (lv_sub hl [0, 1, 2, 3, 4] rfl)
set_option maxHeartbeats 40000000 in
set_option maxRecDepth 100000 in
theorem db_X15_read_250 {p : Program} {l : Launch} {e : Env} {s : State} {m : MethodId} {args : Array Value} {below : List Frame} {meth : Method} {c : Code} {Q : State → Prop} {A : Nat → Prop} {dC : Nat → ClassId} {dI : Nat → Nat → Nat} {a : Nat → Nat} {ac : Nat → ClassId} {n : Nat} {r : Int32 × (St × (St × (St)))} (C : nd_C p l s m args c A (dC, dI) cX15_read 6 RX15 ow_dm_X15_read (dk_X15 ac)) (K : nd_Ki p l e (headSpec ow_dm_X15_read ({ frames := 3, cells := 0, slots := 0, locals := 73 })).room s m args below meth c Q A (dC, dI) cX15_read .int (St × (St × (St))) (dw_X15 a ac) r) {g24 : Int32 → Int32 → (St × (St × (St))) → Option (Int32 × (St × (St × (St))))} (J24 : dj_X15_read_24 p l e s m args below meth c Q A dC dI a ac g24 r) : dj_X15_read_250 p l e s m args below meth c Q A dC dI a ac (df_X15_read_250 n g24) r := by
  obtain ⟨hlt, hx, hb, hml, hown, hts, hN, hA, hK⟩ := id C
  intro x1 x2 x3 x5 s0 H locs ls h hP hD hS hl
  unfold df_X15_read_250 at h
  refine lv_aload_n hx hb dX15_read_250 rfl (lv_at hl 0 rfl) ?_
  obtain ⟨q60, s61, hq, h⟩ := nd_b2_e h
  have hPc := hP
  have hDc := hD
  have hKc := hK
  have hFc := nd_rs hD hS hA
  refine nd_cVi (As := []) (rest := []) (q := q60) (w' := dw_X15 a ac s61) ⟨hx, hb, hml, hown, hts⟩ (fun sz => dm_X15_remembers l hlt dC dI a ac n  s0 hq sz) (cwV 0 hts gi_dm_X15_read_5 rfl rfl rfl (by decide +kernel) ⟨Nat.le_of_ble_eq_true rfl, Nat.le_of_ble_eq_true rfl⟩) hPc hDc hKc hS hA hN (va_recv hKc hPc (ci := 16) (q0 := 0) rfl rfl) rfl hl.1 rfl (Nat.le_of_ble_eq_true rfl) dX15_read_251 (fun H locs hP1 hD1 hk1 hS => ?_)
  have hP := hP1
  have hD := hD1.weaken (fun k q _ h => hFc q.1 h)
  refine lv_if_ne (tgt := 261) hx hb dX15_read_254 (by decide) (fun c63 => ?_) (fun c63 => ?_)
  · have h := nd_neg h c63
    exact (db_X15_read_261 C K J24) (x1) (x2) (x3) (x5) s61 _ _ _ h hP hD hS (lv_sub hl [0, 1, 2, 3, 4] rfl)
  · have h := nd_pos h c63
    exact (db_X15_read_257 C K J24) (x1) (x2) (x3) (x5) s61 _ _ _ h hP hD hS (lv_sub hl [0, 1, 2, 3, 4] rfl)
set_option maxHeartbeats 40000000 in
set_option maxRecDepth 100000 in
theorem db_X15_read_225 {p : Program} {l : Launch} {e : Env} {s : State} {m : MethodId} {args : Array Value} {below : List Frame} {meth : Method} {c : Code} {Q : State → Prop} {A : Nat → Prop} {dC : Nat → ClassId} {dI : Nat → Nat → Nat} {a : Nat → Nat} {ac : Nat → ClassId} {n : Nat} {r : Int32 × (St × (St × (St)))} (C : nd_C p l s m args c A (dC, dI) cX15_read 6 RX15 ow_dm_X15_read (dk_X15 ac)) (K : nd_Ki p l e (headSpec ow_dm_X15_read ({ frames := 3, cells := 0, slots := 0, locals := 73 })).room s m args below meth c Q A (dC, dI) cX15_read .int (St × (St × (St))) (dw_X15 a ac) r) {g24 : Int32 → Int32 → (St × (St × (St))) → Option (Int32 × (St × (St × (St))))} (J24 : dj_X15_read_24 p l e s m args below meth c Q A dC dI a ac g24 r) : dj_X15_read_225 p l e s m args below meth c Q A dC dI a ac (df_X15_read_225 n g24) r := by
  obtain ⟨hlt, hx, hb, hml, hown, hts, hN, hA, hK⟩ := id C
  intro x1 x2 x3 x4 y0 s0 H locs ls h hP hD hS hl
  unfold df_X15_read_225 at h
  refine lv_istore (lv' := [(5, .int y0), (0, .ref (a 0)), (1, .int x1), (2, .int x2), (3, .int x3), (4, .int x4)]) hx hb dX15_read_225 hl (by decide) rfl (fun ls hl => ?_)
  refine lv_iload hx hb dX15_read_227 (lv_at hl 5 rfl) ?_
  refine lv_if_eq (tgt := 261) hx hb dX15_read_229 (by decide) (fun c22 => ?_) (fun c22 => ?_)
  · have h := nd_pos h c22
    exact (db_X15_read_261 C K J24) (x1) (x2) (x3) (y0) s0 _ _ _ h hP hD hS (lv_sub hl [1, 2, 3, 4, 0] rfl)
  · have h := nd_neg h c22
    refine lv_aload_n hx hb dX15_read_232 rfl (lv_at hl 1 rfl) ?_
    refine va_get (D := (dC, dI)) (ci := 16) (v := .int (sI s0.1 2)) (C := RX15) (T := TX15) (N := 28) hx hb hts hi_dm_X15_read_X15 hown hK hP 0 rfl rfl 10 (by decide) (hts (.fieldLink RX15 92 "TimeMachineModel$Conditions" "token" "I") (List.mem_of_getElem? (i := 16) rfl)) (fun _ h9 => h9) rfl dX15_read_233 ?_
    refine lv_bipush (v := 8) hx hb dX15_read_236 (by decide) ?_
    refine lv_icmp_eq (tgt := 250) hx hb dX15_read_238 (by decide) (fun c59 => ?_) (fun c59 => ?_)
    · have h := nd_pos h c59
      exact (db_X15_read_250 C K J24) (x1) (x2) (x3) (y0) s0 _ _ _ h hP hD hS (lv_sub hl [1, 2, 3, 4, 0] rfl)
    · have h := nd_neg h c59
      refine lv_aload_n hx hb dX15_read_241 rfl (lv_at hl 1 rfl) ?_
      refine va_get (D := (dC, dI)) (ci := 16) (v := .int (sI s0.1 2)) (C := RX15) (T := TX15) (N := 28) hx hb hts hi_dm_X15_read_X15 hown hK hP 0 rfl rfl 10 (by decide) (hts (.fieldLink RX15 92 "TimeMachineModel$Conditions" "token" "I") (List.mem_of_getElem? (i := 16) rfl)) (fun _ h9 => h9) rfl dX15_read_242 ?_
      refine lv_bipush (v := 9) hx hb dX15_read_245 (by decide) ?_
      refine lv_icmp_ne (tgt := 257) hx hb dX15_read_247 (by decide) (fun c64 => ?_) (fun c64 => ?_)
      · have h := nd_neg h c64
        exact (db_X15_read_257 C K J24) (x1) (x2) (x3) (y0) s0 _ _ _ h hP hD hS (lv_sub hl [1, 2, 3, 4, 0] rfl)
      · have h := nd_pos h c64
        exact (db_X15_read_250 C K J24) (x1) (x2) (x3) (y0) s0 _ _ _ h hP hD hS (lv_sub hl [1, 2, 3, 4, 0] rfl)
set_option maxHeartbeats 40000000 in
set_option maxRecDepth 100000 in
theorem db_X15_read_220 {p : Program} {l : Launch} {e : Env} {s : State} {m : MethodId} {args : Array Value} {below : List Frame} {meth : Method} {c : Code} {Q : State → Prop} {A : Nat → Prop} {dC : Nat → ClassId} {dI : Nat → Nat → Nat} {a : Nat → Nat} {ac : Nat → ClassId} {n : Nat} {r : Int32 × (St × (St × (St)))} (C : nd_C p l s m args c A (dC, dI) cX15_read 6 RX15 ow_dm_X15_read (dk_X15 ac)) (K : nd_Ki p l e (headSpec ow_dm_X15_read ({ frames := 3, cells := 0, slots := 0, locals := 73 })).room s m args below meth c Q A (dC, dI) cX15_read .int (St × (St × (St))) (dw_X15 a ac) r) {g24 : Int32 → Int32 → (St × (St × (St))) → Option (Int32 × (St × (St × (St))))} (J24 : dj_X15_read_24 p l e s m args below meth c Q A dC dI a ac g24 r) : dj_X15_read_220 p l e s m args below meth c Q A dC dI a ac (df_X15_read_220 n g24) r := by
  obtain ⟨hlt, hx, hb, hml, hown, hts, hN, hA, hK⟩ := id C
  intro x1 x2 x3 x4 s0 H locs ls h hP hD hS hl
  unfold df_X15_read_220 at h
  refine lv_iconst (v := 1) hx hb dX15_read_220 (by decide) ?_
  refine lv_goto (tgt := 225) hx hb dX15_read_221 (by decide) ?_
  exact (db_X15_read_225 C K J24) (x1) (x2) (x3) (x4) (1) s0 _ _ _ h hP hD hS (lv_sub hl [0, 1, 2, 3, 4] rfl)
set_option maxHeartbeats 40000000 in
set_option maxRecDepth 100000 in
theorem db_X15_read_200 {p : Program} {l : Launch} {e : Env} {s : State} {m : MethodId} {args : Array Value} {below : List Frame} {meth : Method} {c : Code} {Q : State → Prop} {A : Nat → Prop} {dC : Nat → ClassId} {dI : Nat → Nat → Nat} {a : Nat → Nat} {ac : Nat → ClassId} {n : Nat} {r : Int32 × (St × (St × (St)))} (C : nd_C p l s m args c A (dC, dI) cX15_read 6 RX15 ow_dm_X15_read (dk_X15 ac)) (K : nd_Ki p l e (headSpec ow_dm_X15_read ({ frames := 3, cells := 0, slots := 0, locals := 73 })).room s m args below meth c Q A (dC, dI) cX15_read .int (St × (St × (St))) (dw_X15 a ac) r) {g24 : Int32 → Int32 → (St × (St × (St))) → Option (Int32 × (St × (St × (St))))} (J24 : dj_X15_read_24 p l e s m args below meth c Q A dC dI a ac g24 r) : dj_X15_read_200 p l e s m args below meth c Q A dC dI a ac (df_X15_read_200 n g24) r := by
  obtain ⟨hlt, hx, hb, hml, hown, hts, hN, hA, hK⟩ := id C
  intro x1 x2 x3 y0 s0 H locs ls h hP hD hS hl
  unfold df_X15_read_200 at h
  refine lv_istore (lv' := [(4, .int y0), (0, .ref (a 0)), (1, .int x1), (2, .int x2), (3, .int x3)]) hx hb dX15_read_200 hl (by decide) rfl (fun ls hl => ?_)
  refine lv_aload_n hx hb dX15_read_202 rfl (lv_at hl 1 rfl) ?_
  refine va_get (D := (dC, dI)) (ci := 16) (v := .int (sI s0.1 2)) (C := RX15) (T := TX15) (N := 28) hx hb hts hi_dm_X15_read_X15 hown hK hP 0 rfl rfl 10 (by decide) (hts (.fieldLink RX15 92 "TimeMachineModel$Conditions" "token" "I") (List.mem_of_getElem? (i := 16) rfl)) (fun _ h9 => h9) rfl dX15_read_203 ?_
  refine lv_bipush (v := 30) hx hb dX15_read_206 (by decide) ?_
  refine lv_icmp_eq (tgt := 220) hx hb dX15_read_208 (by decide) (fun c21 => ?_) (fun c21 => ?_)
  · have h := nd_pos h c21
    exact (db_X15_read_220 C K J24) (x1) (x2) (x3) (y0) s0 _ _ _ h hP hD hS (lv_sub hl [1, 2, 3, 4, 0] rfl)
  · have h := nd_neg h c21
    refine lv_aload_n hx hb dX15_read_211 rfl (lv_at hl 1 rfl) ?_
    refine va_get (D := (dC, dI)) (ci := 16) (v := .int (sI s0.1 2)) (C := RX15) (T := TX15) (N := 28) hx hb hts hi_dm_X15_read_X15 hown hK hP 0 rfl rfl 10 (by decide) (hts (.fieldLink RX15 92 "TimeMachineModel$Conditions" "token" "I") (List.mem_of_getElem? (i := 16) rfl)) (fun _ h9 => h9) rfl dX15_read_212 ?_
    refine lv_bipush (v := 32) hx hb dX15_read_215 (by decide) ?_
    refine lv_icmp_ne (tgt := 224) hx hb dX15_read_217 (by decide) (fun c65 => ?_) (fun c65 => ?_)
    · have h := nd_neg h c65
      refine lv_iconst (v := 0) hx hb dX15_read_224 (by decide) ?_
      exact (db_X15_read_225 C K J24) (x1) (x2) (x3) (y0) (0) s0 _ _ _ h hP hD hS (lv_sub hl [1, 2, 3, 4, 0] rfl)
    · have h := nd_pos h c65
      exact (db_X15_read_220 C K J24) (x1) (x2) (x3) (y0) s0 _ _ _ h hP hD hS (lv_sub hl [1, 2, 3, 4, 0] rfl)
set_option maxHeartbeats 40000000 in
set_option maxRecDepth 100000 in
theorem db_X15_read_199 {p : Program} {l : Launch} {e : Env} {s : State} {m : MethodId} {args : Array Value} {below : List Frame} {meth : Method} {c : Code} {Q : State → Prop} {A : Nat → Prop} {dC : Nat → ClassId} {dI : Nat → Nat → Nat} {a : Nat → Nat} {ac : Nat → ClassId} {n : Nat} {r : Int32 × (St × (St × (St)))} (C : nd_C p l s m args c A (dC, dI) cX15_read 6 RX15 ow_dm_X15_read (dk_X15 ac)) (K : nd_Ki p l e (headSpec ow_dm_X15_read ({ frames := 3, cells := 0, slots := 0, locals := 73 })).room s m args below meth c Q A (dC, dI) cX15_read .int (St × (St × (St))) (dw_X15 a ac) r) {g24 : Int32 → Int32 → (St × (St × (St))) → Option (Int32 × (St × (St × (St))))} (J24 : dj_X15_read_24 p l e s m args below meth c Q A dC dI a ac g24 r) : dj_X15_read_199 p l e s m args below meth c Q A dC dI a ac (df_X15_read_199 n g24) r := by
  obtain ⟨hlt, hx, hb, hml, hown, hts, hN, hA, hK⟩ := id C
  intro x1 x2 x3 s0 H locs ls h hP hD hS hl
  unfold df_X15_read_199 at h
  refine lv_iconst (v := 0) hx hb dX15_read_199 (by decide) ?_
  exact (db_X15_read_200 C K J24) (x1) (x2) (x3) (0) s0 _ _ _ h hP hD hS (lv_sub hl [0, 1, 2, 3] rfl)
set_option maxHeartbeats 40000000 in
set_option maxRecDepth 100000 in
theorem db_X15_read_195 {p : Program} {l : Launch} {e : Env} {s : State} {m : MethodId} {args : Array Value} {below : List Frame} {meth : Method} {c : Code} {Q : State → Prop} {A : Nat → Prop} {dC : Nat → ClassId} {dI : Nat → Nat → Nat} {a : Nat → Nat} {ac : Nat → ClassId} {n : Nat} {r : Int32 × (St × (St × (St)))} (C : nd_C p l s m args c A (dC, dI) cX15_read 6 RX15 ow_dm_X15_read (dk_X15 ac)) (K : nd_Ki p l e (headSpec ow_dm_X15_read ({ frames := 3, cells := 0, slots := 0, locals := 73 })).room s m args below meth c Q A (dC, dI) cX15_read .int (St × (St × (St))) (dw_X15 a ac) r) {g24 : Int32 → Int32 → (St × (St × (St))) → Option (Int32 × (St × (St × (St))))} (J24 : dj_X15_read_24 p l e s m args below meth c Q A dC dI a ac g24 r) : dj_X15_read_195 p l e s m args below meth c Q A dC dI a ac (df_X15_read_195 n g24) r := by
  obtain ⟨hlt, hx, hb, hml, hown, hts, hN, hA, hK⟩ := id C
  intro x1 x2 x3 s0 H locs ls h hP hD hS hl
  unfold df_X15_read_195 at h
  refine lv_iconst (v := 1) hx hb dX15_read_195 (by decide) ?_
  refine lv_goto (tgt := 200) hx hb dX15_read_196 (by decide) ?_
  exact (db_X15_read_200 C K J24) (x1) (x2) (x3) (1) s0 _ _ _ h hP hD hS (lv_sub hl [0, 1, 2, 3] rfl)
set_option maxHeartbeats 40000000 in
set_option maxRecDepth 100000 in
theorem db_X15_read_192 {p : Program} {l : Launch} {e : Env} {s : State} {m : MethodId} {args : Array Value} {below : List Frame} {meth : Method} {c : Code} {Q : State → Prop} {A : Nat → Prop} {dC : Nat → ClassId} {dI : Nat → Nat → Nat} {a : Nat → Nat} {ac : Nat → ClassId} {n : Nat} {r : Int32 × (St × (St × (St)))} (C : nd_C p l s m args c A (dC, dI) cX15_read 6 RX15 ow_dm_X15_read (dk_X15 ac)) (K : nd_Ki p l e (headSpec ow_dm_X15_read ({ frames := 3, cells := 0, slots := 0, locals := 73 })).room s m args below meth c Q A (dC, dI) cX15_read .int (St × (St × (St))) (dw_X15 a ac) r) {g24 : Int32 → Int32 → (St × (St × (St))) → Option (Int32 × (St × (St × (St))))} (J24 : dj_X15_read_24 p l e s m args below meth c Q A dC dI a ac g24 r) : dj_X15_read_192 p l e s m args below meth c Q A dC dI a ac (df_X15_read_192 n g24) r := by
  obtain ⟨hlt, hx, hb, hml, hown, hts, hN, hA, hK⟩ := id C
  intro x1 x2 x3 y0 y1 s0 H locs ls h hP hD hS hl
  unfold df_X15_read_192 at h
  refine lv_icmp_ne (tgt := 199) hx hb dX15_read_192 (by decide) (fun c69 => ?_) (fun c69 => ?_)
  · have h := nd_neg h c69
    exact (db_X15_read_199 C K J24) (x1) (x2) (x3) s0 _ _ _ h hP hD hS (lv_sub hl [0, 1, 2, 3] rfl)
  · have h := nd_pos h c69
    exact (db_X15_read_195 C K J24) (x1) (x2) (x3) s0 _ _ _ h hP hD hS (lv_sub hl [0, 1, 2, 3] rfl)
set_option maxHeartbeats 40000000 in
set_option maxRecDepth 100000 in
theorem db_X15_read_127 {p : Program} {l : Launch} {e : Env} {s : State} {m : MethodId} {args : Array Value} {below : List Frame} {meth : Method} {c : Code} {Q : State → Prop} {A : Nat → Prop} {dC : Nat → ClassId} {dI : Nat → Nat → Nat} {a : Nat → Nat} {ac : Nat → ClassId} {n : Nat} {r : Int32 × (St × (St × (St)))} (C : nd_C p l s m args c A (dC, dI) cX15_read 6 RX15 ow_dm_X15_read (dk_X15 ac)) (K : nd_Ki p l e (headSpec ow_dm_X15_read ({ frames := 3, cells := 0, slots := 0, locals := 73 })).room s m args below meth c Q A (dC, dI) cX15_read .int (St × (St × (St))) (dw_X15 a ac) r) {g24 : Int32 → Int32 → (St × (St × (St))) → Option (Int32 × (St × (St × (St))))} (J24 : dj_X15_read_24 p l e s m args below meth c Q A dC dI a ac g24 r) : dj_X15_read_127 p l e s m args below meth c Q A dC dI a ac (df_X15_read_127 n g24) r := by
  obtain ⟨hlt, hx, hb, hml, hown, hts, hN, hA, hK⟩ := id C
  intro x1 x2 y0 s0 H locs ls h hP hD hS hl
  unfold df_X15_read_127 at h
  refine lv_istore_n (lv' := [(3, .int y0), (0, .ref (a 0)), (1, .int x1), (2, .int x2)]) hx hb dX15_read_127 rfl hl (by decide) rfl (fun ls hl => ?_)
  refine lv_aload_n hx hb dX15_read_128 rfl (lv_at hl 1 rfl) ?_
  refine va_get (D := (dC, dI)) (ci := 16) (v := .int (sI s0.1 2)) (C := RX15) (T := TX15) (N := 28) hx hb hts hi_dm_X15_read_X15 hown hK hP 0 rfl rfl 10 (by decide) (hts (.fieldLink RX15 92 "TimeMachineModel$Conditions" "token" "I") (List.mem_of_getElem? (i := 16) rfl)) (fun _ h9 => h9) rfl dX15_read_129 ?_
  refine lv_bipush (v := 34) hx hb dX15_read_132 (by decide) ?_
  refine lv_icmp_eq (tgt := 199) hx hb dX15_read_134 (by decide) (fun c20 => ?_) (fun c20 => ?_)
  · have h := nd_pos h c20
    exact (db_X15_read_199 C K J24) (x1) (x2) (y0) s0 _ _ _ h hP hD hS (lv_sub hl [1, 2, 3, 0] rfl)
  · have h := nd_neg h c20
    refine lv_iload_n hx hb dX15_read_137 rfl (lv_at hl 3 rfl) ?_
    refine lv_if_ne (tgt := 154) hx hb dX15_read_138 (by decide) (fun c66 => ?_) (fun c66 => ?_)
    · have h := nd_neg h c66
      refine lv_iload_n hx hb dX15_read_154 rfl (lv_at hl 3 rfl) ?_
      refine lv_iconst (v := 1) hx hb dX15_read_155 (by decide) ?_
      refine lv_icmp_ne (tgt := 176) hx hb dX15_read_156 (by decide) (fun c67 => ?_) (fun c67 => ?_)
      · have h := nd_neg h c67
        refine lv_aload_n hx hb dX15_read_176 rfl (lv_at hl 1 rfl) ?_
        refine va_get (D := (dC, dI)) (ci := 16) (v := .int (sI s0.1 2)) (C := RX15) (T := TX15) (N := 28) hx hb hts hi_dm_X15_read_X15 hown hK hP 0 rfl rfl 10 (by decide) (hts (.fieldLink RX15 92 "TimeMachineModel$Conditions" "token" "I") (List.mem_of_getElem? (i := 16) rfl)) (fun _ h9 => h9) rfl dX15_read_177 ?_
        refine lv_iload_n hx hb dX15_read_180 rfl (lv_at hl 3 rfl) ?_
        refine lv_iconst (v := 2) hx hb dX15_read_181 (by decide) ?_
        refine lv_icmp_ne (tgt := 190) hx hb dX15_read_182 (by decide) (fun c68 => ?_) (fun c68 => ?_)
        · have h := nd_neg h c68
          refine lv_bipush (v := 30) hx hb dX15_read_190 (by decide) ?_
          exact (db_X15_read_192 C K J24) (x1) (x2) (y0) ((sI s0.1 2)) (30) s0 _ _ _ h hP hD hS (lv_sub hl [1, 2, 3, 0] rfl)
        · have h := nd_pos h c68
          refine lv_bipush (v := 32) hx hb dX15_read_185 (by decide) ?_
          refine lv_goto (tgt := 192) hx hb dX15_read_187 (by decide) ?_
          exact (db_X15_read_192 C K J24) (x1) (x2) (y0) ((sI s0.1 2)) (32) s0 _ _ _ h hP hD hS (lv_sub hl [1, 2, 3, 0] rfl)
      · have h := nd_pos h c67
        refine lv_aload_n hx hb dX15_read_159 rfl (lv_at hl 1 rfl) ?_
        refine va_get (D := (dC, dI)) (ci := 16) (v := .int (sI s0.1 2)) (C := RX15) (T := TX15) (N := 28) hx hb hts hi_dm_X15_read_X15 hown hK hP 0 rfl rfl 10 (by decide) (hts (.fieldLink RX15 92 "TimeMachineModel$Conditions" "token" "I") (List.mem_of_getElem? (i := 16) rfl)) (fun _ h9 => h9) rfl dX15_read_160 ?_
        obtain ⟨q70, s71, hq, h⟩ := nd_b2_e h
        have hPc : va_P (dC, dI) vwCl (dw_P a ac ()) H := nd_p0
        have hDc : va_D A (dw_P a ac ()) := nd_d0
        have hKc : va_K (dC, dI) vwCl (dk_P ac) s := nd_y0 hK
        have hFc : ∀ q, va_A (dw_P a ac ()) H.size q → A q := nd_r0 hS hA
        refine nd_cSi (As := [.int (sI s0.1 2)]) (rest := []) (q := q70) (w' := dw_P a ac s71) ⟨hx, hb, hml, hown, hts⟩ (fun sz => dm_X15_isBetween l hlt dC dI a ac n ((sI s0.1 2)) () hq sz) (cwS 1 hts gi_dm_X15_read_6 rfl rfl rfl (by decide +kernel) ⟨Nat.le_of_ble_eq_true rfl, Nat.le_of_ble_eq_true rfl⟩) hPc hDc hKc hS hA hN rfl hl.1 rfl (Nat.le_of_ble_eq_true rfl) dX15_read_163 (fun H locs hP1 hD1 hk1 hS => ?_)
        have hP := nd_n0 hP hk1
        refine lv_if_ne (tgt := 195) hx hb dX15_read_166 (by decide) (fun c73 => ?_) (fun c73 => ?_)
        · have h := nd_neg h c73
          exact (db_X15_read_195 C K J24) (x1) (x2) (y0) s0 _ _ _ h hP hD hS (lv_sub hl [1, 2, 3, 0] rfl)
        · have h := nd_pos h c73
          refine lv_iload_n hx hb dX15_read_169 rfl (lv_at hl 0 rfl) ?_
          refine lv_if_eq (tgt := 199) hx hb dX15_read_170 (by decide) (fun c74 => ?_) (fun c74 => ?_)
          · have h := nd_pos h c74
            exact (db_X15_read_199 C K J24) (x1) (x2) (y0) s0 _ _ _ h hP hD hS (lv_sub hl [1, 2, 3, 0] rfl)
          · have h := nd_neg h c74
            refine lv_goto (tgt := 195) hx hb dX15_read_173 (by decide) ?_
            exact (db_X15_read_195 C K J24) (x1) (x2) (y0) s0 _ _ _ h hP hD hS (lv_sub hl [1, 2, 3, 0] rfl)
    · have h := nd_pos h c66
      refine lv_aload_n hx hb dX15_read_141 rfl (lv_at hl 1 rfl) ?_
      refine va_get (D := (dC, dI)) (ci := 16) (v := .int (sI s0.1 2)) (C := RX15) (T := TX15) (N := 28) hx hb hts hi_dm_X15_read_X15 hown hK hP 0 rfl rfl 10 (by decide) (hts (.fieldLink RX15 92 "TimeMachineModel$Conditions" "token" "I") (List.mem_of_getElem? (i := 16) rfl)) (fun _ h9 => h9) rfl dX15_read_142 ?_
      obtain ⟨q75, s76, hq, h⟩ := nd_b2_e h
      have hPc : va_P (dC, dI) vwCl (dw_P a ac ()) H := nd_p0
      have hDc : va_D A (dw_P a ac ()) := nd_d0
      have hKc : va_K (dC, dI) vwCl (dk_P ac) s := nd_y0 hK
      have hFc : ∀ q, va_A (dw_P a ac ()) H.size q → A q := nd_r0 hS hA
      refine nd_cSi (As := [.int (sI s0.1 2)]) (rest := []) (q := q75) (w' := dw_P a ac s76) ⟨hx, hb, hml, hown, hts⟩ (fun sz => dm_X15_begins l hlt dC dI a ac n ((sI s0.1 2)) () hq sz) (cwS 1 hts gi_dm_X15_read_7 rfl rfl rfl (by decide +kernel) ⟨Nat.le_of_ble_eq_true rfl, Nat.le_of_ble_eq_true rfl⟩) hPc hDc hKc hS hA hN rfl hl.1 rfl (Nat.le_of_ble_eq_true rfl) dX15_read_145 (fun H locs hP1 hD1 hk1 hS => ?_)
      have hP := nd_n0 hP hk1
      refine lv_if_eq (tgt := 199) hx hb dX15_read_148 (by decide) (fun c78 => ?_) (fun c78 => ?_)
      · have h := nd_pos h c78
        exact (db_X15_read_199 C K J24) (x1) (x2) (y0) s0 _ _ _ h hP hD hS (lv_sub hl [1, 2, 3, 0] rfl)
      · have h := nd_neg h c78
        refine lv_goto (tgt := 195) hx hb dX15_read_151 (by decide) ?_
        exact (db_X15_read_195 C K J24) (x1) (x2) (y0) s0 _ _ _ h hP hD hS (lv_sub hl [1, 2, 3, 0] rfl)
set_option maxHeartbeats 40000000 in
set_option maxRecDepth 100000 in
theorem db_X15_read_126 {p : Program} {l : Launch} {e : Env} {s : State} {m : MethodId} {args : Array Value} {below : List Frame} {meth : Method} {c : Code} {Q : State → Prop} {A : Nat → Prop} {dC : Nat → ClassId} {dI : Nat → Nat → Nat} {a : Nat → Nat} {ac : Nat → ClassId} {n : Nat} {r : Int32 × (St × (St × (St)))} (C : nd_C p l s m args c A (dC, dI) cX15_read 6 RX15 ow_dm_X15_read (dk_X15 ac)) (K : nd_Ki p l e (headSpec ow_dm_X15_read ({ frames := 3, cells := 0, slots := 0, locals := 73 })).room s m args below meth c Q A (dC, dI) cX15_read .int (St × (St × (St))) (dw_X15 a ac) r) {g24 : Int32 → Int32 → (St × (St × (St))) → Option (Int32 × (St × (St × (St))))} (J24 : dj_X15_read_24 p l e s m args below meth c Q A dC dI a ac g24 r) : dj_X15_read_126 p l e s m args below meth c Q A dC dI a ac (df_X15_read_126 n g24) r := by
  obtain ⟨hlt, hx, hb, hml, hown, hts, hN, hA, hK⟩ := id C
  intro x1 x2 s0 H locs ls h hP hD hS hl
  unfold df_X15_read_126 at h
  refine lv_iconst (v := 0) hx hb dX15_read_126 (by decide) ?_
  exact (db_X15_read_127 C K J24) (x1) (x2) (0) s0 _ _ _ h hP hD hS (lv_sub hl [0, 1, 2] rfl)
set_option maxHeartbeats 40000000 in
set_option maxRecDepth 100000 in
theorem db_X15_read_119 {p : Program} {l : Launch} {e : Env} {s : State} {m : MethodId} {args : Array Value} {below : List Frame} {meth : Method} {c : Code} {Q : State → Prop} {A : Nat → Prop} {dC : Nat → ClassId} {dI : Nat → Nat → Nat} {a : Nat → Nat} {ac : Nat → ClassId} {n : Nat} {r : Int32 × (St × (St × (St)))} (C : nd_C p l s m args c A (dC, dI) cX15_read 6 RX15 ow_dm_X15_read (dk_X15 ac)) (K : nd_Ki p l e (headSpec ow_dm_X15_read ({ frames := 3, cells := 0, slots := 0, locals := 73 })).room s m args below meth c Q A (dC, dI) cX15_read .int (St × (St × (St))) (dw_X15 a ac) r) {g24 : Int32 → Int32 → (St × (St × (St))) → Option (Int32 × (St × (St × (St))))} (J24 : dj_X15_read_24 p l e s m args below meth c Q A dC dI a ac g24 r) : dj_X15_read_119 p l e s m args below meth c Q A dC dI a ac (df_X15_read_119 n g24) r := by
  obtain ⟨hlt, hx, hb, hml, hown, hts, hN, hA, hK⟩ := id C
  intro x1 x2 y0 y1 s0 H locs ls h hP hD hS hl
  unfold df_X15_read_119 at h
  refine lv_icmp_ne (tgt := 126) hx hb dX15_read_119 (by decide) (fun c83 => ?_) (fun c83 => ?_)
  · have h := nd_neg h c83
    exact (db_X15_read_126 C K J24) (x1) (x2) s0 _ _ _ h hP hD hS (lv_sub hl [0, 1, 2] rfl)
  · have h := nd_pos h c83
    refine lv_iconst (v := 1) hx hb dX15_read_122 (by decide) ?_
    refine lv_goto (tgt := 127) hx hb dX15_read_123 (by decide) ?_
    exact (db_X15_read_127 C K J24) (x1) (x2) (1) s0 _ _ _ h hP hD hS (lv_sub hl [0, 1, 2] rfl)
set_option maxHeartbeats 40000000 in
set_option maxRecDepth 100000 in
theorem dB_X15_read_31 {p : Program} {l : Launch} {e : Env} {s : State} {m : MethodId} {args : Array Value} {below : List Frame} {meth : Method} {c : Code} {Q : State → Prop} {A : Nat → Prop} {dC : Nat → ClassId} {dI : Nat → Nat → Nat} {a : Nat → Nat} {ac : Nat → ClassId} {n : Nat} {r : Int32 × (St × (St × (St)))} (C : nd_C p l s m args c A (dC, dI) cX15_read 6 RX15 ow_dm_X15_read (dk_X15 ac)) (K : nd_Ki p l e (headSpec ow_dm_X15_read ({ frames := 3, cells := 0, slots := 0, locals := 73 })).room s m args below meth c Q A (dC, dI) cX15_read .int (St × (St × (St))) (dw_X15 a ac) r) {g24 : Int32 → Int32 → (St × (St × (St))) → Option (Int32 × (St × (St × (St))))} (J24 : dj_X15_read_24 p l e s m args below meth c Q A dC dI a ac g24 r) {g31 : Int32 → Int32 → (St × (St × (St))) → Option (Int32 × (St × (St × (St))))} (J31 : dj_X15_read_31 p l e s m args below meth c Q A dC dI a ac g31 r) : dj_X15_read_31 p l e s m args below meth c Q A dC dI a ac (dF_X15_read_31 n g24 g31) r := by
  obtain ⟨hlt, hx, hb, hml, hown, hts, hN, hA, hK⟩ := id C
  intro x1 x2 s0 H locs ls h hP hD hS hl
  unfold dF_X15_read_31 at h
  refine lv_aload_n hx hb dX15_read_31 rfl (lv_at hl 0 rfl) ?_
  refine lv_aload_n hx hb dX15_read_32 rfl (lv_at hl 0 rfl) ?_
  refine va_get (D := (dC, dI)) (ci := 16) (v := .int (sI s0.1 1)) (C := RX15) (T := TX15) (N := 28) hx hb hts hi_dm_X15_read_X15 hown hK hP 0 rfl rfl 9 (by decide) (hts (.fieldLink RX15 73 "TimeMachineModel$Conditions" "at" "I") (List.mem_of_getElem? (i := 4) rfl)) (fun _ h9 => h9) rfl dX15_read_33 ?_
  obtain ⟨q11, s12, hq, h⟩ := nd_b2_e h
  have hPc := hP
  have hDc := hD
  have hKc := hK
  have hFc := nd_rs hD hS hA
  refine nd_cVi (As := [.int (sI s0.1 1)]) (rest := []) (q := q11) (w' := dw_X15 a ac s12) ⟨hx, hb, hml, hown, hts⟩ (fun sz => dm_X15_charAt l hlt dC dI a ac n ((sI s0.1 1)) s0 hq sz) (cwV 1 hts gi_dm_X15_read_1 rfl rfl rfl (by decide +kernel) ⟨Nat.le_of_ble_eq_true rfl, Nat.le_of_ble_eq_true rfl⟩) hPc hDc hKc hS hA hN (va_recv hKc hPc (ci := 16) (q0 := 0) rfl rfl) rfl hl.1 rfl (Nat.le_of_ble_eq_true rfl) dX15_read_36 (fun H locs hP1 hD1 hk1 hS => ?_)
  have hP := hP1
  have hD := hD1.weaken (fun k q _ h => hFc q.1 h)
  refine lv_bipush (v := 32) hx hb dX15_read_39 (by decide) ?_
  refine lv_icmp_ne (tgt := 57) hx hb dX15_read_41 (by decide) (fun c14 => ?_) (fun c14 => ?_)
  · have h := nd_neg h c14
    refine lv_aload_n hx hb dX15_read_57 rfl (lv_at hl 0 rfl) ?_
    refine va_get (D := (dC, dI)) (ci := 16) (v := .int (sI s12.1 1)) (C := RX15) (T := TX15) (N := 28) hx hb hts hi_dm_X15_read_X15 hown hK hP 0 rfl rfl 9 (by decide) (hts (.fieldLink RX15 73 "TimeMachineModel$Conditions" "at" "I") (List.mem_of_getElem? (i := 4) rfl)) (fun _ h9 => h9) rfl dX15_read_58 ?_
    refine lv_aload_n hx hb dX15_read_61 rfl (lv_at hl 0 rfl) ?_
    refine va_get (D := (dC, dI)) (ci := 16) (v := .int (sI s12.1 0)) (C := RX15) (T := TX15) (N := 28) hx hb hts hi_dm_X15_read_X15 hown hK hP 0 rfl rfl 1 (by decide) (hts (.fieldLink RX15 65 "TimeMachineModel$Conditions" "size" "I") (List.mem_of_getElem? (i := 5) rfl)) (fun _ h9 => h9) rfl dX15_read_62 ?_
    refine lv_icmp_ne (tgt := 71) hx hb dX15_read_65 (by decide) (fun c15 => ?_) (fun c15 => ?_)
    · have h := nd_neg h c15
      refine lv_aload_n hx hb dX15_read_71 rfl (lv_at hl 0 rfl) ?_
      obtain ⟨s17, hq, h⟩ := nd_b1_e h
      have hPc := hP
      have hDc := hD
      have hKc := hK
      have hFc := nd_rs hD hS hA
      refine nd_cVv (As := []) (rest := []) (w' := dw_X15 a ac s17) ⟨hx, hb, hml, hown, hts⟩ (fun sz => dm_X15_scan l hlt dC dI a ac n  s12 hq sz) (cwV 0 hts gi_dm_X15_read_2 rfl rfl rfl (by decide +kernel) ⟨Nat.le_of_ble_eq_true rfl, Nat.le_of_ble_eq_true rfl⟩) hPc hDc hKc hS hA hN (va_recv hKc hPc (ci := 16) (q0 := 0) rfl rfl) rfl hl.1 rfl (Nat.le_of_ble_eq_true rfl) dX15_read_72 (fun H locs hP1 hD1 hk1 hS => ?_)
      have hP := hP1
      have hD := hD1.weaken (fun k q _ h => hFc q.1 h)
      refine lv_iload_n hx hb dX15_read_75 rfl (lv_at hl 2 rfl) ?_
      refine lv_iconst (v := 1) hx hb dX15_read_76 (by decide) ?_
      refine lv_icmp_ne (tgt := 126) hx hb dX15_read_77 (by decide) (fun c19 => ?_) (fun c19 => ?_)
      · have h := nd_neg h c19
        exact (db_X15_read_126 C K J24) (x1) (x2) s17 _ _ _ h hP hD hS (lv_sub hl [0, 1, 2] rfl)
      · have h := nd_pos h c19
        refine lv_aload_n hx hb dX15_read_80 rfl (lv_at hl 0 rfl) ?_
        refine va_get (D := (dC, dI)) (ci := 16) (v := .int (sI s17.1 5)) (C := RX15) (T := TX15) (N := 28) hx hb hts hi_dm_X15_read_X15 hown hK hP 0 rfl rfl 13 (by decide) (hts (.fieldLink RX15 128 "TimeMachineModel$Conditions" "opened" "I") (List.mem_of_getElem? (i := 2) rfl)) (fun _ h9 => h9) rfl dX15_read_81 ?_
        refine lv_if_le (tgt := 126) hx hb dX15_read_84 (by decide) (fun c79 => ?_) (fun c79 => ?_)
        · have h := nd_pos h c79
          exact (db_X15_read_126 C K J24) (x1) (x2) s17 _ _ _ h hP hD hS (lv_sub hl [0, 1, 2] rfl)
        · have h := nd_neg h c79
          refine lv_aload_n hx hb dX15_read_87 rfl (lv_at hl 0 rfl) ?_
          refine va_get (D := (dC, dI)) (ci := 16) (v := .int (sI s17.1 2)) (C := RX15) (T := TX15) (N := 28) hx hb hts hi_dm_X15_read_X15 hown hK hP 0 rfl rfl 10 (by decide) (hts (.fieldLink RX15 92 "TimeMachineModel$Conditions" "token" "I") (List.mem_of_getElem? (i := 16) rfl)) (fun _ h9 => h9) rfl dX15_read_88 ?_
          refine lv_aload_n hx hb dX15_read_91 rfl (lv_at hl 0 rfl) ?_
          refine va_get (D := (dC, dI)) (ci := 16) (v := .ref (a 8)) (C := RX15) (T := TX15) (N := 28) hx hb hts hi_dm_X15_read_X15 hown hK hP 0 rfl rfl 16 (by decide) (hts (.fieldLink RX15 34 "TimeMachineModel$Conditions" "newKind" "[I") (List.mem_of_getElem? (i := 32) rfl)) (fun _ h9 => h9) rfl dX15_read_92 ?_
          refine lv_aload_n hx hb dX15_read_95 rfl (lv_at hl 0 rfl) ?_
          refine va_get (D := (dC, dI)) (ci := 16) (v := .ref (a 10)) (C := RX15) (T := TX15) (N := 28) hx hb hts hi_dm_X15_read_X15 hown hK hP 0 rfl rfl 18 (by decide) (hts (.fieldLink RX15 40 "TimeMachineModel$Conditions" "openAt" "[I") (List.mem_of_getElem? (i := 20) rfl)) (fun _ h9 => h9) rfl dX15_read_96 ?_
          refine lv_aload_n hx hb dX15_read_99 rfl (lv_at hl 0 rfl) ?_
          refine va_get (D := (dC, dI)) (ci := 16) (v := .int (sI s17.1 5)) (C := RX15) (T := TX15) (N := 28) hx hb hts hi_dm_X15_read_X15 hown hK hP 0 rfl rfl 13 (by decide) (hts (.fieldLink RX15 128 "TimeMachineModel$Conditions" "opened" "I") (List.mem_of_getElem? (i := 2) rfl)) (fun _ h9 => h9) rfl dX15_read_100 ?_
          refine lv_iconst (v := 1) hx hb dX15_read_103 (by decide) ?_
          refine lv_isub hx hb dX15_read_104 ?_
          obtain ⟨i80, h⟩ := nd_ck_e h
          refine va_iald (i := ((sI s17.1 5) - 1)) hx hb hK hP 10 9 rfl rfl i80 dX15_read_105 ?_
          obtain ⟨i81, h⟩ := nd_ck_e h
          refine va_iald (i := (sR s17.1 7 (Int32.toNatClampNeg ((sI s17.1 5) - 1)))) hx hb hK hP 8 7 rfl rfl i81 dX15_read_106 ?_
          refine lv_bipush (v := 30) hx hb dX15_read_107 (by decide) ?_
          refine lv_icmp_ne (tgt := 117) hx hb dX15_read_109 (by decide) (fun c82 => ?_) (fun c82 => ?_)
          · have h := nd_neg h c82
            refine lv_bipush (v := 33) hx hb dX15_read_117 (by decide) ?_
            exact (db_X15_read_119 C K J24) (x1) (x2) ((sI s17.1 2)) (33) s17 _ _ _ h hP hD hS (lv_sub hl [0, 1, 2] rfl)
          · have h := nd_pos h c82
            refine lv_bipush (v := 31) hx hb dX15_read_112 (by decide) ?_
            refine lv_goto (tgt := 119) hx hb dX15_read_114 (by decide) ?_
            exact (db_X15_read_119 C K J24) (x1) (x2) ((sI s17.1 2)) (31) s17 _ _ _ h hP hD hS (lv_sub hl [0, 1, 2] rfl)
    · have h := nd_pos h c15
      refine lv_goto (tgt := 463) hx hb dX15_read_68 (by decide) ?_
      exact (db_X15_read_463 C K) (x1) (x2) s12 _ _ _ h hP hD hS (lv_sub hl [0, 1, 2] rfl)
  · have h := nd_pos h c14
    refine lv_aload_n hx hb dX15_read_44 rfl (lv_at hl 0 rfl) ?_
    refine lv_dup hx hb dX15_read_45 rfl ?_
    refine va_get (D := (dC, dI)) (ci := 16) (v := .int (sI s12.1 1)) (C := RX15) (T := TX15) (N := 28) hx hb hts hi_dm_X15_read_X15 hown hK hP 0 rfl rfl 9 (by decide) (hts (.fieldLink RX15 73 "TimeMachineModel$Conditions" "at" "I") (List.mem_of_getElem? (i := 4) rfl)) (fun _ h9 => h9) rfl dX15_read_46 ?_
    refine lv_iconst (v := 1) hx hb dX15_read_49 (by decide) ?_
    refine lv_iadd hx hb dX15_read_50 ?_
    refine va_put (D := (dC, dI)) (ci := 16) (v := .int ((sI s12.1 1) + 1)) (ty := .int) (C := RX15) (T := TX15) (N := 28) hx hb hts hi_dm_X15_read_X15 tyX15 tyX15_ok nmX15 hown hK hP hD hS 0 rfl rfl 9 (by decide) (hts (.fieldLink RX15 73 "TimeMachineModel$Conditions" "at" "I") (List.mem_of_getElem? (i := 4) rfl)) (fun _ h9 => h9) rfl (by decide +kernel) rfl rfl (Nat.le_of_ble_eq_true rfl) dX15_read_51 (fun H locs hP hD hS => ?_)
    obtain ⟨s84, es84, h⟩ := nd_let_e h
    have hP : va_P (dC, dI) vwCl (dw_X15 a ac s84) H := by rw [es84]; exact hP
    have hD : va_D A (dw_X15 a ac s84) := by rw [es84]; exact hD
    refine lv_goto (tgt := 31) hx hb dX15_read_54 (by decide) ?_
    exact (J31) (x1) (x2) s84 _ _ _ h hP hD hS (lv_sub hl [0, 1, 2] rfl)
set_option maxHeartbeats 40000000 in
set_option maxRecDepth 100000 in
theorem db_X15_read_31 {p : Program} {l : Launch} {e : Env} {s : State} {m : MethodId} {args : Array Value} {below : List Frame} {meth : Method} {c : Code} {Q : State → Prop} {A : Nat → Prop} {dC : Nat → ClassId} {dI : Nat → Nat → Nat} {a : Nat → Nat} {ac : Nat → ClassId} {n : Nat} {r : Int32 × (St × (St × (St)))} (C : nd_C p l s m args c A (dC, dI) cX15_read 6 RX15 ow_dm_X15_read (dk_X15 ac)) (K : nd_Ki p l e (headSpec ow_dm_X15_read ({ frames := 3, cells := 0, slots := 0, locals := 73 })).room s m args below meth c Q A (dC, dI) cX15_read .int (St × (St × (St))) (dw_X15 a ac) r) {g24 : Int32 → Int32 → (St × (St × (St))) → Option (Int32 × (St × (St × (St))))} (J24 : dj_X15_read_24 p l e s m args below meth c Q A dC dI a ac g24 r) (k : Nat) : dj_X15_read_31 p l e s m args below meth c Q A dC dI a ac (df_X15_read_31 n g24 k) r := by
  induction k with
  | zero => intro x1 x2 s0 H locs ls h; exact nomatch (show (none : Option (Int32 × (St × (St × (St))))) = some r from h)
  | succ k ih => exact dB_X15_read_31 C K J24 ih
set_option maxHeartbeats 40000000 in
set_option maxRecDepth 100000 in
theorem dB_X15_read_24 {p : Program} {l : Launch} {e : Env} {s : State} {m : MethodId} {args : Array Value} {below : List Frame} {meth : Method} {c : Code} {Q : State → Prop} {A : Nat → Prop} {dC : Nat → ClassId} {dI : Nat → Nat → Nat} {a : Nat → Nat} {ac : Nat → ClassId} {n : Nat} {r : Int32 × (St × (St × (St)))} (C : nd_C p l s m args c A (dC, dI) cX15_read 6 RX15 ow_dm_X15_read (dk_X15 ac)) (K : nd_Ki p l e (headSpec ow_dm_X15_read ({ frames := 3, cells := 0, slots := 0, locals := 73 })).room s m args below meth c Q A (dC, dI) cX15_read .int (St × (St × (St))) (dw_X15 a ac) r) {g24 : Int32 → Int32 → (St × (St × (St))) → Option (Int32 × (St × (St × (St))))} (J24 : dj_X15_read_24 p l e s m args below meth c Q A dC dI a ac g24 r) : dj_X15_read_24 p l e s m args below meth c Q A dC dI a ac (dF_X15_read_24 n g24) r := by
  obtain ⟨hlt, hx, hb, hml, hown, hts, hN, hA, hK⟩ := id C
  intro x1 x2 s0 H locs ls h hP hD hS hl
  unfold dF_X15_read_24 at h
  refine lv_aload_n hx hb dX15_read_24 rfl (lv_at hl 0 rfl) ?_
  refine va_get (D := (dC, dI)) (ci := 16) (v := .int (sI s0.1 6)) (C := RX15) (T := TX15) (N := 28) hx hb hts hi_dm_X15_read_X15 hown hK hP 0 rfl rfl 14 (by decide) (hts (.fieldLink RX15 125 "TimeMachineModel$Conditions" "fault" "I") (List.mem_of_getElem? (i := 1) rfl)) (fun _ h9 => h9) rfl dX15_read_25 ?_
  refine lv_if_ne (tgt := 463) hx hb dX15_read_28 (by decide) (fun c5 => ?_) (fun c5 => ?_)
  · have h := nd_neg h c5
    exact (db_X15_read_463 C K) (x1) (x2) s0 _ _ _ h hP hD hS (lv_sub hl [0, 1, 2] rfl)
  · have h := nd_pos h c5
    exact (db_X15_read_31 C K J24 n) (x1) (x2) s0 _ _ _ h hP hD hS (lv_sub hl [0, 1, 2] rfl)
set_option maxHeartbeats 40000000 in
set_option maxRecDepth 100000 in
theorem db_X15_read_24 {p : Program} {l : Launch} {e : Env} {s : State} {m : MethodId} {args : Array Value} {below : List Frame} {meth : Method} {c : Code} {Q : State → Prop} {A : Nat → Prop} {dC : Nat → ClassId} {dI : Nat → Nat → Nat} {a : Nat → Nat} {ac : Nat → ClassId} {n : Nat} {r : Int32 × (St × (St × (St)))} (C : nd_C p l s m args c A (dC, dI) cX15_read 6 RX15 ow_dm_X15_read (dk_X15 ac)) (K : nd_Ki p l e (headSpec ow_dm_X15_read ({ frames := 3, cells := 0, slots := 0, locals := 73 })).room s m args below meth c Q A (dC, dI) cX15_read .int (St × (St × (St))) (dw_X15 a ac) r) (k : Nat) : dj_X15_read_24 p l e s m args below meth c Q A dC dI a ac (df_X15_read_24 n k) r := by
  induction k with
  | zero => intro x1 x2 s0 H locs ls h; exact nomatch (show (none : Option (Int32 × (St × (St × (St))))) = some r from h)
  | succ k ih => exact dB_X15_read_24 C K ih
set_option maxHeartbeats 40000000 in
set_option maxRecDepth 100000 in
theorem db_X15_read_0 {p : Program} {l : Launch} {e : Env} {s : State} {m : MethodId} {args : Array Value} {below : List Frame} {meth : Method} {c : Code} {Q : State → Prop} {A : Nat → Prop} {dC : Nat → ClassId} {dI : Nat → Nat → Nat} {a : Nat → Nat} {ac : Nat → ClassId} {n : Nat} {r : Int32 × (St × (St × (St)))} (C : nd_C p l s m args c A (dC, dI) cX15_read 6 RX15 ow_dm_X15_read (dk_X15 ac)) (K : nd_Ki p l e (headSpec ow_dm_X15_read ({ frames := 3, cells := 0, slots := 0, locals := 73 })).room s m args below meth c Q A (dC, dI) cX15_read .int (St × (St × (St))) (dw_X15 a ac) r) : dj_X15_read_0 p l e s m args below meth c Q A dC dI a ac (df_X15_read_0 n) r := by
  obtain ⟨hlt, hx, hb, hml, hown, hts, hN, hA, hK⟩ := id C
  intro s0 H locs ls h hP hD hS hl
  unfold df_X15_read_0 at h
  refine lv_aload_n hx hb dX15_read_0 rfl (lv_at hl 0 rfl) ?_
  refine lv_aload_n hx hb dX15_read_1 rfl (lv_at hl 0 rfl) ?_
  refine lv_aload_n hx hb dX15_read_2 rfl (lv_at hl 0 rfl) ?_
  refine lv_aload_n hx hb dX15_read_3 rfl (lv_at hl 0 rfl) ?_
  refine lv_iconst (v := 0) hx hb dX15_read_4 (by decide) ?_
  refine lv_dup_x1 hx hb dX15_read_5 rfl rfl ?_
  refine va_put (D := (dC, dI)) (ci := 16) (v := .int 0) (ty := .int) (C := RX15) (T := TX15) (N := 28) hx hb hts hi_dm_X15_read_X15 tyX15 tyX15_ok nmX15 hown hK hP hD hS 0 rfl rfl 14 (by decide) (hts (.fieldLink RX15 125 "TimeMachineModel$Conditions" "fault" "I") (List.mem_of_getElem? (i := 1) rfl)) (fun _ h9 => h9) rfl (by decide +kernel) rfl rfl (Nat.le_of_ble_eq_true rfl) dX15_read_6 (fun H locs hP hD hS => ?_)
  obtain ⟨s1, es1, h⟩ := nd_let_e h
  have hP : va_P (dC, dI) vwCl (dw_X15 a ac s1) H := by rw [es1]; exact hP
  have hD : va_D A (dw_X15 a ac s1) := by rw [es1]; exact hD
  refine lv_dup_x1 hx hb dX15_read_9 rfl rfl ?_
  refine va_put (D := (dC, dI)) (ci := 16) (v := .int 0) (ty := .int) (C := RX15) (T := TX15) (N := 28) hx hb hts hi_dm_X15_read_X15 tyX15 tyX15_ok nmX15 hown hK hP hD hS 0 rfl rfl 13 (by decide) (hts (.fieldLink RX15 128 "TimeMachineModel$Conditions" "opened" "I") (List.mem_of_getElem? (i := 2) rfl)) (fun _ h9 => h9) rfl (by decide +kernel) rfl rfl (Nat.le_of_ble_eq_true rfl) dX15_read_10 (fun H locs hP hD hS => ?_)
  obtain ⟨s2, es2, h⟩ := nd_let_e h
  have hP : va_P (dC, dI) vwCl (dw_X15 a ac s2) H := by rw [es2]; exact hP
  have hD : va_D A (dw_X15 a ac s2) := by rw [es2]; exact hD
  refine lv_dup_x1 hx hb dX15_read_13 rfl rfl ?_
  refine va_put (D := (dC, dI)) (ci := 16) (v := .int 0) (ty := .int) (C := RX15) (T := TX15) (N := 28) hx hb hts hi_dm_X15_read_X15 tyX15 tyX15_ok nmX15 hown hK hP hD hS 0 rfl rfl 12 (by decide) (hts (.fieldLink RX15 131 "TimeMachineModel$Conditions" "tokens" "I") (List.mem_of_getElem? (i := 3) rfl)) (fun _ h9 => h9) rfl (by decide +kernel) rfl rfl (Nat.le_of_ble_eq_true rfl) dX15_read_14 (fun H locs hP hD hS => ?_)
  obtain ⟨s3, es3, h⟩ := nd_let_e h
  have hP : va_P (dC, dI) vwCl (dw_X15 a ac s3) H := by rw [es3]; exact hP
  have hD : va_D A (dw_X15 a ac s3) := by rw [es3]; exact hD
  refine va_put (D := (dC, dI)) (ci := 16) (v := .int 0) (ty := .int) (C := RX15) (T := TX15) (N := 28) hx hb hts hi_dm_X15_read_X15 tyX15 tyX15_ok nmX15 hown hK hP hD hS 0 rfl rfl 9 (by decide) (hts (.fieldLink RX15 73 "TimeMachineModel$Conditions" "at" "I") (List.mem_of_getElem? (i := 4) rfl)) (fun _ h9 => h9) rfl (by decide +kernel) rfl rfl (Nat.le_of_ble_eq_true rfl) dX15_read_17 (fun H locs hP hD hS => ?_)
  obtain ⟨s4, es4, h⟩ := nd_let_e h
  have hP : va_P (dC, dI) vwCl (dw_X15 a ac s4) H := by rw [es4]; exact hP
  have hD : va_D A (dw_X15 a ac s4) := by rw [es4]; exact hD
  refine lv_iconst (v := 0) hx hb dX15_read_20 (by decide) ?_
  refine lv_istore_n (lv' := [(1, .int 0), (0, .ref (a 0))]) hx hb dX15_read_21 rfl hl (by decide) rfl (fun ls hl => ?_)
  refine lv_iconst (v := 0) hx hb dX15_read_22 (by decide) ?_
  refine lv_istore_n (lv' := [(2, .int 0), (1, .int 0), (0, .ref (a 0))]) hx hb dX15_read_23 rfl hl (by decide) rfl (fun ls hl => ?_)
  exact (db_X15_read_24 C K n) (0) (0) s4 _ _ _ h hP hD hS (lv_sub hl [2, 1, 0] rfl)
set_option maxHeartbeats 40000000 in
set_option maxRecDepth 100000 in
theorem dm_X15_read (l : Launch) (hlt : l.stackTraces = false) (dC : Nat → ClassId) (dI : Nat → Nat → Nat) (a : Nat → Nat) (ac : Nat → ClassId) (n : Nat) (s0 : St × (St × (St))) {r : Int32 × (St × (St × (St)))} (h : df_X15_read n s0 = some r) (sz : Nat) : Met l yX15_read ow_dm_X15_read ({ frames := 3, cells := 0, slots := 0, locals := 73 }) (va_Pc [.ref (a 0)] (fun U => U.heap.size = sz ∧ va_P (dC, dI) vwCl (dw_X15 a ac s0) U.heap ∧ va_K (dC, dI) vwCl (dk_X15 ac) U ∧ va_D (fun _ => True) (dw_X15 a ac s0) ∧ nv_E dI (va_A (dw_X15 a ac s0) sz) U)) (va_Qi (fun x _ => x = r.1) (fun (_ : Unit) t => va_P (dC, dI) vwCl (dw_X15 a ac r.2) t.heap ∧ va_K (dC, dI) vwCl (dk_X15 ac) t ∧ va_D (va_A (dw_X15 a ac s0) sz) (dw_X15 a ac r.2)) (va_A (dw_X15 a ac s0) sz)) 0 0 (va_A (dw_X15 a ac s0) sz) := by
  refine Met.ofW (cc := cX15_read) (maxL := 6) (ret := (some .int)) (by decide) rfl ?_
  intro p e s m args below meth c s₁ B hml hv
  obtain ⟨rfl, hsz, hP, hK, hD0, hN⟩ := hv
  have hx := B.exec
  have hb := B.bytes
  have hr := B.returns
  have hts := atoms_spec (ws := ow_dm_X15_read) B.pre
  have hown : s.vm.findClass RX15 = some m.cls := findClass_of_methodNamed B.named
  have hlocks := B.notSynchronized
  subst hsz
  have hD := hD0.self (sz := s.heap.size)
  generalize hAe : va_A (dw_X15 a ac s0) s.heap.size = A at hD hN ⊢
  have hA : ∀ q : Nat, s.heap.size ≤ q → A q := fun q h => by rw [← hAe]; exact Or.inr h
  have hl := lv_entry ([.ref (a 0)]) (n := 6) (Nat.le_of_ble_eq_true rfl)
  rw [lg_entry_eq]
  generalize (lg_sl ([.ref (a 0)]) ++ List.replicate (6 - (lg_sl ([.ref (a 0)])).length) Slot.unset).toArray = ls at hl ⊢
  have hl : lv_has ls 6 [(0, .ref (a 0))] := hl
  exact db_X15_read_0 (dC := dC) (dI := dI) (a := a) (ac := ac) (n := n) (r := r) ⟨hlt, hx, hb, hml, hown, hts, hN, hA, hK⟩ (fun pc v τ H locs ls d z er hP hD hS => by subst er; exact W.zret (v := v) hx hb hr z (fun t ht hW => ⟨⟨v, (), rfl, rfl, by rw [ht]; exact hP, va_K.moved hW.alike hK, hD⟩, hS.F ht⟩) hS.2.2 d) s0 _ _ _ h hP hD va_S.rf (lv_sub hl [0] rfl)
def ow_dm_X15_drop : List Cond := Cond.code yX15_drop cX15_drop 3 (some .boolean) :: ([Cond.fieldLink RX15 13 "TimeMachineModel$Conditions" "there" "[Z"] ++ (u_ws RX15 TX15 28 ++ []))
theorem gd_dm_X15_drop : ∀ w ∈ ow_dm_X15_drop, (w.onTables && w.keeps) = true ∨ ∃ ty, w = Cond.arrayClass ty := List.forall_mem_cons.mpr ⟨good_of_word rfl, List.forall_mem_append.mpr ⟨fun w h => good_of_word (List.all_eq_true.mp (by decide +kernel) w h), List.forall_mem_append.mpr ⟨gu_X15, fun _ h => nomatch h⟩⟩⟩
theorem hi_dm_X15_drop_X15 : ∀ w ∈ u_ws RX15 TX15 28, w ∈ ow_dm_X15_drop := fun w h => List.mem_cons_of_mem _ (List.mem_append_right _ (List.mem_append_left _ h))
def dj_X15_drop_0 (p : Program) (l : Launch) (e : Env) (s : State) (m : MethodId) (args : Array Value) (below : List Frame) (meth : Method) (c : Code) (Q : State → Prop) (A : Nat → Prop) (dC : Nat → ClassId) (dI : Nat → Nat → Nat) (a : Nat → Nat) (ac : Nat → ClassId) (g : Int32 → (St × (St × (St))) → Option (Int32 × (St × (St × (St))))) (r : Int32 × (St × (St × (St)))) : Prop := ∀ (v0 : Int32) (s0 : St × (St × (St))) (H : Heap) (locs : List Loc) (ls : Array Slot), g v0 s0 = some r → va_P (dC, dI) vwCl (dw_X15 a ac s0) H → va_D A (dw_X15 a ac s0) → va_S A s.heap H locs → lv_has ls 3 [(0, .ref (a 0)), (1, .int v0)] → W p l e (headSpec ow_dm_X15_drop ({ frames := 0, cells := 0, slots := 0, locals := 0 })).room s m args below meth c H locs 0 0 Q (F0 m 0 ls [])
set_option maxHeartbeats 40000000 in
set_option maxRecDepth 100000 in
theorem db_X15_drop_0 {p : Program} {l : Launch} {e : Env} {s : State} {m : MethodId} {args : Array Value} {below : List Frame} {meth : Method} {c : Code} {Q : State → Prop} {A : Nat → Prop} {dC : Nat → ClassId} {dI : Nat → Nat → Nat} {a : Nat → Nat} {ac : Nat → ClassId} {n : Nat} {r : Int32 × (St × (St × (St)))} (C : nd_C p l s m args c A (dC, dI) cX15_drop 3 RX15 ow_dm_X15_drop (dk_X15 ac)) (K : nd_Ki p l e (headSpec ow_dm_X15_drop ({ frames := 0, cells := 0, slots := 0, locals := 0 })).room s m args below meth c Q A (dC, dI) cX15_drop .boolean (St × (St × (St))) (dw_X15 a ac) r) : dj_X15_drop_0 p l e s m args below meth c Q A dC dI a ac (df_X15_drop_0 n) r := by
  obtain ⟨hlt, hx, hb, hml, hown, hts, hN, hA, hK⟩ := id C
  intro v0 s0 H locs ls h hP hD hS hl
  unfold df_X15_drop_0 at h
  refine lv_aload_n hx hb dX15_drop_0 rfl (lv_at hl 0 rfl) ?_
  refine va_get (D := (dC, dI)) (ci := 16) (v := .ref (a 2)) (C := RX15) (T := TX15) (N := 28) hx hb hts hi_dm_X15_drop_X15 hown hK hP 0 rfl rfl 3 (by decide) (hts (.fieldLink RX15 13 "TimeMachineModel$Conditions" "there" "[Z") (List.mem_of_getElem? (i := 1) rfl)) (fun _ h9 => h9) rfl dX15_drop_1 ?_
  refine lv_iload_n hx hb dX15_drop_4 rfl (lv_at hl 1 rfl) ?_
  obtain ⟨i1, h⟩ := nd_ck_e h
  refine va_zald (i := v0) hx hb hK hP 2 1 rfl rfl i1 dX15_drop_5 ?_
  refine lv_topi (fun z2 ez2 => ?_)
  have h := nd_at h ez2
  refine lv_istore_n (lv' := [(2, .int z2), (0, .ref (a 0)), (1, .int v0)]) hx hb dX15_drop_6 rfl hl (by decide) rfl (fun ls hl => ?_)
  refine lv_aload_n hx hb dX15_drop_7 rfl (lv_at hl 1 rfl) ?_
  refine va_get (D := (dC, dI)) (ci := 16) (v := .ref (a 2)) (C := RX15) (T := TX15) (N := 28) hx hb hts hi_dm_X15_drop_X15 hown hK hP 0 rfl rfl 3 (by decide) (hts (.fieldLink RX15 13 "TimeMachineModel$Conditions" "there" "[Z") (List.mem_of_getElem? (i := 1) rfl)) (fun _ h9 => h9) rfl dX15_drop_8 ?_
  refine lv_iload_n hx hb dX15_drop_11 rfl (lv_at hl 2 rfl) ?_
  refine lv_iconst (v := 0) hx hb dX15_drop_12 (by decide) ?_
  obtain ⟨i3, h⟩ := nd_ck_e h
  refine va_zast (i := v0) (x := 0) hx hb hK hP hD hS 2 1 rfl rfl i3 dX15_drop_13 (fun H locs hP hD hS => ?_)
  obtain ⟨s4, es4, h⟩ := nd_let_e h
  have hP : va_P (dC, dI) vwCl (dw_X15 a ac s4) H := by rw [es4]; exact hP
  have hD : va_D A (dw_X15 a ac s4) := by rw [es4]; exact hD
  refine lv_iload_n hx hb dX15_drop_14 rfl (lv_at hl 0 rfl) ?_
  obtain ⟨n5, h⟩ := nd_z_e ⟨_, rfl⟩ h
  exact K _ _ _ _ _ _ dX15_drop_15 n5 (Option.some.inj h).symm hP hD hS
set_option maxHeartbeats 40000000 in
set_option maxRecDepth 100000 in
theorem dm_X15_drop (l : Launch) (hlt : l.stackTraces = false) (dC : Nat → ClassId) (dI : Nat → Nat → Nat) (a : Nat → Nat) (ac : Nat → ClassId) (n : Nat) (v0 : Int32) (s0 : St × (St × (St))) {r : Int32 × (St × (St × (St)))} (h : df_X15_drop n v0 s0 = some r) (sz : Nat) : Met l yX15_drop ow_dm_X15_drop ({ frames := 0, cells := 0, slots := 0, locals := 0 }) (va_Pc [.ref (a 0), .int v0] (fun U => U.heap.size = sz ∧ va_P (dC, dI) vwCl (dw_X15 a ac s0) U.heap ∧ va_K (dC, dI) vwCl (dk_X15 ac) U ∧ va_D (fun _ => True) (dw_X15 a ac s0) ∧ nv_E dI (va_A (dw_X15 a ac s0) sz) U)) (va_Qi (fun x _ => x = r.1) (fun (_ : Unit) t => va_P (dC, dI) vwCl (dw_X15 a ac r.2) t.heap ∧ va_K (dC, dI) vwCl (dk_X15 ac) t ∧ va_D (va_A (dw_X15 a ac s0) sz) (dw_X15 a ac r.2)) (va_A (dw_X15 a ac s0) sz)) 0 0 (va_A (dw_X15 a ac s0) sz) := by
  refine Met.ofW (cc := cX15_drop) (maxL := 3) (ret := (some .boolean)) (by decide) rfl ?_
  intro p e s m args below meth c s₁ B hml hv
  obtain ⟨rfl, hsz, hP, hK, hD0, hN⟩ := hv
  have hx := B.exec
  have hb := B.bytes
  have hr := B.returns
  have hts := atoms_spec (ws := ow_dm_X15_drop) B.pre
  have hown : s.vm.findClass RX15 = some m.cls := findClass_of_methodNamed B.named
  have hlocks := B.notSynchronized
  subst hsz
  have hD := hD0.self (sz := s.heap.size)
  generalize hAe : va_A (dw_X15 a ac s0) s.heap.size = A at hD hN ⊢
  have hA : ∀ q : Nat, s.heap.size ≤ q → A q := fun q h => by rw [← hAe]; exact Or.inr h
  have hl := lv_entry ([.ref (a 0), .int v0]) (n := 3) (Nat.le_of_ble_eq_true rfl)
  rw [lg_entry_eq]
  generalize (lg_sl ([.ref (a 0), .int v0]) ++ List.replicate (3 - (lg_sl ([.ref (a 0), .int v0])).length) Slot.unset).toArray = ls at hl ⊢
  have hl : lv_has ls 3 [(0, .ref (a 0)), (1, .int v0)] := hl
  exact db_X15_drop_0 (dC := dC) (dI := dI) (a := a) (ac := ac) (n := n) (r := r) ⟨hlt, hx, hb, hml, hown, hts, hN, hA, hK⟩ (fun pc v τ H locs ls d z er hP hD hS => by subst er; exact W.zret (v := v) hx hb hr z (fun t ht hW => ⟨⟨v, (), rfl, rfl, by rw [ht]; exact hP, va_K.moved hW.alike hK, hD⟩, hS.F ht⟩) hS.2.2 d) v0 s0 _ _ _ h hP hD va_S.rf (lv_sub hl [0, 1] rfl)
def ow_dm_X15_rank : List Cond := Cond.code yX15_rank cX15_rank 1 (some .int) :: ([] ++ [])
theorem gd_dm_X15_rank : ∀ w ∈ ow_dm_X15_rank, (w.onTables && w.keeps) = true ∨ ∃ ty, w = Cond.arrayClass ty := List.forall_mem_cons.mpr ⟨good_of_word rfl, List.forall_mem_append.mpr ⟨fun w h => good_of_word (List.all_eq_true.mp (by decide +kernel) w h), fun _ h => nomatch h⟩⟩
def dj_X15_rank_84 (p : Program) (l : Launch) (e : Env) (s : State) (m : MethodId) (args : Array Value) (below : List Frame) (meth : Method) (c : Code) (Q : State → Prop) (A : Nat → Prop) (dC : Nat → ClassId) (dI : Nat → Nat → Nat) (a : Nat → Nat) (ac : Nat → ClassId) (g : Int32 → (Unit) → Option (Int32 × (Unit))) (r : Int32 × (Unit)) : Prop := ∀ (y0 : Int32) (s0 : Unit) (H : Heap) (locs : List Loc) (ls : Array Slot), g y0 s0 = some r → va_P (dC, dI) vwCl (dw_P a ac s0) H → va_D A (dw_P a ac s0) → va_S A s.heap H locs → lv_has ls 1 [] → W p l e (headSpec ow_dm_X15_rank ({ frames := 0, cells := 0, slots := 0, locals := 0 })).room s m args below meth c H locs 0 0 Q (F0 m 84 ls [.int y0])
def dj_X15_rank_0 (p : Program) (l : Launch) (e : Env) (s : State) (m : MethodId) (args : Array Value) (below : List Frame) (meth : Method) (c : Code) (Q : State → Prop) (A : Nat → Prop) (dC : Nat → ClassId) (dI : Nat → Nat → Nat) (a : Nat → Nat) (ac : Nat → ClassId) (g : Int32 → (Unit) → Option (Int32 × (Unit))) (r : Int32 × (Unit)) : Prop := ∀ (v0 : Int32) (s0 : Unit) (H : Heap) (locs : List Loc) (ls : Array Slot), g v0 s0 = some r → va_P (dC, dI) vwCl (dw_P a ac s0) H → va_D A (dw_P a ac s0) → va_S A s.heap H locs → lv_has ls 1 [(0, .int v0)] → W p l e (headSpec ow_dm_X15_rank ({ frames := 0, cells := 0, slots := 0, locals := 0 })).room s m args below meth c H locs 0 0 Q (F0 m 0 ls [])
set_option maxHeartbeats 40000000 in
set_option maxRecDepth 100000 in
theorem db_X15_rank_84 {p : Program} {l : Launch} {e : Env} {s : State} {m : MethodId} {args : Array Value} {below : List Frame} {meth : Method} {c : Code} {Q : State → Prop} {A : Nat → Prop} {dC : Nat → ClassId} {dI : Nat → Nat → Nat} {a : Nat → Nat} {ac : Nat → ClassId} {n : Nat} {r : Int32 × (Unit)} (C : nd_C p l s m args c A (dC, dI) cX15_rank 1 RX15 ow_dm_X15_rank (dk_P ac)) (K : nd_Ki p l e (headSpec ow_dm_X15_rank ({ frames := 0, cells := 0, slots := 0, locals := 0 })).room s m args below meth c Q A (dC, dI) cX15_rank .int (Unit) (dw_P a ac) r) : dj_X15_rank_84 p l e s m args below meth c Q A dC dI a ac (df_X15_rank_84 n) r := by
  obtain ⟨hlt, hx, hb, hml, hown, hts, hN, hA, hK⟩ := id C
  intro y0 s0 H locs ls h hP hD hS hl
  unfold df_X15_rank_84 at h
  exact K _ _ _ _ _ _ dX15_rank_84 rfl (Option.some.inj h).symm hP hD hS
set_option maxHeartbeats 40000000 in
set_option maxRecDepth 100000 in
theorem db_X15_rank_0 {p : Program} {l : Launch} {e : Env} {s : State} {m : MethodId} {args : Array Value} {below : List Frame} {meth : Method} {c : Code} {Q : State → Prop} {A : Nat → Prop} {dC : Nat → ClassId} {dI : Nat → Nat → Nat} {a : Nat → Nat} {ac : Nat → ClassId} {n : Nat} {r : Int32 × (Unit)} (C : nd_C p l s m args c A (dC, dI) cX15_rank 1 RX15 ow_dm_X15_rank (dk_P ac)) (K : nd_Ki p l e (headSpec ow_dm_X15_rank ({ frames := 0, cells := 0, slots := 0, locals := 0 })).room s m args below meth c Q A (dC, dI) cX15_rank .int (Unit) (dw_P a ac) r) : dj_X15_rank_0 p l e s m args below meth c Q A dC dI a ac (df_X15_rank_0 n) r := by
  obtain ⟨hlt, hx, hb, hml, hown, hts, hN, hA, hK⟩ := id C
  intro v0 s0 H locs ls h hP hD hS hl
  unfold df_X15_rank_0 at h
  refine lv_iload_n hx hb dX15_rank_0 rfl (lv_at hl 0 rfl) ?_
  refine lv_bipush (v := 10) hx hb dX15_rank_1 (by decide) ?_
  refine lv_icmp_ne (tgt := 10) hx hb dX15_rank_3 (by decide) (fun c1 => ?_) (fun c1 => ?_)
  · have h := nd_neg h c1
    refine lv_iload_n hx hb dX15_rank_10 rfl (lv_at hl 0 rfl) ?_
    refine lv_bipush (v := 11) hx hb dX15_rank_11 (by decide) ?_
    refine lv_icmp_ne (tgt := 20) hx hb dX15_rank_13 (by decide) (fun c2 => ?_) (fun c2 => ?_)
    · have h := nd_neg h c2
      refine lv_iload_n hx hb dX15_rank_20 rfl (lv_at hl 0 rfl) ?_
      refine lv_bipush (v := 18) hx hb dX15_rank_21 (by decide) ?_
      refine lv_icmp_ge (tgt := 30) hx hb dX15_rank_23 (by decide) (fun c3 => ?_) (fun c3 => ?_)
      · have h := nd_pos h c3
        refine lv_iload_n hx hb dX15_rank_30 rfl (lv_at hl 0 rfl) ?_
        refine lv_bipush (v := 18) hx hb dX15_rank_31 (by decide) ?_
        refine lv_icmp_ne (tgt := 40) hx hb dX15_rank_33 (by decide) (fun c4 => ?_) (fun c4 => ?_)
        · have h := nd_neg h c4
          refine lv_iload_n hx hb dX15_rank_40 rfl (lv_at hl 0 rfl) ?_
          refine lv_bipush (v := 19) hx hb dX15_rank_41 (by decide) ?_
          refine lv_icmp_ne (tgt := 50) hx hb dX15_rank_43 (by decide) (fun c5 => ?_) (fun c5 => ?_)
          · have h := nd_neg h c5
            refine lv_iload_n hx hb dX15_rank_50 rfl (lv_at hl 0 rfl) ?_
            refine lv_bipush (v := 20) hx hb dX15_rank_51 (by decide) ?_
            refine lv_icmp_ne (tgt := 60) hx hb dX15_rank_53 (by decide) (fun c6 => ?_) (fun c6 => ?_)
            · have h := nd_neg h c6
              refine lv_iload_n hx hb dX15_rank_60 rfl (lv_at hl 0 rfl) ?_
              refine lv_bipush (v := 23) hx hb dX15_rank_61 (by decide) ?_
              refine lv_icmp_ge (tgt := 71) hx hb dX15_rank_63 (by decide) (fun c7 => ?_) (fun c7 => ?_)
              · have h := nd_pos h c7
                refine lv_iload_n hx hb dX15_rank_71 rfl (lv_at hl 0 rfl) ?_
                refine lv_bipush (v := 25) hx hb dX15_rank_72 (by decide) ?_
                refine lv_icmp_ge (tgt := 82) hx hb dX15_rank_74 (by decide) (fun c8 => ?_) (fun c8 => ?_)
                · have h := nd_pos h c8
                  refine lv_bipush (v := 8) hx hb dX15_rank_82 (by decide) ?_
                  exact (db_X15_rank_84 C K) (8) s0 _ _ _ h hP hD hS (lv_sub hl [] rfl)
                · have h := nd_neg h c8
                  refine lv_bipush (v := 7) hx hb dX15_rank_77 (by decide) ?_
                  refine lv_goto (tgt := 84) hx hb dX15_rank_79 (by decide) ?_
                  exact (db_X15_rank_84 C K) (7) s0 _ _ _ h hP hD hS (lv_sub hl [] rfl)
              · have h := nd_neg h c7
                refine lv_bipush (v := 6) hx hb dX15_rank_66 (by decide) ?_
                refine lv_goto (tgt := 84) hx hb dX15_rank_68 (by decide) ?_
                exact (db_X15_rank_84 C K) (6) s0 _ _ _ h hP hD hS (lv_sub hl [] rfl)
            · have h := nd_pos h c6
              refine lv_iconst (v := 5) hx hb dX15_rank_56 (by decide) ?_
              refine lv_goto (tgt := 84) hx hb dX15_rank_57 (by decide) ?_
              exact (db_X15_rank_84 C K) (5) s0 _ _ _ h hP hD hS (lv_sub hl [] rfl)
          · have h := nd_pos h c5
            refine lv_iconst (v := 4) hx hb dX15_rank_46 (by decide) ?_
            refine lv_goto (tgt := 84) hx hb dX15_rank_47 (by decide) ?_
            exact (db_X15_rank_84 C K) (4) s0 _ _ _ h hP hD hS (lv_sub hl [] rfl)
        · have h := nd_pos h c4
          refine lv_iconst (v := 3) hx hb dX15_rank_36 (by decide) ?_
          refine lv_goto (tgt := 84) hx hb dX15_rank_37 (by decide) ?_
          exact (db_X15_rank_84 C K) (3) s0 _ _ _ h hP hD hS (lv_sub hl [] rfl)
      · have h := nd_neg h c3
        refine lv_iconst (v := 2) hx hb dX15_rank_26 (by decide) ?_
        refine lv_goto (tgt := 84) hx hb dX15_rank_27 (by decide) ?_
        exact (db_X15_rank_84 C K) (2) s0 _ _ _ h hP hD hS (lv_sub hl [] rfl)
    · have h := nd_pos h c2
      refine lv_iconst (v := 1) hx hb dX15_rank_16 (by decide) ?_
      refine lv_goto (tgt := 84) hx hb dX15_rank_17 (by decide) ?_
      exact (db_X15_rank_84 C K) (1) s0 _ _ _ h hP hD hS (lv_sub hl [] rfl)
  · have h := nd_pos h c1
    refine lv_iconst (v := 0) hx hb dX15_rank_6 (by decide) ?_
    refine lv_goto (tgt := 84) hx hb dX15_rank_7 (by decide) ?_
    exact (db_X15_rank_84 C K) (0) s0 _ _ _ h hP hD hS (lv_sub hl [] rfl)
set_option maxHeartbeats 40000000 in
set_option maxRecDepth 100000 in
theorem dm_X15_rank (l : Launch) (hlt : l.stackTraces = false) (dC : Nat → ClassId) (dI : Nat → Nat → Nat) (a : Nat → Nat) (ac : Nat → ClassId) (n : Nat) (v0 : Int32) (s0 : Unit) {r : Int32 × (Unit)} (h : df_X15_rank n v0 s0 = some r) (sz : Nat) : Met l yX15_rank ow_dm_X15_rank ({ frames := 0, cells := 0, slots := 0, locals := 0 }) (va_Pc [.int v0] (fun U => U.heap.size = sz ∧ va_P (dC, dI) vwCl (dw_P a ac s0) U.heap ∧ va_K (dC, dI) vwCl (dk_P ac) U ∧ va_D (fun _ => True) (dw_P a ac s0) ∧ nv_E dI (va_A (dw_P a ac s0) sz) U)) (va_Qi (fun x _ => x = r.1) (fun (_ : Unit) t => va_P (dC, dI) vwCl (dw_P a ac r.2) t.heap ∧ va_K (dC, dI) vwCl (dk_P ac) t ∧ va_D (va_A (dw_P a ac s0) sz) (dw_P a ac r.2)) (va_A (dw_P a ac s0) sz)) 0 0 (va_A (dw_P a ac s0) sz) := by
  refine Met.ofW (cc := cX15_rank) (maxL := 1) (ret := (some .int)) (by decide) rfl ?_
  intro p e s m args below meth c s₁ B hml hv
  obtain ⟨rfl, hsz, hP, hK, hD0, hN⟩ := hv
  have hx := B.exec
  have hb := B.bytes
  have hr := B.returns
  have hts := atoms_spec (ws := ow_dm_X15_rank) B.pre
  have hown : s.vm.findClass RX15 = some m.cls := findClass_of_methodNamed B.named
  have hlocks := B.notSynchronized
  subst hsz
  have hD := hD0.self (sz := s.heap.size)
  generalize hAe : va_A (dw_P a ac s0) s.heap.size = A at hD hN ⊢
  have hA : ∀ q : Nat, s.heap.size ≤ q → A q := fun q h => by rw [← hAe]; exact Or.inr h
  have hl := lv_entry ([.int v0]) (n := 1) (Nat.le_of_ble_eq_true rfl)
  rw [lg_entry_eq]
  generalize (lg_sl ([.int v0]) ++ List.replicate (1 - (lg_sl ([.int v0])).length) Slot.unset).toArray = ls at hl ⊢
  have hl : lv_has ls 1 [(0, .int v0)] := hl
  exact db_X15_rank_0 (dC := dC) (dI := dI) (a := a) (ac := ac) (n := n) (r := r) ⟨hlt, hx, hb, hml, hown, hts, hN, hA, hK⟩ (fun pc v τ H locs ls d z er hP hD hS => by subst er; exact W.zret (v := v) hx hb hr z (fun t ht hW => ⟨⟨v, (), rfl, rfl, by rw [ht]; exact hP, va_K.moved hW.alike hK, hD⟩, hS.F ht⟩) hS.2.2 d) v0 s0 _ _ _ h hP hD va_S.rf (lv_sub hl [0] rfl)
def ow_dm_X15_least : List Cond := Cond.code yX15_least cX15_least 7 (some .int) :: ([Cond.fieldLink RX15 21 "TimeMachineModel$Conditions" "kind" "[I", Cond.fieldLink RX15 24 "TimeMachineModel$Conditions" "partner" "[I", Cond.methodLink RX15 143 yX15_isBetween, Cond.static yX15_isBetween, Cond.initialized RX15, Cond.methodLink RX15 161 yX15_rank, Cond.static yX15_rank] ++ (u_ws RX15 TX15 28 ++ (ow_dm_X15_isBetween ++ (ow_dm_X15_rank ++ []))))
theorem gd_dm_X15_least : ∀ w ∈ ow_dm_X15_least, (w.onTables && w.keeps) = true ∨ ∃ ty, w = Cond.arrayClass ty := List.forall_mem_cons.mpr ⟨good_of_word rfl, List.forall_mem_append.mpr ⟨fun w h => good_of_word (List.all_eq_true.mp (by decide +kernel) w h), List.forall_mem_append.mpr ⟨gu_X15, List.forall_mem_append.mpr ⟨gd_dm_X15_isBetween, List.forall_mem_append.mpr ⟨gd_dm_X15_rank, fun _ h => nomatch h⟩⟩⟩⟩⟩
theorem hi_dm_X15_least_X15 : ∀ w ∈ u_ws RX15 TX15 28, w ∈ ow_dm_X15_least := fun w h => List.mem_cons_of_mem _ (List.mem_append_right _ (List.mem_append_left _ h))
theorem gi_dm_X15_least_0 : GoodIn ow_dm_X15_least (wsS RX15 143 yX15_isBetween ow_dm_X15_isBetween) := goodIn_app (goodIn_of _ (by decide +kernel)) (fun w h => ⟨List.mem_cons_of_mem _ (List.mem_append_right _ (List.mem_append_right _ (List.mem_append_left _ h))), gd_dm_X15_isBetween w h⟩)
theorem gi_dm_X15_least_1 : GoodIn ow_dm_X15_least (wsS RX15 161 yX15_rank ow_dm_X15_rank) := goodIn_app (goodIn_of _ (by decide +kernel)) (fun w h => ⟨List.mem_cons_of_mem _ (List.mem_append_right _ (List.mem_append_right _ (List.mem_append_right _ (List.mem_append_left _ h)))), gd_dm_X15_rank w h⟩)
def dj_X15_least_103 (p : Program) (l : Launch) (e : Env) (s : State) (m : MethodId) (args : Array Value) (below : List Frame) (meth : Method) (c : Code) (Q : State → Prop) (A : Nat → Prop) (dC : Nat → ClassId) (dI : Nat → Nat → Nat) (a : Nat → Nat) (ac : Nat → ClassId) (g : Int32 → Int32 → Int32 → Int32 → (St × (St × (St))) → Option (Int32 × (St × (St × (St))))) (r : Int32 × (St × (St × (St)))) : Prop := ∀ (x2 : Int32) (x3 : Int32) (x4 : Int32) (x5 : Int32) (s0 : St × (St × (St))) (H : Heap) (locs : List Loc) (ls : Array Slot), g x2 x3 x4 x5 s0 = some r → va_P (dC, dI) vwCl (dw_X15 a ac s0) H → va_D A (dw_X15 a ac s0) → va_S A s.heap H locs → lv_has ls 7 [(0, .ref (a 0)), (2, .int x2), (3, .int x3), (4, .int x4), (5, .int x5)] → W p l e (headSpec ow_dm_X15_least ({ frames := 1, cells := 0, slots := 0, locals := 20 })).room s m args below meth c H locs 0 0 Q (F0 m 103 ls [])
def dj_X15_least_37 (p : Program) (l : Launch) (e : Env) (s : State) (m : MethodId) (args : Array Value) (below : List Frame) (meth : Method) (c : Code) (Q : State → Prop) (A : Nat → Prop) (dC : Nat → ClassId) (dI : Nat → Nat → Nat) (a : Nat → Nat) (ac : Nat → ClassId) (g : Int32 → Int32 → Int32 → (St × (St × (St))) → Option (Int32 × (St × (St × (St))))) (r : Int32 × (St × (St × (St)))) : Prop := ∀ (x2 : Int32) (x3 : Int32) (x5 : Int32) (s0 : St × (St × (St))) (H : Heap) (locs : List Loc) (ls : Array Slot), g x2 x3 x5 s0 = some r → va_P (dC, dI) vwCl (dw_X15 a ac s0) H → va_D A (dw_X15 a ac s0) → va_S A s.heap H locs → lv_has ls 7 [(0, .ref (a 0)), (2, .int x2), (3, .int x3), (5, .int x5)] → W p l e (headSpec ow_dm_X15_least ({ frames := 1, cells := 0, slots := 0, locals := 20 })).room s m args below meth c H locs 0 0 Q (F0 m 37 ls [])
def dj_X15_least_101 (p : Program) (l : Launch) (e : Env) (s : State) (m : MethodId) (args : Array Value) (below : List Frame) (meth : Method) (c : Code) (Q : State → Prop) (A : Nat → Prop) (dC : Nat → ClassId) (dI : Nat → Nat → Nat) (a : Nat → Nat) (ac : Nat → ClassId) (g : Int32 → Int32 → Int32 → Int32 → (St × (St × (St))) → Option (Int32 × (St × (St × (St))))) (r : Int32 × (St × (St × (St)))) : Prop := ∀ (x2 : Int32) (x3 : Int32) (x5 : Int32) (y0 : Int32) (s0 : St × (St × (St))) (H : Heap) (locs : List Loc) (ls : Array Slot), g x2 x3 x5 y0 s0 = some r → va_P (dC, dI) vwCl (dw_X15 a ac s0) H → va_D A (dw_X15 a ac s0) → va_S A s.heap H locs → lv_has ls 7 [(0, .ref (a 0)), (2, .int x2), (3, .int x3), (5, .int x5)] → W p l e (headSpec ow_dm_X15_least ({ frames := 1, cells := 0, slots := 0, locals := 20 })).room s m args below meth c H locs 0 0 Q (F0 m 101 ls [.int y0])
def dj_X15_least_89 (p : Program) (l : Launch) (e : Env) (s : State) (m : MethodId) (args : Array Value) (below : List Frame) (meth : Method) (c : Code) (Q : State → Prop) (A : Nat → Prop) (dC : Nat → ClassId) (dI : Nat → Nat → Nat) (a : Nat → Nat) (ac : Nat → ClassId) (g : Int32 → Int32 → Int32 → Int32 → (St × (St × (St))) → Option (Int32 × (St × (St × (St))))) (r : Int32 × (St × (St × (St)))) : Prop := ∀ (x2 : Int32) (x3 : Int32) (x5 : Int32) (x6 : Int32) (s0 : St × (St × (St))) (H : Heap) (locs : List Loc) (ls : Array Slot), g x2 x3 x5 x6 s0 = some r → va_P (dC, dI) vwCl (dw_X15 a ac s0) H → va_D A (dw_X15 a ac s0) → va_S A s.heap H locs → lv_has ls 7 [(0, .ref (a 0)), (2, .int x2), (3, .int x3), (5, .int x5), (6, .int x6)] → W p l e (headSpec ow_dm_X15_least ({ frames := 1, cells := 0, slots := 0, locals := 20 })).room s m args below meth c H locs 0 0 Q (F0 m 89 ls [])
def dj_X15_least_86 (p : Program) (l : Launch) (e : Env) (s : State) (m : MethodId) (args : Array Value) (below : List Frame) (meth : Method) (c : Code) (Q : State → Prop) (A : Nat → Prop) (dC : Nat → ClassId) (dI : Nat → Nat → Nat) (a : Nat → Nat) (ac : Nat → ClassId) (g : Int32 → Int32 → Int32 → (St × (St × (St))) → Option (Int32 × (St × (St × (St))))) (r : Int32 × (St × (St × (St)))) : Prop := ∀ (x2 : Int32) (x5 : Int32) (x6 : Int32) (s0 : St × (St × (St))) (H : Heap) (locs : List Loc) (ls : Array Slot), g x2 x5 x6 s0 = some r → va_P (dC, dI) vwCl (dw_X15 a ac s0) H → va_D A (dw_X15 a ac s0) → va_S A s.heap H locs → lv_has ls 7 [(0, .ref (a 0)), (2, .int x2), (5, .int x5), (6, .int x6)] → W p l e (headSpec ow_dm_X15_least ({ frames := 1, cells := 0, slots := 0, locals := 20 })).room s m args below meth c H locs 0 0 Q (F0 m 86 ls [])
def dj_X15_least_8 (p : Program) (l : Launch) (e : Env) (s : State) (m : MethodId) (args : Array Value) (below : List Frame) (meth : Method) (c : Code) (Q : State → Prop) (A : Nat → Prop) (dC : Nat → ClassId) (dI : Nat → Nat → Nat) (a : Nat → Nat) (ac : Nat → ClassId) (g : Int32 → Int32 → Int32 → Int32 → (St × (St × (St))) → Option (Int32 × (St × (St × (St))))) (r : Int32 × (St × (St × (St)))) : Prop := ∀ (x2 : Int32) (x3 : Int32) (x4 : Int32) (x5 : Int32) (s0 : St × (St × (St))) (H : Heap) (locs : List Loc) (ls : Array Slot), g x2 x3 x4 x5 s0 = some r → va_P (dC, dI) vwCl (dw_X15 a ac s0) H → va_D A (dw_X15 a ac s0) → va_S A s.heap H locs → lv_has ls 7 [(0, .ref (a 0)), (2, .int x2), (3, .int x3), (4, .int x4), (5, .int x5)] → W p l e (headSpec ow_dm_X15_least ({ frames := 1, cells := 0, slots := 0, locals := 20 })).room s m args below meth c H locs 0 0 Q (F0 m 8 ls [])
def dj_X15_least_0 (p : Program) (l : Launch) (e : Env) (s : State) (m : MethodId) (args : Array Value) (below : List Frame) (meth : Method) (c : Code) (Q : State → Prop) (A : Nat → Prop) (dC : Nat → ClassId) (dI : Nat → Nat → Nat) (a : Nat → Nat) (ac : Nat → ClassId) (g : Int32 → Int32 → (St × (St × (St))) → Option (Int32 × (St × (St × (St))))) (r : Int32 × (St × (St × (St)))) : Prop := ∀ (v0 : Int32) (v1 : Int32) (s0 : St × (St × (St))) (H : Heap) (locs : List Loc) (ls : Array Slot), g v0 v1 s0 = some r → va_P (dC, dI) vwCl (dw_X15 a ac s0) H → va_D A (dw_X15 a ac s0) → va_S A s.heap H locs → lv_has ls 7 [(0, .ref (a 0)), (1, .int v0), (2, .int v1)] → W p l e (headSpec ow_dm_X15_least ({ frames := 1, cells := 0, slots := 0, locals := 20 })).room s m args below meth c H locs 0 0 Q (F0 m 0 ls [])
set_option maxHeartbeats 40000000 in
set_option maxRecDepth 100000 in
theorem db_X15_least_103 {p : Program} {l : Launch} {e : Env} {s : State} {m : MethodId} {args : Array Value} {below : List Frame} {meth : Method} {c : Code} {Q : State → Prop} {A : Nat → Prop} {dC : Nat → ClassId} {dI : Nat → Nat → Nat} {a : Nat → Nat} {ac : Nat → ClassId} {n : Nat} {r : Int32 × (St × (St × (St)))} (C : nd_C p l s m args c A (dC, dI) cX15_least 7 RX15 ow_dm_X15_least (dk_X15 ac)) (K : nd_Ki p l e (headSpec ow_dm_X15_least ({ frames := 1, cells := 0, slots := 0, locals := 20 })).room s m args below meth c Q A (dC, dI) cX15_least .int (St × (St × (St))) (dw_X15 a ac) r) {g8 : Int32 → Int32 → Int32 → Int32 → (St × (St × (St))) → Option (Int32 × (St × (St × (St))))} (J8 : dj_X15_least_8 p l e s m args below meth c Q A dC dI a ac g8 r) : dj_X15_least_103 p l e s m args below meth c Q A dC dI a ac (df_X15_least_103 n g8) r := by
  obtain ⟨hlt, hx, hb, hml, hown, hts, hN, hA, hK⟩ := id C
  intro x2 x3 x4 x5 s0 H locs ls h hP hD hS hl
  unfold df_X15_least_103 at h
  obtain ⟨z7, ez7, h⟩ := nd_let_e h
  refine lv_iinc (v := z7) (lv' := [(5, .int z7), (0, .ref (a 0)), (2, .int x2), (3, .int x3), (4, .int x4)]) hx hb dX15_least_103 hl (k := 4) rfl (by rw [ez7]) (by decide) rfl (fun ls hl => ?_)
  refine lv_goto (tgt := 8) hx hb dX15_least_106 (by decide) ?_
  exact (J8) (x2) (x3) (x4) (z7) s0 _ _ _ h hP hD hS (lv_sub hl [1, 2, 3, 4, 0] rfl)

