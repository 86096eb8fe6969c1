def ow_dm_X19_thrown : List Cond := Cond.code yX19_thrown cX19_thrown 1 (some .int) :: ([Cond.fieldLink RX19 113 "TimeMachineModel" "code" "I"] ++ (u_ws RX19 TX19 36 ++ []))
theorem gd_dm_X19_thrown : ∀ w ∈ ow_dm_X19_thrown, (w.onTables && w.keeps) = true ∨ ∃ ty, w = Cond.arrayClass ty := List.forall_mem_cons.mpr ⟨good_of_word rfl, List.forall_mem_append.mpr ⟨fun w h => good_of_word (List.all_eq_true.mp (by decide +kernel) w h), List.forall_mem_append.mpr ⟨gu_X19, fun _ h => nomatch h⟩⟩⟩
theorem hi_dm_X19_thrown_X19 : ∀ w ∈ u_ws RX19 TX19 36, w ∈ ow_dm_X19_thrown := fun w h => List.mem_cons_of_mem _ (List.mem_append_right _ (List.mem_append_left _ h))
def dj_X19_thrown_0 (p : Program) (l : Launch) (e : Env) (s : State) (m : MethodId) (args : Array Value) (below : List Frame) (meth : Method) (c : Code) (Q : State → Prop) (A : Nat → Prop) (dC : Nat → ClassId) (dI : Nat → Nat → Nat) (a : Nat → Nat) (ac : Nat → ClassId) (g : (St × (St) × (St × (St × (St))) × (St) × (St)) → Option (Int32 × (St × (St) × (St × (St × (St))) × (St) × (St)))) (r : Int32 × (St × (St) × (St × (St × (St))) × (St) × (St))) : Prop := ∀ (s0 : St × (St) × (St × (St × (St))) × (St) × (St)) (H : Heap) (locs : List Loc) (ls : Array Slot), g s0 = some r → va_P (dC, dI) vwCl (dw_X19 a ac s0) H → va_D A (dw_X19 a ac s0) → va_S A s.heap H locs → lv_has ls 1 [(0, .ref (a 0))] → W p l e (headSpec ow_dm_X19_thrown ({ frames := 0, cells := 0, slots := 0, locals := 0 })).room s m args below meth c H locs 0 0 Q (F0 m 0 ls [])
set_option maxHeartbeats 40000000 in
set_option maxRecDepth 100000 in
theorem db_X19_thrown_0 {p : Program} {l : Launch} {e : Env} {s : State} {m : MethodId} {args : Array Value} {below : List Frame} {meth : Method} {c : Code} {Q : State → Prop} {A : Nat → Prop} {dC : Nat → ClassId} {dI : Nat → Nat → Nat} {a : Nat → Nat} {ac : Nat → ClassId} {n : Nat} {r : Int32 × (St × (St) × (St × (St × (St))) × (St) × (St))} (C : nd_C p l s m args c A (dC, dI) cX19_thrown 1 RX19 ow_dm_X19_thrown (dk_X19 ac)) (K : nd_Ki p l e (headSpec ow_dm_X19_thrown ({ frames := 0, cells := 0, slots := 0, locals := 0 })).room s m args below meth c Q A (dC, dI) cX19_thrown .int (St × (St) × (St × (St × (St))) × (St) × (St)) (dw_X19 a ac) r) : dj_X19_thrown_0 p l e s m args below meth c Q A dC dI a ac (df_X19_thrown_0 n) r := by
  obtain ⟨hlt, hx, hb, hml, hown, hts, hN, hA, hK⟩ := id C
  intro s0 H locs ls h hP hD hS hl
  unfold df_X19_thrown_0 at h
  refine lv_aload_n hx hb dX19_thrown_0 rfl (lv_at hl 0 rfl) ?_
  refine va_get (D := (dC, dI)) (ci := 20) (v := .int (sI s0.1 0)) (C := RX19) (T := TX19) (N := 36) hx hb hts hi_dm_X19_thrown_X19 hown hK hP 0 rfl rfl 0 (by decide) (hts (.fieldLink RX19 113 "TimeMachineModel" "code" "I") (List.mem_of_getElem? (i := 1) rfl)) (fun _ h9 => h9) rfl dX19_thrown_1 ?_
  exact K _ _ _ _ _ _ dX19_thrown_4 rfl (Option.some.inj h).symm hP hD hS
set_option maxHeartbeats 40000000 in
set_option maxRecDepth 100000 in
theorem dm_X19_thrown (l : Launch) (hlt : l.stackTraces = false) (dC : Nat → ClassId) (dI : Nat → Nat → Nat) (a : Nat → Nat) (ac : Nat → ClassId) (n : Nat) (s0 : St × (St) × (St × (St × (St))) × (St) × (St)) {r : Int32 × (St × (St) × (St × (St × (St))) × (St) × (St))} (h : df_X19_thrown n s0 = some r) (sz : Nat) : Met l yX19_thrown ow_dm_X19_thrown ({ frames := 0, cells := 0, slots := 0, locals := 0 }) (va_Pc [.ref (a 0)] (fun U => U.heap.size = sz ∧ va_P (dC, dI) vwCl (dw_X19 a ac s0) U.heap ∧ va_K (dC, dI) vwCl (dk_X19 ac) U ∧ va_D (fun _ => True) (dw_X19 a ac s0) ∧ nv_E dI (va_A (dw_X19 a ac s0) sz) U)) (va_Qi (fun x _ => x = r.1) (fun (_ : Unit) t => va_P (dC, dI) vwCl (dw_X19 a ac r.2) t.heap ∧ va_K (dC, dI) vwCl (dk_X19 ac) t ∧ va_D (va_A (dw_X19 a ac s0) sz) (dw_X19 a ac r.2)) (va_A (dw_X19 a ac s0) sz)) 0 0 (va_A (dw_X19 a ac s0) sz) := by
  refine Met.ofW (cc := cX19_thrown) (maxL := 1) (ret := (some .int)) (by decide) rfl ?_
  intro p e s m args below meth c s₁ B hml hv
  obtain ⟨rfl, hsz, hP, hK, hD0, hN⟩ := hv
  have hx := B.exec
  have hb := B.bytes
  have hr := B.returns
  have hts := atoms_spec (ws := ow_dm_X19_thrown) B.pre
  have hown : s.vm.findClass RX19 = some m.cls := findClass_of_methodNamed B.named
  have hlocks := B.notSynchronized
  subst hsz
  have hD := hD0.self (sz := s.heap.size)
  generalize hAe : va_A (dw_X19 a ac s0) s.heap.size = A at hD hN ⊢
  have hA : ∀ q : Nat, s.heap.size ≤ q → A q := fun q h => by rw [← hAe]; exact Or.inr h
  have hl := lv_entry ([.ref (a 0)]) (n := 1) (Nat.le_of_ble_eq_true rfl)
  rw [lg_entry_eq]
  generalize (lg_sl ([.ref (a 0)]) ++ List.replicate (1 - (lg_sl ([.ref (a 0)])).length) Slot.unset).toArray = ls at hl ⊢
  have hl : lv_has ls 1 [(0, .ref (a 0))] := hl
  exact db_X19_thrown_0 (dC := dC) (dI := dI) (a := a) (ac := ac) (n := n) (r := r) ⟨hlt, hx, hb, hml, hown, hts, hN, hA, hK⟩ (fun pc v τ H locs ls d z er hP hD hS => by subst er; exact W.zret (v := v) hx hb hr z (fun t ht hW => ⟨⟨v, (), rfl, rfl, by rw [ht]; exact hP, va_K.moved hW.alike hK, hD⟩, hS.F ht⟩) hS.2.2 d) s0 _ _ _ h hP hD va_S.rf (lv_sub hl [0] rfl)
def ow_dm_X19_fails : List Cond := Cond.code yX19_fails cX19_fails 3 (some .boolean) :: ([Cond.fieldLink RX19 113 "TimeMachineModel" "code" "I"] ++ (u_ws RX19 TX19 36 ++ []))
theorem gd_dm_X19_fails : ∀ w ∈ ow_dm_X19_fails, (w.onTables && w.keeps) = true ∨ ∃ ty, w = Cond.arrayClass ty := List.forall_mem_cons.mpr ⟨good_of_word rfl, List.forall_mem_append.mpr ⟨fun w h => good_of_word (List.all_eq_true.mp (by decide +kernel) w h), List.forall_mem_append.mpr ⟨gu_X19, fun _ h => nomatch h⟩⟩⟩
theorem hi_dm_X19_fails_X19 : ∀ w ∈ u_ws RX19 TX19 36, w ∈ ow_dm_X19_fails := fun w h => List.mem_cons_of_mem _ (List.mem_append_right _ (List.mem_append_left _ h))
def dj_X19_fails_33 (p : Program) (l : Launch) (e : Env) (s : State) (m : MethodId) (args : Array Value) (below : List Frame) (meth : Method) (c : Code) (Q : State → Prop) (A : Nat → Prop) (dC : Nat → ClassId) (dI : Nat → Nat → Nat) (a : Nat → Nat) (ac : Nat → ClassId) (g : Int32 → (St × (St) × (St × (St × (St))) × (St) × (St)) → Option (Int32 × (St × (St) × (St × (St × (St))) × (St) × (St)))) (r : Int32 × (St × (St) × (St × (St × (St))) × (St) × (St))) : Prop := ∀ (y0 : Int32) (s0 : St × (St) × (St × (St × (St))) × (St) × (St)) (H : Heap) (locs : List Loc) (ls : Array Slot), g y0 s0 = some r → va_P (dC, dI) vwCl (dw_X19 a ac s0) H → va_D A (dw_X19 a ac s0) → va_S A s.heap H locs → lv_has ls 3 [] → W p l e (headSpec ow_dm_X19_fails ({ frames := 0, cells := 0, slots := 0, locals := 0 })).room s m args below meth c H locs 0 0 Q (F0 m 33 ls [.int y0])
def dj_X19_fails_18 (p : Program) (l : Launch) (e : Env) (s : State) (m : MethodId) (args : Array Value) (below : List Frame) (meth : Method) (c : Code) (Q : State → Prop) (A : Nat → Prop) (dC : Nat → ClassId) (dI : Nat → Nat → Nat) (a : Nat → Nat) (ac : Nat → ClassId) (g : Int32 → (St × (St) × (St × (St × (St))) × (St) × (St)) → Option (Int32 × (St × (St) × (St × (St × (St))) × (St) × (St)))) (r : Int32 × (St × (St) × (St × (St × (St))) × (St) × (St))) : Prop := ∀ (y1 : Int32) (s0 : St × (St) × (St × (St × (St))) × (St) × (St)) (H : Heap) (locs : List Loc) (ls : Array Slot), g y1 s0 = some r → va_P (dC, dI) vwCl (dw_X19 a ac s0) H → va_D A (dw_X19 a ac s0) → va_S A s.heap H locs → lv_has ls 3 [(0, .ref (a 0))] → W p l e (headSpec ow_dm_X19_fails ({ frames := 0, cells := 0, slots := 0, locals := 0 })).room s m args below meth c H locs 0 0 Q (F0 m 18 ls [.int y1, .ref (a 0)])
def dj_X19_fails_0 (p : Program) (l : Launch) (e : Env) (s : State) (m : MethodId) (args : Array Value) (below : List Frame) (meth : Method) (c : Code) (Q : State → Prop) (A : Nat → Prop) (dC : Nat → ClassId) (dI : Nat → Nat → Nat) (a : Nat → Nat) (ac : Nat → ClassId) (g : Int32 → Int32 → (St × (St) × (St × (St × (St))) × (St) × (St)) → Option (Int32 × (St × (St) × (St × (St × (St))) × (St) × (St)))) (r : Int32 × (St × (St) × (St × (St × (St))) × (St) × (St))) : Prop := ∀ (v0 : Int32) (v1 : Int32) (s0 : St × (St) × (St × (St × (St))) × (St) × (St)) (H : Heap) (locs : List Loc) (ls : Array Slot), g v0 v1 s0 = some r → va_P (dC, dI) vwCl (dw_X19 a ac s0) H → va_D A (dw_X19 a ac s0) → va_S A s.heap H locs → lv_has ls 3 [(0, .ref (a 0)), (1, .int v0), (2, .int v1)] → W p l e (headSpec ow_dm_X19_fails ({ frames := 0, cells := 0, slots := 0, locals := 0 })).room s m args below meth c H locs 0 0 Q (F0 m 0 ls [])
set_option maxHeartbeats 40000000 in
set_option maxRecDepth 100000 in
theorem db_X19_fails_33 {p : Program} {l : Launch} {e : Env} {s : State} {m : MethodId} {args : Array Value} {below : List Frame} {meth : Method} {c : Code} {Q : State → Prop} {A : Nat → Prop} {dC : Nat → ClassId} {dI : Nat → Nat → Nat} {a : Nat → Nat} {ac : Nat → ClassId} {n : Nat} {r : Int32 × (St × (St) × (St × (St × (St))) × (St) × (St))} (C : nd_C p l s m args c A (dC, dI) cX19_fails 3 RX19 ow_dm_X19_fails (dk_X19 ac)) (K : nd_Ki p l e (headSpec ow_dm_X19_fails ({ frames := 0, cells := 0, slots := 0, locals := 0 })).room s m args below meth c Q A (dC, dI) cX19_fails .boolean (St × (St) × (St × (St × (St))) × (St) × (St)) (dw_X19 a ac) r) : dj_X19_fails_33 p l e s m args below meth c Q A dC dI a ac (df_X19_fails_33 n) r := by
  obtain ⟨hlt, hx, hb, hml, hown, hts, hN, hA, hK⟩ := id C
  intro y0 s0 H locs ls h hP hD hS hl
  unfold df_X19_fails_33 at h
  obtain ⟨n5, h⟩ := nd_z_e ⟨_, rfl⟩ h
  exact K _ _ _ _ _ _ dX19_fails_33 n5 (Option.some.inj h).symm hP hD hS
set_option maxHeartbeats 40000000 in
set_option maxRecDepth 100000 in
theorem db_X19_fails_18 {p : Program} {l : Launch} {e : Env} {s : State} {m : MethodId} {args : Array Value} {below : List Frame} {meth : Method} {c : Code} {Q : State → Prop} {A : Nat → Prop} {dC : Nat → ClassId} {dI : Nat → Nat → Nat} {a : Nat → Nat} {ac : Nat → ClassId} {n : Nat} {r : Int32 × (St × (St) × (St × (St × (St))) × (St) × (St))} (C : nd_C p l s m args c A (dC, dI) cX19_fails 3 RX19 ow_dm_X19_fails (dk_X19 ac)) (K : nd_Ki p l e (headSpec ow_dm_X19_fails ({ frames := 0, cells := 0, slots := 0, locals := 0 })).room s m args below meth c Q A (dC, dI) cX19_fails .boolean (St × (St) × (St × (St × (St))) × (St) × (St)) (dw_X19 a ac) r) : dj_X19_fails_18 p l e s m args below meth c Q A dC dI a ac (df_X19_fails_18 n) r := by
  obtain ⟨hlt, hx, hb, hml, hown, hts, hN, hA, hK⟩ := id C
  intro y1 s0 H locs ls h hP hD hS hl
  unfold df_X19_fails_18 at h
  refine va_put (D := (dC, dI)) (ci := 20) (v := .int y1) (ty := .int) (C := RX19) (T := TX19) (N := 36) hx hb hts hi_dm_X19_fails_X19 tyX19 tyX19_ok nmX19 hown hK hP hD hS 0 rfl rfl 0 (by decide) (hts (.fieldLink RX19 113 "TimeMachineModel" "code" "I") (List.mem_of_getElem? (i := 1) rfl)) (fun _ h9 => h9) rfl (by decide +kernel) rfl rfl (Nat.le_of_ble_eq_true rfl) dX19_fails_18 (fun H locs hP hD hS => ?_)
  obtain ⟨s3, es3, h⟩ := nd_let_e h
  have hP : va_P (dC, dI) vwCl (dw_X19 a ac s3) H := by rw [es3]; exact hP
  have hD : va_D A (dw_X19 a ac s3) := by rw [es3]; exact hD
  refine lv_aload_n hx hb dX19_fails_21 rfl (lv_at hl 0 rfl) ?_
  refine va_get (D := (dC, dI)) (ci := 20) (v := .int (sI s3.1 0)) (C := RX19) (T := TX19) (N := 36) hx hb hts hi_dm_X19_fails_X19 hown hK hP 0 rfl rfl 0 (by decide) (hts (.fieldLink RX19 113 "TimeMachineModel" "code" "I") (List.mem_of_getElem? (i := 1) rfl)) (fun _ h9 => h9) rfl dX19_fails_22 ?_
  refine lv_if_le (tgt := 32) hx hb dX19_fails_25 (by decide) (fun c4 => ?_) (fun c4 => ?_)
  · have h := nd_pos h c4
    refine lv_iconst (v := 0) hx hb dX19_fails_32 (by decide) ?_
    exact (db_X19_fails_33 C K) (0) s3 _ _ _ h hP hD hS (lv_sub hl [] rfl)
  · have h := nd_neg h c4
    refine lv_iconst (v := 1) hx hb dX19_fails_28 (by decide) ?_
    refine lv_goto (tgt := 33) hx hb dX19_fails_29 (by decide) ?_
    exact (db_X19_fails_33 C K) (1) s3 _ _ _ h hP hD hS (lv_sub hl [] rfl)
set_option maxHeartbeats 40000000 in
set_option maxRecDepth 100000 in
theorem db_X19_fails_0 {p : Program} {l : Launch} {e : Env} {s : State} {m : MethodId} {args : Array Value} {below : List Frame} {meth : Method} {c : Code} {Q : State → Prop} {A : Nat → Prop} {dC : Nat → ClassId} {dI : Nat → Nat → Nat} {a : Nat → Nat} {ac : Nat → ClassId} {n : Nat} {r : Int32 × (St × (St) × (St × (St × (St))) × (St) × (St))} (C : nd_C p l s m args c A (dC, dI) cX19_fails 3 RX19 ow_dm_X19_fails (dk_X19 ac)) (K : nd_Ki p l e (headSpec ow_dm_X19_fails ({ frames := 0, cells := 0, slots := 0, locals := 0 })).room s m args below meth c Q A (dC, dI) cX19_fails .boolean (St × (St) × (St × (St × (St))) × (St) × (St)) (dw_X19 a ac) r) : dj_X19_fails_0 p l e s m args below meth c Q A dC dI a ac (df_X19_fails_0 n) r := by
  obtain ⟨hlt, hx, hb, hml, hown, hts, hN, hA, hK⟩ := id C
  intro v0 v1 s0 H locs ls h hP hD hS hl
  unfold df_X19_fails_0 at h
  refine lv_aload_n hx hb dX19_fails_0 rfl (lv_at hl 0 rfl) ?_
  refine lv_iload_n hx hb dX19_fails_1 rfl (lv_at hl 1 rfl) ?_
  refine lv_if_eq (tgt := 9) hx hb dX19_fails_2 (by decide) (fun c1 => ?_) (fun c1 => ?_)
  · have h := nd_pos h c1
    refine lv_iload_n hx hb dX19_fails_9 rfl (lv_at hl 2 rfl) ?_
    refine lv_if_eq (tgt := 17) hx hb dX19_fails_10 (by decide) (fun c2 => ?_) (fun c2 => ?_)
    · have h := nd_pos h c2
      refine lv_iconst (v := 0) hx hb dX19_fails_17 (by decide) ?_
      exact (db_X19_fails_18 C K) (0) s0 _ _ _ h hP hD hS (lv_sub hl [0] rfl)
    · have h := nd_neg h c2
      refine lv_iconst (v := 2) hx hb dX19_fails_13 (by decide) ?_
      refine lv_goto (tgt := 18) hx hb dX19_fails_14 (by decide) ?_
      exact (db_X19_fails_18 C K) (2) s0 _ _ _ h hP hD hS (lv_sub hl [0] rfl)
  · have h := nd_neg h c1
    refine lv_iconst (v := 1) hx hb dX19_fails_5 (by decide) ?_
    refine lv_goto (tgt := 18) hx hb dX19_fails_6 (by decide) ?_
    exact (db_X19_fails_18 C K) (1) s0 _ _ _ h hP hD hS (lv_sub hl [0] rfl)
set_option maxHeartbeats 40000000 in
set_option maxRecDepth 100000 in
theorem dm_X19_fails (l : Launch) (hlt : l.stackTraces = false) (dC : Nat → ClassId) (dI : Nat → Nat → Nat) (a : Nat → Nat) (ac : Nat → ClassId) (n : Nat) (v0 : Int32) (v1 : Int32) (s0 : St × (St) × (St × (St × (St))) × (St) × (St)) {r : Int32 × (St × (St) × (St × (St × (St))) × (St) × (St))} (h : df_X19_fails n v0 v1 s0 = some r) (sz : Nat) : Met l yX19_fails ow_dm_X19_fails ({ frames := 0, cells := 0, slots := 0, locals := 0 }) (va_Pc [.ref (a 0), .int v0, .int v1] (fun U => U.heap.size = sz ∧ va_P (dC, dI) vwCl (dw_X19 a ac s0) U.heap ∧ va_K (dC, dI) vwCl (dk_X19 ac) U ∧ va_D (fun _ => True) (dw_X19 a ac s0) ∧ nv_E dI (va_A (dw_X19 a ac s0) sz) U)) (va_Qi (fun x _ => x = r.1) (fun (_ : Unit) t => va_P (dC, dI) vwCl (dw_X19 a ac r.2) t.heap ∧ va_K (dC, dI) vwCl (dk_X19 ac) t ∧ va_D (va_A (dw_X19 a ac s0) sz) (dw_X19 a ac r.2)) (va_A (dw_X19 a ac s0) sz)) 0 0 (va_A (dw_X19 a ac s0) sz) := by
  refine Met.ofW (cc := cX19_fails) (maxL := 3) (ret := (some .boolean)) (by decide) rfl ?_
  intro p e s m args below meth c s₁ B hml hv
  obtain ⟨rfl, hsz, hP, hK, hD0, hN⟩ := hv
  have hx := B.exec
  have hb := B.bytes
  have hr := B.returns
  have hts := atoms_spec (ws := ow_dm_X19_fails) B.pre
  have hown : s.vm.findClass RX19 = some m.cls := findClass_of_methodNamed B.named
  have hlocks := B.notSynchronized
  subst hsz
  have hD := hD0.self (sz := s.heap.size)
  generalize hAe : va_A (dw_X19 a ac s0) s.heap.size = A at hD hN ⊢
  have hA : ∀ q : Nat, s.heap.size ≤ q → A q := fun q h => by rw [← hAe]; exact Or.inr h
  have hl := lv_entry ([.ref (a 0), .int v0, .int v1]) (n := 3) (Nat.le_of_ble_eq_true rfl)
  rw [lg_entry_eq]
  generalize (lg_sl ([.ref (a 0), .int v0, .int v1]) ++ List.replicate (3 - (lg_sl ([.ref (a 0), .int v0, .int v1])).length) Slot.unset).toArray = ls at hl ⊢
  have hl : lv_has ls 3 [(0, .ref (a 0)), (1, .int v0), (2, .int v1)] := hl
  exact db_X19_fails_0 (dC := dC) (dI := dI) (a := a) (ac := ac) (n := n) (r := r) ⟨hlt, hx, hb, hml, hown, hts, hN, hA, hK⟩ (fun pc v τ H locs ls d z er hP hD hS => by subst er; exact W.zret (v := v) hx hb hr z (fun t ht hW => ⟨⟨v, (), rfl, rfl, by rw [ht]; exact hP, va_K.moved hW.alike hK, hD⟩, hS.F ht⟩) hS.2.2 d) v0 v1 s0 _ _ _ h hP hD va_S.rf (lv_sub hl [0, 1, 2] rfl)
def ow_dm_X19_in : List Cond := Cond.code yX19_in cX19_in 6 (some .boolean) :: ([] ++ [])
theorem gd_dm_X19_in : ∀ w ∈ ow_dm_X19_in, (w.onTables && w.keeps) = true ∨ ∃ ty, w = Cond.arrayClass ty := List.forall_mem_cons.mpr ⟨good_of_word rfl, List.forall_mem_append.mpr ⟨fun w h => good_of_word (List.all_eq_true.mp (by decide +kernel) w h), fun _ h => nomatch h⟩⟩
def dj_X19_in_18 (p : Program) (l : Launch) (e : Env) (s : State) (m : MethodId) (args : Array Value) (below : List Frame) (meth : Method) (c : Code) (Q : State → Prop) (A : Nat → Prop) (dC : Nat → ClassId) (dI : Nat → Nat → Nat) (a : Nat → Nat) (ac : Nat → ClassId) (g : Int32 → (Unit) → Option (Int32 × (Unit))) (r : Int32 × (Unit)) : Prop := ∀ (y0 : Int32) (s0 : Unit) (H : Heap) (locs : List Loc) (ls : Array Slot), g y0 s0 = some r → va_P (dC, dI) vwCl (dw_P a ac s0) H → va_D A (dw_P a ac s0) → va_S A s.heap H locs → lv_has ls 6 [] → W p l e (headSpec ow_dm_X19_in ({ frames := 0, cells := 0, slots := 0, locals := 0 })).room s m args below meth c H locs 0 0 Q (F0 m 18 ls [.int y0])
def dj_X19_in_17 (p : Program) (l : Launch) (e : Env) (s : State) (m : MethodId) (args : Array Value) (below : List Frame) (meth : Method) (c : Code) (Q : State → Prop) (A : Nat → Prop) (dC : Nat → ClassId) (dI : Nat → Nat → Nat) (a : Nat → Nat) (ac : Nat → ClassId) (g : (Unit) → Option (Int32 × (Unit))) (r : Int32 × (Unit)) : Prop := ∀ (s0 : Unit) (H : Heap) (locs : List Loc) (ls : Array Slot), g s0 = some r → va_P (dC, dI) vwCl (dw_P a ac s0) H → va_D A (dw_P a ac s0) → va_S A s.heap H locs → lv_has ls 6 [] → W p l e (headSpec ow_dm_X19_in ({ frames := 0, cells := 0, slots := 0, locals := 0 })).room s m args below meth c H locs 0 0 Q (F0 m 17 ls [])
def dj_X19_in_0 (p : Program) (l : Launch) (e : Env) (s : State) (m : MethodId) (args : Array Value) (below : List Frame) (meth : Method) (c : Code) (Q : State → Prop) (A : Nat → Prop) (dC : Nat → ClassId) (dI : Nat → Nat → Nat) (a : Nat → Nat) (ac : Nat → ClassId) (g : Int64 → Int64 → Int64 → (Unit) → Option (Int32 × (Unit))) (r : Int32 × (Unit)) : Prop := ∀ (v0 : Int64) (v1 : Int64) (v2 : Int64) (s0 : Unit) (H : Heap) (locs : List Loc) (ls : Array Slot), g v0 v1 v2 s0 = some r → va_P (dC, dI) vwCl (dw_P a ac s0) H → va_D A (dw_P a ac s0) → va_S A s.heap H locs → lv_has ls 6 [(0, .long v0), (2, .long v1), (4, .long v2)] → W p l e (headSpec ow_dm_X19_in ({ frames := 0, cells := 0, slots := 0, locals := 0 })).room s m args below meth c H locs 0 0 Q (F0 m 0 ls [])
set_option maxHeartbeats 40000000 in
set_option maxRecDepth 100000 in
theorem db_X19_in_18 {p : Program} {l : Launch} {e : Env} {s : State} {m : MethodId} {args : Array Value} {below : List Frame} {meth : Method} {c : Code} {Q : State → Prop} {A : Nat → Prop} {dC : Nat → ClassId} {dI : Nat → Nat → Nat} {a : Nat → Nat} {ac : Nat → ClassId} {n : Nat} {r : Int32 × (Unit)} (C : nd_C p l s m args c A (dC, dI) cX19_in 6 RX19 ow_dm_X19_in (dk_P ac)) (K : nd_Ki p l e (headSpec ow_dm_X19_in ({ frames := 0, cells := 0, slots := 0, locals := 0 })).room s m args below meth c Q A (dC, dI) cX19_in .boolean (Unit) (dw_P a ac) r) : dj_X19_in_18 p l e s m args below meth c Q A dC dI a ac (df_X19_in_18 n) r := by
  obtain ⟨hlt, hx, hb, hml, hown, hts, hN, hA, hK⟩ := id C
  intro y0 s0 H locs ls h hP hD hS hl
  unfold df_X19_in_18 at h
  obtain ⟨n2, h⟩ := nd_z_e ⟨_, rfl⟩ h
  exact K _ _ _ _ _ _ dX19_in_18 n2 (Option.some.inj h).symm hP hD hS
set_option maxHeartbeats 40000000 in
set_option maxRecDepth 100000 in
theorem db_X19_in_17 {p : Program} {l : Launch} {e : Env} {s : State} {m : MethodId} {args : Array Value} {below : List Frame} {meth : Method} {c : Code} {Q : State → Prop} {A : Nat → Prop} {dC : Nat → ClassId} {dI : Nat → Nat → Nat} {a : Nat → Nat} {ac : Nat → ClassId} {n : Nat} {r : Int32 × (Unit)} (C : nd_C p l s m args c A (dC, dI) cX19_in 6 RX19 ow_dm_X19_in (dk_P ac)) (K : nd_Ki p l e (headSpec ow_dm_X19_in ({ frames := 0, cells := 0, slots := 0, locals := 0 })).room s m args below meth c Q A (dC, dI) cX19_in .boolean (Unit) (dw_P a ac) r) : dj_X19_in_17 p l e s m args below meth c Q A dC dI a ac (df_X19_in_17 n) r := by
  obtain ⟨hlt, hx, hb, hml, hown, hts, hN, hA, hK⟩ := id C
  intro s0 H locs ls h hP hD hS hl
  unfold df_X19_in_17 at h
  refine lv_iconst (v := 0) hx hb dX19_in_17 (by decide) ?_
  exact (db_X19_in_18 C K) (0) s0 _ _ _ h hP hD hS (lv_sub hl [] rfl)
set_option maxHeartbeats 40000000 in
set_option maxRecDepth 100000 in
theorem db_X19_in_0 {p : Program} {l : Launch} {e : Env} {s : State} {m : MethodId} {args : Array Value} {below : List Frame} {meth : Method} {c : Code} {Q : State → Prop} {A : Nat → Prop} {dC : Nat → ClassId} {dI : Nat → Nat → Nat} {a : Nat → Nat} {ac : Nat → ClassId} {n : Nat} {r : Int32 × (Unit)} (C : nd_C p l s m args c A (dC, dI) cX19_in 6 RX19 ow_dm_X19_in (dk_P ac)) (K : nd_Ki p l e (headSpec ow_dm_X19_in ({ frames := 0, cells := 0, slots := 0, locals := 0 })).room s m args below meth c Q A (dC, dI) cX19_in .boolean (Unit) (dw_P a ac) r) : dj_X19_in_0 p l e s m args below meth c Q A dC dI a ac (df_X19_in_0 n) r := by
  obtain ⟨hlt, hx, hb, hml, hown, hts, hN, hA, hK⟩ := id C
  intro v0 v1 v2 s0 H locs ls h hP hD hS hl
  unfold df_X19_in_0 at h
  refine lv_lload_n hx hb dX19_in_0 rfl (lv_at hl 0 rfl) ?_
  refine lv_lload_n hx hb dX19_in_1 rfl (lv_at hl 1 rfl) ?_
  refine W.lcmp hx hb dX19_in_2 ?_
  refine lv_if_lt (tgt := 17) hx hb dX19_in_3 (by decide) (fun c1 => ?_) (fun c1 => ?_)
  · have h := nd_pos h c1
    exact (db_X19_in_17 C K)  s0 _ _ _ h hP hD hS (lv_sub hl [] rfl)
  · have h := nd_neg h c1
    refine lv_lload_n hx hb dX19_in_6 rfl (lv_at hl 0 rfl) ?_
    refine lv_lload hx hb dX19_in_7 (lv_at hl 2 rfl) ?_
    refine W.lcmp hx hb dX19_in_9 ?_
    refine lv_if_gt (tgt := 17) hx hb dX19_in_10 (by decide) (fun c3 => ?_) (fun c3 => ?_)
    · have h := nd_pos h c3
      exact (db_X19_in_17 C K)  s0 _ _ _ h hP hD hS (lv_sub hl [] rfl)
    · have h := nd_neg h c3
      refine lv_iconst (v := 1) hx hb dX19_in_13 (by decide) ?_
      refine lv_goto (tgt := 18) hx hb dX19_in_14 (by decide) ?_
      exact (db_X19_in_18 C K) (1) s0 _ _ _ h hP hD hS (lv_sub hl [] rfl)
set_option maxHeartbeats 40000000 in
set_option maxRecDepth 100000 in
theorem dm_X19_in (l : Launch) (hlt : l.stackTraces = false) (dC : Nat → ClassId) (dI : Nat → Nat → Nat) (a : Nat → Nat) (ac : Nat → ClassId) (n : Nat) (v0 : Int64) (v1 : Int64) (v2 : Int64) (s0 : Unit) {r : Int32 × (Unit)} (h : df_X19_in n v0 v1 v2 s0 = some r) (sz : Nat) : Met l yX19_in ow_dm_X19_in ({ frames := 0, cells := 0, slots := 0, locals := 0 }) (va_Pc [.long v0, .long v1, .long v2] (fun U => U.heap.size = sz ∧ va_P (dC, dI) vwCl (dw_P a ac s0) U.heap ∧ va_K (dC, dI) vwCl (dk_P ac) U ∧ va_D (fun _ => True) (dw_P a ac s0) ∧ nv_E dI (va_A (dw_P a ac s0) sz) U)) (va_Qi (fun x _ => x = r.1) (fun (_ : Unit) t => va_P (dC, dI) vwCl (dw_P a ac r.2) t.heap ∧ va_K (dC, dI) vwCl (dk_P ac) t ∧ va_D (va_A (dw_P a ac s0) sz) (dw_P a ac r.2)) (va_A (dw_P a ac s0) sz)) 0 0 (va_A (dw_P a ac s0) sz) := by
  refine Met.ofW (cc := cX19_in) (maxL := 6) (ret := (some .boolean)) (by decide) rfl ?_
  intro p e s m args below meth c s₁ B hml hv
  obtain ⟨rfl, hsz, hP, hK, hD0, hN⟩ := hv
  have hx := B.exec
  have hb := B.bytes
  have hr := B.returns
  have hts := atoms_spec (ws := ow_dm_X19_in) B.pre
  have hown : s.vm.findClass RX19 = some m.cls := findClass_of_methodNamed B.named
  have hlocks := B.notSynchronized
  subst hsz
  have hD := hD0.self (sz := s.heap.size)
  generalize hAe : va_A (dw_P a ac s0) s.heap.size = A at hD hN ⊢
  have hA : ∀ q : Nat, s.heap.size ≤ q → A q := fun q h => by rw [← hAe]; exact Or.inr h
  have hl := lv_entry ([.long v0, .long v1, .long v2]) (n := 6) (Nat.le_of_ble_eq_true rfl)
  rw [lg_entry_eq]
  generalize (lg_sl ([.long v0, .long v1, .long v2]) ++ List.replicate (6 - (lg_sl ([.long v0, .long v1, .long v2])).length) Slot.unset).toArray = ls at hl ⊢
  have hl : lv_has ls 6 [(0, .long v0), (2, .long v1), (4, .long v2)] := hl
  exact db_X19_in_0 (dC := dC) (dI := dI) (a := a) (ac := ac) (n := n) (r := r) ⟨hlt, hx, hb, hml, hown, hts, hN, hA, hK⟩ (fun pc v τ H locs ls d z er hP hD hS => by subst er; exact W.zret (v := v) hx hb hr z (fun t ht hW => ⟨⟨v, (), rfl, rfl, by rw [ht]; exact hP, va_K.moved hW.alike hK, hD⟩, hS.F ht⟩) hS.2.2 d) v0 v1 v2 s0 _ _ _ h hP hD va_S.rf (lv_sub hl [0, 1, 2] rfl)
def ow_dm_X19_feed : List Cond := Cond.code yX19_feed cX19_feed 8 (some .int) :: ([Cond.fieldLink RX19 113 "TimeMachineModel" "code" "I", Cond.fieldLink RX19 117 "TimeMachineModel" "taped" "I", Cond.constant RX19 9 (32768), Cond.fieldLink RX19 120 "TimeMachineModel" "fed" "Z", Cond.fieldLink RX19 10 "TimeMachineModel" "tape" "[I"] ++ (u_ws RX19 TX19 36 ++ []))
theorem gd_dm_X19_feed : ∀ w ∈ ow_dm_X19_feed, (w.onTables && w.keeps) = true ∨ ∃ ty, w = Cond.arrayClass ty := List.forall_mem_cons.mpr ⟨good_of_word rfl, List.forall_mem_append.mpr ⟨fun w h => good_of_word (List.all_eq_true.mp (by decide +kernel) w h), List.forall_mem_append.mpr ⟨gu_X19, fun _ h => nomatch h⟩⟩⟩
theorem hi_dm_X19_feed_X19 : ∀ w ∈ u_ws RX19 TX19 36, w ∈ ow_dm_X19_feed := fun w h => List.mem_cons_of_mem _ (List.mem_append_right _ (List.mem_append_left _ h))
def dj_X19_feed_75 (p : Program) (l : Launch) (e : Env) (s : State) (m : MethodId) (args : Array Value) (below : List Frame) (meth : Method) (c : Code) (Q : State → Prop) (A : Nat → Prop) (dC : Nat → ClassId) (dI : Nat → Nat → Nat) (a : Nat → Nat) (ac : Nat → ClassId) (g : Int32 → Int32 → Int32 → Int32 → Int32 → Int32 → Int32 → (St × (St) × (St × (St × (St))) × (St) × (St)) → Option (Int32 × (St × (St) × (St × (St × (St))) × (St) × (St)))) (r : Int32 × (St × (St) × (St × (St × (St))) × (St) × (St))) : Prop := ∀ (x1 : Int32) (x2 : Int32) (x3 : Int32) (x4 : Int32) (x5 : Int32) (x6 : Int32) (y0 : Int32) (s0 : St × (St) × (St × (St × (St))) × (St) × (St)) (H : Heap) (locs : List Loc) (ls : Array Slot), g x1 x2 x3 x4 x5 x6 y0 s0 = some r → va_P (dC, dI) vwCl (dw_X19 a ac s0) H → va_D A (dw_X19 a ac s0) → va_S A s.heap H locs → lv_has ls 8 [(0, .ref (a 0)), (1, .int x1), (2, .int x2), (3, .int x3), (4, .int x4), (5, .int x5), (6, .int x6)] → W p l e (headSpec ow_dm_X19_feed ({ frames := 0, cells := 0, slots := 0, locals := 0 })).room s m args below meth c H locs 0 0 Q (F0 m 75 ls [.int y0])
def dj_X19_feed_22 (p : Program) (l : Launch) (e : Env) (s : State) (m : MethodId) (args : Array Value) (below : List Frame) (meth : Method) (c : Code) (Q : State → Prop) (A : Nat → Prop) (dC : Nat → ClassId) (dI : Nat → Nat → Nat) (a : Nat → Nat) (ac : Nat → ClassId) (g : Int32 → Int32 → Int32 → Int32 → Int32 → Int32 → (St × (St) × (St × (St × (St))) × (St) × (St)) → Option (Int32 × (St × (St) × (St × (St × (St))) × (St) × (St)))) (r : Int32 × (St × (St) × (St × (St × (St))) × (St) × (St))) : Prop := ∀ (x1 : Int32) (x2 : Int32) (x3 : Int32) (x4 : Int32) (x5 : Int32) (x6 : Int32) (s0 : St × (St) × (St × (St × (St))) × (St) × (St)) (H : Heap) (locs : List Loc) (ls : Array Slot), g x1 x2 x3 x4 x5 x6 s0 = some r → va_P (dC, dI) vwCl (dw_X19 a ac s0) H → va_D A (dw_X19 a ac s0) → va_S A s.heap H locs → lv_has ls 8 [(0, .ref (a 0)), (1, .int x1), (2, .int x2), (3, .int x3), (4, .int x4), (5, .int x5), (6, .int x6)] → W p l e (headSpec ow_dm_X19_feed ({ frames := 0, cells := 0, slots := 0, locals := 0 })).room s m args below meth c H locs 0 0 Q (F0 m 22 ls [])
def dj_X19_feed_0 (p : Program) (l : Launch) (e : Env) (s : State) (m : MethodId) (args : Array Value) (below : List Frame) (meth : Method) (c : Code) (Q : State → Prop) (A : Nat → Prop) (dC : Nat → ClassId) (dI : Nat → Nat → Nat) (a : Nat → Nat) (ac : Nat → ClassId) (g : Int32 → Int32 → Int32 → Int32 → Int32 → (St × (St) × (St × (St × (St))) × (St) × (St)) → Option (Int32 × (St × (St) × (St × (St × (St))) × (St) × (St)))) (r : Int32 × (St × (St) × (St × (St × (St))) × (St) × (St))) : Prop := ∀ (v0 : Int32) (v1 : Int32) (v2 : Int32) (v3 : Int32) (v4 : Int32) (s0 : St × (St) × (St × (St × (St))) × (St) × (St)) (H : Heap) (locs : List Loc) (ls : Array Slot), g v0 v1 v2 v3 v4 s0 = some r → va_P (dC, dI) vwCl (dw_X19 a ac s0) H → va_D A (dw_X19 a ac s0) → va_S A s.heap H locs → lv_has ls 8 [(0, .ref (a 0)), (1, .int v0), (2, .int v1), (3, .int v2), (4, .int v3), (5, .int v4)] → W p l e (headSpec ow_dm_X19_feed ({ frames := 0, cells := 0, slots := 0, locals := 0 })).room s m args below meth c H locs 0 0 Q (F0 m 0 ls [])
set_option maxHeartbeats 40000000 in
set_option maxRecDepth 100000 in
theorem db_X19_feed_75 {p : Program} {l : Launch} {e : Env} {s : State} {m : MethodId} {args : Array Value} {below : List Frame} {meth : Method} {c : Code} {Q : State → Prop} {A : Nat → Prop} {dC : Nat → ClassId} {dI : Nat → Nat → Nat} {a : Nat → Nat} {ac : Nat → ClassId} {n : Nat} {r : Int32 × (St × (St) × (St × (St × (St))) × (St) × (St))} (C : nd_C p l s m args c A (dC, dI) cX19_feed 8 RX19 ow_dm_X19_feed (dk_X19 ac)) (K : nd_Ki p l e (headSpec ow_dm_X19_feed ({ frames := 0, cells := 0, slots := 0, locals := 0 })).room s m args below meth c Q A (dC, dI) cX19_feed .int (St × (St) × (St × (St × (St))) × (St) × (St)) (dw_X19 a ac) r) {g22 : Int32 → Int32 → Int32 → Int32 → Int32 → Int32 → (St × (St) × (St × (St × (St))) × (St) × (St)) → Option (Int32 × (St × (St) × (St × (St × (St))) × (St) × (St)))} (J22 : dj_X19_feed_22 p l e s m args below meth c Q A dC dI a ac g22 r) : dj_X19_feed_75 p l e s m args below meth c Q A dC dI a ac (df_X19_feed_75 n g22) r := by
  obtain ⟨hlt, hx, hb, hml, hown, hts, hN, hA, hK⟩ := id C
  intro x1 x2 x3 x4 x5 x6 y0 s0 H locs ls h hP hD hS hl
  unfold df_X19_feed_75 at h
  refine lv_istore (lv' := [(7, .int y0), (0, .ref (a 0)), (1, .int x1), (2, .int x2), (3, .int x3), (4, .int x4), (5, .int x5), (6, .int x6)]) hx hb dX19_feed_75 hl (by decide) rfl (fun ls hl => ?_)
  refine lv_aload_n hx hb dX19_feed_77 rfl (lv_at hl 1 rfl) ?_
  refine va_get (D := (dC, dI)) (ci := 20) (v := .ref (a 92)) (C := RX19) (T := TX19) (N := 36) hx hb hts hi_dm_X19_feed_X19 hown hK hP 0 rfl rfl 1 (by decide) (hts (.fieldLink RX19 10 "TimeMachineModel" "tape" "[I") (List.mem_of_getElem? (i := 5) rfl)) (fun _ h9 => h9) rfl dX19_feed_78 ?_
  refine lv_aload_n hx hb dX19_feed_81 rfl (lv_at hl 1 rfl) ?_
  refine va_get (D := (dC, dI)) (ci := 20) (v := .int (sI s0.1 1)) (C := RX19) (T := TX19) (N := 36) hx hb hts hi_dm_X19_feed_X19 hown hK hP 0 rfl rfl 2 (by decide) (hts (.fieldLink RX19 117 "TimeMachineModel" "taped" "I") (List.mem_of_getElem? (i := 2) rfl)) (fun _ h9 => h9) rfl dX19_feed_82 ?_
  refine lv_iload hx hb dX19_feed_85 (lv_at hl 0 rfl) ?_
  refine lv_bipush (v := 24) hx hb dX19_feed_87 (by decide) ?_
  refine lv_bipush (v := 8) hx hb dX19_feed_89 (by decide) ?_
  refine lv_iload hx hb dX19_feed_91 (lv_at hl 7 rfl) ?_
  refine lv_iconst (v := 4) hx hb dX19_feed_93 (by decide) ?_
  refine lv_irem hx hb dX19_feed_94 (by decide) ?_
  refine lv_imul hx hb dX19_feed_95 ?_
  refine lv_isub hx hb dX19_feed_96 ?_
  refine lv_ishr hx hb dX19_feed_97 ?_
  refine lv_sipush (v := 255) hx hb dX19_feed_98 (by decide) ?_
  refine lv_iand hx hb dX19_feed_101 ?_
  obtain ⟨i9, h⟩ := nd_ck_e h
  refine va_iast (i := (sI s0.1 1)) (x := (((y0 : Int32) >>> (((24 - (8 * ((x6 : Int32) - x6 / 4 * 4))) : Int32) &&& 31)) &&& 255)) hx hb hK hP hD hS 92 86 rfl rfl i9 dX19_feed_102 (fun H locs hP hD hS => ?_)
  obtain ⟨s10, es10, h⟩ := nd_let_e h
  have hP : va_P (dC, dI) vwCl (dw_X19 a ac s10) H := by rw [es10]; exact hP
  have hD : va_D A (dw_X19 a ac s10) := by rw [es10]; exact hD
  refine lv_aload_n hx hb dX19_feed_103 rfl (lv_at hl 1 rfl) ?_
  refine lv_dup hx hb dX19_feed_104 rfl ?_
  refine va_get (D := (dC, dI)) (ci := 20) (v := .int (sI s10.1 1)) (C := RX19) (T := TX19) (N := 36) hx hb hts hi_dm_X19_feed_X19 hown hK hP 0 rfl rfl 2 (by decide) (hts (.fieldLink RX19 117 "TimeMachineModel" "taped" "I") (List.mem_of_getElem? (i := 2) rfl)) (fun _ h9 => h9) rfl dX19_feed_105 ?_
  refine lv_iconst (v := 1) hx hb dX19_feed_108 (by decide) ?_
  refine lv_iadd hx hb dX19_feed_109 ?_
  refine va_put (D := (dC, dI)) (ci := 20) (v := .int ((sI s10.1 1) + 1)) (ty := .int) (C := RX19) (T := TX19) (N := 36) hx hb hts hi_dm_X19_feed_X19 tyX19 tyX19_ok nmX19 hown hK hP hD hS 0 rfl rfl 2 (by decide) (hts (.fieldLink RX19 117 "TimeMachineModel" "taped" "I") (List.mem_of_getElem? (i := 2) rfl)) (fun _ h9 => h9) rfl (by decide +kernel) rfl rfl (Nat.le_of_ble_eq_true rfl) dX19_feed_110 (fun H locs hP hD hS => ?_)
  obtain ⟨s11, es11, h⟩ := nd_let_e h
  have hP : va_P (dC, dI) vwCl (dw_X19 a ac s11) H := by rw [es11]; exact hP
  have hD : va_D A (dw_X19 a ac s11) := by rw [es11]; exact hD
  obtain ⟨z12, ez12, h⟩ := nd_let_e h
  refine lv_iinc (v := z12) (lv' := [(6, .int z12), (7, .int y0), (0, .ref (a 0)), (1, .int x1), (2, .int x2), (3, .int x3), (4, .int x4), (5, .int x5)]) hx hb dX19_feed_113 hl (k := 7) rfl (by rw [ez12]) (by decide) rfl (fun ls hl => ?_)
  refine lv_goto (tgt := 22) hx hb dX19_feed_116 (by decide) ?_
  exact (J22) (x1) (x2) (x3) (x4) (x5) (z12) s11 _ _ _ h hP hD hS (lv_sub hl [2, 3, 4, 5, 6, 7, 0] rfl)
set_option maxHeartbeats 40000000 in
set_option maxRecDepth 100000 in
theorem dB_X19_feed_22 {p : Program} {l : Launch} {e : Env} {s : State} {m : MethodId} {args : Array Value} {below : List Frame} {meth : Method} {c : Code} {Q : State → Prop} {A : Nat → Prop} {dC : Nat → ClassId} {dI : Nat → Nat → Nat} {a : Nat → Nat} {ac : Nat → ClassId} {n : Nat} {r : Int32 × (St × (St) × (St × (St × (St))) × (St) × (St))} (C : nd_C p l s m args c A (dC, dI) cX19_feed 8 RX19 ow_dm_X19_feed (dk_X19 ac)) (K : nd_Ki p l e (headSpec ow_dm_X19_feed ({ frames := 0, cells := 0, slots := 0, locals := 0 })).room s m args below meth c Q A (dC, dI) cX19_feed .int (St × (St) × (St × (St × (St))) × (St) × (St)) (dw_X19 a ac) r) {g22 : Int32 → Int32 → Int32 → Int32 → Int32 → Int32 → (St × (St) × (St × (St × (St))) × (St) × (St)) → Option (Int32 × (St × (St) × (St × (St × (St))) × (St) × (St)))} (J22 : dj_X19_feed_22 p l e s m args below meth c Q A dC dI a ac g22 r) : dj_X19_feed_22 p l e s m args below meth c Q A dC dI a ac (dF_X19_feed_22 n g22) r := by
  obtain ⟨hlt, hx, hb, hml, hown, hts, hN, hA, hK⟩ := id C
  intro x1 x2 x3 x4 x5 x6 s0 H locs ls h hP hD hS hl
  unfold dF_X19_feed_22 at h
  refine lv_iload hx hb dX19_feed_22 (lv_at hl 6 rfl) ?_
  refine lv_bipush (v := 20) hx hb dX19_feed_24 (by decide) ?_
  refine lv_icmp_ge (tgt := 119) hx hb dX19_feed_26 (by decide) (fun c3 => ?_) (fun c3 => ?_)
  · have h := nd_pos h c3
    refine lv_aload_n hx hb dX19_feed_119 rfl (lv_at hl 0 rfl) ?_
    refine lv_iconst (v := 1) hx hb dX19_feed_120 (by decide) ?_
    refine va_put (D := (dC, dI)) (ci := 20) (v := .int 1) (ty := .boolean) (C := RX19) (T := TX19) (N := 36) hx hb hts hi_dm_X19_feed_X19 tyX19 tyX19_ok nmX19 hown hK hP hD hS 0 rfl rfl 3 (by decide) (hts (.fieldLink RX19 120 "TimeMachineModel" "fed" "Z") (List.mem_of_getElem? (i := 4) rfl)) (fun _ h9 => h9) rfl (by decide +kernel) (by first | rfl | decide) rfl (Nat.le_of_ble_eq_true rfl) dX19_feed_121 (fun H locs hP hD hS => ?_)
    obtain ⟨s4, es4, h⟩ := nd_let_e h
    have hP : va_P (dC, dI) vwCl (dw_X19 a ac s4) H := by rw [es4]; exact hP
    have hD : va_D A (dw_X19 a ac s4) := by rw [es4]; exact hD
    refine lv_aload_n hx hb dX19_feed_124 rfl (lv_at hl 0 rfl) ?_
    refine va_get (D := (dC, dI)) (ci := 20) (v := .int (sI s4.1 1)) (C := RX19) (T := TX19) (N := 36) hx hb hts hi_dm_X19_feed_X19 hown hK hP 0 rfl rfl 2 (by decide) (hts (.fieldLink RX19 117 "TimeMachineModel" "taped" "I") (List.mem_of_getElem? (i := 2) rfl)) (fun _ h9 => h9) rfl dX19_feed_125 ?_
    exact K _ _ _ _ _ _ dX19_feed_128 rfl (Option.some.inj h).symm hP hD hS
  · have h := nd_neg h c3
    refine lv_iload hx hb dX19_feed_29 (lv_at hl 6 rfl) ?_
    refine lv_iconst (v := 4) hx hb dX19_feed_31 (by decide) ?_
    refine lv_icmp_ge (tgt := 39) hx hb dX19_feed_32 (by decide) (fun c5 => ?_) (fun c5 => ?_)
    · have h := nd_pos h c5
      refine lv_iload hx hb dX19_feed_39 (lv_at hl 6 rfl) ?_
      refine lv_bipush (v := 8) hx hb dX19_feed_41 (by decide) ?_
      refine lv_icmp_ge (tgt := 50) hx hb dX19_feed_43 (by decide) (fun c6 => ?_) (fun c6 => ?_)
      · have h := nd_pos h c6
        refine lv_iload hx hb dX19_feed_50 (lv_at hl 6 rfl) ?_
        refine lv_bipush (v := 12) hx hb dX19_feed_52 (by decide) ?_
        refine lv_icmp_ge (tgt := 61) hx hb dX19_feed_54 (by decide) (fun c7 => ?_) (fun c7 => ?_)
        · have h := nd_pos h c7
          refine lv_iload hx hb dX19_feed_61 (lv_at hl 6 rfl) ?_
          refine lv_bipush (v := 16) hx hb dX19_feed_63 (by decide) ?_
          refine lv_icmp_ge (tgt := 73) hx hb dX19_feed_65 (by decide) (fun c8 => ?_) (fun c8 => ?_)
          · have h := nd_pos h c8
            refine lv_iload hx hb dX19_feed_73 (lv_at hl 5 rfl) ?_
            exact (db_X19_feed_75 C K J22) (x1) (x2) (x3) (x4) (x5) (x6) (x5) s0 _ _ _ h hP hD hS (lv_sub hl [0, 1, 2, 3, 4, 5, 6] rfl)
          · have h := nd_neg h c8
            refine lv_iload hx hb dX19_feed_68 (lv_at hl 4 rfl) ?_
            refine lv_goto (tgt := 75) hx hb dX19_feed_70 (by decide) ?_
            exact (db_X19_feed_75 C K J22) (x1) (x2) (x3) (x4) (x5) (x6) (x4) s0 _ _ _ h hP hD hS (lv_sub hl [0, 1, 2, 3, 4, 5, 6] rfl)
        · have h := nd_neg h c7
          refine lv_iload_n hx hb dX19_feed_57 rfl (lv_at hl 3 rfl) ?_
          refine lv_goto (tgt := 75) hx hb dX19_feed_58 (by decide) ?_
          exact (db_X19_feed_75 C K J22) (x1) (x2) (x3) (x4) (x5) (x6) (x3) s0 _ _ _ h hP hD hS (lv_sub hl [0, 1, 2, 3, 4, 5, 6] rfl)
      · have h := nd_neg h c6
        refine lv_iload_n hx hb dX19_feed_46 rfl (lv_at hl 2 rfl) ?_
        refine lv_goto (tgt := 75) hx hb dX19_feed_47 (by decide) ?_
        exact (db_X19_feed_75 C K J22) (x1) (x2) (x3) (x4) (x5) (x6) (x2) s0 _ _ _ h hP hD hS (lv_sub hl [0, 1, 2, 3, 4, 5, 6] rfl)
    · have h := nd_neg h c5
      refine lv_iload_n hx hb dX19_feed_35 rfl (lv_at hl 1 rfl) ?_
      refine lv_goto (tgt := 75) hx hb dX19_feed_36 (by decide) ?_
      exact (db_X19_feed_75 C K J22) (x1) (x2) (x3) (x4) (x5) (x6) (x1) s0 _ _ _ h hP hD hS (lv_sub hl [0, 1, 2, 3, 4, 5, 6] rfl)
set_option maxHeartbeats 40000000 in
set_option maxRecDepth 100000 in
theorem db_X19_feed_22 {p : Program} {l : Launch} {e : Env} {s : State} {m : MethodId} {args : Array Value} {below : List Frame} {meth : Method} {c : Code} {Q : State → Prop} {A : Nat → Prop} {dC : Nat → ClassId} {dI : Nat → Nat → Nat} {a : Nat → Nat} {ac : Nat → ClassId} {n : Nat} {r : Int32 × (St × (St) × (St × (St × (St))) × (St) × (St))} (C : nd_C p l s m args c A (dC, dI) cX19_feed 8 RX19 ow_dm_X19_feed (dk_X19 ac)) (K : nd_Ki p l e (headSpec ow_dm_X19_feed ({ frames := 0, cells := 0, slots := 0, locals := 0 })).room s m args below meth c Q A (dC, dI) cX19_feed .int (St × (St) × (St × (St × (St))) × (St) × (St)) (dw_X19 a ac) r) (k : Nat) : dj_X19_feed_22 p l e s m args below meth c Q A dC dI a ac (df_X19_feed_22 n k) r := by
  induction k with
  | zero => intro x1 x2 x3 x4 x5 x6 s0 H locs ls h; exact nomatch (show (none : Option (Int32 × (St × (St) × (St × (St × (St))) × (St) × (St)))) = some r from h)
  | succ k ih => exact dB_X19_feed_22 C K ih
set_option maxHeartbeats 40000000 in
set_option maxRecDepth 100000 in
theorem db_X19_feed_0 {p : Program} {l : Launch} {e : Env} {s : State} {m : MethodId} {args : Array Value} {below : List Frame} {meth : Method} {c : Code} {Q : State → Prop} {A : Nat → Prop} {dC : Nat → ClassId} {dI : Nat → Nat → Nat} {a : Nat → Nat} {ac : Nat → ClassId} {n : Nat} {r : Int32 × (St × (St) × (St × (St × (St))) × (St) × (St))} (C : nd_C p l s m args c A (dC, dI) cX19_feed 8 RX19 ow_dm_X19_feed (dk_X19 ac)) (K : nd_Ki p l e (headSpec ow_dm_X19_feed ({ frames := 0, cells := 0, slots := 0, locals := 0 })).room s m args below meth c Q A (dC, dI) cX19_feed .int (St × (St) × (St × (St × (St))) × (St) × (St)) (dw_X19 a ac) r) : dj_X19_feed_0 p l e s m args below meth c Q A dC dI a ac (df_X19_feed_0 n) r := by
  obtain ⟨hlt, hx, hb, hml, hown, hts, hN, hA, hK⟩ := id C
  intro v0 v1 v2 v3 v4 s0 H locs ls h hP hD hS hl
  unfold df_X19_feed_0 at h
  refine lv_aload_n hx hb dX19_feed_0 rfl (lv_at hl 0 rfl) ?_
  refine lv_iconst (v := 0) hx hb dX19_feed_1 (by decide) ?_
  refine va_put (D := (dC, dI)) (ci := 20) (v := .int 0) (ty := .int) (C := RX19) (T := TX19) (N := 36) hx hb hts hi_dm_X19_feed_X19 tyX19 tyX19_ok nmX19 hown hK hP hD hS 0 rfl rfl 0 (by decide) (hts (.fieldLink RX19 113 "TimeMachineModel" "code" "I") (List.mem_of_getElem? (i := 1) rfl)) (fun _ h9 => h9) rfl (by decide +kernel) rfl rfl (Nat.le_of_ble_eq_true rfl) dX19_feed_2 (fun H locs hP hD hS => ?_)
  obtain ⟨s1, es1, h⟩ := nd_let_e h
  have hP : va_P (dC, dI) vwCl (dw_X19 a ac s1) H := by rw [es1]; exact hP
  have hD : va_D A (dw_X19 a ac s1) := by rw [es1]; exact hD
  refine lv_aload_n hx hb dX19_feed_5 rfl (lv_at hl 0 rfl) ?_
  refine va_get (D := (dC, dI)) (ci := 20) (v := .int (sI s1.1 1)) (C := RX19) (T := TX19) (N := 36) hx hb hts hi_dm_X19_feed_X19 hown hK hP 0 rfl rfl 2 (by decide) (hts (.fieldLink RX19 117 "TimeMachineModel" "taped" "I") (List.mem_of_getElem? (i := 2) rfl)) (fun _ h9 => h9) rfl dX19_feed_6 ?_
  refine lv_bipush (v := 20) hx hb dX19_feed_9 (by decide) ?_
  refine lv_iadd hx hb dX19_feed_11 ?_
  refine lv_ldc hx hb hown (hts (.constant RX19 9 (32768)) (List.mem_of_getElem? (i := 3) rfl)) dX19_feed_12 ?_
  refine lv_icmp_le (tgt := 19) hx hb dX19_feed_14 (by decide) (fun c2 => ?_) (fun c2 => ?_)
  · have h := nd_pos h c2
    refine lv_iconst (v := 0) hx hb dX19_feed_19 (by decide) ?_
    refine lv_istore (lv' := [(6, .int 0), (0, .ref (a 0)), (1, .int v0), (2, .int v1), (3, .int v2), (4, .int v3), (5, .int v4)]) hx hb dX19_feed_20 hl (by decide) rfl (fun ls hl => ?_)
    exact (db_X19_feed_22 C K n) (v0) (v1) (v2) (v3) (v4) (0) s1 _ _ _ h hP hD hS (lv_sub hl [1, 2, 3, 4, 5, 6, 0] rfl)
  · have h := nd_neg h c2
    refine lv_iconst (v := (-1)) hx hb dX19_feed_17 (by decide) ?_
    exact K _ _ _ _ _ _ dX19_feed_18 rfl (Option.some.inj h).symm hP hD hS
set_option maxHeartbeats 40000000 in
set_option maxRecDepth 100000 in
theorem dm_X19_feed (l : Launch) (hlt : l.stackTraces = false) (dC : Nat → ClassId) (dI : Nat → Nat → Nat) (a : Nat → Nat) (ac : Nat → ClassId) (n : Nat) (v0 : Int32) (v1 : Int32) (v2 : Int32) (v3 : Int32) (v4 : Int32) (s0 : St × (St) × (St × (St × (St))) × (St) × (St)) {r : Int32 × (St × (St) × (St × (St × (St))) × (St) × (St))} (h : df_X19_feed n v0 v1 v2 v3 v4 s0 = some r) (sz : Nat) : Met l yX19_feed ow_dm_X19_feed ({ frames := 0, cells := 0, slots := 0, locals := 0 }) (va_Pc [.ref (a 0), .int v0, .int v1, .int v2, .int v3, .int v4] (fun U => U.heap.size = sz ∧ va_P (dC, dI) vwCl (dw_X19 a ac s0) U.heap ∧ va_K (dC, dI) vwCl (dk_X19 ac) U ∧ va_D (fun _ => True) (dw_X19 a ac s0) ∧ nv_E dI (va_A (dw_X19 a ac s0) sz) U)) (va_Qi (fun x _ => x = r.1) (fun (_ : Unit) t => va_P (dC, dI) vwCl (dw_X19 a ac r.2) t.heap ∧ va_K (dC, dI) vwCl (dk_X19 ac) t ∧ va_D (va_A (dw_X19 a ac s0) sz) (dw_X19 a ac r.2)) (va_A (dw_X19 a ac s0) sz)) 0 0 (va_A (dw_X19 a ac s0) sz) := by
  refine Met.ofW (cc := cX19_feed) (maxL := 8) (ret := (some .int)) (by decide) rfl ?_
  intro p e s m args below meth c s₁ B hml hv
  obtain ⟨rfl, hsz, hP, hK, hD0, hN⟩ := hv
  have hx := B.exec
  have hb := B.bytes
  have hr := B.returns
  have hts := atoms_spec (ws := ow_dm_X19_feed) B.pre
  have hown : s.vm.findClass RX19 = some m.cls := findClass_of_methodNamed B.named
  have hlocks := B.notSynchronized
  subst hsz
  have hD := hD0.self (sz := s.heap.size)
  generalize hAe : va_A (dw_X19 a ac s0) s.heap.size = A at hD hN ⊢
  have hA : ∀ q : Nat, s.heap.size ≤ q → A q := fun q h => by rw [← hAe]; exact Or.inr h
  have hl := lv_entry ([.ref (a 0), .int v0, .int v1, .int v2, .int v3, .int v4]) (n := 8) (Nat.le_of_ble_eq_true rfl)
  rw [lg_entry_eq]
  generalize (lg_sl ([.ref (a 0), .int v0, .int v1, .int v2, .int v3, .int v4]) ++ List.replicate (8 - (lg_sl ([.ref (a 0), .int v0, .int v1, .int v2, .int v3, .int v4])).length) Slot.unset).toArray = ls at hl ⊢
  have hl : lv_has ls 8 [(0, .ref (a 0)), (1, .int v0), (2, .int v1), (3, .int v2), (4, .int v3), (5, .int v4)] := hl
  exact db_X19_feed_0 (dC := dC) (dI := dI) (a := a) (ac := ac) (n := n) (r := r) ⟨hlt, hx, hb, hml, hown, hts, hN, hA, hK⟩ (fun pc v τ H locs ls d z er hP hD hS => by subst er; exact W.zret (v := v) hx hb hr z (fun t ht hW => ⟨⟨v, (), rfl, rfl, by rw [ht]; exact hP, va_K.moved hW.alike hK, hD⟩, hS.F ht⟩) hS.2.2 d) v0 v1 v2 v3 v4 s0 _ _ _ h hP hD va_S.rf (lv_sub hl [0, 1, 2, 3, 4, 5] rfl)
def ow_dm_X19_end : List Cond := Cond.code yX19_end cX19_end 2 (some .int) :: ([Cond.fieldLink RX19 113 "TimeMachineModel" "code" "I", Cond.fieldLink RX19 120 "TimeMachineModel" "fed" "Z", Cond.constantLong RX19 124 (20), Cond.methodLink RX19 126 yX19_in, Cond.static yX19_in, Cond.initialized RX19, Cond.fieldLink RX19 117 "TimeMachineModel" "taped" "I"] ++ (u_ws RX19 TX19 36 ++ (ow_dm_X19_in ++ [])))
theorem gd_dm_X19_end : ∀ w ∈ ow_dm_X19_end, (w.onTables && w.keeps) = true ∨ ∃ ty, w = Cond.arrayClass ty := List.forall_mem_cons.mpr ⟨good_of_word rfl, List.forall_mem_append.mpr ⟨fun w h => good_of_word (List.all_eq_true.mp (by decide +kernel) w h), List.forall_mem_append.mpr ⟨gu_X19, List.forall_mem_append.mpr ⟨gd_dm_X19_in, fun _ h => nomatch h⟩⟩⟩⟩
theorem hi_dm_X19_end_X19 : ∀ w ∈ u_ws RX19 TX19 36, w ∈ ow_dm_X19_end := fun w h => List.mem_cons_of_mem _ (List.mem_append_right _ (List.mem_append_left _ h))
theorem gi_dm_X19_end_0 : GoodIn ow_dm_X19_end (wsS RX19 126 yX19_in ow_dm_X19_in) := goodIn_app (goodIn_of _ (by decide +kernel)) (fun w h => ⟨List.mem_cons_of_mem _ (List.mem_append_right _ (List.mem_append_right _ (List.mem_append_left _ h))), gd_dm_X19_in w h⟩)
def dj_X19_end_24 (p : Program) (l : Launch) (e : Env) (s : State) (m : MethodId) (args : Array Value) (below : List Frame) (meth : Method) (c : Code) (Q : State → Prop) (A : Nat → Prop) (dC : Nat → ClassId) (dI : Nat → Nat → Nat) (a : Nat → Nat) (ac : Nat → ClassId) (g : (St × (St) × (St × (St × (St))) × (St) × (St)) → Option (Int32 × (St × (St) × (St × (St × (St))) × (St) × (St)))) (r : Int32 × (St × (St) × (St × (St × (St))) × (St) × (St))) : Prop := ∀ (s0 : St × (St) × (St × (St × (St))) × (St) × (St)) (H : Heap) (locs : List Loc) (ls : Array Slot), g s0 = some r → va_P (dC, dI) vwCl (dw_X19 a ac s0) H → va_D A (dw_X19 a ac s0) → va_S A s.heap H locs → lv_has ls 2 [] → W p l e (headSpec ow_dm_X19_end ({ frames := 1, cells := 0, slots := 0, locals := 25 })).room s m args below meth c H locs 0 0 Q (F0 m 24 ls [])
def dj_X19_end_0 (p : Program) (l : Launch) (e : Env) (s : State) (m : MethodId) (args : Array Value) (below : List Frame) (meth : Method) (c : Code) (Q : State → Prop) (A : Nat → Prop) (dC : Nat → ClassId) (dI : Nat → Nat → Nat) (a : Nat → Nat) (ac : Nat → ClassId) (g : Int32 → (St × (St) × (St × (St × (St))) × (St) × (St)) → Option (Int32 × (St × (St) × (St × (St × (St))) × (St) × (St)))) (r : Int32 × (St × (St) × (St × (St × (St))) × (St) × (St))) : Prop := ∀ (v0 : Int32) (s0 : St × (St) × (St × (St × (St))) × (St) × (St)) (H : Heap) (locs : List Loc) (ls : Array Slot), g v0 s0 = some r → va_P (dC, dI) vwCl (dw_X19 a ac s0) H → va_D A (dw_X19 a ac s0) → va_S A s.heap H locs → lv_has ls 2 [(0, .ref (a 0)), (1, .int v0)] → W p l e (headSpec ow_dm_X19_end ({ frames := 1, cells := 0, slots := 0, locals := 25 })).room s m args below meth c H locs 0 0 Q (F0 m 0 ls [])
set_option maxHeartbeats 40000000 in
set_option maxRecDepth 100000 in
theorem db_X19_end_24 {p : Program} {l : Launch} {e : Env} {s : State} {m : MethodId} {args : Array Value} {below : List Frame} {meth : Method} {c : Code} {Q : State → Prop} {A : Nat → Prop} {dC : Nat → ClassId} {dI : Nat → Nat → Nat} {a : Nat → Nat} {ac : Nat → ClassId} {n : Nat} {r : Int32 × (St × (St) × (St × (St × (St))) × (St) × (St))} (C : nd_C p l s m args c A (dC, dI) cX19_end 2 RX19 ow_dm_X19_end (dk_X19 ac)) (K : nd_Ki p l e (headSpec ow_dm_X19_end ({ frames := 1, cells := 0, slots := 0, locals := 25 })).room s m args below meth c Q A (dC, dI) cX19_end .int (St × (St) × (St × (St × (St))) × (St) × (St)) (dw_X19 a ac) r) : dj_X19_end_24 p l e s m args below meth c Q A dC dI a ac (df_X19_end_24 n) r := by
  obtain ⟨hlt, hx, hb, hml, hown, hts, hN, hA, hK⟩ := id C
  intro s0 H locs ls h hP hD hS hl
  unfold df_X19_end_24 at h
  refine lv_iconst (v := (-1)) hx hb dX19_end_24 (by decide) ?_
  exact K _ _ _ _ _ _ dX19_end_25 rfl (Option.some.inj h).symm hP hD hS
set_option maxHeartbeats 40000000 in
set_option maxRecDepth 100000 in
theorem db_X19_end_0 {p : Program} {l : Launch} {e : Env} {s : State} {m : MethodId} {args : Array Value} {below : List Frame} {meth : Method} {c : Code} {Q : State → Prop} {A : Nat → Prop} {dC : Nat → ClassId} {dI : Nat → Nat → Nat} {a : Nat → Nat} {ac : Nat → ClassId} {n : Nat} {r : Int32 × (St × (St) × (St × (St × (St))) × (St) × (St))} (C : nd_C p l s m args c A (dC, dI) cX19_end 2 RX19 ow_dm_X19_end (dk_X19 ac)) (K : nd_Ki p l e (headSpec ow_dm_X19_end ({ frames := 1, cells := 0, slots := 0, locals := 25 })).room s m args below meth c Q A (dC, dI) cX19_end .int (St × (St) × (St × (St × (St))) × (St) × (St)) (dw_X19 a ac) r) : dj_X19_end_0 p l e s m args below meth c Q A dC dI a ac (df_X19_end_0 n) r := by
  obtain ⟨hlt, hx, hb, hml, hown, hts, hN, hA, hK⟩ := id C
  intro v0 s0 H locs ls h hP hD hS hl
  unfold df_X19_end_0 at h
  refine lv_aload_n hx hb dX19_end_0 rfl (lv_at hl 0 rfl) ?_
  refine lv_iconst (v := 0) hx hb dX19_end_1 (by decide) ?_
  refine va_put (D := (dC, dI)) (ci := 20) (v := .int 0) (ty := .int) (C := RX19) (T := TX19) (N := 36) hx hb hts hi_dm_X19_end_X19 tyX19 tyX19_ok nmX19 hown hK hP hD hS 0 rfl rfl 0 (by decide) (hts (.fieldLink RX19 113 "TimeMachineModel" "code" "I") (List.mem_of_getElem? (i := 1) rfl)) (fun _ h9 => h9) rfl (by decide +kernel) rfl rfl (Nat.le_of_ble_eq_true rfl) dX19_end_2 (fun H locs hP hD hS => ?_)
  obtain ⟨s1, es1, h⟩ := nd_let_e h
  have hP : va_P (dC, dI) vwCl (dw_X19 a ac s1) H := by rw [es1]; exact hP
  have hD : va_D A (dw_X19 a ac s1) := by rw [es1]; exact hD
  refine lv_aload_n hx hb dX19_end_5 rfl (lv_at hl 0 rfl) ?_
  refine va_get (D := (dC, dI)) (ci := 20) (v := .int (sI s1.1 2)) (C := RX19) (T := TX19) (N := 36) hx hb hts hi_dm_X19_end_X19 hown hK hP 0 rfl rfl 3 (by decide) (hts (.fieldLink RX19 120 "TimeMachineModel" "fed" "Z") (List.mem_of_getElem? (i := 2) rfl)) (fun _ h9 => h9) rfl dX19_end_6 ?_
  refine lv_if_eq (tgt := 24) hx hb dX19_end_9 (by decide) (fun c2 => ?_) (fun c2 => ?_)
  · have h := nd_pos h c2
    exact (db_X19_end_24 C K)  s1 _ _ _ h hP hD hS (lv_sub hl [] rfl)
  · have h := nd_neg h c2
    refine lv_iload_n hx hb dX19_end_12 rfl (lv_at hl 1 rfl) ?_
    refine lv_i2l hx hb dX19_end_13 rfl ?_
    refine lv_lconst (v := 0) hx hb dX19_end_14 (by decide) ?_
    refine lv_ldc2 hx hb hown (hts (.constantLong RX19 124 (20)) (List.mem_of_getElem? (i := 3) rfl)) dX19_end_15 ?_
    obtain ⟨q3, s4, hq, h⟩ := nd_b2_e h
    have hPc : va_P (dC, dI) vwCl (dw_P a ac ()) H := nd_p0
    have hDc : va_D A (dw_P a ac ()) := nd_d0
    have hKc : va_K (dC, dI) vwCl (dk_P ac) s := nd_y0 hK
    have hFc : ∀ q, va_A (dw_P a ac ()) H.size q → A q := nd_r0 hS hA
    refine nd_cSi (As := [.long (v0.toInt64), .long 0, .long 20]) (rest := []) (q := q3) (w' := dw_P a ac s4) ⟨hx, hb, hml, hown, hts⟩ (fun sz => dm_X19_in l hlt dC dI a ac n ((v0.toInt64)) (0) (20) () hq sz) (cwS 3 hts gi_dm_X19_end_0 rfl rfl rfl (by decide +kernel) ⟨Nat.le_of_ble_eq_true rfl, Nat.le_of_ble_eq_true rfl⟩) hPc hDc hKc hS hA hN rfl hl.1 rfl (Nat.le_of_ble_eq_true rfl) dX19_end_18 (fun H locs hP1 hD1 hk1 hS => ?_)
    have hP := nd_n0 hP hk1
    refine lv_if_ne (tgt := 26) hx hb dX19_end_21 (by decide) (fun c6 => ?_) (fun c6 => ?_)
    · have h := nd_neg h c6
      refine lv_aload_n hx hb dX19_end_26 rfl (lv_at hl 0 rfl) ?_
      refine lv_dup hx hb dX19_end_27 rfl ?_
      refine va_get (D := (dC, dI)) (ci := 20) (v := .int (sI s1.1 1)) (C := RX19) (T := TX19) (N := 36) hx hb hts hi_dm_X19_end_X19 hown hK hP 0 rfl rfl 2 (by decide) (hts (.fieldLink RX19 117 "TimeMachineModel" "taped" "I") (List.mem_of_getElem? (i := 7) rfl)) (fun _ h9 => h9) rfl dX19_end_28 ?_
      refine lv_bipush (v := 20) hx hb dX19_end_31 (by decide) ?_
      refine lv_iload_n hx hb dX19_end_33 rfl (lv_at hl 1 rfl) ?_
      refine lv_isub hx hb dX19_end_34 ?_
      refine lv_isub hx hb dX19_end_35 ?_
      refine va_put (D := (dC, dI)) (ci := 20) (v := .int ((sI s1.1 1) - (20 - v0))) (ty := .int) (C := RX19) (T := TX19) (N := 36) hx hb hts hi_dm_X19_end_X19 tyX19 tyX19_ok nmX19 hown hK hP hD hS 0 rfl rfl 2 (by decide) (hts (.fieldLink RX19 117 "TimeMachineModel" "taped" "I") (List.mem_of_getElem? (i := 7) rfl)) (fun _ h9 => h9) rfl (by decide +kernel) rfl rfl (Nat.le_of_ble_eq_true rfl) dX19_end_36 (fun H locs hP hD hS => ?_)
      obtain ⟨s7, es7, h⟩ := nd_let_e h
      have hP : va_P (dC, dI) vwCl (dw_X19 a ac s7) H := by rw [es7]; exact hP
      have hD : va_D A (dw_X19 a ac s7) := by rw [es7]; exact hD
      refine lv_aload_n hx hb dX19_end_39 rfl (lv_at hl 0 rfl) ?_
      refine lv_iconst (v := 0) hx hb dX19_end_40 (by decide) ?_
      refine va_put (D := (dC, dI)) (ci := 20) (v := .int 0) (ty := .boolean) (C := RX19) (T := TX19) (N := 36) hx hb hts hi_dm_X19_end_X19 tyX19 tyX19_ok nmX19 hown hK hP hD hS 0 rfl rfl 3 (by decide) (hts (.fieldLink RX19 120 "TimeMachineModel" "fed" "Z") (List.mem_of_getElem? (i := 2) rfl)) (fun _ h9 => h9) rfl (by decide +kernel) (by first | rfl | decide) rfl (Nat.le_of_ble_eq_true rfl) dX19_end_41 (fun H locs hP hD hS => ?_)
      obtain ⟨s8, es8, h⟩ := nd_let_e h
      have hP : va_P (dC, dI) vwCl (dw_X19 a ac s8) H := by rw [es8]; exact hP
      have hD : va_D A (dw_X19 a ac s8) := by rw [es8]; exact hD
      refine lv_aload_n hx hb dX19_end_44 rfl (lv_at hl 0 rfl) ?_
      refine va_get (D := (dC, dI)) (ci := 20) (v := .int (sI s8.1 1)) (C := RX19) (T := TX19) (N := 36) hx hb hts hi_dm_X19_end_X19 hown hK hP 0 rfl rfl 2 (by decide) (hts (.fieldLink RX19 117 "TimeMachineModel" "taped" "I") (List.mem_of_getElem? (i := 7) rfl)) (fun _ h9 => h9) rfl dX19_end_45 ?_
      exact K _ _ _ _ _ _ dX19_end_48 rfl (Option.some.inj h).symm hP hD hS
    · have h := nd_pos h c6
      exact (db_X19_end_24 C K)  s1 _ _ _ h hP hD hS (lv_sub hl [] rfl)
set_option maxHeartbeats 40000000 in
set_option maxRecDepth 100000 in
theorem dm_X19_end (l : Launch) (hlt : l.stackTraces = false) (dC : Nat → ClassId) (dI : Nat → Nat → Nat) (a : Nat → Nat) (ac : Nat → ClassId) (n : Nat) (v0 : Int32) (s0 : St × (St) × (St × (St × (St))) × (St) × (St)) {r : Int32 × (St × (St) × (St × (St × (St))) × (St) × (St))} (h : df_X19_end n v0 s0 = some r) (sz : Nat) : Met l yX19_end ow_dm_X19_end ({ frames := 1, cells := 0, slots := 0, locals := 25 }) (va_Pc [.ref (a 0), .int v0] (fun U => U.heap.size = sz ∧ va_P (dC, dI) vwCl (dw_X19 a ac s0) U.heap ∧ va_K (dC, dI) vwCl (dk_X19 ac) U ∧ va_D (fun _ => True) (dw_X19 a ac s0) ∧ nv_E dI (va_A (dw_X19 a ac s0) sz) U)) (va_Qi (fun x _ => x = r.1) (fun (_ : Unit) t => va_P (dC, dI) vwCl (dw_X19 a ac r.2) t.heap ∧ va_K (dC, dI) vwCl (dk_X19 ac) t ∧ va_D (va_A (dw_X19 a ac s0) sz) (dw_X19 a ac r.2)) (va_A (dw_X19 a ac s0) sz)) 0 0 (va_A (dw_X19 a ac s0) sz) := by
  refine Met.ofW (cc := cX19_end) (maxL := 2) (ret := (some .int)) (by decide) rfl ?_
  intro p e s m args below meth c s₁ B hml hv
  obtain ⟨rfl, hsz, hP, hK, hD0, hN⟩ := hv
  have hx := B.exec
  have hb := B.bytes
  have hr := B.returns
  have hts := atoms_spec (ws := ow_dm_X19_end) B.pre
  have hown : s.vm.findClass RX19 = some m.cls := findClass_of_methodNamed B.named
  have hlocks := B.notSynchronized
  subst hsz
  have hD := hD0.self (sz := s.heap.size)
  generalize hAe : va_A (dw_X19 a ac s0) s.heap.size = A at hD hN ⊢
  have hA : ∀ q : Nat, s.heap.size ≤ q → A q := fun q h => by rw [← hAe]; exact Or.inr h
  have hl := lv_entry ([.ref (a 0), .int v0]) (n := 2) (Nat.le_of_ble_eq_true rfl)
  rw [lg_entry_eq]
  generalize (lg_sl ([.ref (a 0), .int v0]) ++ List.replicate (2 - (lg_sl ([.ref (a 0), .int v0])).length) Slot.unset).toArray = ls at hl ⊢
  have hl : lv_has ls 2 [(0, .ref (a 0)), (1, .int v0)] := hl
  exact db_X19_end_0 (dC := dC) (dI := dI) (a := a) (ac := ac) (n := n) (r := r) ⟨hlt, hx, hb, hml, hown, hts, hN, hA, hK⟩ (fun pc v τ H locs ls d z er hP hD hS => by subst er; exact W.zret (v := v) hx hb hr z (fun t ht hW => ⟨⟨v, (), rfl, rfl, by rw [ht]; exact hP, va_K.moved hW.alike hK, hD⟩, hS.F ht⟩) hS.2.2 d) v0 s0 _ _ _ h hP hD va_S.rf (lv_sub hl [0, 1] rfl)
def ow_dm_X19_use : List Cond := Cond.code yX19_use cX19_use 1 none :: ([Cond.fieldLink RX19 117 "TimeMachineModel" "taped" "I", Cond.fieldLink RX19 120 "TimeMachineModel" "fed" "Z"] ++ (u_ws RX19 TX19 36 ++ []))
theorem gd_dm_X19_use : ∀ w ∈ ow_dm_X19_use, (w.onTables && w.keeps) = true ∨ ∃ ty, w = Cond.arrayClass ty := List.forall_mem_cons.mpr ⟨good_of_word rfl, List.forall_mem_append.mpr ⟨fun w h => good_of_word (List.all_eq_true.mp (by decide +kernel) w h), List.forall_mem_append.mpr ⟨gu_X19, fun _ h => nomatch h⟩⟩⟩
theorem hi_dm_X19_use_X19 : ∀ w ∈ u_ws RX19 TX19 36, w ∈ ow_dm_X19_use := fun w h => List.mem_cons_of_mem _ (List.mem_append_right _ (List.mem_append_left _ h))
def dj_X19_use_0 (p : Program) (l : Launch) (e : Env) (s : State) (m : MethodId) (args : Array Value) (below : List Frame) (meth : Method) (c : Code) (Q : State → Prop) (A : Nat → Prop) (dC : Nat → ClassId) (dI : Nat → Nat → Nat) (a : Nat → Nat) (ac : Nat → ClassId) (g : (St × (St) × (St × (St × (St))) × (St) × (St)) → Option (St × (St) × (St × (St × (St))) × (St) × (St))) (r : St × (St) × (St × (St × (St))) × (St) × (St)) : Prop := ∀ (s0 : St × (St) × (St × (St × (St))) × (St) × (St)) (H : Heap) (locs : List Loc) (ls : Array Slot), g s0 = some r → va_P (dC, dI) vwCl (dw_X19 a ac s0) H → va_D A (dw_X19 a ac s0) → va_S A s.heap H locs → lv_has ls 1 [(0, .ref (a 0))] → W p l e (headSpec ow_dm_X19_use ({ frames := 0, cells := 0, slots := 0, locals := 0 })).room s m args below meth c H locs 0 0 Q (F0 m 0 ls [])
set_option maxHeartbeats 40000000 in
set_option maxRecDepth 100000 in
theorem db_X19_use_0 {p : Program} {l : Launch} {e : Env} {s : State} {m : MethodId} {args : Array Value} {below : List Frame} {meth : Method} {c : Code} {Q : State → Prop} {A : Nat → Prop} {dC : Nat → ClassId} {dI : Nat → Nat → Nat} {a : Nat → Nat} {ac : Nat → ClassId} {n : Nat} {r : St × (St) × (St × (St × (St))) × (St) × (St)} (C : nd_C p l s m args c A (dC, dI) cX19_use 1 RX19 ow_dm_X19_use (dk_X19 ac)) (K : nd_Kv p l e (headSpec ow_dm_X19_use ({ frames := 0, cells := 0, slots := 0, locals := 0 })).room s m args below meth c Q A (dC, dI) cX19_use (St × (St) × (St × (St × (St))) × (St) × (St)) (dw_X19 a ac) r) : dj_X19_use_0 p l e s m args below meth c Q A dC dI a ac (df_X19_use_0 n) r := by
  obtain ⟨hlt, hx, hb, hml, hown, hts, hN, hA, hK⟩ := id C
  intro s0 H locs ls h hP hD hS hl
  unfold df_X19_use_0 at h
  refine lv_aload_n hx hb dX19_use_0 rfl (lv_at hl 0 rfl) ?_
  refine lv_iconst (v := 0) hx hb dX19_use_1 (by decide) ?_
  refine va_put (D := (dC, dI)) (ci := 20) (v := .int 0) (ty := .int) (C := RX19) (T := TX19) (N := 36) hx hb hts hi_dm_X19_use_X19 tyX19 tyX19_ok nmX19 hown hK hP hD hS 0 rfl rfl 2 (by decide) (hts (.fieldLink RX19 117 "TimeMachineModel" "taped" "I") (List.mem_of_getElem? (i := 1) rfl)) (fun _ h9 => h9) rfl (by decide +kernel) rfl rfl (Nat.le_of_ble_eq_true rfl) dX19_use_2 (fun H locs hP hD hS => ?_)
  obtain ⟨s1, es1, h⟩ := nd_let_e h
  have hP : va_P (dC, dI) vwCl (dw_X19 a ac s1) H := by rw [es1]; exact hP
  have hD : va_D A (dw_X19 a ac s1) := by rw [es1]; exact hD
  refine lv_aload_n hx hb dX19_use_5 rfl (lv_at hl 0 rfl) ?_
  refine lv_iconst (v := 0) hx hb dX19_use_6 (by decide) ?_
  refine va_put (D := (dC, dI)) (ci := 20) (v := .int 0) (ty := .boolean) (C := RX19) (T := TX19) (N := 36) hx hb hts hi_dm_X19_use_X19 tyX19 tyX19_ok nmX19 hown hK hP hD hS 0 rfl rfl 3 (by decide) (hts (.fieldLink RX19 120 "TimeMachineModel" "fed" "Z") (List.mem_of_getElem? (i := 2) rfl)) (fun _ h9 => h9) rfl (by decide +kernel) (by first | rfl | decide) rfl (Nat.le_of_ble_eq_true rfl) dX19_use_7 (fun H locs hP hD hS => ?_)
  obtain ⟨s2, es2, h⟩ := nd_let_e h
  have hP : va_P (dC, dI) vwCl (dw_X19 a ac s2) H := by rw [es2]; exact hP
  have hD : va_D A (dw_X19 a ac s2) := by rw [es2]; exact hD
  exact K _ _ _ _ _ dX19_use_10 (Option.some.inj h).symm hP hD hS
set_option maxHeartbeats 40000000 in
set_option maxRecDepth 100000 in
theorem dm_X19_use (l : Launch) (hlt : l.stackTraces = false) (dC : Nat → ClassId) (dI : Nat → Nat → Nat) (a : Nat → Nat) (ac : Nat → ClassId) (n : Nat) (s0 : St × (St) × (St × (St × (St))) × (St) × (St)) {r : St × (St) × (St × (St × (St))) × (St) × (St)} (h : df_X19_use n s0 = some r) (sz : Nat) : Met l yX19_use ow_dm_X19_use ({ frames := 0, cells := 0, slots := 0, locals := 0 }) (va_Pc [.ref (a 0)] (fun U => U.heap.size = sz ∧ va_P (dC, dI) vwCl (dw_X19 a ac s0) U.heap ∧ va_K (dC, dI) vwCl (dk_X19 ac) U ∧ va_D (fun _ => True) (dw_X19 a ac s0) ∧ nv_E dI (va_A (dw_X19 a ac s0) sz) U)) (va_Qv (fun _ => True) (fun (_ : Unit) t => va_P (dC, dI) vwCl (dw_X19 a ac r) t.heap ∧ va_K (dC, dI) vwCl (dk_X19 ac) t ∧ va_D (va_A (dw_X19 a ac s0) sz) (dw_X19 a ac r)) (va_A (dw_X19 a ac s0) sz)) 0 0 (va_A (dw_X19 a ac s0) sz) := by
  refine Met.ofW (cc := cX19_use) (maxL := 1) (ret := none) (by decide) rfl ?_
  intro p e s m args below meth c s₁ B hml hv
  obtain ⟨rfl, hsz, hP, hK, hD0, hN⟩ := hv
  have hx := B.exec
  have hb := B.bytes
  have hr := B.returns
  have hts := atoms_spec (ws := ow_dm_X19_use) B.pre
  have hown : s.vm.findClass RX19 = some m.cls := findClass_of_methodNamed B.named
  have hlocks := B.notSynchronized
  subst hsz
  have hD := hD0.self (sz := s.heap.size)
  generalize hAe : va_A (dw_X19 a ac s0) s.heap.size = A at hD hN ⊢
  have hA : ∀ q : Nat, s.heap.size ≤ q → A q := fun q h => by rw [← hAe]; exact Or.inr h
  have hl := lv_entry ([.ref (a 0)]) (n := 1) (Nat.le_of_ble_eq_true rfl)
  rw [lg_entry_eq]
  generalize (lg_sl ([.ref (a 0)]) ++ List.replicate (1 - (lg_sl ([.ref (a 0)])).length) Slot.unset).toArray = ls at hl ⊢
  have hl : lv_has ls 1 [(0, .ref (a 0))] := hl
  exact db_X19_use_0 (dC := dC) (dI := dI) (a := a) (ac := ac) (n := n) (r := r) ⟨hlt, hx, hb, hml, hown, hts, hN, hA, hK⟩ (fun pc τ H locs ls d er hP hD hS => by subst er; exact W.vret hx hb hr (fun t ht hW => ⟨⟨(), rfl, trivial, by rw [ht]; exact hP, va_K.moved hW.alike hK, hD⟩, hS.F ht⟩) hS.2.2 d) s0 _ _ _ h hP hD va_S.rf (lv_sub hl [0] rfl)
def ow_dm_X19_strange : List Cond := Cond.code yX19_strange cX19_strange 3 (some .int) :: ([Cond.fieldLink RX19 117 "TimeMachineModel" "taped" "I", Cond.fieldLink RX19 10 "TimeMachineModel" "tape" "[I", Cond.constantLong RX19 130 (32), Cond.constantLong RX19 132 (126), Cond.methodLink RX19 126 yX19_in, Cond.static yX19_in, Cond.initialized RX19] ++ (u_ws RX19 TX19 36 ++ (ow_dm_X19_in ++ [])))
theorem gd_dm_X19_strange : ∀ w ∈ ow_dm_X19_strange, (w.onTables && w.keeps) = true ∨ ∃ ty, w = Cond.arrayClass ty := List.forall_mem_cons.mpr ⟨good_of_word rfl, List.forall_mem_append.mpr ⟨fun w h => good_of_word (List.all_eq_true.mp (by decide +kernel) w h), List.forall_mem_append.mpr ⟨gu_X19, List.forall_mem_append.mpr ⟨gd_dm_X19_in, fun _ h => nomatch h⟩⟩⟩⟩
theorem hi_dm_X19_strange_X19 : ∀ w ∈ u_ws RX19 TX19 36, w ∈ ow_dm_X19_strange := fun w h => List.mem_cons_of_mem _ (List.mem_append_right _ (List.mem_append_left _ h))
theorem gi_dm_X19_strange_0 : GoodIn ow_dm_X19_strange (wsS RX19 126 yX19_in ow_dm_X19_in) := goodIn_app (goodIn_of _ (by decide +kernel)) (fun w h => ⟨List.mem_cons_of_mem _ (List.mem_append_right _ (List.mem_append_right _ (List.mem_append_left _ h))), gd_dm_X19_in w h⟩)
def dj_X19_strange_73 (p : Program) (l : Launch) (e : Env) (s : State) (m : MethodId) (args : Array Value) (below : List Frame) (meth : Method) (c : Code) (Q : State → Prop) (A : Nat → Prop) (dC : Nat → ClassId) (dI : Nat → Nat → Nat) (a : Nat → Nat) (ac : Nat → ClassId) (g : Int32 → Int32 → (St × (St) × (St × (St × (St))) × (St) × (St)) → Option (Int32 × (St × (St) × (St × (St × (St))) × (St) × (St)))) (r : Int32 × (St × (St) × (St × (St × (St))) × (St) × (St))) : Prop := ∀ (x2 : Int32) (y0 : Int32) (s0 : St × (St) × (St × (St × (St))) × (St) × (St)) (H : Heap) (locs : List Loc) (ls : Array Slot), g x2 y0 s0 = some r → va_P (dC, dI) vwCl (dw_X19 a ac s0) H → va_D A (dw_X19 a ac s0) → va_S A s.heap H locs → lv_has ls 3 [(0, .ref (a 0)), (2, .int x2)] → W p l e (headSpec ow_dm_X19_strange ({ frames := 1, cells := 0, slots := 0, locals := 25 })).room s m args below meth c H locs 0 0 Q (F0 m 73 ls [.int y0])
def dj_X19_strange_55 (p : Program) (l : Launch) (e : Env) (s : State) (m : MethodId) (args : Array Value) (below : List Frame) (meth : Method) (c : Code) (Q : State → Prop) (A : Nat → Prop) (dC : Nat → ClassId) (dI : Nat → Nat → Nat) (a : Nat → Nat) (ac : Nat → ClassId) (g : Int32 → Int32 → (St × (St) × (St × (St × (St))) × (St) × (St)) → Option (Int32 × (St × (St) × (St × (St × (St))) × (St) × (St)))) (r : Int32 × (St × (St) × (St × (St × (St))) × (St) × (St))) : Prop := ∀ (x1 : Int32) (x2 : Int32) (s0 : St × (St) × (St × (St × (St))) × (St) × (St)) (H : Heap) (locs : List Loc) (ls : Array Slot), g x1 x2 s0 = some r → va_P (dC, dI) vwCl (dw_X19 a ac s0) H → va_D A (dw_X19 a ac s0) → va_S A s.heap H locs → lv_has ls 3 [(0, .ref (a 0)), (1, .int x1), (2, .int x2)] → W p l e (headSpec ow_dm_X19_strange ({ frames := 1, cells := 0, slots := 0, locals := 25 })).room s m args below meth c H locs 0 0 Q (F0 m 55 ls [])
def dj_X19_strange_4 (p : Program) (l : Launch) (e : Env) (s : State) (m : MethodId) (args : Array Value) (below : List Frame) (meth : Method) (c : Code) (Q : State → Prop) (A : Nat → Prop) (dC : Nat → ClassId) (dI : Nat → Nat → Nat) (a : Nat → Nat) (ac : Nat → ClassId) (g : Int32 → Int32 → (St × (St) × (St × (St × (St))) × (St) × (St)) → Option (Int32 × (St × (St) × (St × (St × (St))) × (St) × (St)))) (r : Int32 × (St × (St) × (St × (St × (St))) × (St) × (St))) : Prop := ∀ (x1 : Int32) (x2 : Int32) (s0 : St × (St) × (St × (St × (St))) × (St) × (St)) (H : Heap) (locs : List Loc) (ls : Array Slot), g x1 x2 s0 = some r → va_P (dC, dI) vwCl (dw_X19 a ac s0) H → va_D A (dw_X19 a ac s0) → va_S A s.heap H locs → lv_has ls 3 [(0, .ref (a 0)), (1, .int x1), (2, .int x2)] → W p l e (headSpec ow_dm_X19_strange ({ frames := 1, cells := 0, slots := 0, locals := 25 })).room s m args below meth c H locs 0 0 Q (F0 m 4 ls [])
def dj_X19_strange_0 (p : Program) (l : Launch) (e : Env) (s : State) (m : MethodId) (args : Array Value) (below : List Frame) (meth : Method) (c : Code) (Q : State → Prop) (A : Nat → Prop) (dC : Nat → ClassId) (dI : Nat → Nat → Nat) (a : Nat → Nat) (ac : Nat → ClassId) (g : (St × (St) × (St × (St × (St))) × (St) × (St)) → Option (Int32 × (St × (St) × (St × (St × (St))) × (St) × (St)))) (r : Int32 × (St × (St) × (St × (St × (St))) × (St) × (St))) : Prop := ∀ (s0 : St × (St) × (St × (St × (St))) × (St) × (St)) (H : Heap) (locs : List Loc) (ls : Array Slot), g s0 = some r → va_P (dC, dI) vwCl (dw_X19 a ac s0) H → va_D A (dw_X19 a ac s0) → va_S A s.heap H locs → lv_has ls 3 [(0, .ref (a 0))] → W p l e (headSpec ow_dm_X19_strange ({ frames := 1, cells := 0, slots := 0, locals := 25 })).room s m args below meth c H locs 0 0 Q (F0 m 0 ls [])
set_option maxHeartbeats 40000000 in
set_option maxRecDepth 100000 in
theorem db_X19_strange_73 {p : Program} {l : Launch} {e : Env} {s : State} {m : MethodId} {args : Array Value} {below : List Frame} {meth : Method} {c : Code} {Q : State → Prop} {A : Nat → Prop} {dC : Nat → ClassId} {dI : Nat → Nat → Nat} {a : Nat → Nat} {ac : Nat → ClassId} {n : Nat} {r : Int32 × (St × (St) × (St × (St × (St))) × (St) × (St))} (C : nd_C p l s m args c A (dC, dI) cX19_strange 3 RX19 ow_dm_X19_strange (dk_X19 ac)) (K : nd_Ki p l e (headSpec ow_dm_X19_strange ({ frames := 1, cells := 0, slots := 0, locals := 25 })).room s m args below meth c Q A (dC, dI) cX19_strange .int (St × (St) × (St × (St × (St))) × (St) × (St)) (dw_X19 a ac) r) {g4 : Int32 → Int32 → (St × (St) × (St × (St × (St))) × (St) × (St)) → Option (Int32 × (St × (St) × (St × (St × (St))) × (St) × (St)))} (J4 : dj_X19_strange_4 p l e s m args below meth c Q A dC dI a ac g4 r) : dj_X19_strange_73 p l e s m args below meth c Q A dC dI a ac (df_X19_strange_73 n g4) r := by
  obtain ⟨hlt, hx, hb, hml, hown, hts, hN, hA, hK⟩ := id C
  intro x2 y0 s0 H locs ls h hP hD hS hl
  unfold df_X19_strange_73 at h
  refine lv_istore_n (lv' := [(1, .int y0), (0, .ref (a 0)), (2, .int x2)]) hx hb dX19_strange_73 rfl hl (by decide) rfl (fun ls hl => ?_)
  obtain ⟨z6, ez6, h⟩ := nd_let_e h
  refine lv_iinc (v := z6) (lv' := [(2, .int z6), (1, .int y0), (0, .ref (a 0))]) hx hb dX19_strange_74 hl (k := 2) rfl (by rw [ez6]) (by decide) rfl (fun ls hl => ?_)
  refine lv_goto (tgt := 4) hx hb dX19_strange_77 (by decide) ?_
  exact (J4) (y0) (z6) s0 _ _ _ h hP hD hS (lv_sub hl [2, 1, 0] rfl)
set_option maxHeartbeats 40000000 in
set_option maxRecDepth 100000 in
theorem db_X19_strange_55 {p : Program} {l : Launch} {e : Env} {s : State} {m : MethodId} {args : Array Value} {below : List Frame} {meth : Method} {c : Code} {Q : State → Prop} {A : Nat → Prop} {dC : Nat → ClassId} {dI : Nat → Nat → Nat} {a : Nat → Nat} {ac : Nat → ClassId} {n : Nat} {r : Int32 × (St × (St) × (St × (St × (St))) × (St) × (St))} (C : nd_C p l s m args c A (dC, dI) cX19_strange 3 RX19 ow_dm_X19_strange (dk_X19 ac)) (K : nd_Ki p l e (headSpec ow_dm_X19_strange ({ frames := 1, cells := 0, slots := 0, locals := 25 })).room s m args below meth c Q A (dC, dI) cX19_strange .int (St × (St) × (St × (St × (St))) × (St) × (St)) (dw_X19 a ac) r) {g4 : Int32 → Int32 → (St × (St) × (St × (St × (St))) × (St) × (St)) → Option (Int32 × (St × (St) × (St × (St × (St))) × (St) × (St)))} (J4 : dj_X19_strange_4 p l e s m args below meth c Q A dC dI a ac g4 r) : dj_X19_strange_55 p l e s m args below meth c Q A dC dI a ac (df_X19_strange_55 n g4) r := by
  obtain ⟨hlt, hx, hb, hml, hown, hts, hN, hA, hK⟩ := id C
  intro x1 x2 s0 H locs ls h hP hD hS hl
  unfold df_X19_strange_55 at h
  refine lv_aload_n hx hb dX19_strange_55 rfl (lv_at hl 0 rfl) ?_
  refine va_get (D := (dC, dI)) (ci := 20) (v := .ref (a 92)) (C := RX19) (T := TX19) (N := 36) hx hb hts hi_dm_X19_strange_X19 hown hK hP 0 rfl rfl 1 (by decide) (hts (.fieldLink RX19 10 "TimeMachineModel" "tape" "[I") (List.mem_of_getElem? (i := 2) rfl)) (fun _ h9 => h9) rfl dX19_strange_56 ?_
  refine lv_iload_n hx hb dX19_strange_59 rfl (lv_at hl 2 rfl) ?_
  obtain ⟨i4, h⟩ := nd_ck_e h
  refine va_iald (i := x2) hx hb hK hP 92 86 rfl rfl i4 dX19_strange_60 ?_
  refine lv_bipush (v := 10) hx hb dX19_strange_61 (by decide) ?_
  refine lv_icmp_ne (tgt := 72) hx hb dX19_strange_63 (by decide) (fun c5 => ?_) (fun c5 => ?_)
  · have h := nd_neg h c5
    refine lv_iload_n hx hb dX19_strange_72 rfl (lv_at hl 1 rfl) ?_
    exact (db_X19_strange_73 C K J4) (x2) (x1) s0 _ _ _ h hP hD hS (lv_sub hl [0, 2] rfl)
  · have h := nd_pos h c5
    refine lv_iload_n hx hb dX19_strange_66 rfl (lv_at hl 1 rfl) ?_
    refine lv_iconst (v := 1) hx hb dX19_strange_67 (by decide) ?_
    refine lv_iadd hx hb dX19_strange_68 ?_
    refine lv_goto (tgt := 73) hx hb dX19_strange_69 (by decide) ?_
    exact (db_X19_strange_73 C K J4) (x2) ((x1 + 1)) s0 _ _ _ h hP hD hS (lv_sub hl [0, 2] rfl)
set_option maxHeartbeats 40000000 in
set_option maxRecDepth 100000 in
theorem dB_X19_strange_4 {p : Program} {l : Launch} {e : Env} {s : State} {m : MethodId} {args : Array Value} {below : List Frame} {meth : Method} {c : Code} {Q : State → Prop} {A : Nat → Prop} {dC : Nat → ClassId} {dI : Nat → Nat → Nat} {a : Nat → Nat} {ac : Nat → ClassId} {n : Nat} {r : Int32 × (St × (St) × (St × (St × (St))) × (St) × (St))} (C : nd_C p l s m args c A (dC, dI) cX19_strange 3 RX19 ow_dm_X19_strange (dk_X19 ac)) (K : nd_Ki p l e (headSpec ow_dm_X19_strange ({ frames := 1, cells := 0, slots := 0, locals := 25 })).room s m args below meth c Q A (dC, dI) cX19_strange .int (St × (St) × (St × (St × (St))) × (St) × (St)) (dw_X19 a ac) r) {g4 : Int32 → Int32 → (St × (St) × (St × (St × (St))) × (St) × (St)) → Option (Int32 × (St × (St) × (St × (St × (St))) × (St) × (St)))} (J4 : dj_X19_strange_4 p l e s m args below meth c Q A dC dI a ac g4 r) : dj_X19_strange_4 p l e s m args below meth c Q A dC dI a ac (dF_X19_strange_4 n g4) r := by
  obtain ⟨hlt, hx, hb, hml, hown, hts, hN, hA, hK⟩ := id C
  intro x1 x2 s0 H locs ls h hP hD hS hl
  unfold dF_X19_strange_4 at h
  refine lv_iload_n hx hb dX19_strange_4 rfl (lv_at hl 2 rfl) ?_
  refine lv_aload_n hx hb dX19_strange_5 rfl (lv_at hl 0 rfl) ?_
  refine va_get (D := (dC, dI)) (ci := 20) (v := .int (sI s0.1 1)) (C := RX19) (T := TX19) (N := 36) hx hb hts hi_dm_X19_strange_X19 hown hK hP 0 rfl rfl 2 (by decide) (hts (.fieldLink RX19 117 "TimeMachineModel" "taped" "I") (List.mem_of_getElem? (i := 1) rfl)) (fun _ h9 => h9) rfl dX19_strange_6 ?_
  refine lv_icmp_ge (tgt := 80) hx hb dX19_strange_9 (by decide) (fun c1 => ?_) (fun c1 => ?_)
  · have h := nd_pos h c1
    refine lv_iconst (v := 0) hx hb dX19_strange_80 (by decide) ?_
    exact K _ _ _ _ _ _ dX19_strange_81 rfl (Option.some.inj h).symm hP hD hS
  · have h := nd_neg h c1
    refine lv_aload_n hx hb dX19_strange_12 rfl (lv_at hl 0 rfl) ?_
    refine va_get (D := (dC, dI)) (ci := 20) (v := .ref (a 92)) (C := RX19) (T := TX19) (N := 36) hx hb hts hi_dm_X19_strange_X19 hown hK hP 0 rfl rfl 1 (by decide) (hts (.fieldLink RX19 10 "TimeMachineModel" "tape" "[I") (List.mem_of_getElem? (i := 2) rfl)) (fun _ h9 => h9) rfl dX19_strange_13 ?_
    refine lv_iload_n hx hb dX19_strange_16 rfl (lv_at hl 2 rfl) ?_
    obtain ⟨i2, h⟩ := nd_ck_e h
    refine va_iald (i := x2) hx hb hK hP 92 86 rfl rfl i2 dX19_strange_17 ?_
    refine lv_bipush (v := 9) hx hb dX19_strange_18 (by decide) ?_
    refine lv_icmp_eq (tgt := 55) hx hb dX19_strange_20 (by decide) (fun c3 => ?_) (fun c3 => ?_)
    · have h := nd_pos h c3
      exact (db_X19_strange_55 C K J4) (x1) (x2) s0 _ _ _ h hP hD hS (lv_sub hl [0, 1, 2] rfl)
    · have h := nd_neg h c3
      refine lv_aload_n hx hb dX19_strange_23 rfl (lv_at hl 0 rfl) ?_
      refine va_get (D := (dC, dI)) (ci := 20) (v := .ref (a 92)) (C := RX19) (T := TX19) (N := 36) hx hb hts hi_dm_X19_strange_X19 hown hK hP 0 rfl rfl 1 (by decide) (hts (.fieldLink RX19 10 "TimeMachineModel" "tape" "[I") (List.mem_of_getElem? (i := 2) rfl)) (fun _ h9 => h9) rfl dX19_strange_24 ?_
      refine lv_iload_n hx hb dX19_strange_27 rfl (lv_at hl 2 rfl) ?_
      obtain ⟨i7, h⟩ := nd_ck_e h
      refine va_iald (i := x2) hx hb hK hP 92 86 rfl rfl i7 dX19_strange_28 ?_
      refine lv_bipush (v := 10) hx hb dX19_strange_29 (by decide) ?_
      refine lv_icmp_eq (tgt := 55) hx hb dX19_strange_31 (by decide) (fun c8 => ?_) (fun c8 => ?_)
      · have h := nd_pos h c8
        exact (db_X19_strange_55 C K J4) (x1) (x2) s0 _ _ _ h hP hD hS (lv_sub hl [0, 1, 2] rfl)
      · have h := nd_neg h c8
        refine lv_aload_n hx hb dX19_strange_34 rfl (lv_at hl 0 rfl) ?_
        refine va_get (D := (dC, dI)) (ci := 20) (v := .ref (a 92)) (C := RX19) (T := TX19) (N := 36) hx hb hts hi_dm_X19_strange_X19 hown hK hP 0 rfl rfl 1 (by decide) (hts (.fieldLink RX19 10 "TimeMachineModel" "tape" "[I") (List.mem_of_getElem? (i := 2) rfl)) (fun _ h9 => h9) rfl dX19_strange_35 ?_
        refine lv_iload_n hx hb dX19_strange_38 rfl (lv_at hl 2 rfl) ?_
        obtain ⟨i9, h⟩ := nd_ck_e h
        refine va_iald (i := x2) hx hb hK hP 92 86 rfl rfl i9 dX19_strange_39 ?_
        refine lv_i2l hx hb dX19_strange_40 rfl ?_
        refine lv_ldc2 hx hb hown (hts (.constantLong RX19 130 (32)) (List.mem_of_getElem? (i := 3) rfl)) dX19_strange_41 ?_
        refine lv_ldc2 hx hb hown (hts (.constantLong RX19 132 (126)) (List.mem_of_getElem? (i := 4) rfl)) dX19_strange_44 ?_
        obtain ⟨q10, s11, hq, h⟩ := nd_b2_e h
        have hPc : va_P (dC, dI) vwCl (dw_P a ac ()) H := nd_p0
        have hDc : va_D A (dw_P a ac ()) := nd_d0
        have hKc : va_K (dC, dI) vwCl (dk_P ac) s := nd_y0 hK
        have hFc : ∀ q, va_A (dw_P a ac ()) H.size q → A q := nd_r0 hS hA
        refine nd_cSi (As := [.long (((sR s0.2.2.2.1 3 (Int32.toNatClampNeg x2)) : Int32).toInt64), .long 32, .long 126]) (rest := []) (q := q10) (w' := dw_P a ac s11) ⟨hx, hb, hml, hown, hts⟩ (fun sz => dm_X19_in l hlt dC dI a ac n ((((sR s0.2.2.2.1 3 (Int32.toNatClampNeg x2)) : Int32).toInt64)) (32) (126) () hq sz) (cwS 3 hts gi_dm_X19_strange_0 rfl rfl rfl (by decide +kernel) ⟨Nat.le_of_ble_eq_true rfl, Nat.le_of_ble_eq_true rfl⟩) hPc hDc hKc hS hA hN rfl hl.1 rfl (Nat.le_of_ble_eq_true rfl) dX19_strange_47 (fun H locs hP1 hD1 hk1 hS => ?_)
        have hP := nd_n0 hP hk1
        refine lv_if_ne (tgt := 55) hx hb dX19_strange_50 (by decide) (fun c13 => ?_) (fun c13 => ?_)
        · have h := nd_neg h c13
          exact (db_X19_strange_55 C K J4) (x1) (x2) s0 _ _ _ h hP hD hS (lv_sub hl [0, 1, 2] rfl)
        · have h := nd_pos h c13
          refine lv_iload_n hx hb dX19_strange_53 rfl (lv_at hl 1 rfl) ?_
          exact K _ _ _ _ _ _ dX19_strange_54 rfl (Option.some.inj h).symm hP hD hS
set_option maxHeartbeats 40000000 in
set_option maxRecDepth 100000 in
theorem db_X19_strange_4 {p : Program} {l : Launch} {e : Env} {s : State} {m : MethodId} {args : Array Value} {below : List Frame} {meth : Method} {c : Code} {Q : State → Prop} {A : Nat → Prop} {dC : Nat → ClassId} {dI : Nat → Nat → Nat} {a : Nat → Nat} {ac : Nat → ClassId} {n : Nat} {r : Int32 × (St × (St) × (St × (St × (St))) × (St) × (St))} (C : nd_C p l s m args c A (dC, dI) cX19_strange 3 RX19 ow_dm_X19_strange (dk_X19 ac)) (K : nd_Ki p l e (headSpec ow_dm_X19_strange ({ frames := 1, cells := 0, slots := 0, locals := 25 })).room s m args below meth c Q A (dC, dI) cX19_strange .int (St × (St) × (St × (St × (St))) × (St) × (St)) (dw_X19 a ac) r) (k : Nat) : dj_X19_strange_4 p l e s m args below meth c Q A dC dI a ac (df_X19_strange_4 n k) r := by
  induction k with
  | zero => intro x1 x2 s0 H locs ls h; exact nomatch (show (none : Option (Int32 × (St × (St) × (St × (St × (St))) × (St) × (St)))) = some r from h)
  | succ k ih => exact dB_X19_strange_4 C K ih
set_option maxHeartbeats 40000000 in
set_option maxRecDepth 100000 in
theorem db_X19_strange_0 {p : Program} {l : Launch} {e : Env} {s : State} {m : MethodId} {args : Array Value} {below : List Frame} {meth : Method} {c : Code} {Q : State → Prop} {A : Nat → Prop} {dC : Nat → ClassId} {dI : Nat → Nat → Nat} {a : Nat → Nat} {ac : Nat → ClassId} {n : Nat} {r : Int32 × (St × (St) × (St × (St × (St))) × (St) × (St))} (C : nd_C p l s m args c A (dC, dI) cX19_strange 3 RX19 ow_dm_X19_strange (dk_X19 ac)) (K : nd_Ki p l e (headSpec ow_dm_X19_strange ({ frames := 1, cells := 0, slots := 0, locals := 25 })).room s m args below meth c Q A (dC, dI) cX19_strange .int (St × (St) × (St × (St × (St))) × (St) × (St)) (dw_X19 a ac) r) : dj_X19_strange_0 p l e s m args below meth c Q A dC dI a ac (df_X19_strange_0 n) r := by
  obtain ⟨hlt, hx, hb, hml, hown, hts, hN, hA, hK⟩ := id C
  intro s0 H locs ls h hP hD hS hl
  unfold df_X19_strange_0 at h
  refine lv_iconst (v := 1) hx hb dX19_strange_0 (by decide) ?_
  refine lv_istore_n (lv' := [(1, .int 1), (0, .ref (a 0))]) hx hb dX19_strange_1 rfl hl (by decide) rfl (fun ls hl => ?_)
  refine lv_iconst (v := 0) hx hb dX19_strange_2 (by decide) ?_
  refine lv_istore_n (lv' := [(2, .int 0), (1, .int 1), (0, .ref (a 0))]) hx hb dX19_strange_3 rfl hl (by decide) rfl (fun ls hl => ?_)
  exact (db_X19_strange_4 C K n) (1) (0) s0 _ _ _ h hP hD hS (lv_sub hl [2, 1, 0] rfl)
set_option maxHeartbeats 40000000 in
set_option maxRecDepth 100000 in
theorem dm_X19_strange (l : Launch) (hlt : l.stackTraces = false) (dC : Nat → ClassId) (dI : Nat → Nat → Nat) (a : Nat → Nat) (ac : Nat → ClassId) (n : Nat) (s0 : St × (St) × (St × (St × (St))) × (St) × (St)) {r : Int32 × (St × (St) × (St × (St × (St))) × (St) × (St))} (h : df_X19_strange n s0 = some r) (sz : Nat) : Met l yX19_strange ow_dm_X19_strange ({ frames := 1, cells := 0, slots := 0, locals := 25 }) (va_Pc [.ref (a 0)] (fun U => U.heap.size = sz ∧ va_P (dC, dI) vwCl (dw_X19 a ac s0) U.heap ∧ va_K (dC, dI) vwCl (dk_X19 ac) U ∧ va_D (fun _ => True) (dw_X19 a ac s0) ∧ nv_E dI (va_A (dw_X19 a ac s0) sz) U)) (va_Qi (fun x _ => x = r.1) (fun (_ : Unit) t => va_P (dC, dI) vwCl (dw_X19 a ac r.2) t.heap ∧ va_K (dC, dI) vwCl (dk_X19 ac) t ∧ va_D (va_A (dw_X19 a ac s0) sz) (dw_X19 a ac r.2)) (va_A (dw_X19 a ac s0) sz)) 0 0 (va_A (dw_X19 a ac s0) sz) := by
  refine Met.ofW (cc := cX19_strange) (maxL := 3) (ret := (some .int)) (by decide) rfl ?_
  intro p e s m args below meth c s₁ B hml hv
  obtain ⟨rfl, hsz, hP, hK, hD0, hN⟩ := hv
  have hx := B.exec
  have hb := B.bytes
  have hr := B.returns
  have hts := atoms_spec (ws := ow_dm_X19_strange) B.pre
  have hown : s.vm.findClass RX19 = some m.cls := findClass_of_methodNamed B.named
  have hlocks := B.notSynchronized
  subst hsz
  have hD := hD0.self (sz := s.heap.size)
  generalize hAe : va_A (dw_X19 a ac s0) s.heap.size = A at hD hN ⊢
  have hA : ∀ q : Nat, s.heap.size ≤ q → A q := fun q h => by rw [← hAe]; exact Or.inr h
  have hl := lv_entry ([.ref (a 0)]) (n := 3) (Nat.le_of_ble_eq_true rfl)
  rw [lg_entry_eq]
  generalize (lg_sl ([.ref (a 0)]) ++ List.replicate (3 - (lg_sl ([.ref (a 0)])).length) Slot.unset).toArray = ls at hl ⊢
  have hl : lv_has ls 3 [(0, .ref (a 0))] := hl
  exact db_X19_strange_0 (dC := dC) (dI := dI) (a := a) (ac := ac) (n := n) (r := r) ⟨hlt, hx, hb, hml, hown, hts, hN, hA, hK⟩ (fun pc v τ H locs ls d z er hP hD hS => by subst er; exact W.zret (v := v) hx hb hr z (fun t ht hW => ⟨⟨v, (), rfl, rfl, by rw [ht]; exact hP, va_K.moved hW.alike hK, hD⟩, hS.F ht⟩) hS.2.2 d) s0 _ _ _ h hP hD va_S.rf (lv_sub hl [0] rfl)
def ow_dm_X19_isProgram : List Cond := Cond.code yX19_isProgram cX19_isProgram 2 (some .boolean) :: ([Cond.constantLong RX19 134 (3), Cond.methodLink RX19 126 yX19_in, Cond.static yX19_in, Cond.initialized RX19, Cond.fieldLink RX19 14 "TimeMachineModel" "isProgram" "[Z"] ++ (u_ws RX19 TX19 36 ++ (ow_dm_X19_in ++ [])))
theorem gd_dm_X19_isProgram : ∀ w ∈ ow_dm_X19_isProgram, (w.onTables && w.keeps) = true ∨ ∃ ty, w = Cond.arrayClass ty := List.forall_mem_cons.mpr ⟨good_of_word rfl, List.forall_mem_append.mpr ⟨fun w h => good_of_word (List.all_eq_true.mp (by decide +kernel) w h), List.forall_mem_append.mpr ⟨gu_X19, List.forall_mem_append.mpr ⟨gd_dm_X19_in, fun _ h => nomatch h⟩⟩⟩⟩
theorem hi_dm_X19_isProgram_X19 : ∀ w ∈ u_ws RX19 TX19 36, w ∈ ow_dm_X19_isProgram := fun w h => List.mem_cons_of_mem _ (List.mem_append_right _ (List.mem_append_left _ h))
theorem gi_dm_X19_isProgram_0 : GoodIn ow_dm_X19_isProgram (wsS RX19 126 yX19_in ow_dm_X19_in) := goodIn_app (goodIn_of _ (by decide +kernel)) (fun w h => ⟨List.mem_cons_of_mem _ (List.mem_append_right _ (List.mem_append_right _ (List.mem_append_left _ h))), gd_dm_X19_in w h⟩)
def dj_X19_isProgram_26 (p : Program) (l : Launch) (e : Env) (s : State) (m : MethodId) (args : Array Value) (below : List Frame) (meth : Method) (c : Code) (Q : State → Prop) (A : Nat → Prop) (dC : Nat → ClassId) (dI : Nat → Nat → Nat) (a : Nat → Nat) (ac : Nat → ClassId) (g : Int32 → (St × (St) × (St × (St × (St))) × (St) × (St)) → Option (Int32 × (St × (St) × (St × (St × (St))) × (St) × (St)))) (r : Int32 × (St × (St) × (St × (St × (St))) × (St) × (St))) : Prop := ∀ (y0 : Int32) (s0 : St × (St) × (St × (St × (St))) × (St) × (St)) (H : Heap) (locs : List Loc) (ls : Array Slot), g y0 s0 = some r → va_P (dC, dI) vwCl (dw_X19 a ac s0) H → va_D A (dw_X19 a ac s0) → va_S A s.heap H locs → lv_has ls 2 [] → W p l e (headSpec ow_dm_X19_isProgram ({ frames := 1, cells := 0, slots := 0, locals := 25 })).room s m args below meth c H locs 0 0 Q (F0 m 26 ls [.int y0])
def dj_X19_isProgram_25 (p : Program) (l : Launch) (e : Env) (s : State) (m : MethodId) (args : Array Value) (below : List Frame) (meth : Method) (c : Code) (Q : State → Prop) (A : Nat → Prop) (dC : Nat → ClassId) (dI : Nat → Nat → Nat) (a : Nat → Nat) (ac : Nat → ClassId) (g : (St × (St) × (St × (St × (St))) × (St) × (St)) → Option (Int32 × (St × (St) × (St × (St × (St))) × (St) × (St)))) (r : Int32 × (St × (St) × (St × (St × (St))) × (St) × (St))) : Prop := ∀ (s0 : St × (St) × (St × (St × (St))) × (St) × (St)) (H : Heap) (locs : List Loc) (ls : Array Slot), g s0 = some r → va_P (dC, dI) vwCl (dw_X19 a ac s0) H → va_D A (dw_X19 a ac s0) → va_S A s.heap H locs → lv_has ls 2 [] → W p l e (headSpec ow_dm_X19_isProgram ({ frames := 1, cells := 0, slots := 0, locals := 25 })).room s m args below meth c H locs 0 0 Q (F0 m 25 ls [])
def dj_X19_isProgram_0 (p : Program) (l : Launch) (e : Env) (s : State) (m : MethodId) (args : Array Value) (below : List Frame) (meth : Method) (c : Code) (Q : State → Prop) (A : Nat → Prop) (dC : Nat → ClassId) (dI : Nat → Nat → Nat) (a : Nat → Nat) (ac : Nat → ClassId) (g : Int32 → (St × (St) × (St × (St × (St))) × (St) × (St)) → Option (Int32 × (St × (St) × (St × (St × (St))) × (St) × (St)))) (r : Int32 × (St × (St) × (St × (St × (St))) × (St) × (St))) : Prop := ∀ (v0 : Int32) (s0 : St × (St) × (St × (St × (St))) × (St) × (St)) (H : Heap) (locs : List Loc) (ls : Array Slot), g v0 s0 = some r → va_P (dC, dI) vwCl (dw_X19 a ac s0) H → va_D A (dw_X19 a ac s0) → va_S A s.heap H locs → lv_has ls 2 [(0, .ref (a 0)), (1, .int v0)] → W p l e (headSpec ow_dm_X19_isProgram ({ frames := 1, cells := 0, slots := 0, locals := 25 })).room s m args below meth c H locs 0 0 Q (F0 m 0 ls [])
set_option maxHeartbeats 40000000 in
set_option maxRecDepth 100000 in
theorem db_X19_isProgram_26 {p : Program} {l : Launch} {e : Env} {s : State} {m : MethodId} {args : Array Value} {below : List Frame} {meth : Method} {c : Code} {Q : State → Prop} {A : Nat → Prop} {dC : Nat → ClassId} {dI : Nat → Nat → Nat} {a : Nat → Nat} {ac : Nat → ClassId} {n : Nat} {r : Int32 × (St × (St) × (St × (St × (St))) × (St) × (St))} (C : nd_C p l s m args c A (dC, dI) cX19_isProgram 2 RX19 ow_dm_X19_isProgram (dk_X19 ac)) (K : nd_Ki p l e (headSpec ow_dm_X19_isProgram ({ frames := 1, cells := 0, slots := 0, locals := 25 })).room s m args below meth c Q A (dC, dI) cX19_isProgram .boolean (St × (St) × (St × (St × (St))) × (St) × (St)) (dw_X19 a ac) r) : dj_X19_isProgram_26 p l e s m args below meth c Q A dC dI a ac (df_X19_isProgram_26 n) r := by
  obtain ⟨hlt, hx, hb, hml, hown, hts, hN, hA, hK⟩ := id C
  intro y0 s0 H locs ls h hP hD hS hl
  unfold df_X19_isProgram_26 at h
  obtain ⟨n5, h⟩ := nd_z_e ⟨_, rfl⟩ h
  exact K _ _ _ _ _ _ dX19_isProgram_26 n5 (Option.some.inj h).symm hP hD hS
set_option maxHeartbeats 40000000 in
set_option maxRecDepth 100000 in
theorem db_X19_isProgram_25 {p : Program} {l : Launch} {e : Env} {s : State} {m : MethodId} {args : Array Value} {below : List Frame} {meth : Method} {c : Code} {Q : State → Prop} {A : Nat → Prop} {dC : Nat → ClassId} {dI : Nat → Nat → Nat} {a : Nat → Nat} {ac : Nat → ClassId} {n : Nat} {r : Int32 × (St × (St) × (St × (St × (St))) × (St) × (St))} (C : nd_C p l s m args c A (dC, dI) cX19_isProgram 2 RX19 ow_dm_X19_isProgram (dk_X19 ac)) (K : nd_Ki p l e (headSpec ow_dm_X19_isProgram ({ frames := 1, cells := 0, slots := 0, locals := 25 })).room s m args below meth c Q A (dC, dI) cX19_isProgram .boolean (St × (St) × (St × (St × (St))) × (St) × (St)) (dw_X19 a ac) r) : dj_X19_isProgram_25 p l e s m args below meth c Q A dC dI a ac (df_X19_isProgram_25 n) r := by
  obtain ⟨hlt, hx, hb, hml, hown, hts, hN, hA, hK⟩ := id C
  intro s0 H locs ls h hP hD hS hl
  unfold df_X19_isProgram_25 at h
  refine lv_iconst (v := 0) hx hb dX19_isProgram_25 (by decide) ?_
  exact (db_X19_isProgram_26 C K) (0) s0 _ _ _ h hP hD hS (lv_sub hl [] rfl)
set_option maxHeartbeats 40000000 in
set_option maxRecDepth 100000 in
theorem db_X19_isProgram_0 {p : Program} {l : Launch} {e : Env} {s : State} {m : MethodId} {args : Array Value} {below : List Frame} {meth : Method} {c : Code} {Q : State → Prop} {A : Nat → Prop} {dC : Nat → ClassId} {dI : Nat → Nat → Nat} {a : Nat → Nat} {ac : Nat → ClassId} {n : Nat} {r : Int32 × (St × (St) × (St × (St × (St))) × (St) × (St))} (C : nd_C p l s m args c A (dC, dI) cX19_isProgram 2 RX19 ow_dm_X19_isProgram (dk_X19 ac)) (K : nd_Ki p l e (headSpec ow_dm_X19_isProgram ({ frames := 1, cells := 0, slots := 0, locals := 25 })).room s m args below meth c Q A (dC, dI) cX19_isProgram .boolean (St × (St) × (St × (St × (St))) × (St) × (St)) (dw_X19 a ac) r) : dj_X19_isProgram_0 p l e s m args below meth c Q A dC dI a ac (df_X19_isProgram_0 n) r := by
  obtain ⟨hlt, hx, hb, hml, hown, hts, hN, hA, hK⟩ := id C
  intro v0 s0 H locs ls h hP hD hS hl
  unfold df_X19_isProgram_0 at h
  refine lv_iload_n hx hb dX19_isProgram_0 rfl (lv_at hl 1 rfl) ?_
  refine lv_i2l hx hb dX19_isProgram_1 rfl ?_
  refine lv_lconst (v := 0) hx hb dX19_isProgram_2 (by decide) ?_
  refine lv_ldc2 hx hb hown (hts (.constantLong RX19 134 (3)) (List.mem_of_getElem? (i := 1) rfl)) dX19_isProgram_3 ?_
  obtain ⟨q1, s2, hq, h⟩ := nd_b2_e h
  have hPc : va_P (dC, dI) vwCl (dw_P a ac ()) H := nd_p0
  have hDc : va_D A (dw_P a ac ()) := nd_d0
  have hKc : va_K (dC, dI) vwCl (dk_P ac) s := nd_y0 hK
  have hFc : ∀ q, va_A (dw_P a ac ()) H.size q → A q := nd_r0 hS hA
  refine nd_cSi (As := [.long (v0.toInt64), .long 0, .long 3]) (rest := []) (q := q1) (w' := dw_P a ac s2) ⟨hx, hb, hml, hown, hts⟩ (fun sz => dm_X19_in l hlt dC dI a ac n ((v0.toInt64)) (0) (3) () hq sz) (cwS 3 hts gi_dm_X19_isProgram_0 rfl rfl rfl (by decide +kernel) ⟨Nat.le_of_ble_eq_true rfl, Nat.le_of_ble_eq_true rfl⟩) hPc hDc hKc hS hA hN rfl hl.1 rfl (Nat.le_of_ble_eq_true rfl) dX19_isProgram_6 (fun H locs hP1 hD1 hk1 hS => ?_)
  have hP := nd_n0 hP hk1
  refine lv_if_eq (tgt := 25) hx hb dX19_isProgram_9 (by decide) (fun c4 => ?_) (fun c4 => ?_)
  · have h := nd_pos h c4
    exact (db_X19_isProgram_25 C K)  s0 _ _ _ h hP hD hS (lv_sub hl [] rfl)
  · have h := nd_neg h c4
    refine lv_aload_n hx hb dX19_isProgram_12 rfl (lv_at hl 0 rfl) ?_
    refine va_get (D := (dC, dI)) (ci := 20) (v := .ref (a 1)) (C := RX19) (T := TX19) (N := 36) hx hb hts hi_dm_X19_isProgram_X19 hown hK hP 0 rfl rfl 4 (by decide) (hts (.fieldLink RX19 14 "TimeMachineModel" "isProgram" "[Z") (List.mem_of_getElem? (i := 5) rfl)) (fun _ h9 => h9) rfl dX19_isProgram_13 ?_
    refine lv_iload_n hx hb dX19_isProgram_16 rfl (lv_at hl 1 rfl) ?_
    obtain ⟨i6, h⟩ := nd_ck_e h
    refine va_zald (i := v0) hx hb hK hP 1 0 rfl rfl i6 dX19_isProgram_17 ?_
    refine lv_if_eq (tgt := 25) hx hb dX19_isProgram_18 (by decide) (fun c7 => ?_) (fun c7 => ?_)
    · have h := nd_pos h c7
      exact (db_X19_isProgram_25 C K)  s0 _ _ _ h hP hD hS (lv_sub hl [] rfl)
    · have h := nd_neg h c7
      refine lv_iconst (v := 1) hx hb dX19_isProgram_21 (by decide) ?_
      refine lv_goto (tgt := 26) hx hb dX19_isProgram_22 (by decide) ?_
      exact (db_X19_isProgram_26 C K) (1) s0 _ _ _ h hP hD hS (lv_sub hl [] rfl)
set_option maxHeartbeats 40000000 in
set_option maxRecDepth 100000 in
theorem dm_X19_isProgram (l : Launch) (hlt : l.stackTraces = false) (dC : Nat → ClassId) (dI : Nat → Nat → Nat) (a : Nat → Nat) (ac : Nat → ClassId) (n : Nat) (v0 : Int32) (s0 : St × (St) × (St × (St × (St))) × (St) × (St)) {r : Int32 × (St × (St) × (St × (St × (St))) × (St) × (St))} (h : df_X19_isProgram n v0 s0 = some r) (sz : Nat) : Met l yX19_isProgram ow_dm_X19_isProgram ({ frames := 1, cells := 0, slots := 0, locals := 25 }) (va_Pc [.ref (a 0), .int v0] (fun U => U.heap.size = sz ∧ va_P (dC, dI) vwCl (dw_X19 a ac s0) U.heap ∧ va_K (dC, dI) vwCl (dk_X19 ac) U ∧ va_D (fun _ => True) (dw_X19 a ac s0) ∧ nv_E dI (va_A (dw_X19 a ac s0) sz) U)) (va_Qi (fun x _ => x = r.1) (fun (_ : Unit) t => va_P (dC, dI) vwCl (dw_X19 a ac r.2) t.heap ∧ va_K (dC, dI) vwCl (dk_X19 ac) t ∧ va_D (va_A (dw_X19 a ac s0) sz) (dw_X19 a ac r.2)) (va_A (dw_X19 a ac s0) sz)) 0 0 (va_A (dw_X19 a ac s0) sz) := by
  refine Met.ofW (cc := cX19_isProgram) (maxL := 2) (ret := (some .boolean)) (by decide) rfl ?_
  intro p e s m args below meth c s₁ B hml hv
  obtain ⟨rfl, hsz, hP, hK, hD0, hN⟩ := hv
  have hx := B.exec
  have hb := B.bytes
  have hr := B.returns
  have hts := atoms_spec (ws := ow_dm_X19_isProgram) B.pre
  have hown : s.vm.findClass RX19 = some m.cls := findClass_of_methodNamed B.named
  have hlocks := B.notSynchronized
  subst hsz
  have hD := hD0.self (sz := s.heap.size)
  generalize hAe : va_A (dw_X19 a ac s0) s.heap.size = A at hD hN ⊢
  have hA : ∀ q : Nat, s.heap.size ≤ q → A q := fun q h => by rw [← hAe]; exact Or.inr h
  have hl := lv_entry ([.ref (a 0), .int v0]) (n := 2) (Nat.le_of_ble_eq_true rfl)
  rw [lg_entry_eq]
  generalize (lg_sl ([.ref (a 0), .int v0]) ++ List.replicate (2 - (lg_sl ([.ref (a 0), .int v0])).length) Slot.unset).toArray = ls at hl ⊢
  have hl : lv_has ls 2 [(0, .ref (a 0)), (1, .int v0)] := hl
  exact db_X19_isProgram_0 (dC := dC) (dI := dI) (a := a) (ac := ac) (n := n) (r := r) ⟨hlt, hx, hb, hml, hown, hts, hN, hA, hK⟩ (fun pc v τ H locs ls d z er hP hD hS => by subst er; exact W.zret (v := v) hx hb hr z (fun t ht hW => ⟨⟨v, (), rfl, rfl, by rw [ht]; exact hP, va_K.moved hW.alike hK, hD⟩, hS.F ht⟩) hS.2.2 d) v0 s0 _ _ _ h hP hD va_S.rf (lv_sub hl [0, 1] rfl)
def ow_dm_X19_hasByte : List Cond := Cond.code yX19_hasByte cX19_hasByte 3 (some .boolean) :: ([Cond.methodLink RX19 172 yX19_isProgram, Cond.instanceMethod yX19_isProgram, Cond.selects RX19 yX19_isProgram yX19_isProgram, Cond.initialized RX19, Cond.fieldLink RX19 24 "TimeMachineModel" "ends" "[I"] ++ (u_ws RX19 TX19 36 ++ (ow_dm_X19_isProgram ++ [])))
theorem gd_dm_X19_hasByte : ∀ w ∈ ow_dm_X19_hasByte, (w.onTables && w.keeps) = true ∨ ∃ ty, w = Cond.arrayClass ty := List.forall_mem_cons.mpr ⟨good_of_word rfl, List.forall_mem_append.mpr ⟨fun w h => good_of_word (List.all_eq_true.mp (by decide +kernel) w h), List.forall_mem_append.mpr ⟨gu_X19, List.forall_mem_append.mpr ⟨gd_dm_X19_isProgram, fun _ h => nomatch h⟩⟩⟩⟩
theorem hi_dm_X19_hasByte_X19 : ∀ w ∈ u_ws RX19 TX19 36, w ∈ ow_dm_X19_hasByte := fun w h => List.mem_cons_of_mem _ (List.mem_append_right _ (List.mem_append_left _ h))
theorem gi_dm_X19_hasByte_0 : GoodIn ow_dm_X19_hasByte (wsV RX19 172 RX19 yX19_isProgram ow_dm_X19_isProgram) := goodIn_app (goodIn_of _ (by decide +kernel)) (fun w h => ⟨List.mem_cons_of_mem _ (List.mem_append_right _ (List.mem_append_right _ (List.mem_append_left _ h))), gd_dm_X19_isProgram w h⟩)
def dj_X19_hasByte_27 (p : Program) (l : Launch) (e : Env) (s : State) (m : MethodId) (args : Array Value) (below : List Frame) (meth : Method) (c : Code) (Q : State → Prop) (A : Nat → Prop) (dC : Nat → ClassId) (dI : Nat → Nat → Nat) (a : Nat → Nat) (ac : Nat → ClassId) (g : Int32 → (St × (St) × (St × (St × (St))) × (St) × (St)) → Option (Int32 × (St × (St) × (St × (St × (St))) × (St) × (St)))) (r : Int32 × (St × (St) × (St × (St × (St))) × (St) × (St))) : Prop := ∀ (y0 : Int32) (s0 : St × (St) × (St × (St × (St))) × (St) × (St)) (H : Heap) (locs : List Loc) (ls : Array Slot), g y0 s0 = some r → va_P (dC, dI) vwCl (dw_X19 a ac s0) H → va_D A (dw_X19 a ac s0) → va_S A s.heap H locs → lv_has ls 3 [] → W p l e (headSpec ow_dm_X19_hasByte ({ frames := 2, cells := 0, slots := 0, locals := 46 })).room s m args below meth c H locs 0 0 Q (F0 m 27 ls [.int y0])
def dj_X19_hasByte_26 (p : Program) (l : Launch) (e : Env) (s : State) (m : MethodId) (args : Array Value) (below : List Frame) (meth : Method) (c : Code) (Q : State → Prop) (A : Nat → Prop) (dC : Nat → ClassId) (dI : Nat → Nat → Nat) (a : Nat → Nat) (ac : Nat → ClassId) (g : (St × (St) × (St × (St × (St))) × (St) × (St)) → Option (Int32 × (St × (St) × (St × (St × (St))) × (St) × (St)))) (r : Int32 × (St × (St) × (St × (St × (St))) × (St) × (St))) : Prop := ∀ (s0 : St × (St) × (St × (St × (St))) × (St) × (St)) (H : Heap) (locs : List Loc) (ls : Array Slot), g s0 = some r → va_P (dC, dI) vwCl (dw_X19 a ac s0) H → va_D A (dw_X19 a ac s0) → va_S A s.heap H locs → lv_has ls 3 [] → W p l e (headSpec ow_dm_X19_hasByte ({ frames := 2, cells := 0, slots := 0, locals := 46 })).room s m args below meth c H locs 0 0 Q (F0 m 26 ls [])
def dj_X19_hasByte_0 (p : Program) (l : Launch) (e : Env) (s : State) (m : MethodId) (args : Array Value) (below : List Frame) (meth : Method) (c : Code) (Q : State → Prop) (A : Nat → Prop) (dC : Nat → ClassId) (dI : Nat → Nat → Nat) (a : Nat → Nat) (ac : Nat → ClassId) (g : Int32 → Int32 → (St × (St) × (St × (St × (St))) × (St) × (St)) → Option (Int32 × (St × (St) × (St × (St × (St))) × (St) × (St)))) (r : Int32 × (St × (St) × (St × (St × (St))) × (St) × (St))) : Prop := ∀ (v0 : Int32) (v1 : Int32) (s0 : St × (St) × (St × (St × (St))) × (St) × (St)) (H : Heap) (locs : List Loc) (ls : Array Slot), g v0 v1 s0 = some r → va_P (dC, dI) vwCl (dw_X19 a ac s0) H → va_D A (dw_X19 a ac s0) → va_S A s.heap H locs → lv_has ls 3 [(0, .ref (a 0)), (1, .int v0), (2, .int v1)] → W p l e (headSpec ow_dm_X19_hasByte ({ frames := 2, cells := 0, slots := 0, locals := 46 })).room s m args below meth c H locs 0 0 Q (F0 m 0 ls [])
set_option maxHeartbeats 40000000 in
set_option maxRecDepth 100000 in
theorem db_X19_hasByte_27 {p : Program} {l : Launch} {e : Env} {s : State} {m : MethodId} {args : Array Value} {below : List Frame} {meth : Method} {c : Code} {Q : State → Prop} {A : Nat → Prop} {dC : Nat → ClassId} {dI : Nat → Nat → Nat} {a : Nat → Nat} {ac : Nat → ClassId} {n : Nat} {r : Int32 × (St × (St) × (St × (St × (St))) × (St) × (St))} (C : nd_C p l s m args c A (dC, dI) cX19_hasByte 3 RX19 ow_dm_X19_hasByte (dk_X19 ac)) (K : nd_Ki p l e (headSpec ow_dm_X19_hasByte ({ frames := 2, cells := 0, slots := 0, locals := 46 })).room s m args below meth c Q A (dC, dI) cX19_hasByte .boolean (St × (St) × (St × (St × (St))) × (St) × (St)) (dw_X19 a ac) r) : dj_X19_hasByte_27 p l e s m args below meth c Q A dC dI a ac (df_X19_hasByte_27 n) r := by
  obtain ⟨hlt, hx, hb, hml, hown, hts, hN, hA, hK⟩ := id C
  intro y0 s0 H locs ls h hP hD hS hl
  unfold df_X19_hasByte_27 at h
  obtain ⟨n5, h⟩ := nd_z_e ⟨_, rfl⟩ h
  exact K _ _ _ _ _ _ dX19_hasByte_27 n5 (Option.some.inj h).symm hP hD hS
set_option maxHeartbeats 40000000 in
set_option maxRecDepth 100000 in
theorem db_X19_hasByte_26 {p : Program} {l : Launch} {e : Env} {s : State} {m : MethodId} {args : Array Value} {below : List Frame} {meth : Method} {c : Code} {Q : State → Prop} {A : Nat → Prop} {dC : Nat → ClassId} {dI : Nat → Nat → Nat} {a : Nat → Nat} {ac : Nat → ClassId} {n : Nat} {r : Int32 × (St × (St) × (St × (St × (St))) × (St) × (St))} (C : nd_C p l s m args c A (dC, dI) cX19_hasByte 3 RX19 ow_dm_X19_hasByte (dk_X19 ac)) (K : nd_Ki p l e (headSpec ow_dm_X19_hasByte ({ frames := 2, cells := 0, slots := 0, locals := 46 })).room s m args below meth c Q A (dC, dI) cX19_hasByte .boolean (St × (St) × (St × (St × (St))) × (St) × (St)) (dw_X19 a ac) r) : dj_X19_hasByte_26 p l e s m args below meth c Q A dC dI a ac (df_X19_hasByte_26 n) r := by
  obtain ⟨hlt, hx, hb, hml, hown, hts, hN, hA, hK⟩ := id C
  intro s0 H locs ls h hP hD hS hl
  unfold df_X19_hasByte_26 at h
  refine lv_iconst (v := 0) hx hb dX19_hasByte_26 (by decide) ?_
  exact (db_X19_hasByte_27 C K) (0) s0 _ _ _ h hP hD hS (lv_sub hl [] rfl)
set_option maxHeartbeats 40000000 in
set_option maxRecDepth 100000 in
theorem db_X19_hasByte_0 {p : Program} {l : Launch} {e : Env} {s : State} {m : MethodId} {args : Array Value} {below : List Frame} {meth : Method} {c : Code} {Q : State → Prop} {A : Nat → Prop} {dC : Nat → ClassId} {dI : Nat → Nat → Nat} {a : Nat → Nat} {ac : Nat → ClassId} {n : Nat} {r : Int32 × (St × (St) × (St × (St × (St))) × (St) × (St))} (C : nd_C p l s m args c A (dC, dI) cX19_hasByte 3 RX19 ow_dm_X19_hasByte (dk_X19 ac)) (K : nd_Ki p l e (headSpec ow_dm_X19_hasByte ({ frames := 2, cells := 0, slots := 0, locals := 46 })).room s m args below meth c Q A (dC, dI) cX19_hasByte .boolean (St × (St) × (St × (St × (St))) × (St) × (St)) (dw_X19 a ac) r) : dj_X19_hasByte_0 p l e s m args below meth c Q A dC dI a ac (df_X19_hasByte_0 n) r := by
  obtain ⟨hlt, hx, hb, hml, hown, hts, hN, hA, hK⟩ := id C
  intro v0 v1 s0 H locs ls h hP hD hS hl
  unfold df_X19_hasByte_0 at h
  refine lv_aload_n hx hb dX19_hasByte_0 rfl (lv_at hl 0 rfl) ?_
  refine lv_iload_n hx hb dX19_hasByte_1 rfl (lv_at hl 1 rfl) ?_
  obtain ⟨q1, s2, hq, h⟩ := nd_b2_e h
  have hPc := hP
  have hDc := hD
  have hKc := hK
  have hFc := nd_rs hD hS hA
  refine nd_cVi (As := [.int v0]) (rest := []) (q := q1) (w' := dw_X19 a ac s2) ⟨hx, hb, hml, hown, hts⟩ (fun sz => dm_X19_isProgram l hlt dC dI a ac n (v0) s0 hq sz) (cwV 1 hts gi_dm_X19_hasByte_0 rfl rfl rfl (by decide +kernel) ⟨Nat.le_of_ble_eq_true rfl, Nat.le_of_ble_eq_true rfl⟩) hPc hDc hKc hS hA hN (va_recv hKc hPc (ci := 20) (q0 := 0) rfl rfl) rfl hl.1 rfl (Nat.le_of_ble_eq_true rfl) dX19_hasByte_2 (fun H locs hP1 hD1 hk1 hS => ?_)
  have hP := hP1
  have hD := hD1.weaken (fun k q _ h => hFc q.1 h)
  refine lv_if_eq (tgt := 26) hx hb dX19_hasByte_5 (by decide) (fun c4 => ?_) (fun c4 => ?_)
  · have h := nd_pos h c4
    exact (db_X19_hasByte_26 C K)  s2 _ _ _ h hP hD hS (lv_sub hl [] rfl)
  · have h := nd_neg h c4
    refine lv_iload_n hx hb dX19_hasByte_8 rfl (lv_at hl 2 rfl) ?_
    refine lv_if_lt (tgt := 26) hx hb dX19_hasByte_9 (by decide) (fun c6 => ?_) (fun c6 => ?_)
    · have h := nd_pos h c6
      exact (db_X19_hasByte_26 C K)  s2 _ _ _ h hP hD hS (lv_sub hl [] rfl)
    · have h := nd_neg h c6
      refine lv_iload_n hx hb dX19_hasByte_12 rfl (lv_at hl 2 rfl) ?_
      refine lv_aload_n hx hb dX19_hasByte_13 rfl (lv_at hl 0 rfl) ?_
      refine va_get (D := (dC, dI)) (ci := 20) (v := .ref (a 4)) (C := RX19) (T := TX19) (N := 36) hx hb hts hi_dm_X19_hasByte_X19 hown hK hP 0 rfl rfl 7 (by decide) (hts (.fieldLink RX19 24 "TimeMachineModel" "ends" "[I") (List.mem_of_getElem? (i := 5) rfl)) (fun _ h9 => h9) rfl dX19_hasByte_14 ?_
      refine lv_iload_n hx hb dX19_hasByte_17 rfl (lv_at hl 1 rfl) ?_
      obtain ⟨i7, h⟩ := nd_ck_e h
      refine va_iald (i := v0) hx hb hK hP 4 3 rfl rfl i7 dX19_hasByte_18 ?_
      refine lv_icmp_ge (tgt := 26) hx hb dX19_hasByte_19 (by decide) (fun c8 => ?_) (fun c8 => ?_)
      · have h := nd_pos h c8
        exact (db_X19_hasByte_26 C K)  s2 _ _ _ h hP hD hS (lv_sub hl [] rfl)
      · have h := nd_neg h c8
        refine lv_iconst (v := 1) hx hb dX19_hasByte_22 (by decide) ?_
        refine lv_goto (tgt := 27) hx hb dX19_hasByte_23 (by decide) ?_
        exact (db_X19_hasByte_27 C K) (1) s2 _ _ _ h hP hD hS (lv_sub hl [] rfl)
set_option maxHeartbeats 40000000 in
set_option maxRecDepth 100000 in
theorem dm_X19_hasByte (l : Launch) (hlt : l.stackTraces = false) (dC : Nat → ClassId) (dI : Nat → Nat → Nat) (a : Nat → Nat) (ac : Nat → ClassId) (n : Nat) (v0 : Int32) (v1 : Int32) (s0 : St × (St) × (St × (St × (St))) × (St) × (St)) {r : Int32 × (St × (St) × (St × (St × (St))) × (St) × (St))} (h : df_X19_hasByte n v0 v1 s0 = some r) (sz : Nat) : Met l yX19_hasByte ow_dm_X19_hasByte ({ frames := 2, cells := 0, slots := 0, locals := 46 }) (va_Pc [.ref (a 0), .int v0, .int v1] (fun U => U.heap.size = sz ∧ va_P (dC, dI) vwCl (dw_X19 a ac s0) U.heap ∧ va_K (dC, dI) vwCl (dk_X19 ac) U ∧ va_D (fun _ => True) (dw_X19 a ac s0) ∧ nv_E dI (va_A (dw_X19 a ac s0) sz) U)) (va_Qi (fun x _ => x = r.1) (fun (_ : Unit) t => va_P (dC, dI) vwCl (dw_X19 a ac r.2) t.heap ∧ va_K (dC, dI) vwCl (dk_X19 ac) t ∧ va_D (va_A (dw_X19 a ac s0) sz) (dw_X19 a ac r.2)) (va_A (dw_X19 a ac s0) sz)) 0 0 (va_A (dw_X19 a ac s0) sz) := by
  refine Met.ofW (cc := cX19_hasByte) (maxL := 3) (ret := (some .boolean)) (by decide) rfl ?_
  intro p e s m args below meth c s₁ B hml hv
  obtain ⟨rfl, hsz, hP, hK, hD0, hN⟩ := hv
  have hx := B.exec
  have hb := B.bytes
  have hr := B.returns
  have hts := atoms_spec (ws := ow_dm_X19_hasByte) B.pre
  have hown : s.vm.findClass RX19 = some m.cls := findClass_of_methodNamed B.named
  have hlocks := B.notSynchronized
  subst hsz
  have hD := hD0.self (sz := s.heap.size)
  generalize hAe : va_A (dw_X19 a ac s0) s.heap.size = A at hD hN ⊢
  have hA : ∀ q : Nat, s.heap.size ≤ q → A q := fun q h => by rw [← hAe]; exact Or.inr h
  have hl := lv_entry ([.ref (a 0), .int v0, .int v1]) (n := 3) (Nat.le_of_ble_eq_true rfl)
  rw [lg_entry_eq]
  generalize (lg_sl ([.ref (a 0), .int v0, .int v1]) ++ List.replicate (3 - (lg_sl ([.ref (a 0), .int v0, .int v1])).length) Slot.unset).toArray = ls at hl ⊢
  have hl : lv_has ls 3 [(0, .ref (a 0)), (1, .int v0), (2, .int v1)] := hl
  exact db_X19_hasByte_0 (dC := dC) (dI := dI) (a := a) (ac := ac) (n := n) (r := r) ⟨hlt, hx, hb, hml, hown, hts, hN, hA, hK⟩ (fun pc v τ H locs ls d z er hP hD hS => by subst er; exact W.zret (v := v) hx hb hr z (fun t ht hW => ⟨⟨v, (), rfl, rfl, by rw [ht]; exact hP, va_K.moved hW.alike hK, hD⟩, hS.F ht⟩) hS.2.2 d) v0 v1 s0 _ _ _ h hP hD va_S.rf (lv_sub hl [0, 1, 2] rfl)
def ow_dm_X19_image : List Cond := Cond.code yX19_image cX19_image 3 (some .int) :: ([Cond.fieldLink RX19 113 "TimeMachineModel" "code" "I", Cond.methodLink RX19 175 yX19_hasByte, Cond.instanceMethod yX19_hasByte, Cond.selects RX19 yX19_hasByte yX19_hasByte, Cond.initialized RX19, Cond.fieldLink RX19 31 "TimeMachineModel" "images" "[I", Cond.constant RX19 9 (32768)] ++ (u_ws RX19 TX19 36 ++ (ow_dm_X19_hasByte ++ [])))
theorem gd_dm_X19_image : ∀ w ∈ ow_dm_X19_image, (w.onTables && w.keeps) = true ∨ ∃ ty, w = Cond.arrayClass ty := List.forall_mem_cons.mpr ⟨good_of_word rfl, List.forall_mem_append.mpr ⟨fun w h => good_of_word (List.all_eq_true.mp (by decide +kernel) w h), List.forall_mem_append.mpr ⟨gu_X19, List.forall_mem_append.mpr ⟨gd_dm_X19_hasByte, fun _ h => nomatch h⟩⟩⟩⟩
theorem hi_dm_X19_image_X19 : ∀ w ∈ u_ws RX19 TX19 36, w ∈ ow_dm_X19_image := fun w h => List.mem_cons_of_mem _ (List.mem_append_right _ (List.mem_append_left _ h))
theorem gi_dm_X19_image_0 : GoodIn ow_dm_X19_image (wsV RX19 175 RX19 yX19_hasByte ow_dm_X19_hasByte) := goodIn_app (goodIn_of _ (by decide +kernel)) (fun w h => ⟨List.mem_cons_of_mem _ (List.mem_append_right _ (List.mem_append_right _ (List.mem_append_left _ h))), gd_dm_X19_hasByte w h⟩)
def dj_X19_image_33 (p : Program) (l : Launch) (e : Env) (s : State) (m : MethodId) (args : Array Value) (below : List Frame) (meth : Method) (c : Code) (Q : State → Prop) (A : Nat → Prop) (dC : Nat → ClassId) (dI : Nat → Nat → Nat) (a : Nat → Nat) (ac : Nat → ClassId) (g : Int32 → (St × (St) × (St × (St × (St))) × (St) × (St)) → Option (Int32 × (St × (St) × (St × (St × (St))) × (St) × (St)))) (r : Int32 × (St × (St) × (St × (St × (St))) × (St) × (St))) : Prop := ∀ (y0 : Int32) (s0 : St × (St) × (St × (St × (St))) × (St) × (St)) (H : Heap) (locs : List Loc) (ls : Array Slot), g y0 s0 = some r → va_P (dC, dI) vwCl (dw_X19 a ac s0) H → va_D A (dw_X19 a ac s0) → va_S A s.heap H locs → lv_has ls 3 [] → W p l e (headSpec ow_dm_X19_image ({ frames := 3, cells := 0, slots := 0, locals := 68 })).room s m args below meth c H locs 0 0 Q (F0 m 33 ls [.int y0])
def dj_X19_image_0 (p : Program) (l : Launch) (e : Env) (s : State) (m : MethodId) (args : Array Value) (below : List Frame) (meth : Method) (c : Code) (Q : State → Prop) (A : Nat → Prop) (dC : Nat → ClassId) (dI : Nat → Nat → Nat) (a : Nat → Nat) (ac : Nat → ClassId) (g : Int32 → Int32 → (St × (St) × (St × (St × (St))) × (St) × (St)) → Option (Int32 × (St × (St) × (St × (St × (St))) × (St) × (St)))) (r : Int32 × (St × (St) × (St × (St × (St))) × (St) × (St))) : Prop := ∀ (v0 : Int32) (v1 : Int32) (s0 : St × (St) × (St × (St × (St))) × (St) × (St)) (H : Heap) (locs : List Loc) (ls : Array Slot), g v0 v1 s0 = some r → va_P (dC, dI) vwCl (dw_X19 a ac s0) H → va_D A (dw_X19 a ac s0) → va_S A s.heap H locs → lv_has ls 3 [(0, .ref (a 0)), (1, .int v0), (2, .int v1)] → W p l e (headSpec ow_dm_X19_image ({ frames := 3, cells := 0, slots := 0, locals := 68 })).room s m args below meth c H locs 0 0 Q (F0 m 0 ls [])
set_option maxHeartbeats 40000000 in
set_option maxRecDepth 100000 in
theorem db_X19_image_33 {p : Program} {l : Launch} {e : Env} {s : State} {m : MethodId} {args : Array Value} {below : List Frame} {meth : Method} {c : Code} {Q : State → Prop} {A : Nat → Prop} {dC : Nat → ClassId} {dI : Nat → Nat → Nat} {a : Nat → Nat} {ac : Nat → ClassId} {n : Nat} {r : Int32 × (St × (St) × (St × (St × (St))) × (St) × (St))} (C : nd_C p l s m args c A (dC, dI) cX19_image 3 RX19 ow_dm_X19_image (dk_X19 ac)) (K : nd_Ki p l e (headSpec ow_dm_X19_image ({ frames := 3, cells := 0, slots := 0, locals := 68 })).room s m args below meth c Q A (dC, dI) cX19_image .int (St × (St) × (St × (St × (St))) × (St) × (St)) (dw_X19 a ac) r) : dj_X19_image_33 p l e s m args below meth c Q A dC dI a ac (df_X19_image_33 n) r := by
  obtain ⟨hlt, hx, hb, hml, hown, hts, hN, hA, hK⟩ := id C
  intro y0 s0 H locs ls h hP hD hS hl
  unfold df_X19_image_33 at h
  exact K _ _ _ _ _ _ dX19_image_33 rfl (Option.some.inj h).symm hP hD hS
set_option maxHeartbeats 40000000 in
set_option maxRecDepth 100000 in
theorem db_X19_image_0 {p : Program} {l : Launch} {e : Env} {s : State} {m : MethodId} {args : Array Value} {below : List Frame} {meth : Method} {c : Code} {Q : State → Prop} {A : Nat → Prop} {dC : Nat → ClassId} {dI : Nat → Nat → Nat} {a : Nat → Nat} {ac : Nat → ClassId} {n : Nat} {r : Int32 × (St × (St) × (St × (St × (St))) × (St) × (St))} (C : nd_C p l s m args c A (dC, dI) cX19_image 3 RX19 ow_dm_X19_image (dk_X19 ac)) (K : nd_Ki p l e (headSpec ow_dm_X19_image ({ frames := 3, cells := 0, slots := 0, locals := 68 })).room s m args below meth c Q A (dC, dI) cX19_image .int (St × (St) × (St × (St × (St))) × (St) × (St)) (dw_X19 a ac) r) : dj_X19_image_0 p l e s m args below meth c Q A dC dI a ac (df_X19_image_0 n) r := by
  obtain ⟨hlt, hx, hb, hml, hown, hts, hN, hA, hK⟩ := id C
  intro v0 v1 s0 H locs ls h hP hD hS hl
  unfold df_X19_image_0 at h
  refine lv_aload_n hx hb dX19_image_0 rfl (lv_at hl 0 rfl) ?_
  refine lv_iconst (v := 0) hx hb dX19_image_1 (by decide) ?_
  refine va_put (D := (dC, dI)) (ci := 20) (v := .int 0) (ty := .int) (C := RX19) (T := TX19) (N := 36) hx hb hts hi_dm_X19_image_X19 tyX19 tyX19_ok nmX19 hown hK hP hD hS 0 rfl rfl 0 (by decide) (hts (.fieldLink RX19 113 "TimeMachineModel" "code" "I") (List.mem_of_getElem? (i := 1) rfl)) (fun _ h9 => h9) rfl (by decide +kernel) rfl rfl (Nat.le_of_ble_eq_true rfl) dX19_image_2 (fun H locs hP hD hS => ?_)
  obtain ⟨s1, es1, h⟩ := nd_let_e h
  have hP : va_P (dC, dI) vwCl (dw_X19 a ac s1) H := by rw [es1]; exact hP
  have hD : va_D A (dw_X19 a ac s1) := by rw [es1]; exact hD
  refine lv_aload_n hx hb dX19_image_5 rfl (lv_at hl 0 rfl) ?_
  refine lv_iload_n hx hb dX19_image_6 rfl (lv_at hl 1 rfl) ?_
  refine lv_iload_n hx hb dX19_image_7 rfl (lv_at hl 2 rfl) ?_
  obtain ⟨q2, s3, hq, h⟩ := nd_b2_e h
  have hPc := hP
  have hDc := hD
  have hKc := hK
  have hFc := nd_rs hD hS hA
  refine nd_cVi (As := [.int v0, .int v1]) (rest := []) (q := q2) (w' := dw_X19 a ac s3) ⟨hx, hb, hml, hown, hts⟩ (fun sz => dm_X19_hasByte l hlt dC dI a ac n (v0) (v1) s1 hq sz) (cwV 2 hts gi_dm_X19_image_0 rfl rfl rfl (by decide +kernel) ⟨Nat.le_of_ble_eq_true rfl, Nat.le_of_ble_eq_true rfl⟩) hPc hDc hKc hS hA hN (va_recv hKc hPc (ci := 20) (q0 := 0) rfl rfl) rfl hl.1 rfl (Nat.le_of_ble_eq_true rfl) dX19_image_8 (fun H locs hP1 hD1 hk1 hS => ?_)
  have hP := hP1
  have hD := hD1.weaken (fun k q _ h => hFc q.1 h)
  refine lv_if_eq (tgt := 32) hx hb dX19_image_11 (by decide) (fun c5 => ?_) (fun c5 => ?_)
  · have h := nd_pos h c5
    refine lv_iconst (v := (-1)) hx hb dX19_image_32 (by decide) ?_
    exact (db_X19_image_33 C K) ((-1)) s3 _ _ _ h hP hD hS (lv_sub hl [] rfl)
  · have h := nd_neg h c5
    refine lv_aload_n hx hb dX19_image_14 rfl (lv_at hl 0 rfl) ?_
    refine va_get (D := (dC, dI)) (ci := 20) (v := .ref (a 26)) (C := RX19) (T := TX19) (N := 36) hx hb hts hi_dm_X19_image_X19 hown hK hP 0 rfl rfl 9 (by decide) (hts (.fieldLink RX19 31 "TimeMachineModel" "images" "[I") (List.mem_of_getElem? (i := 6) rfl)) (fun _ h9 => h9) rfl dX19_image_15 ?_
    refine lv_ldc hx hb hown (hts (.constant RX19 9 (32768)) (List.mem_of_getElem? (i := 7) rfl)) dX19_image_18 ?_
    refine lv_iload_n hx hb dX19_image_20 rfl (lv_at hl 1 rfl) ?_
    refine lv_imul hx hb dX19_image_21 ?_
    refine lv_iload_n hx hb dX19_image_22 rfl (lv_at hl 2 rfl) ?_
    refine lv_iadd hx hb dX19_image_23 ?_
    obtain ⟨i6, h⟩ := nd_ck_e h
    refine va_iald (i := ((32768 * v0) + v1)) hx hb hK hP 26 24 rfl rfl i6 dX19_image_24 ?_
    refine lv_sipush (v := 255) hx hb dX19_image_25 (by decide) ?_
    refine lv_iand hx hb dX19_image_28 ?_
    refine lv_goto (tgt := 33) hx hb dX19_image_29 (by decide) ?_
    exact (db_X19_image_33 C K) (((sR s3.2.1 9 (Int32.toNatClampNeg ((32768 * v0) + v1))) &&& 255)) s3 _ _ _ h hP hD hS (lv_sub hl [] rfl)
set_option maxHeartbeats 40000000 in
set_option maxRecDepth 100000 in
theorem dm_X19_image (l : Launch) (hlt : l.stackTraces = false) (dC : Nat → ClassId) (dI : Nat → Nat → Nat) (a : Nat → Nat) (ac : Nat → ClassId) (n : Nat) (v0 : Int32) (v1 : Int32) (s0 : St × (St) × (St × (St × (St))) × (St) × (St)) {r : Int32 × (St × (St) × (St × (St × (St))) × (St) × (St))} (h : df_X19_image n v0 v1 s0 = some r) (sz : Nat) : Met l yX19_image ow_dm_X19_image ({ frames := 3, cells := 0, slots := 0, locals := 68 }) (va_Pc [.ref (a 0), .int v0, .int v1] (fun U => U.heap.size = sz ∧ va_P (dC, dI) vwCl (dw_X19 a ac s0) U.heap ∧ va_K (dC, dI) vwCl (dk_X19 ac) U ∧ va_D (fun _ => True) (dw_X19 a ac s0) ∧ nv_E dI (va_A (dw_X19 a ac s0) sz) U)) (va_Qi (fun x _ => x = r.1) (fun (_ : Unit) t => va_P (dC, dI) vwCl (dw_X19 a ac r.2) t.heap ∧ va_K (dC, dI) vwCl (dk_X19 ac) t ∧ va_D (va_A (dw_X19 a ac s0) sz) (dw_X19 a ac r.2)) (va_A (dw_X19 a ac s0) sz)) 0 0 (va_A (dw_X19 a ac s0) sz) := by
  refine Met.ofW (cc := cX19_image) (maxL := 3) (ret := (some .int)) (by decide) rfl ?_
  intro p e s m args below meth c s₁ B hml hv
  obtain ⟨rfl, hsz, hP, hK, hD0, hN⟩ := hv
  have hx := B.exec
  have hb := B.bytes
  have hr := B.returns
  have hts := atoms_spec (ws := ow_dm_X19_image) B.pre
  have hown : s.vm.findClass RX19 = some m.cls := findClass_of_methodNamed B.named
  have hlocks := B.notSynchronized
  subst hsz
  have hD := hD0.self (sz := s.heap.size)
  generalize hAe : va_A (dw_X19 a ac s0) s.heap.size = A at hD hN ⊢
  have hA : ∀ q : Nat, s.heap.size ≤ q → A q := fun q h => by rw [← hAe]; exact Or.inr h
  have hl := lv_entry ([.ref (a 0), .int v0, .int v1]) (n := 3) (Nat.le_of_ble_eq_true rfl)
  rw [lg_entry_eq]
  generalize (lg_sl ([.ref (a 0), .int v0, .int v1]) ++ List.replicate (3 - (lg_sl ([.ref (a 0), .int v0, .int v1])).length) Slot.unset).toArray = ls at hl ⊢
  have hl : lv_has ls 3 [(0, .ref (a 0)), (1, .int v0), (2, .int v1)] := hl
  exact db_X19_image_0 (dC := dC) (dI := dI) (a := a) (ac := ac) (n := n) (r := r) ⟨hlt, hx, hb, hml, hown, hts, hN, hA, hK⟩ (fun pc v τ H locs ls d z er hP hD hS => by subst er; exact W.zret (v := v) hx hb hr z (fun t ht hW => ⟨⟨v, (), rfl, rfl, by rw [ht]; exact hP, va_K.moved hW.alike hK, hD⟩, hS.F ht⟩) hS.2.2 d) v0 v1 s0 _ _ _ h hP hD va_S.rf (lv_sub hl [0, 1, 2] rfl)
def ow_dm_X19_line : List Cond := Cond.code yX19_line cX19_line 3 (some .int) :: ([Cond.fieldLink RX19 113 "TimeMachineModel" "code" "I", Cond.methodLink RX19 175 yX19_hasByte, Cond.instanceMethod yX19_hasByte, Cond.selects RX19 yX19_hasByte yX19_hasByte, Cond.initialized RX19, Cond.fieldLink RX19 31 "TimeMachineModel" "images" "[I", Cond.constant RX19 9 (32768)] ++ (u_ws RX19 TX19 36 ++ (ow_dm_X19_hasByte ++ [])))
theorem gd_dm_X19_line : ∀ w ∈ ow_dm_X19_line, (w.onTables && w.keeps) = true ∨ ∃ ty, w = Cond.arrayClass ty := List.forall_mem_cons.mpr ⟨good_of_word rfl, List.forall_mem_append.mpr ⟨fun w h => good_of_word (List.all_eq_true.mp (by decide +kernel) w h), List.forall_mem_append.mpr ⟨gu_X19, List.forall_mem_append.mpr ⟨gd_dm_X19_hasByte, fun _ h => nomatch h⟩⟩⟩⟩
theorem hi_dm_X19_line_X19 : ∀ w ∈ u_ws RX19 TX19 36, w ∈ ow_dm_X19_line := fun w h => List.mem_cons_of_mem _ (List.mem_append_right _ (List.mem_append_left _ h))
theorem gi_dm_X19_line_0 : GoodIn ow_dm_X19_line (wsV RX19 175 RX19 yX19_hasByte ow_dm_X19_hasByte) := goodIn_app (goodIn_of _ (by decide +kernel)) (fun w h => ⟨List.mem_cons_of_mem _ (List.mem_append_right _ (List.mem_append_right _ (List.mem_append_left _ h))), gd_dm_X19_hasByte w h⟩)
def dj_X19_line_32 (p : Program) (l : Launch) (e : Env) (s : State) (m : MethodId) (args : Array Value) (below : List Frame) (meth : Method) (c : Code) (Q : State → Prop) (A : Nat → Prop) (dC : Nat → ClassId) (dI : Nat → Nat → Nat) (a : Nat → Nat) (ac : Nat → ClassId) (g : Int32 → (St × (St) × (St × (St × (St))) × (St) × (St)) → Option (Int32 × (St × (St) × (St × (St × (St))) × (St) × (St)))) (r : Int32 × (St × (St) × (St × (St × (St))) × (St) × (St))) : Prop := ∀ (y0 : Int32) (s0 : St × (St) × (St × (St × (St))) × (St) × (St)) (H : Heap) (locs : List Loc) (ls : Array Slot), g y0 s0 = some r → va_P (dC, dI) vwCl (dw_X19 a ac s0) H → va_D A (dw_X19 a ac s0) → va_S A s.heap H locs → lv_has ls 3 [] → W p l e (headSpec ow_dm_X19_line ({ frames := 3, cells := 0, slots := 0, locals := 68 })).room s m args below meth c H locs 0 0 Q (F0 m 32 ls [.int y0])
def dj_X19_line_0 (p : Program) (l : Launch) (e : Env) (s : State) (m : MethodId) (args : Array Value) (below : List Frame) (meth : Method) (c : Code) (Q : State → Prop) (A : Nat → Prop) (dC : Nat → ClassId) (dI : Nat → Nat → Nat) (a : Nat → Nat) (ac : Nat → ClassId) (g : Int32 → Int32 → (St × (St) × (St × (St × (St))) × (St) × (St)) → Option (Int32 × (St × (St) × (St × (St × (St))) × (St) × (St)))) (r : Int32 × (St × (St) × (St × (St × (St))) × (St) × (St))) : Prop := ∀ (v0 : Int32) (v1 : Int32) (s0 : St × (St) × (St × (St × (St))) × (St) × (St)) (H : Heap) (locs : List Loc) (ls : Array Slot), g v0 v1 s0 = some r → va_P (dC, dI) vwCl (dw_X19 a ac s0) H → va_D A (dw_X19 a ac s0) → va_S A s.heap H locs → lv_has ls 3 [(0, .ref (a 0)), (1, .int v0), (2, .int v1)] → W p l e (headSpec ow_dm_X19_line ({ frames := 3, cells := 0, slots := 0, locals := 68 })).room s m args below meth c H locs 0 0 Q (F0 m 0 ls [])
set_option maxHeartbeats 40000000 in
set_option maxRecDepth 100000 in
theorem db_X19_line_32 {p : Program} {l : Launch} {e : Env} {s : State} {m : MethodId} {args : Array Value} {below : List Frame} {meth : Method} {c : Code} {Q : State → Prop} {A : Nat → Prop} {dC : Nat → ClassId} {dI : Nat → Nat → Nat} {a : Nat → Nat} {ac : Nat → ClassId} {n : Nat} {r : Int32 × (St × (St) × (St × (St × (St))) × (St) × (St))} (C : nd_C p l s m args c A (dC, dI) cX19_line 3 RX19 ow_dm_X19_line (dk_X19 ac)) (K : nd_Ki p l e (headSpec ow_dm_X19_line ({ frames := 3, cells := 0, slots := 0, locals := 68 })).room s m args below meth c Q A (dC, dI) cX19_line .int (St × (St) × (St × (St × (St))) × (St) × (St)) (dw_X19 a ac) r) : dj_X19_line_32 p l e s m args below meth c Q A dC dI a ac (df_X19_line_32 n) r := by
  obtain ⟨hlt, hx, hb, hml, hown, hts, hN, hA, hK⟩ := id C
  intro y0 s0 H locs ls h hP hD hS hl
  unfold df_X19_line_32 at h
  exact K _ _ _ _ _ _ dX19_line_32 rfl (Option.some.inj h).symm hP hD hS
set_option maxHeartbeats 40000000 in
set_option maxRecDepth 100000 in
theorem db_X19_line_0 {p : Program} {l : Launch} {e : Env} {s : State} {m : MethodId} {args : Array Value} {below : List Frame} {meth : Method} {c : Code} {Q : State → Prop} {A : Nat → Prop} {dC : Nat → ClassId} {dI : Nat → Nat → Nat} {a : Nat → Nat} {ac : Nat → ClassId} {n : Nat} {r : Int32 × (St × (St) × (St × (St × (St))) × (St) × (St))} (C : nd_C p l s m args c A (dC, dI) cX19_line 3 RX19 ow_dm_X19_line (dk_X19 ac)) (K : nd_Ki p l e (headSpec ow_dm_X19_line ({ frames := 3, cells := 0, slots := 0, locals := 68 })).room s m args below meth c Q A (dC, dI) cX19_line .int (St × (St) × (St × (St × (St))) × (St) × (St)) (dw_X19 a ac) r) : dj_X19_line_0 p l e s m args below meth c Q A dC dI a ac (df_X19_line_0 n) r := by
  obtain ⟨hlt, hx, hb, hml, hown, hts, hN, hA, hK⟩ := id C
  intro v0 v1 s0 H locs ls h hP hD hS hl
  unfold df_X19_line_0 at h
  refine lv_aload_n hx hb dX19_line_0 rfl (lv_at hl 0 rfl) ?_
  refine lv_iconst (v := 0) hx hb dX19_line_1 (by decide) ?_
  refine va_put (D := (dC, dI)) (ci := 20) (v := .int 0) (ty := .int) (C := RX19) (T := TX19) (N := 36) hx hb hts hi_dm_X19_line_X19 tyX19 tyX19_ok nmX19 hown hK hP hD hS 0 rfl rfl 0 (by decide) (hts (.fieldLink RX19 113 "TimeMachineModel" "code" "I") (List.mem_of_getElem? (i := 1) rfl)) (fun _ h9 => h9) rfl (by decide +kernel) rfl rfl (Nat.le_of_ble_eq_true rfl) dX19_line_2 (fun H locs hP hD hS => ?_)
  obtain ⟨s1, es1, h⟩ := nd_let_e h
  have hP : va_P (dC, dI) vwCl (dw_X19 a ac s1) H := by rw [es1]; exact hP
  have hD : va_D A (dw_X19 a ac s1) := by rw [es1]; exact hD
  refine lv_aload_n hx hb dX19_line_5 rfl (lv_at hl 0 rfl) ?_
  refine lv_iload_n hx hb dX19_line_6 rfl (lv_at hl 1 rfl) ?_
  refine lv_iload_n hx hb dX19_line_7 rfl (lv_at hl 2 rfl) ?_
  obtain ⟨q2, s3, hq, h⟩ := nd_b2_e h
  have hPc := hP
  have hDc := hD
  have hKc := hK
  have hFc := nd_rs hD hS hA
  refine nd_cVi (As := [.int v0, .int v1]) (rest := []) (q := q2) (w' := dw_X19 a ac s3) ⟨hx, hb, hml, hown, hts⟩ (fun sz => dm_X19_hasByte l hlt dC dI a ac n (v0) (v1) s1 hq sz) (cwV 2 hts gi_dm_X19_line_0 rfl rfl rfl (by decide +kernel) ⟨Nat.le_of_ble_eq_true rfl, Nat.le_of_ble_eq_true rfl⟩) hPc hDc hKc hS hA hN (va_recv hKc hPc (ci := 20) (q0 := 0) rfl rfl) rfl hl.1 rfl (Nat.le_of_ble_eq_true rfl) dX19_line_8 (fun H locs hP1 hD1 hk1 hS => ?_)
  have hP := hP1
  have hD := hD1.weaken (fun k q _ h => hFc q.1 h)
  refine lv_if_eq (tgt := 31) hx hb dX19_line_11 (by decide) (fun c5 => ?_) (fun c5 => ?_)
  · have h := nd_pos h c5
    refine lv_iconst (v := 0) hx hb dX19_line_31 (by decide) ?_
    exact (db_X19_line_32 C K) (0) s3 _ _ _ h hP hD hS (lv_sub hl [] rfl)
  · have h := nd_neg h c5
    refine lv_aload_n hx hb dX19_line_14 rfl (lv_at hl 0 rfl) ?_
    refine va_get (D := (dC, dI)) (ci := 20) (v := .ref (a 26)) (C := RX19) (T := TX19) (N := 36) hx hb hts hi_dm_X19_line_X19 hown hK hP 0 rfl rfl 9 (by decide) (hts (.fieldLink RX19 31 "TimeMachineModel" "images" "[I") (List.mem_of_getElem? (i := 6) rfl)) (fun _ h9 => h9) rfl dX19_line_15 ?_
    refine lv_ldc hx hb hown (hts (.constant RX19 9 (32768)) (List.mem_of_getElem? (i := 7) rfl)) dX19_line_18 ?_
    refine lv_iload_n hx hb dX19_line_20 rfl (lv_at hl 1 rfl) ?_
    refine lv_imul hx hb dX19_line_21 ?_
    refine lv_iload_n hx hb dX19_line_22 rfl (lv_at hl 2 rfl) ?_
    refine lv_iadd hx hb dX19_line_23 ?_
    obtain ⟨i6, h⟩ := nd_ck_e h
    refine va_iald (i := ((32768 * v0) + v1)) hx hb hK hP 26 24 rfl rfl i6 dX19_line_24 ?_
    refine lv_bipush (v := 8) hx hb dX19_line_25 (by decide) ?_
    refine lv_ishr hx hb dX19_line_27 ?_
    refine lv_goto (tgt := 32) hx hb dX19_line_28 (by decide) ?_
    exact (db_X19_line_32 C K) ((((sR s3.2.1 9 (Int32.toNatClampNeg ((32768 * v0) + v1))) : Int32) >>> ((8 : Int32) &&& 31))) s3 _ _ _ h hP hD hS (lv_sub hl [] rfl)
set_option maxHeartbeats 40000000 in
set_option maxRecDepth 100000 in
theorem dm_X19_line (l : Launch) (hlt : l.stackTraces = false) (dC : Nat → ClassId) (dI : Nat → Nat → Nat) (a : Nat → Nat) (ac : Nat → ClassId) (n : Nat) (v0 : Int32) (v1 : Int32) (s0 : St × (St) × (St × (St × (St))) × (St) × (St)) {r : Int32 × (St × (St) × (St × (St × (St))) × (St) × (St))} (h : df_X19_line n v0 v1 s0 = some r) (sz : Nat) : Met l yX19_line ow_dm_X19_line ({ frames := 3, cells := 0, slots := 0, locals := 68 }) (va_Pc [.ref (a 0), .int v0, .int v1] (fun U => U.heap.size = sz ∧ va_P (dC, dI) vwCl (dw_X19 a ac s0) U.heap ∧ va_K (dC, dI) vwCl (dk_X19 ac) U ∧ va_D (fun _ => True) (dw_X19 a ac s0) ∧ nv_E dI (va_A (dw_X19 a ac s0) sz) U)) (va_Qi (fun x _ => x = r.1) (fun (_ : Unit) t => va_P (dC, dI) vwCl (dw_X19 a ac r.2) t.heap ∧ va_K (dC, dI) vwCl (dk_X19 ac) t ∧ va_D (va_A (dw_X19 a ac s0) sz) (dw_X19 a ac r.2)) (va_A (dw_X19 a ac s0) sz)) 0 0 (va_A (dw_X19 a ac s0) sz) := by
  refine Met.ofW (cc := cX19_line) (maxL := 3) (ret := (some .int)) (by decide) rfl ?_
  intro p e s m args below meth c s₁ B hml hv
  obtain ⟨rfl, hsz, hP, hK, hD0, hN⟩ := hv
  have hx := B.exec
  have hb := B.bytes
  have hr := B.returns
  have hts := atoms_spec (ws := ow_dm_X19_line) B.pre
  have hown : s.vm.findClass RX19 = some m.cls := findClass_of_methodNamed B.named
  have hlocks := B.notSynchronized
  subst hsz
  have hD := hD0.self (sz := s.heap.size)
  generalize hAe : va_A (dw_X19 a ac s0) s.heap.size = A at hD hN ⊢
  have hA : ∀ q : Nat, s.heap.size ≤ q → A q := fun q h => by rw [← hAe]; exact Or.inr h
  have hl := lv_entry ([.ref (a 0), .int v0, .int v1]) (n := 3) (Nat.le_of_ble_eq_true rfl)
  rw [lg_entry_eq]
  generalize (lg_sl ([.ref (a 0), .int v0, .int v1]) ++ List.replicate (3 - (lg_sl ([.ref (a 0), .int v0, .int v1])).length) Slot.unset).toArray = ls at hl ⊢
  have hl : lv_has ls 3 [(0, .ref (a 0)), (1, .int v0), (2, .int v1)] := hl
  exact db_X19_line_0 (dC := dC) (dI := dI) (a := a) (ac := ac) (n := n) (r := r) ⟨hlt, hx, hb, hml, hown, hts, hN, hA, hK⟩ (fun pc v τ H locs ls d z er hP hD hS => by subst er; exact W.zret (v := v) hx hb hr z (fun t ht hW => ⟨⟨v, (), rfl, rfl, by rw [ht]; exact hP, va_K.moved hW.alike hK, hD⟩, hS.F ht⟩) hS.2.2 d) v0 v1 s0 _ _ _ h hP hD va_S.rf (lv_sub hl [0, 1, 2] rfl)
def ow_dm_X19_takeRecorded : List Cond := Cond.code yX19_takeRecorded cX19_takeRecorded 1 none :: ([Cond.fieldLink RX19 186 "TimeMachineModel" "taken" "I", Cond.fieldLink RX19 192 "TimeMachineModel" "events" "I", Cond.fieldLink RX19 91 "TimeMachineModel" "when" "[I", Cond.fieldLink RX19 58 "TimeMachineModel" "m" "LTimeMachineModel$Machine;", Cond.methodLink RX19 195 yX16_now, Cond.instanceMethod yX16_now, Cond.selects RX16 yX16_now yX16_now, Cond.initialized RX16, Cond.fieldLink RX19 85 "TimeMachineModel" "kind" "[I", Cond.fieldLink RX19 100 "TimeMachineModel" "a" "[J", Cond.fieldLink RX19 88 "TimeMachineModel" "b" "[I", Cond.methodLink RX19 198 yX16_event, Cond.instanceMethod yX16_event, Cond.selects RX16 yX16_event yX16_event] ++ (u_ws RX19 TX19 36 ++ (ow_dm_X16_now ++ (ow_dm_X16_event ++ []))))
theorem gd_dm_X19_takeRecorded : ∀ w ∈ ow_dm_X19_takeRecorded, (w.onTables && w.keeps) = true ∨ ∃ ty, w = Cond.arrayClass ty := List.forall_mem_cons.mpr ⟨good_of_word rfl, List.forall_mem_append.mpr ⟨fun w h => good_of_word (List.all_eq_true.mp (by decide +kernel) w h), List.forall_mem_append.mpr ⟨gu_X19, List.forall_mem_append.mpr ⟨gd_dm_X16_now, List.forall_mem_append.mpr ⟨gd_dm_X16_event, fun _ h => nomatch h⟩⟩⟩⟩⟩
theorem hi_dm_X19_takeRecorded_X19 : ∀ w ∈ u_ws RX19 TX19 36, w ∈ ow_dm_X19_takeRecorded := fun w h => List.mem_cons_of_mem _ (List.mem_append_right _ (List.mem_append_left _ h))
theorem gi_dm_X19_takeRecorded_0 : GoodIn ow_dm_X19_takeRecorded (wsV RX19 195 RX16 yX16_now ow_dm_X16_now) := goodIn_app (goodIn_of _ (by decide +kernel)) (fun w h => ⟨List.mem_cons_of_mem _ (List.mem_append_right _ (List.mem_append_right _ (List.mem_append_left _ h))), gd_dm_X16_now w h⟩)
theorem gi_dm_X19_takeRecorded_1 : GoodIn ow_dm_X19_takeRecorded (wsV RX19 198 RX16 yX16_event ow_dm_X16_event) := goodIn_app (goodIn_of _ (by decide +kernel)) (fun w h => ⟨List.mem_cons_of_mem _ (List.mem_append_right _ (List.mem_append_right _ (List.mem_append_right _ (List.mem_append_left _ h)))), gd_dm_X16_event w h⟩)
def dj_X19_takeRecorded_78 (p : Program) (l : Launch) (e : Env) (s : State) (m : MethodId) (args : Array Value) (below : List Frame) (meth : Method) (c : Code) (Q : State → Prop) (A : Nat → Prop) (dC : Nat → ClassId) (dI : Nat → Nat → Nat) (a : Nat → Nat) (ac : Nat → ClassId) (g : (St × (St) × (St × (St × (St))) × (St) × (St)) → Option (St × (St) × (St × (St × (St))) × (St) × (St))) (r : St × (St) × (St × (St × (St))) × (St) × (St)) : Prop := ∀ (s0 : St × (St) × (St × (St × (St))) × (St) × (St)) (H : Heap) (locs : List Loc) (ls : Array Slot), g s0 = some r → va_P (dC, dI) vwCl (dw_X19 a ac s0) H → va_D A (dw_X19 a ac s0) → va_S A s.heap H locs → lv_has ls 1 [] → W p l e (headSpec ow_dm_X19_takeRecorded ({ frames := 5, cells := 0, slots := 0, locals := 119 })).room s m args below meth c H locs 0 0 Q (F0 m 78 ls [])
def dj_X19_takeRecorded_0 (p : Program) (l : Launch) (e : Env) (s : State) (m : MethodId) (args : Array Value) (below : List Frame) (meth : Method) (c : Code) (Q : State → Prop) (A : Nat → Prop) (dC : Nat → ClassId) (dI : Nat → Nat → Nat) (a : Nat → Nat) (ac : Nat → ClassId) (g : (St × (St) × (St × (St × (St))) × (St) × (St)) → Option (St × (St) × (St × (St × (St))) × (St) × (St))) (r : St × (St) × (St × (St × (St))) × (St) × (St)) : Prop := ∀ (s0 : St × (St) × (St × (St × (St))) × (St) × (St)) (H : Heap) (locs : List Loc) (ls : Array Slot), g s0 = some r → va_P (dC, dI) vwCl (dw_X19 a ac s0) H → va_D A (dw_X19 a ac s0) → va_S A s.heap H locs → lv_has ls 1 [(0, .ref (a 0))] → W p l e (headSpec ow_dm_X19_takeRecorded ({ frames := 5, cells := 0, slots := 0, locals := 119 })).room s m args below meth c H locs 0 0 Q (F0 m 0 ls [])
set_option maxHeartbeats 40000000 in
set_option maxRecDepth 100000 in
theorem db_X19_takeRecorded_78 {p : Program} {l : Launch} {e : Env} {s : State} {m : MethodId} {args : Array Value} {below : List Frame} {meth : Method} {c : Code} {Q : State → Prop} {A : Nat → Prop} {dC : Nat → ClassId} {dI : Nat → Nat → Nat} {a : Nat → Nat} {ac : Nat → ClassId} {n : Nat} {r : St × (St) × (St × (St × (St))) × (St) × (St)} (C : nd_C p l s m args c A (dC, dI) cX19_takeRecorded 1 RX19 ow_dm_X19_takeRecorded (dk_X19 ac)) (K : nd_Kv p l e (headSpec ow_dm_X19_takeRecorded ({ frames := 5, cells := 0, slots := 0, locals := 119 })).room s m args below meth c Q A (dC, dI) cX19_takeRecorded (St × (St) × (St × (St × (St))) × (St) × (St)) (dw_X19 a ac) r) : dj_X19_takeRecorded_78 p l e s m args below meth c Q A dC dI a ac (df_X19_takeRecorded_78 n) r := by
  obtain ⟨hlt, hx, hb, hml, hown, hts, hN, hA, hK⟩ := id C
  intro s0 H locs ls h hP hD hS hl
  unfold df_X19_takeRecorded_78 at h
  exact K _ _ _ _ _ dX19_takeRecorded_78 (Option.some.inj h).symm hP hD hS
set_option maxHeartbeats 40000000 in
set_option maxRecDepth 100000 in
theorem dB_X19_takeRecorded_0 {p : Program} {l : Launch} {e : Env} {s : State} {m : MethodId} {args : Array Value} {below : List Frame} {meth : Method} {c : Code} {Q : State → Prop} {A : Nat → Prop} {dC : Nat → ClassId} {dI : Nat → Nat → Nat} {a : Nat → Nat} {ac : Nat → ClassId} {n : Nat} {r : St × (St) × (St × (St × (St))) × (St) × (St)} (C : nd_C p l s m args c A (dC, dI) cX19_takeRecorded 1 RX19 ow_dm_X19_takeRecorded (dk_X19 ac)) (K : nd_Kv p l e (headSpec ow_dm_X19_takeRecorded ({ frames := 5, cells := 0, slots := 0, locals := 119 })).room s m args below meth c Q A (dC, dI) cX19_takeRecorded (St × (St) × (St × (St × (St))) × (St) × (St)) (dw_X19 a ac) r) {g0 : (St × (St) × (St × (St × (St))) × (St) × (St)) → Option (St × (St) × (St × (St × (St))) × (St) × (St))} (J0 : dj_X19_takeRecorded_0 p l e s m args below meth c Q A dC dI a ac g0 r) : dj_X19_takeRecorded_0 p l e s m args below meth c Q A dC dI a ac (dF_X19_takeRecorded_0 n g0) r := by
  obtain ⟨hlt, hx, hb, hml, hown, hts, hN, hA, hK⟩ := id C
  intro s0 H locs ls h hP hD hS hl
  unfold dF_X19_takeRecorded_0 at h
  refine lv_aload_n hx hb dX19_takeRecorded_0 rfl (lv_at hl 0 rfl) ?_
  refine va_get (D := (dC, dI)) (ci := 20) (v := .int (sI s0.1 10)) (C := RX19) (T := TX19) (N := 36) hx hb hts hi_dm_X19_takeRecorded_X19 hown hK hP 0 rfl rfl 24 (by decide) (hts (.fieldLink RX19 186 "TimeMachineModel" "taken" "I") (List.mem_of_getElem? (i := 1) rfl)) (fun _ h9 => h9) rfl dX19_takeRecorded_1 ?_
  refine lv_aload_n hx hb dX19_takeRecorded_4 rfl (lv_at hl 0 rfl) ?_
  refine va_get (D := (dC, dI)) (ci := 20) (v := .int (sI s0.1 8)) (C := RX19) (T := TX19) (N := 36) hx hb hts hi_dm_X19_takeRecorded_X19 hown hK hP 0 rfl rfl 22 (by decide) (hts (.fieldLink RX19 192 "TimeMachineModel" "events" "I") (List.mem_of_getElem? (i := 2) rfl)) (fun _ h9 => h9) rfl dX19_takeRecorded_5 ?_
  refine lv_icmp_ge (tgt := 78) hx hb dX19_takeRecorded_8 (by decide) (fun c1 => ?_) (fun c1 => ?_)
  · have h := nd_pos h c1
    exact (db_X19_takeRecorded_78 C K)  s0 _ _ _ h hP hD hS (lv_sub hl [] rfl)
  · have h := nd_neg h c1
    refine lv_aload_n hx hb dX19_takeRecorded_11 rfl (lv_at hl 0 rfl) ?_
    refine va_get (D := (dC, dI)) (ci := 20) (v := .ref (a 8)) (C := RX19) (T := TX19) (N := 36) hx hb hts hi_dm_X19_takeRecorded_X19 hown hK hP 0 rfl rfl 28 (by decide) (hts (.fieldLink RX19 91 "TimeMachineModel" "when" "[I") (List.mem_of_getElem? (i := 3) rfl)) (fun _ h9 => h9) rfl dX19_takeRecorded_12 ?_
    refine lv_aload_n hx hb dX19_takeRecorded_15 rfl (lv_at hl 0 rfl) ?_
    refine va_get (D := (dC, dI)) (ci := 20) (v := .int (sI s0.1 10)) (C := RX19) (T := TX19) (N := 36) hx hb hts hi_dm_X19_takeRecorded_X19 hown hK hP 0 rfl rfl 24 (by decide) (hts (.fieldLink RX19 186 "TimeMachineModel" "taken" "I") (List.mem_of_getElem? (i := 1) rfl)) (fun _ h9 => h9) rfl dX19_takeRecorded_16 ?_
    obtain ⟨i2, h⟩ := nd_ck_e h
    refine va_iald (i := (sI s0.1 10)) hx hb hK hP 8 7 rfl rfl i2 dX19_takeRecorded_19 ?_
    refine lv_aload_n hx hb dX19_takeRecorded_20 rfl (lv_at hl 0 rfl) ?_
    refine va_get (D := (dC, dI)) (ci := 20) (v := .ref (a 44)) (C := RX19) (T := TX19) (N := 36) hx hb hts hi_dm_X19_takeRecorded_X19 hown hK hP 0 rfl rfl 13 (by decide) (hts (.fieldLink RX19 58 "TimeMachineModel" "m" "LTimeMachineModel$Machine;") (List.mem_of_getElem? (i := 4) rfl)) (fun _ h9 => h9) rfl dX19_takeRecorded_21 ?_
    obtain ⟨q3, s4, hq, h⟩ := nd_b2_e h
    have hPc := dp_X19_44 hP
    have hDc := dd_X19_44 hD
    have hKc := dy_X19_44 hK
    have hFc := nd_rs hDc hS hA
    have hzA : ∀ q : Nat, H.size ≤ q → A q := fun q h => hA q (Nat.le_trans hS.1 h)
    refine nd_cVi (As := []) (rest := [.int (sR s0.1 7 (Int32.toNatClampNeg (sI s0.1 10)))]) (q := q3) (w' := dw_X16 (fun k => a (k + 44)) (fun k => ac (k + 44)) s4) ⟨hx, hb, hml, hown, hts⟩ (fun sz => dm_X16_now l hlt dC dI (fun k => a (k + 44)) (fun k => ac (k + 44)) n  s0.2.2.1.2 hq sz) (cwV 0 hts gi_dm_X19_takeRecorded_0 rfl rfl rfl (by decide +kernel) ⟨Nat.le_of_ble_eq_true rfl, Nat.le_of_ble_eq_true rfl⟩) hPc hDc hKc hS hA hN (va_recv hKc hPc (ci := 17) (q0 := 0) rfl rfl) rfl hl.1 rfl (Nat.le_of_ble_eq_true rfl) dX19_takeRecorded_24 (fun H locs hP1 hD1 hk1 hS => ?_)
    obtain ⟨hP, hD⟩ := dn_X19_44 hP hD hzA hk1 hP1 hD1
    obtain ⟨s6, es6, h⟩ := nd_let_e h
    have hP : va_P (dC, dI) vwCl (dw_X19 a ac s6) H := by rw [es6]; exact hP
    have hD : va_D A (dw_X19 a ac s6) := by rw [es6]; exact hD
    refine lv_icmp_ne (tgt := 78) hx hb dX19_takeRecorded_27 (by decide) (fun c7 => ?_) (fun c7 => ?_)
    · have h := nd_neg h c7
      exact (db_X19_takeRecorded_78 C K)  s6 _ _ _ h hP hD hS (lv_sub hl [] rfl)
    · have h := nd_pos h c7
      refine lv_aload_n hx hb dX19_takeRecorded_30 rfl (lv_at hl 0 rfl) ?_
      refine va_get (D := (dC, dI)) (ci := 20) (v := .ref (a 44)) (C := RX19) (T := TX19) (N := 36) hx hb hts hi_dm_X19_takeRecorded_X19 hown hK hP 0 rfl rfl 13 (by decide) (hts (.fieldLink RX19 58 "TimeMachineModel" "m" "LTimeMachineModel$Machine;") (List.mem_of_getElem? (i := 4) rfl)) (fun _ h9 => h9) rfl dX19_takeRecorded_31 ?_
      refine lv_aload_n hx hb dX19_takeRecorded_34 rfl (lv_at hl 0 rfl) ?_
      refine va_get (D := (dC, dI)) (ci := 20) (v := .ref (a 6)) (C := RX19) (T := TX19) (N := 36) hx hb hts hi_dm_X19_takeRecorded_X19 hown hK hP 0 rfl rfl 26 (by decide) (hts (.fieldLink RX19 85 "TimeMachineModel" "kind" "[I") (List.mem_of_getElem? (i := 9) rfl)) (fun _ h9 => h9) rfl dX19_takeRecorded_35 ?_
      refine lv_aload_n hx hb dX19_takeRecorded_38 rfl (lv_at hl 0 rfl) ?_
      refine va_get (D := (dC, dI)) (ci := 20) (v := .int (sI s6.1 10)) (C := RX19) (T := TX19) (N := 36) hx hb hts hi_dm_X19_takeRecorded_X19 hown hK hP 0 rfl rfl 24 (by decide) (hts (.fieldLink RX19 186 "TimeMachineModel" "taken" "I") (List.mem_of_getElem? (i := 1) rfl)) (fun _ h9 => h9) rfl dX19_takeRecorded_39 ?_
      obtain ⟨i8, h⟩ := nd_ck_e h
      refine va_iald (i := (sI s6.1 10)) hx hb hK hP 6 5 rfl rfl i8 dX19_takeRecorded_42 ?_
      refine lv_aload_n hx hb dX19_takeRecorded_43 rfl (lv_at hl 0 rfl) ?_
      refine va_get (D := (dC, dI)) (ci := 20) (v := .ref (a 11)) (C := RX19) (T := TX19) (N := 36) hx hb hts hi_dm_X19_takeRecorded_X19 hown hK hP 0 rfl rfl 31 (by decide) (hts (.fieldLink RX19 100 "TimeMachineModel" "a" "[J") (List.mem_of_getElem? (i := 10) rfl)) (fun _ h9 => h9) rfl dX19_takeRecorded_44 ?_
      refine lv_aload_n hx hb dX19_takeRecorded_47 rfl (lv_at hl 0 rfl) ?_
      refine va_get (D := (dC, dI)) (ci := 20) (v := .int (sI s6.1 10)) (C := RX19) (T := TX19) (N := 36) hx hb hts hi_dm_X19_takeRecorded_X19 hown hK hP 0 rfl rfl 24 (by decide) (hts (.fieldLink RX19 186 "TimeMachineModel" "taken" "I") (List.mem_of_getElem? (i := 1) rfl)) (fun _ h9 => h9) rfl dX19_takeRecorded_48 ?_
      obtain ⟨i9, h⟩ := nd_ck_e h
      refine va_lald (i := (sI s6.1 10)) hx hb hK hP 11 10 rfl rfl i9 dX19_takeRecorded_51 ?_
      refine lv_aload_n hx hb dX19_takeRecorded_52 rfl (lv_at hl 0 rfl) ?_
      refine va_get (D := (dC, dI)) (ci := 20) (v := .ref (a 7)) (C := RX19) (T := TX19) (N := 36) hx hb hts hi_dm_X19_takeRecorded_X19 hown hK hP 0 rfl rfl 27 (by decide) (hts (.fieldLink RX19 88 "TimeMachineModel" "b" "[I") (List.mem_of_getElem? (i := 11) rfl)) (fun _ h9 => h9) rfl dX19_takeRecorded_53 ?_
      refine lv_aload_n hx hb dX19_takeRecorded_56 rfl (lv_at hl 0 rfl) ?_
      refine va_get (D := (dC, dI)) (ci := 20) (v := .int (sI s6.1 10)) (C := RX19) (T := TX19) (N := 36) hx hb hts hi_dm_X19_takeRecorded_X19 hown hK hP 0 rfl rfl 24 (by decide) (hts (.fieldLink RX19 186 "TimeMachineModel" "taken" "I") (List.mem_of_getElem? (i := 1) rfl)) (fun _ h9 => h9) rfl dX19_takeRecorded_57 ?_
      obtain ⟨i10, h⟩ := nd_ck_e h
      refine va_iald (i := (sI s6.1 10)) hx hb hK hP 7 6 rfl rfl i10 dX19_takeRecorded_60 ?_
      obtain ⟨q11, s12, hq, h⟩ := nd_b2_e h
      have hPc := dp_X19_44 hP
      have hDc := dd_X19_44 hD
      have hKc := dy_X19_44 hK
      have hFc := nd_rs hDc hS hA
      have hzA : ∀ q : Nat, H.size ≤ q → A q := fun q h => hA q (Nat.le_trans hS.1 h)
      refine nd_cVi (As := [.int (sR s6.1 5 (Int32.toNatClampNeg (sI s6.1 10))), .long (sQ s6.1 0 (Int32.toNatClampNeg (sI s6.1 10))), .int (sR s6.1 6 (Int32.toNatClampNeg (sI s6.1 10)))]) (rest := []) (q := q11) (w' := dw_X16 (fun k => a (k + 44)) (fun k => ac (k + 44)) s12) ⟨hx, hb, hml, hown, hts⟩ (fun sz => dm_X16_event l hlt dC dI (fun k => a (k + 44)) (fun k => ac (k + 44)) n ((sR s6.1 5 (Int32.toNatClampNeg (sI s6.1 10)))) ((sQ s6.1 0 (Int32.toNatClampNeg (sI s6.1 10)))) ((sR s6.1 6 (Int32.toNatClampNeg (sI s6.1 10)))) s6.2.2.1.2 hq sz) (cwV 3 hts gi_dm_X19_takeRecorded_1 rfl rfl rfl (by decide +kernel) ⟨Nat.le_of_ble_eq_true rfl, Nat.le_of_ble_eq_true rfl⟩) hPc hDc hKc hS hA hN (va_recv hKc hPc (ci := 17) (q0 := 0) rfl rfl) rfl hl.1 rfl (Nat.le_of_ble_eq_true rfl) dX19_takeRecorded_61 (fun H locs hP1 hD1 hk1 hS => ?_)
      obtain ⟨hP, hD⟩ := dn_X19_44 hP hD hzA hk1 hP1 hD1
      obtain ⟨s14, es14, h⟩ := nd_let_e h
      have hP : va_P (dC, dI) vwCl (dw_X19 a ac s14) H := by rw [es14]; exact hP
      have hD : va_D A (dw_X19 a ac s14) := by rw [es14]; exact hD
      refine lv_pop hx hb dX19_takeRecorded_64 rfl ?_
      refine lv_aload_n hx hb dX19_takeRecorded_65 rfl (lv_at hl 0 rfl) ?_
      refine lv_dup hx hb dX19_takeRecorded_66 rfl ?_
      refine va_get (D := (dC, dI)) (ci := 20) (v := .int (sI s14.1 10)) (C := RX19) (T := TX19) (N := 36) hx hb hts hi_dm_X19_takeRecorded_X19 hown hK hP 0 rfl rfl 24 (by decide) (hts (.fieldLink RX19 186 "TimeMachineModel" "taken" "I") (List.mem_of_getElem? (i := 1) rfl)) (fun _ h9 => h9) rfl dX19_takeRecorded_67 ?_
      refine lv_iconst (v := 1) hx hb dX19_takeRecorded_70 (by decide) ?_
      refine lv_iadd hx hb dX19_takeRecorded_71 ?_
      refine va_put (D := (dC, dI)) (ci := 20) (v := .int ((sI s14.1 10) + 1)) (ty := .int) (C := RX19) (T := TX19) (N := 36) hx hb hts hi_dm_X19_takeRecorded_X19 tyX19 tyX19_ok nmX19 hown hK hP hD hS 0 rfl rfl 24 (by decide) (hts (.fieldLink RX19 186 "TimeMachineModel" "taken" "I") (List.mem_of_getElem? (i := 1) rfl)) (fun _ h9 => h9) rfl (by decide +kernel) rfl rfl (Nat.le_of_ble_eq_true rfl) dX19_takeRecorded_72 (fun H locs hP hD hS => ?_)
      obtain ⟨s15, es15, h⟩ := nd_let_e h
      have hP : va_P (dC, dI) vwCl (dw_X19 a ac s15) H := by rw [es15]; exact hP
      have hD : va_D A (dw_X19 a ac s15) := by rw [es15]; exact hD
      refine lv_goto (tgt := 0) hx hb dX19_takeRecorded_75 (by decide) ?_
      exact (J0)  s15 _ _ _ h hP hD hS (lv_sub hl [0] rfl)
set_option maxHeartbeats 40000000 in
set_option maxRecDepth 100000 in
theorem db_X19_takeRecorded_0 {p : Program} {l : Launch} {e : Env} {s : State} {m : MethodId} {args : Array Value} {below : List Frame} {meth : Method} {c : Code} {Q : State → Prop} {A : Nat → Prop} {dC : Nat → ClassId} {dI : Nat → Nat → Nat} {a : Nat → Nat} {ac : Nat → ClassId} {n : Nat} {r : St × (St) × (St × (St × (St))) × (St) × (St)} (C : nd_C p l s m args c A (dC, dI) cX19_takeRecorded 1 RX19 ow_dm_X19_takeRecorded (dk_X19 ac)) (K : nd_Kv p l e (headSpec ow_dm_X19_takeRecorded ({ frames := 5, cells := 0, slots := 0, locals := 119 })).room s m args below meth c Q A (dC, dI) cX19_takeRecorded (St × (St) × (St × (St × (St))) × (St) × (St)) (dw_X19 a ac) r) (k : Nat) : dj_X19_takeRecorded_0 p l e s m args below meth c Q A dC dI a ac (df_X19_takeRecorded_0 n k) r := by
  induction k with
  | zero => intro s0 H locs ls h; exact nomatch (show (none : Option (St × (St) × (St × (St × (St))) × (St) × (St))) = some r from h)
  | succ k ih => exact dB_X19_takeRecorded_0 C K ih
set_option maxHeartbeats 40000000 in
set_option maxRecDepth 100000 in
theorem dm_X19_takeRecorded (l : Launch) (hlt : l.stackTraces = false) (dC : Nat → ClassId) (dI : Nat → Nat → Nat) (a : Nat → Nat) (ac : Nat → ClassId) (n : Nat) (s0 : St × (St) × (St × (St × (St))) × (St) × (St)) {r : St × (St) × (St × (St × (St))) × (St) × (St)} (h : df_X19_takeRecorded n s0 = some r) (sz : Nat) : Met l yX19_takeRecorded ow_dm_X19_takeRecorded ({ frames := 5, cells := 0, slots := 0, locals := 119 }) (va_Pc [.ref (a 0)] (fun U => U.heap.size = sz ∧ va_P (dC, dI) vwCl (dw_X19 a ac s0) U.heap ∧ va_K (dC, dI) vwCl (dk_X19 ac) U ∧ va_D (fun _ => True) (dw_X19 a ac s0) ∧ nv_E dI (va_A (dw_X19 a ac s0) sz) U)) (va_Qv (fun _ => True) (fun (_ : Unit) t => va_P (dC, dI) vwCl (dw_X19 a ac r) t.heap ∧ va_K (dC, dI) vwCl (dk_X19 ac) t ∧ va_D (va_A (dw_X19 a ac s0) sz) (dw_X19 a ac r)) (va_A (dw_X19 a ac s0) sz)) 0 0 (va_A (dw_X19 a ac s0) sz) := by
  refine Met.ofW (cc := cX19_takeRecorded) (maxL := 1) (ret := none) (by decide) rfl ?_
  intro p e s m args below meth c s₁ B hml hv
  obtain ⟨rfl, hsz, hP, hK, hD0, hN⟩ := hv
  have hx := B.exec
  have hb := B.bytes
  have hr := B.returns
  have hts := atoms_spec (ws := ow_dm_X19_takeRecorded) B.pre
  have hown : s.vm.findClass RX19 = some m.cls := findClass_of_methodNamed B.named
  have hlocks := B.notSynchronized
  subst hsz
  have hD := hD0.self (sz := s.heap.size)
  generalize hAe : va_A (dw_X19 a ac s0) s.heap.size = A at hD hN ⊢
  have hA : ∀ q : Nat, s.heap.size ≤ q → A q := fun q h => by rw [← hAe]; exact Or.inr h
  have hl := lv_entry ([.ref (a 0)]) (n := 1) (Nat.le_of_ble_eq_true rfl)
  rw [lg_entry_eq]
  generalize (lg_sl ([.ref (a 0)]) ++ List.replicate (1 - (lg_sl ([.ref (a 0)])).length) Slot.unset).toArray = ls at hl ⊢
  have hl : lv_has ls 1 [(0, .ref (a 0))] := hl
  exact db_X19_takeRecorded_0 (dC := dC) (dI := dI) (a := a) (ac := ac) (n := n) (r := r) ⟨hlt, hx, hb, hml, hown, hts, hN, hA, hK⟩ (fun pc τ H locs ls d er hP hD hS => by subst er; exact W.vret hx hb hr (fun t ht hW => ⟨⟨(), rfl, trivial, by rw [ht]; exact hP, va_K.moved hW.alike hK, hD⟩, hS.F ht⟩) hS.2.2 d) n s0 _ _ _ h hP hD va_S.rf (lv_sub hl [0] rfl)
def ow_dm_X19_anew : List Cond := Cond.code yX19_anew cX19_anew 1 none :: ([Cond.fieldLink RX19 58 "TimeMachineModel" "m" "LTimeMachineModel$Machine;", Cond.fieldLink RX19 179 "TimeMachineModel" "program" "I", Cond.methodLink RX19 182 yX16_boot, Cond.instanceMethod yX16_boot, Cond.selects RX16 yX16_boot yX16_boot, Cond.initialized RX16, Cond.fieldLink RX19 186 "TimeMachineModel" "taken" "I", Cond.methodLink RX19 189 yX19_takeRecorded, Cond.instanceMethod yX19_takeRecorded, Cond.selects RX19 yX19_takeRecorded yX19_takeRecorded, Cond.initialized RX19] ++ (u_ws RX19 TX19 36 ++ (ow_dm_X16_boot ++ (ow_dm_X19_takeRecorded ++ []))))
theorem gd_dm_X19_anew : ∀ w ∈ ow_dm_X19_anew, (w.onTables && w.keeps) = true ∨ ∃ ty, w = Cond.arrayClass ty := List.forall_mem_cons.mpr ⟨good_of_word rfl, List.forall_mem_append.mpr ⟨fun w h => good_of_word (List.all_eq_true.mp (by decide +kernel) w h), List.forall_mem_append.mpr ⟨gu_X19, List.forall_mem_append.mpr ⟨gd_dm_X16_boot, List.forall_mem_append.mpr ⟨gd_dm_X19_takeRecorded, fun _ h => nomatch h⟩⟩⟩⟩⟩
theorem hi_dm_X19_anew_X19 : ∀ w ∈ u_ws RX19 TX19 36, w ∈ ow_dm_X19_anew := fun w h => List.mem_cons_of_mem _ (List.mem_append_right _ (List.mem_append_left _ h))
theorem gi_dm_X19_anew_0 : GoodIn ow_dm_X19_anew (wsV RX19 182 RX16 yX16_boot ow_dm_X16_boot) := goodIn_app (goodIn_of _ (by decide +kernel)) (fun w h => ⟨List.mem_cons_of_mem _ (List.mem_append_right _ (List.mem_append_right _ (List.mem_append_left _ h))), gd_dm_X16_boot w h⟩)
theorem gi_dm_X19_anew_1 : GoodIn ow_dm_X19_anew (wsV RX19 189 RX19 yX19_takeRecorded ow_dm_X19_takeRecorded) := goodIn_app (goodIn_of _ (by decide +kernel)) (fun w h => ⟨List.mem_cons_of_mem _ (List.mem_append_right _ (List.mem_append_right _ (List.mem_append_right _ (List.mem_append_left _ h)))), gd_dm_X19_takeRecorded w h⟩)
def dj_X19_anew_0 (p : Program) (l : Launch) (e : Env) (s : State) (m : MethodId) (args : Array Value) (below : List Frame) (meth : Method) (c : Code) (Q : State → Prop) (A : Nat → Prop) (dC : Nat → ClassId) (dI : Nat → Nat → Nat) (a : Nat → Nat) (ac : Nat → ClassId) (g : (St × (St) × (St × (St × (St))) × (St) × (St)) → Option (St × (St) × (St × (St × (St))) × (St) × (St))) (r : St × (St) × (St × (St × (St))) × (St) × (St)) : Prop := ∀ (s0 : St × (St) × (St × (St × (St))) × (St) × (St)) (H : Heap) (locs : List Loc) (ls : Array Slot), g s0 = some r → va_P (dC, dI) vwCl (dw_X19 a ac s0) H → va_D A (dw_X19 a ac s0) → va_S A s.heap H locs → lv_has ls 1 [(0, .ref (a 0))] → W p l e (headSpec ow_dm_X19_anew ({ frames := 6, cells := 0, slots := 0, locals := 139 })).room s m args below meth c H locs 0 0 Q (F0 m 0 ls [])
set_option maxHeartbeats 40000000 in
set_option maxRecDepth 100000 in
theorem db_X19_anew_0 {p : Program} {l : Launch} {e : Env} {s : State} {m : MethodId} {args : Array Value} {below : List Frame} {meth : Method} {c : Code} {Q : State → Prop} {A : Nat → Prop} {dC : Nat → ClassId} {dI : Nat → Nat → Nat} {a : Nat → Nat} {ac : Nat → ClassId} {n : Nat} {r : St × (St) × (St × (St × (St))) × (St) × (St)} (C : nd_C p l s m args c A (dC, dI) cX19_anew 1 RX19 ow_dm_X19_anew (dk_X19 ac)) (K : nd_Kv p l e (headSpec ow_dm_X19_anew ({ frames := 6, cells := 0, slots := 0, locals := 139 })).room s m args below meth c Q A (dC, dI) cX19_anew (St × (St) × (St × (St × (St))) × (St) × (St)) (dw_X19 a ac) r) : dj_X19_anew_0 p l e s m args below meth c Q A dC dI a ac (df_X19_anew_0 n) r := by
  obtain ⟨hlt, hx, hb, hml, hown, hts, hN, hA, hK⟩ := id C
  intro s0 H locs ls h hP hD hS hl
  unfold df_X19_anew_0 at h
  refine lv_aload_n hx hb dX19_anew_0 rfl (lv_at hl 0 rfl) ?_
  refine va_get (D := (dC, dI)) (ci := 20) (v := .ref (a 44)) (C := RX19) (T := TX19) (N := 36) hx hb hts hi_dm_X19_anew_X19 hown hK hP 0 rfl rfl 13 (by decide) (hts (.fieldLink RX19 58 "TimeMachineModel" "m" "LTimeMachineModel$Machine;") (List.mem_of_getElem? (i := 1) rfl)) (fun _ h9 => h9) rfl dX19_anew_1 ?_
  refine lv_aload_n hx hb dX19_anew_4 rfl (lv_at hl 0 rfl) ?_
  refine va_get (D := (dC, dI)) (ci := 20) (v := .int (sI s0.1 4)) (C := RX19) (T := TX19) (N := 36) hx hb hts hi_dm_X19_anew_X19 hown hK hP 0 rfl rfl 18 (by decide) (hts (.fieldLink RX19 179 "TimeMachineModel" "program" "I") (List.mem_of_getElem? (i := 2) rfl)) (fun _ h9 => h9) rfl dX19_anew_5 ?_
  obtain ⟨s2, hq, h⟩ := nd_b1_e h
  have hPc := dp_X19_44 hP
  have hDc := dd_X19_44 hD
  have hKc := dy_X19_44 hK
  have hFc := nd_rs hDc hS hA
  have hzA : ∀ q : Nat, H.size ≤ q → A q := fun q h => hA q (Nat.le_trans hS.1 h)
  refine nd_cVv (As := [.int (sI s0.1 4)]) (rest := []) (w' := dw_X16 (fun k => a (k + 44)) (fun k => ac (k + 44)) s2) ⟨hx, hb, hml, hown, hts⟩ (fun sz => dm_X16_boot l hlt dC dI (fun k => a (k + 44)) (fun k => ac (k + 44)) n ((sI s0.1 4)) s0.2.2.1.2 hq sz) (cwV 1 hts gi_dm_X19_anew_0 rfl rfl rfl (by decide +kernel) ⟨Nat.le_of_ble_eq_true rfl, Nat.le_of_ble_eq_true rfl⟩) hPc hDc hKc hS hA hN (va_recv hKc hPc (ci := 17) (q0 := 0) rfl rfl) rfl hl.1 rfl (Nat.le_of_ble_eq_true rfl) dX19_anew_8 (fun H locs hP1 hD1 hk1 hS => ?_)
  obtain ⟨hP, hD⟩ := dn_X19_44 hP hD hzA hk1 hP1 hD1
  obtain ⟨s4, es4, h⟩ := nd_let_e h
  have hP : va_P (dC, dI) vwCl (dw_X19 a ac s4) H := by rw [es4]; exact hP
  have hD : va_D A (dw_X19 a ac s4) := by rw [es4]; exact hD
  refine lv_aload_n hx hb dX19_anew_11 rfl (lv_at hl 0 rfl) ?_
  refine lv_iconst (v := 0) hx hb dX19_anew_12 (by decide) ?_
  refine va_put (D := (dC, dI)) (ci := 20) (v := .int 0) (ty := .int) (C := RX19) (T := TX19) (N := 36) hx hb hts hi_dm_X19_anew_X19 tyX19 tyX19_ok nmX19 hown hK hP hD hS 0 rfl rfl 24 (by decide) (hts (.fieldLink RX19 186 "TimeMachineModel" "taken" "I") (List.mem_of_getElem? (i := 7) rfl)) (fun _ h9 => h9) rfl (by decide +kernel) rfl rfl (Nat.le_of_ble_eq_true rfl) dX19_anew_13 (fun H locs hP hD hS => ?_)
  obtain ⟨s5, es5, h⟩ := nd_let_e h
  have hP : va_P (dC, dI) vwCl (dw_X19 a ac s5) H := by rw [es5]; exact hP
  have hD : va_D A (dw_X19 a ac s5) := by rw [es5]; exact hD
  refine lv_aload_n hx hb dX19_anew_16 rfl (lv_at hl 0 rfl) ?_
  obtain ⟨s7, hq, h⟩ := nd_b1_e h
  have hPc := hP
  have hDc := hD
  have hKc := hK
  have hFc := nd_rs hD hS hA
  refine nd_cVv (As := []) (rest := []) (w' := dw_X19 a ac s7) ⟨hx, hb, hml, hown, hts⟩ (fun sz => dm_X19_takeRecorded l hlt dC dI a ac n  s5 hq sz) (cwV 0 hts gi_dm_X19_anew_1 rfl rfl rfl (by decide +kernel) ⟨Nat.le_of_ble_eq_true rfl, Nat.le_of_ble_eq_true rfl⟩) hPc hDc hKc hS hA hN (va_recv hKc hPc (ci := 20) (q0 := 0) rfl rfl) rfl hl.1 rfl (Nat.le_of_ble_eq_true rfl) dX19_anew_17 (fun H locs hP1 hD1 hk1 hS => ?_)
  have hP := hP1
  have hD := hD1.weaken (fun k q _ h => hFc q.1 h)
  exact K _ _ _ _ _ dX19_anew_20 (Option.some.inj h).symm hP hD hS
set_option maxHeartbeats 40000000 in
set_option maxRecDepth 100000 in
theorem dm_X19_anew (l : Launch) (hlt : l.stackTraces = false) (dC : Nat → ClassId) (dI : Nat → Nat → Nat) (a : Nat → Nat) (ac : Nat → ClassId) (n : Nat) (s0 : St × (St) × (St × (St × (St))) × (St) × (St)) {r : St × (St) × (St × (St × (St))) × (St) × (St)} (h : df_X19_anew n s0 = some r) (sz : Nat) : Met l yX19_anew ow_dm_X19_anew ({ frames := 6, cells := 0, slots := 0, locals := 139 }) (va_Pc [.ref (a 0)] (fun U => U.heap.size = sz ∧ va_P (dC, dI) vwCl (dw_X19 a ac s0) U.heap ∧ va_K (dC, dI) vwCl (dk_X19 ac) U ∧ va_D (fun _ => True) (dw_X19 a ac s0) ∧ nv_E dI (va_A (dw_X19 a ac s0) sz) U)) (va_Qv (fun _ => True) (fun (_ : Unit) t => va_P (dC, dI) vwCl (dw_X19 a ac r) t.heap ∧ va_K (dC, dI) vwCl (dk_X19 ac) t ∧ va_D (va_A (dw_X19 a ac s0) sz) (dw_X19 a ac r)) (va_A (dw_X19 a ac s0) sz)) 0 0 (va_A (dw_X19 a ac s0) sz) := by
  refine Met.ofW (cc := cX19_anew) (maxL := 1) (ret := none) (by decide) rfl ?_
  intro p e s m args below meth c s₁ B hml hv
  obtain ⟨rfl, hsz, hP, hK, hD0, hN⟩ := hv
  have hx := B.exec
  have hb := B.bytes
  have hr := B.returns
  have hts := atoms_spec (ws := ow_dm_X19_anew) B.pre
  have hown : s.vm.findClass RX19 = some m.cls := findClass_of_methodNamed B.named
  have hlocks := B.notSynchronized
  subst hsz
  have hD := hD0.self (sz := s.heap.size)
  generalize hAe : va_A (dw_X19 a ac s0) s.heap.size = A at hD hN ⊢
  have hA : ∀ q : Nat, s.heap.size ≤ q → A q := fun q h => by rw [← hAe]; exact Or.inr h
  have hl := lv_entry ([.ref (a 0)]) (n := 1) (Nat.le_of_ble_eq_true rfl)
  rw [lg_entry_eq]
  generalize (lg_sl ([.ref (a 0)]) ++ List.replicate (1 - (lg_sl ([.ref (a 0)])).length) Slot.unset).toArray = ls at hl ⊢
  have hl : lv_has ls 1 [(0, .ref (a 0))] := hl
  exact db_X19_anew_0 (dC := dC) (dI := dI) (a := a) (ac := ac) (n := n) (r := r) ⟨hlt, hx, hb, hml, hown, hts, hN, hA, hK⟩ (fun pc τ H locs ls d er hP hD hS => by subst er; exact W.vret hx hb hr (fun t ht hW => ⟨⟨(), rfl, trivial, by rw [ht]; exact hP, va_K.moved hW.alike hK, hD⟩, hS.F ht⟩) hS.2.2 d) s0 _ _ _ h hP hD va_S.rf (lv_sub hl [0] rfl)
def ow_dm_X19_tick : List Cond := Cond.code yX19_tick cX19_tick 2 (some .boolean) :: ([Cond.fieldLink RX19 58 "TimeMachineModel" "m" "LTimeMachineModel$Machine;", Cond.methodLink RX19 202 yX16_tick, Cond.instanceMethod yX16_tick, Cond.selects RX16 yX16_tick yX16_tick, Cond.initialized RX16, Cond.methodLink RX19 189 yX19_takeRecorded, Cond.instanceMethod yX19_takeRecorded, Cond.selects RX19 yX19_takeRecorded yX19_takeRecorded, Cond.initialized RX19] ++ (u_ws RX19 TX19 36 ++ (ow_dm_X16_tick ++ (ow_dm_X19_takeRecorded ++ []))))
theorem gd_dm_X19_tick : ∀ w ∈ ow_dm_X19_tick, (w.onTables && w.keeps) = true ∨ ∃ ty, w = Cond.arrayClass ty := List.forall_mem_cons.mpr ⟨good_of_word rfl, List.forall_mem_append.mpr ⟨fun w h => good_of_word (List.all_eq_true.mp (by decide +kernel) w h), List.forall_mem_append.mpr ⟨gu_X19, List.forall_mem_append.mpr ⟨gd_dm_X16_tick, List.forall_mem_append.mpr ⟨gd_dm_X19_takeRecorded, fun _ h => nomatch h⟩⟩⟩⟩⟩
theorem hi_dm_X19_tick_X19 : ∀ w ∈ u_ws RX19 TX19 36, w ∈ ow_dm_X19_tick := fun w h => List.mem_cons_of_mem _ (List.mem_append_right _ (List.mem_append_left _ h))
theorem gi_dm_X19_tick_0 : GoodIn ow_dm_X19_tick (wsV RX19 202 RX16 yX16_tick ow_dm_X16_tick) := goodIn_app (goodIn_of _ (by decide +kernel)) (fun w h => ⟨List.mem_cons_of_mem _ (List.mem_append_right _ (List.mem_append_right _ (List.mem_append_left _ h))), gd_dm_X16_tick w h⟩)
theorem gi_dm_X19_tick_1 : GoodIn ow_dm_X19_tick (wsV RX19 189 RX19 yX19_takeRecorded ow_dm_X19_takeRecorded) := goodIn_app (goodIn_of _ (by decide +kernel)) (fun w h => ⟨List.mem_cons_of_mem _ (List.mem_append_right _ (List.mem_append_right _ (List.mem_append_right _ (List.mem_append_left _ h)))), gd_dm_X19_takeRecorded w h⟩)
def dj_X19_tick_0 (p : Program) (l : Launch) (e : Env) (s : State) (m : MethodId) (args : Array Value) (below : List Frame) (meth : Method) (c : Code) (Q : State → Prop) (A : Nat → Prop) (dC : Nat → ClassId) (dI : Nat → Nat → Nat) (a : Nat → Nat) (ac : Nat → ClassId) (g : (St × (St) × (St × (St × (St))) × (St) × (St)) → Option (Int32 × (St × (St) × (St × (St × (St))) × (St) × (St)))) (r : Int32 × (St × (St) × (St × (St × (St))) × (St) × (St))) : Prop := ∀ (s0 : St × (St) × (St × (St × (St))) × (St) × (St)) (H : Heap) (locs : List Loc) (ls : Array Slot), g s0 = some r → va_P (dC, dI) vwCl (dw_X19 a ac s0) H → va_D A (dw_X19 a ac s0) → va_S A s.heap H locs → lv_has ls 2 [(0, .ref (a 0))] → W p l e (headSpec ow_dm_X19_tick ({ frames := 8, cells := 0, slots := 0, locals := 183 })).room s m args below meth c H locs 0 0 Q (F0 m 0 ls [])
set_option maxHeartbeats 40000000 in
set_option maxRecDepth 100000 in
theorem db_X19_tick_0 {p : Program} {l : Launch} {e : Env} {s : State} {m : MethodId} {args : Array Value} {below : List Frame} {meth : Method} {c : Code} {Q : State → Prop} {A : Nat → Prop} {dC : Nat → ClassId} {dI : Nat → Nat → Nat} {a : Nat → Nat} {ac : Nat → ClassId} {n : Nat} {r : Int32 × (St × (St) × (St × (St × (St))) × (St) × (St))} (C : nd_C p l s m args c A (dC, dI) cX19_tick 2 RX19 ow_dm_X19_tick (dk_X19 ac)) (K : nd_Ki p l e (headSpec ow_dm_X19_tick ({ frames := 8, cells := 0, slots := 0, locals := 183 })).room s m args below meth c Q A (dC, dI) cX19_tick .boolean (St × (St) × (St × (St × (St))) × (St) × (St)) (dw_X19 a ac) r) : dj_X19_tick_0 p l e s m args below meth c Q A dC dI a ac (df_X19_tick_0 n) r := by
  obtain ⟨hlt, hx, hb, hml, hown, hts, hN, hA, hK⟩ := id C
  intro s0 H locs ls h hP hD hS hl
  unfold df_X19_tick_0 at h
  refine lv_aload_n hx hb dX19_tick_0 rfl (lv_at hl 0 rfl) ?_
  refine va_get (D := (dC, dI)) (ci := 20) (v := .ref (a 44)) (C := RX19) (T := TX19) (N := 36) hx hb hts hi_dm_X19_tick_X19 hown hK hP 0 rfl rfl 13 (by decide) (hts (.fieldLink RX19 58 "TimeMachineModel" "m" "LTimeMachineModel$Machine;") (List.mem_of_getElem? (i := 1) rfl)) (fun _ h9 => h9) rfl dX19_tick_1 ?_
  obtain ⟨q1, s2, hq, h⟩ := nd_b2_e h
  have hPc := dp_X19_44 hP
  have hDc := dd_X19_44 hD
  have hKc := dy_X19_44 hK
  have hFc := nd_rs hDc hS hA
  have hzA : ∀ q : Nat, H.size ≤ q → A q := fun q h => hA q (Nat.le_trans hS.1 h)
  refine nd_cVi (As := []) (rest := []) (q := q1) (w' := dw_X16 (fun k => a (k + 44)) (fun k => ac (k + 44)) s2) ⟨hx, hb, hml, hown, hts⟩ (fun sz => dm_X16_tick l hlt dC dI (fun k => a (k + 44)) (fun k => ac (k + 44)) n  s0.2.2.1.2 hq sz) (cwV 0 hts gi_dm_X19_tick_0 rfl rfl rfl (by decide +kernel) ⟨Nat.le_of_ble_eq_true rfl, Nat.le_of_ble_eq_true rfl⟩) hPc hDc hKc hS hA hN (va_recv hKc hPc (ci := 17) (q0 := 0) rfl rfl) rfl hl.1 rfl (Nat.le_of_ble_eq_true rfl) dX19_tick_4 (fun H locs hP1 hD1 hk1 hS => ?_)
  obtain ⟨hP, hD⟩ := dn_X19_44 hP hD hzA hk1 hP1 hD1
  obtain ⟨s4, es4, h⟩ := nd_let_e h
  have hP : va_P (dC, dI) vwCl (dw_X19 a ac s4) H := by rw [es4]; exact hP
  have hD : va_D A (dw_X19 a ac s4) := by rw [es4]; exact hD
  refine lv_istore_n (lv' := [(1, .int q1), (0, .ref (a 0))]) hx hb dX19_tick_7 rfl hl (by decide) rfl (fun ls hl => ?_)
  refine lv_aload_n hx hb dX19_tick_8 rfl (lv_at hl 1 rfl) ?_
  obtain ⟨s6, hq, h⟩ := nd_b1_e h
  have hPc := hP
  have hDc := hD
  have hKc := hK
  have hFc := nd_rs hD hS hA
  refine nd_cVv (As := []) (rest := []) (w' := dw_X19 a ac s6) ⟨hx, hb, hml, hown, hts⟩ (fun sz => dm_X19_takeRecorded l hlt dC dI a ac n  s4 hq sz) (cwV 0 hts gi_dm_X19_tick_1 rfl rfl rfl (by decide +kernel) ⟨Nat.le_of_ble_eq_true rfl, Nat.le_of_ble_eq_true rfl⟩) hPc hDc hKc hS hA hN (va_recv hKc hPc (ci := 20) (q0 := 0) rfl rfl) rfl hl.1 rfl (Nat.le_of_ble_eq_true rfl) dX19_tick_9 (fun H locs hP1 hD1 hk1 hS => ?_)
  have hP := hP1
  have hD := hD1.weaken (fun k q _ h => hFc q.1 h)
  refine lv_iload_n hx hb dX19_tick_12 rfl (lv_at hl 0 rfl) ?_
  obtain ⟨n8, h⟩ := nd_z_e ⟨_, rfl⟩ h
  exact K _ _ _ _ _ _ dX19_tick_13 n8 (Option.some.inj h).symm hP hD hS
set_option maxHeartbeats 40000000 in
set_option maxRecDepth 100000 in
theorem dm_X19_tick (l : Launch) (hlt : l.stackTraces = false) (dC : Nat → ClassId) (dI : Nat → Nat → Nat) (a : Nat → Nat) (ac : Nat → ClassId) (n : Nat) (s0 : St × (St) × (St × (St × (St))) × (St) × (St)) {r : Int32 × (St × (St) × (St × (St × (St))) × (St) × (St))} (h : df_X19_tick n s0 = some r) (sz : Nat) : Met l yX19_tick ow_dm_X19_tick ({ frames := 8, cells := 0, slots := 0, locals := 183 }) (va_Pc [.ref (a 0)] (fun U => U.heap.size = sz ∧ va_P (dC, dI) vwCl (dw_X19 a ac s0) U.heap ∧ va_K (dC, dI) vwCl (dk_X19 ac) U ∧ va_D (fun _ => True) (dw_X19 a ac s0) ∧ nv_E dI (va_A (dw_X19 a ac s0) sz) U)) (va_Qi (fun x _ => x = r.1) (fun (_ : Unit) t => va_P (dC, dI) vwCl (dw_X19 a ac r.2) t.heap ∧ va_K (dC, dI) vwCl (dk_X19 ac) t ∧ va_D (va_A (dw_X19 a ac s0) sz) (dw_X19 a ac r.2)) (va_A (dw_X19 a ac s0) sz)) 0 0 (va_A (dw_X19 a ac s0) sz) := by
  refine Met.ofW (cc := cX19_tick) (maxL := 2) (ret := (some .boolean)) (by decide) rfl ?_
  intro p e s m args below meth c s₁ B hml hv
  obtain ⟨rfl, hsz, hP, hK, hD0, hN⟩ := hv
  have hx := B.exec
  have hb := B.bytes
  have hr := B.returns
  have hts := atoms_spec (ws := ow_dm_X19_tick) B.pre
  have hown : s.vm.findClass RX19 = some m.cls := findClass_of_methodNamed B.named
  have hlocks := B.notSynchronized
  subst hsz
  have hD := hD0.self (sz := s.heap.size)
  generalize hAe : va_A (dw_X19 a ac s0) s.heap.size = A at hD hN ⊢
  have hA : ∀ q : Nat, s.heap.size ≤ q → A q := fun q h => by rw [← hAe]; exact Or.inr h
  have hl := lv_entry ([.ref (a 0)]) (n := 2) (Nat.le_of_ble_eq_true rfl)
  rw [lg_entry_eq]
  generalize (lg_sl ([.ref (a 0)]) ++ List.replicate (2 - (lg_sl ([.ref (a 0)])).length) Slot.unset).toArray = ls at hl ⊢
  have hl : lv_has ls 2 [(0, .ref (a 0))] := hl
  exact db_X19_tick_0 (dC := dC) (dI := dI) (a := a) (ac := ac) (n := n) (r := r) ⟨hlt, hx, hb, hml, hown, hts, hN, hA, hK⟩ (fun pc v τ H locs ls d z er hP hD hS => by subst er; exact W.zret (v := v) hx hb hr z (fun t ht hW => ⟨⟨v, (), rfl, rfl, by rw [ht]; exact hP, va_K.moved hW.alike hK, hD⟩, hS.F ht⟩) hS.2.2 d) s0 _ _ _ h hP hD va_S.rf (lv_sub hl [0] rfl)
def ow_dm_X19_come : List Cond := Cond.code yX19_come cX19_come 2 none :: ([Cond.fieldLink RX19 58 "TimeMachineModel" "m" "LTimeMachineModel$Machine;", Cond.methodLink RX19 195 yX16_now, Cond.instanceMethod yX16_now, Cond.selects RX16 yX16_now yX16_now, Cond.initialized RX16, Cond.methodLink RX19 209 yX19_tick, Cond.instanceMethod yX19_tick, Cond.selects RX19 yX19_tick yX19_tick, Cond.initialized RX19, Cond.methodLink RX19 206 yX19_anew, Cond.instanceMethod yX19_anew, Cond.selects RX19 yX19_anew yX19_anew] ++ (u_ws RX19 TX19 36 ++ (ow_dm_X16_now ++ (ow_dm_X19_tick ++ (ow_dm_X19_anew ++ [])))))
theorem gd_dm_X19_come : ∀ w ∈ ow_dm_X19_come, (w.onTables && w.keeps) = true ∨ ∃ ty, w = Cond.arrayClass ty := List.forall_mem_cons.mpr ⟨good_of_word rfl, List.forall_mem_append.mpr ⟨fun w h => good_of_word (List.all_eq_true.mp (by decide +kernel) w h), List.forall_mem_append.mpr ⟨gu_X19, List.forall_mem_append.mpr ⟨gd_dm_X16_now, List.forall_mem_append.mpr ⟨gd_dm_X19_tick, List.forall_mem_append.mpr ⟨gd_dm_X19_anew, fun _ h => nomatch h⟩⟩⟩⟩⟩⟩
theorem hi_dm_X19_come_X19 : ∀ w ∈ u_ws RX19 TX19 36, w ∈ ow_dm_X19_come := fun w h => List.mem_cons_of_mem _ (List.mem_append_right _ (List.mem_append_left _ h))
theorem gi_dm_X19_come_0 : GoodIn ow_dm_X19_come (wsV RX19 195 RX16 yX16_now ow_dm_X16_now) := goodIn_app (goodIn_of _ (by decide +kernel)) (fun w h => ⟨List.mem_cons_of_mem _ (List.mem_append_right _ (List.mem_append_right _ (List.mem_append_left _ h))), gd_dm_X16_now w h⟩)
theorem gi_dm_X19_come_1 : GoodIn ow_dm_X19_come (wsV RX19 209 RX19 yX19_tick ow_dm_X19_tick) := goodIn_app (goodIn_of _ (by decide +kernel)) (fun w h => ⟨List.mem_cons_of_mem _ (List.mem_append_right _ (List.mem_append_right _ (List.mem_append_right _ (List.mem_append_left _ h)))), gd_dm_X19_tick w h⟩)
theorem gi_dm_X19_come_2 : GoodIn ow_dm_X19_come (wsV RX19 206 RX19 yX19_anew ow_dm_X19_anew) := goodIn_app (goodIn_of _ (by decide +kernel)) (fun w h => ⟨List.mem_cons_of_mem _ (List.mem_append_right _ (List.mem_append_right _ (List.mem_append_right _ (List.mem_append_right _ (List.mem_append_left _ h))))), gd_dm_X19_anew w h⟩)
def dj_X19_come_15 (p : Program) (l : Launch) (e : Env) (s : State) (m : MethodId) (args : Array Value) (below : List Frame) (meth : Method) (c : Code) (Q : State → Prop) (A : Nat → Prop) (dC : Nat → ClassId) (dI : Nat → Nat → Nat) (a : Nat → Nat) (ac : Nat → ClassId) (g : Int32 → (St × (St) × (St × (St × (St))) × (St) × (St)) → Option (St × (St) × (St × (St × (St))) × (St) × (St))) (r : St × (St) × (St × (St × (St))) × (St) × (St)) : Prop := ∀ (x1 : Int32) (s0 : St × (St) × (St × (St × (St))) × (St) × (St)) (H : Heap) (locs : List Loc) (ls : Array Slot), g x1 s0 = some r → va_P (dC, dI) vwCl (dw_X19 a ac s0) H → va_D A (dw_X19 a ac s0) → va_S A s.heap H locs → lv_has ls 2 [(0, .ref (a 0)), (1, .int x1)] → W p l e (headSpec ow_dm_X19_come ({ frames := 9, cells := 0, slots := 0, locals := 204 })).room s m args below meth c H locs 0 0 Q (F0 m 15 ls [])
def dj_X19_come_0 (p : Program) (l : Launch) (e : Env) (s : State) (m : MethodId) (args : Array Value) (below : List Frame) (meth : Method) (c : Code) (Q : State → Prop) (A : Nat → Prop) (dC : Nat → ClassId) (dI : Nat → Nat → Nat) (a : Nat → Nat) (ac : Nat → ClassId) (g : Int32 → (St × (St) × (St × (St × (St))) × (St) × (St)) → Option (St × (St) × (St × (St × (St))) × (St) × (St))) (r : St × (St) × (St × (St × (St))) × (St) × (St)) : Prop := ∀ (v0 : Int32) (s0 : St × (St) × (St × (St × (St))) × (St) × (St)) (H : Heap) (locs : List Loc) (ls : Array Slot), g v0 s0 = some r → va_P (dC, dI) vwCl (dw_X19 a ac s0) H → va_D A (dw_X19 a ac s0) → va_S A s.heap H locs → lv_has ls 2 [(0, .ref (a 0)), (1, .int v0)] → W p l e (headSpec ow_dm_X19_come ({ frames := 9, cells := 0, slots := 0, locals := 204 })).room s m args below meth c H locs 0 0 Q (F0 m 0 ls [])
set_option maxHeartbeats 40000000 in
set_option maxRecDepth 100000 in
theorem dB_X19_come_15 {p : Program} {l : Launch} {e : Env} {s : State} {m : MethodId} {args : Array Value} {below : List Frame} {meth : Method} {c : Code} {Q : State → Prop} {A : Nat → Prop} {dC : Nat → ClassId} {dI : Nat → Nat → Nat} {a : Nat → Nat} {ac : Nat → ClassId} {n : Nat} {r : St × (St) × (St × (St × (St))) × (St) × (St)} (C : nd_C p l s m args c A (dC, dI) cX19_come 2 RX19 ow_dm_X19_come (dk_X19 ac)) (K : nd_Kv p l e (headSpec ow_dm_X19_come ({ frames := 9, cells := 0, slots := 0, locals := 204 })).room s m args below meth c Q A (dC, dI) cX19_come (St × (St) × (St × (St × (St))) × (St) × (St)) (dw_X19 a ac) r) {g15 : Int32 → (St × (St) × (St × (St × (St))) × (St) × (St)) → Option (St × (St) × (St × (St × (St))) × (St) × (St))} (J15 : dj_X19_come_15 p l e s m args below meth c Q A dC dI a ac g15 r) : dj_X19_come_15 p l e s m args below meth c Q A dC dI a ac (dF_X19_come_15 n g15) r := by
  obtain ⟨hlt, hx, hb, hml, hown, hts, hN, hA, hK⟩ := id C
  intro x1 s0 H locs ls h hP hD hS hl
  unfold dF_X19_come_15 at h
  refine lv_aload_n hx hb dX19_come_15 rfl (lv_at hl 0 rfl) ?_
  refine va_get (D := (dC, dI)) (ci := 20) (v := .ref (a 44)) (C := RX19) (T := TX19) (N := 36) hx hb hts hi_dm_X19_come_X19 hown hK hP 0 rfl rfl 13 (by decide) (hts (.fieldLink RX19 58 "TimeMachineModel" "m" "LTimeMachineModel$Machine;") (List.mem_of_getElem? (i := 1) rfl)) (fun _ h9 => h9) rfl dX19_come_16 ?_
  obtain ⟨q6, s7, hq, h⟩ := nd_b2_e h
  have hPc := dp_X19_44 hP
  have hDc := dd_X19_44 hD
  have hKc := dy_X19_44 hK
  have hFc := nd_rs hDc hS hA
  have hzA : ∀ q : Nat, H.size ≤ q → A q := fun q h => hA q (Nat.le_trans hS.1 h)
  refine nd_cVi (As := []) (rest := []) (q := q6) (w' := dw_X16 (fun k => a (k + 44)) (fun k => ac (k + 44)) s7) ⟨hx, hb, hml, hown, hts⟩ (fun sz => dm_X16_now l hlt dC dI (fun k => a (k + 44)) (fun k => ac (k + 44)) n  s0.2.2.1.2 hq sz) (cwV 0 hts gi_dm_X19_come_0 rfl rfl rfl (by decide +kernel) ⟨Nat.le_of_ble_eq_true rfl, Nat.le_of_ble_eq_true rfl⟩) hPc hDc hKc hS hA hN (va_recv hKc hPc (ci := 17) (q0 := 0) rfl rfl) rfl hl.1 rfl (Nat.le_of_ble_eq_true rfl) dX19_come_19 (fun H locs hP1 hD1 hk1 hS => ?_)
  obtain ⟨hP, hD⟩ := dn_X19_44 hP hD hzA hk1 hP1 hD1
  obtain ⟨s9, es9, h⟩ := nd_let_e h
  have hP : va_P (dC, dI) vwCl (dw_X19 a ac s9) H := by rw [es9]; exact hP
  have hD : va_D A (dw_X19 a ac s9) := by rw [es9]; exact hD
  refine lv_iload_n hx hb dX19_come_22 rfl (lv_at hl 1 rfl) ?_
  refine lv_icmp_ge (tgt := 34) hx hb dX19_come_23 (by decide) (fun c10 => ?_) (fun c10 => ?_)
  · have h := nd_pos h c10
    exact K _ _ _ _ _ dX19_come_34 (Option.some.inj h).symm hP hD hS
  · have h := nd_neg h c10
    refine lv_aload_n hx hb dX19_come_26 rfl (lv_at hl 0 rfl) ?_
    obtain ⟨q11, s12, hq, h⟩ := nd_b2_e h
    have hPc := hP
    have hDc := hD
    have hKc := hK
    have hFc := nd_rs hD hS hA
    refine nd_cVi (As := []) (rest := []) (q := q11) (w' := dw_X19 a ac s12) ⟨hx, hb, hml, hown, hts⟩ (fun sz => dm_X19_tick l hlt dC dI a ac n  s9 hq sz) (cwV 0 hts gi_dm_X19_come_1 rfl rfl rfl (by decide +kernel) ⟨Nat.le_of_ble_eq_true rfl, Nat.le_of_ble_eq_true rfl⟩) hPc hDc hKc hS hA hN (va_recv hKc hPc (ci := 20) (q0 := 0) rfl rfl) rfl hl.1 rfl (Nat.le_of_ble_eq_true rfl) dX19_come_27 (fun H locs hP1 hD1 hk1 hS => ?_)
    have hP := hP1
    have hD := hD1.weaken (fun k q _ h => hFc q.1 h)
    refine lv_pop hx hb dX19_come_30 rfl ?_
    refine lv_goto (tgt := 15) hx hb dX19_come_31 (by decide) ?_
    exact (J15) (x1) s12 _ _ _ h hP hD hS (lv_sub hl [0, 1] rfl)
set_option maxHeartbeats 40000000 in
set_option maxRecDepth 100000 in
theorem db_X19_come_15 {p : Program} {l : Launch} {e : Env} {s : State} {m : MethodId} {args : Array Value} {below : List Frame} {meth : Method} {c : Code} {Q : State → Prop} {A : Nat → Prop} {dC : Nat → ClassId} {dI : Nat → Nat → Nat} {a : Nat → Nat} {ac : Nat → ClassId} {n : Nat} {r : St × (St) × (St × (St × (St))) × (St) × (St)} (C : nd_C p l s m args c A (dC, dI) cX19_come 2 RX19 ow_dm_X19_come (dk_X19 ac)) (K : nd_Kv p l e (headSpec ow_dm_X19_come ({ frames := 9, cells := 0, slots := 0, locals := 204 })).room s m args below meth c Q A (dC, dI) cX19_come (St × (St) × (St × (St × (St))) × (St) × (St)) (dw_X19 a ac) r) (k : Nat) : dj_X19_come_15 p l e s m args below meth c Q A dC dI a ac (df_X19_come_15 n k) r := by
  induction k with
  | zero => intro x1 s0 H locs ls h; exact nomatch (show (none : Option (St × (St) × (St × (St × (St))) × (St) × (St))) = some r from h)
  | succ k ih => exact dB_X19_come_15 C K ih
set_option maxHeartbeats 40000000 in
set_option maxRecDepth 100000 in
theorem db_X19_come_0 {p : Program} {l : Launch} {e : Env} {s : State} {m : MethodId} {args : Array Value} {below : List Frame} {meth : Method} {c : Code} {Q : State → Prop} {A : Nat → Prop} {dC : Nat → ClassId} {dI : Nat → Nat → Nat} {a : Nat → Nat} {ac : Nat → ClassId} {n : Nat} {r : St × (St) × (St × (St × (St))) × (St) × (St)} (C : nd_C p l s m args c A (dC, dI) cX19_come 2 RX19 ow_dm_X19_come (dk_X19 ac)) (K : nd_Kv p l e (headSpec ow_dm_X19_come ({ frames := 9, cells := 0, slots := 0, locals := 204 })).room s m args below meth c Q A (dC, dI) cX19_come (St × (St) × (St × (St × (St))) × (St) × (St)) (dw_X19 a ac) r) : dj_X19_come_0 p l e s m args below meth c Q A dC dI a ac (df_X19_come_0 n) r := by
  obtain ⟨hlt, hx, hb, hml, hown, hts, hN, hA, hK⟩ := id C
  intro v0 s0 H locs ls h hP hD hS hl
  unfold df_X19_come_0 at h
  refine lv_aload_n hx hb dX19_come_0 rfl (lv_at hl 0 rfl) ?_
  refine va_get (D := (dC, dI)) (ci := 20) (v := .ref (a 44)) (C := RX19) (T := TX19) (N := 36) hx hb hts hi_dm_X19_come_X19 hown hK hP 0 rfl rfl 13 (by decide) (hts (.fieldLink RX19 58 "TimeMachineModel" "m" "LTimeMachineModel$Machine;") (List.mem_of_getElem? (i := 1) rfl)) (fun _ h9 => h9) rfl dX19_come_1 ?_
  obtain ⟨q1, s2, hq, h⟩ := nd_b2_e h
  have hPc := dp_X19_44 hP
  have hDc := dd_X19_44 hD
  have hKc := dy_X19_44 hK
  have hFc := nd_rs hDc hS hA
  have hzA : ∀ q : Nat, H.size ≤ q → A q := fun q h => hA q (Nat.le_trans hS.1 h)
  refine nd_cVi (As := []) (rest := []) (q := q1) (w' := dw_X16 (fun k => a (k + 44)) (fun k => ac (k + 44)) s2) ⟨hx, hb, hml, hown, hts⟩ (fun sz => dm_X16_now l hlt dC dI (fun k => a (k + 44)) (fun k => ac (k + 44)) n  s0.2.2.1.2 hq sz) (cwV 0 hts gi_dm_X19_come_0 rfl rfl rfl (by decide +kernel) ⟨Nat.le_of_ble_eq_true rfl, Nat.le_of_ble_eq_true rfl⟩) hPc hDc hKc hS hA hN (va_recv hKc hPc (ci := 17) (q0 := 0) rfl rfl) rfl hl.1 rfl (Nat.le_of_ble_eq_true rfl) dX19_come_4 (fun H locs hP1 hD1 hk1 hS => ?_)
  obtain ⟨hP, hD⟩ := dn_X19_44 hP hD hzA hk1 hP1 hD1
  obtain ⟨s4, es4, h⟩ := nd_let_e h
  have hP : va_P (dC, dI) vwCl (dw_X19 a ac s4) H := by rw [es4]; exact hP
  have hD : va_D A (dw_X19 a ac s4) := by rw [es4]; exact hD
  refine lv_iload_n hx hb dX19_come_7 rfl (lv_at hl 1 rfl) ?_
  refine lv_icmp_le (tgt := 15) hx hb dX19_come_8 (by decide) (fun c5 => ?_) (fun c5 => ?_)
  · have h := nd_pos h c5
    exact (db_X19_come_15 C K n) (v0) s4 _ _ _ h hP hD hS (lv_sub hl [0, 1] rfl)
  · have h := nd_neg h c5
    refine lv_aload_n hx hb dX19_come_11 rfl (lv_at hl 0 rfl) ?_
    obtain ⟨s15, hq, h⟩ := nd_b1_e h
    have hPc := hP
    have hDc := hD
    have hKc := hK
    have hFc := nd_rs hD hS hA
    refine nd_cVv (As := []) (rest := []) (w' := dw_X19 a ac s15) ⟨hx, hb, hml, hown, hts⟩ (fun sz => dm_X19_anew l hlt dC dI a ac n  s4 hq sz) (cwV 0 hts gi_dm_X19_come_2 rfl rfl rfl (by decide +kernel) ⟨Nat.le_of_ble_eq_true rfl, Nat.le_of_ble_eq_true rfl⟩) hPc hDc hKc hS hA hN (va_recv hKc hPc (ci := 20) (q0 := 0) rfl rfl) rfl hl.1 rfl (Nat.le_of_ble_eq_true rfl) dX19_come_12 (fun H locs hP1 hD1 hk1 hS => ?_)
    have hP := hP1
    have hD := hD1.weaken (fun k q _ h => hFc q.1 h)
    exact (db_X19_come_15 C K n) (v0) s15 _ _ _ h hP hD hS (lv_sub hl [0, 1] rfl)
set_option maxHeartbeats 40000000 in
set_option maxRecDepth 100000 in
theorem dm_X19_come (l : Launch) (hlt : l.stackTraces = false) (dC : Nat → ClassId) (dI : Nat → Nat → Nat) (a : Nat → Nat) (ac : Nat → ClassId) (n : Nat) (v0 : Int32) (s0 : St × (St) × (St × (St × (St))) × (St) × (St)) {r : St × (St) × (St × (St × (St))) × (St) × (St)} (h : df_X19_come n v0 s0 = some r) (sz : Nat) : Met l yX19_come ow_dm_X19_come ({ frames := 9, cells := 0, slots := 0, locals := 204 }) (va_Pc [.ref (a 0), .int v0] (fun U => U.heap.size = sz ∧ va_P (dC, dI) vwCl (dw_X19 a ac s0) U.heap ∧ va_K (dC, dI) vwCl (dk_X19 ac) U ∧ va_D (fun _ => True) (dw_X19 a ac s0) ∧ nv_E dI (va_A (dw_X19 a ac s0) sz) U)) (va_Qv (fun _ => True) (fun (_ : Unit) t => va_P (dC, dI) vwCl (dw_X19 a ac r) t.heap ∧ va_K (dC, dI) vwCl (dk_X19 ac) t ∧ va_D (va_A (dw_X19 a ac s0) sz) (dw_X19 a ac r)) (va_A (dw_X19 a ac s0) sz)) 0 0 (va_A (dw_X19 a ac s0) sz) := by
  refine Met.ofW (cc := cX19_come) (maxL := 2) (ret := none) (by decide) rfl ?_
  intro p e s m args below meth c s₁ B hml hv
  obtain ⟨rfl, hsz, hP, hK, hD0, hN⟩ := hv
  have hx := B.exec
  have hb := B.bytes
  have hr := B.returns
  have hts := atoms_spec (ws := ow_dm_X19_come) B.pre
  have hown : s.vm.findClass RX19 = some m.cls := findClass_of_methodNamed B.named
  have hlocks := B.notSynchronized
  subst hsz
  have hD := hD0.self (sz := s.heap.size)
  generalize hAe : va_A (dw_X19 a ac s0) s.heap.size = A at hD hN ⊢
  have hA : ∀ q : Nat, s.heap.size ≤ q → A q := fun q h => by rw [← hAe]; exact Or.inr h
  have hl := lv_entry ([.ref (a 0), .int v0]) (n := 2) (Nat.le_of_ble_eq_true rfl)
  rw [lg_entry_eq]
  generalize (lg_sl ([.ref (a 0), .int v0]) ++ List.replicate (2 - (lg_sl ([.ref (a 0), .int v0])).length) Slot.unset).toArray = ls at hl ⊢
  have hl : lv_has ls 2 [(0, .ref (a 0)), (1, .int v0)] := hl
  exact db_X19_come_0 (dC := dC) (dI := dI) (a := a) (ac := ac) (n := n) (r := r) ⟨hlt, hx, hb, hml, hown, hts, hN, hA, hK⟩ (fun pc τ H locs ls d er hP hD hS => by subst er; exact W.vret hx hb hr (fun t ht hW => ⟨⟨(), rfl, trivial, by rw [ht]; exact hP, va_K.moved hW.alike hK, hD⟩, hS.F ht⟩) hS.2.2 d) v0 s0 _ _ _ h hP hD va_S.rf (lv_sub hl [0, 1] rfl)
def ow_dm_X19_record : List Cond := Cond.code yX19_record cX19_record 5 (some .boolean) :: ([Cond.fieldLink RX19 192 "TimeMachineModel" "events" "I", Cond.fieldLink RX19 58 "TimeMachineModel" "m" "LTimeMachineModel$Machine;", Cond.methodLink RX19 198 yX16_event, Cond.instanceMethod yX16_event, Cond.selects RX16 yX16_event yX16_event, Cond.initialized RX16, Cond.fieldLink RX19 85 "TimeMachineModel" "kind" "[I", Cond.fieldLink RX19 100 "TimeMachineModel" "a" "[J", Cond.fieldLink RX19 88 "TimeMachineModel" "b" "[I", Cond.fieldLink RX19 91 "TimeMachineModel" "when" "[I", Cond.fieldLink RX19 210 "TimeMachineModel" "end" "I", Cond.fieldLink RX19 186 "TimeMachineModel" "taken" "I"] ++ (u_ws RX19 TX19 36 ++ (ow_dm_X16_event ++ [])))
theorem gd_dm_X19_record : ∀ w ∈ ow_dm_X19_record, (w.onTables && w.keeps) = true ∨ ∃ ty, w = Cond.arrayClass ty := List.forall_mem_cons.mpr ⟨good_of_word rfl, List.forall_mem_append.mpr ⟨fun w h => good_of_word (List.all_eq_true.mp (by decide +kernel) w h), List.forall_mem_append.mpr ⟨gu_X19, List.forall_mem_append.mpr ⟨gd_dm_X16_event, fun _ h => nomatch h⟩⟩⟩⟩
theorem hi_dm_X19_record_X19 : ∀ w ∈ u_ws RX19 TX19 36, w ∈ ow_dm_X19_record := fun w h => List.mem_cons_of_mem _ (List.mem_append_right _ (List.mem_append_left _ h))
theorem gi_dm_X19_record_0 : GoodIn ow_dm_X19_record (wsV RX19 198 RX16 yX16_event ow_dm_X16_event) := goodIn_app (goodIn_of _ (by decide +kernel)) (fun w h => ⟨List.mem_cons_of_mem _ (List.mem_append_right _ (List.mem_append_right _ (List.mem_append_left _ h))), gd_dm_X16_event w h⟩)
def dj_X19_record_24 (p : Program) (l : Launch) (e : Env) (s : State) (m : MethodId) (args : Array Value) (below : List Frame) (meth : Method) (c : Code) (Q : State → Prop) (A : Nat → Prop) (dC : Nat → ClassId) (dI : Nat → Nat → Nat) (a : Nat → Nat) (ac : Nat → ClassId) (g : (St × (St) × (St × (St × (St))) × (St) × (St)) → Option (Int32 × (St × (St) × (St × (St × (St))) × (St) × (St)))) (r : Int32 × (St × (St) × (St × (St × (St))) × (St) × (St))) : Prop := ∀ (s0 : St × (St) × (St × (St × (St))) × (St) × (St)) (H : Heap) (locs : List Loc) (ls : Array Slot), g s0 = some r → va_P (dC, dI) vwCl (dw_X19 a ac s0) H → va_D A (dw_X19 a ac s0) → va_S A s.heap H locs → lv_has ls 5 [] → W p l e (headSpec ow_dm_X19_record ({ frames := 5, cells := 0, slots := 0, locals := 119 })).room s m args below meth c H locs 0 0 Q (F0 m 24 ls [])
def dj_X19_record_0 (p : Program) (l : Launch) (e : Env) (s : State) (m : MethodId) (args : Array Value) (below : List Frame) (meth : Method) (c : Code) (Q : State → Prop) (A : Nat → Prop) (dC : Nat → ClassId) (dI : Nat → Nat → Nat) (a : Nat → Nat) (ac : Nat → ClassId) (g : Int32 → Int64 → Int32 → (St × (St) × (St × (St × (St))) × (St) × (St)) → Option (Int32 × (St × (St) × (St × (St × (St))) × (St) × (St)))) (r : Int32 × (St × (St) × (St × (St × (St))) × (St) × (St))) : Prop := ∀ (v0 : Int32) (v1 : Int64) (v2 : Int32) (s0 : St × (St) × (St × (St × (St))) × (St) × (St)) (H : Heap) (locs : List Loc) (ls : Array Slot), g v0 v1 v2 s0 = some r → va_P (dC, dI) vwCl (dw_X19 a ac s0) H → va_D A (dw_X19 a ac s0) → va_S A s.heap H locs → lv_has ls 5 [(0, .ref (a 0)), (1, .int v0), (2, .long v1), (4, .int v2)] → W p l e (headSpec ow_dm_X19_record ({ frames := 5, cells := 0, slots := 0, locals := 119 })).room s m args below meth c H locs 0 0 Q (F0 m 0 ls [])
set_option maxHeartbeats 40000000 in
set_option maxRecDepth 100000 in
theorem db_X19_record_24 {p : Program} {l : Launch} {e : Env} {s : State} {m : MethodId} {args : Array Value} {below : List Frame} {meth : Method} {c : Code} {Q : State → Prop} {A : Nat → Prop} {dC : Nat → ClassId} {dI : Nat → Nat → Nat} {a : Nat → Nat} {ac : Nat → ClassId} {n : Nat} {r : Int32 × (St × (St) × (St × (St × (St))) × (St) × (St))} (C : nd_C p l s m args c A (dC, dI) cX19_record 5 RX19 ow_dm_X19_record (dk_X19 ac)) (K : nd_Ki p l e (headSpec ow_dm_X19_record ({ frames := 5, cells := 0, slots := 0, locals := 119 })).room s m args below meth c Q A (dC, dI) cX19_record .boolean (St × (St) × (St × (St × (St))) × (St) × (St)) (dw_X19 a ac) r) : dj_X19_record_24 p l e s m args below meth c Q A dC dI a ac (df_X19_record_24 n) r := by
  obtain ⟨hlt, hx, hb, hml, hown, hts, hN, hA, hK⟩ := id C
  intro s0 H locs ls h hP hD hS hl
  unfold df_X19_record_24 at h
  refine lv_iconst (v := 0) hx hb dX19_record_24 (by decide) ?_
  exact K _ _ _ _ _ _ dX19_record_25 (by first | rfl | decide) (Option.some.inj h).symm hP hD hS
set_option maxHeartbeats 40000000 in
set_option maxRecDepth 100000 in
theorem db_X19_record_0 {p : Program} {l : Launch} {e : Env} {s : State} {m : MethodId} {args : Array Value} {below : List Frame} {meth : Method} {c : Code} {Q : State → Prop} {A : Nat → Prop} {dC : Nat → ClassId} {dI : Nat → Nat → Nat} {a : Nat → Nat} {ac : Nat → ClassId} {n : Nat} {r : Int32 × (St × (St) × (St × (St × (St))) × (St) × (St))} (C : nd_C p l s m args c A (dC, dI) cX19_record 5 RX19 ow_dm_X19_record (dk_X19 ac)) (K : nd_Ki p l e (headSpec ow_dm_X19_record ({ frames := 5, cells := 0, slots := 0, locals := 119 })).room s m args below meth c Q A (dC, dI) cX19_record .boolean (St × (St) × (St × (St × (St))) × (St) × (St)) (dw_X19 a ac) r) : dj_X19_record_0 p l e s m args below meth c Q A dC dI a ac (df_X19_record_0 n) r := by
  obtain ⟨hlt, hx, hb, hml, hown, hts, hN, hA, hK⟩ := id C
  intro v0 v1 v2 s0 H locs ls h hP hD hS hl
  unfold df_X19_record_0 at h
  refine lv_aload_n hx hb dX19_record_0 rfl (lv_at hl 0 rfl) ?_
  refine va_get (D := (dC, dI)) (ci := 20) (v := .int (sI s0.1 8)) (C := RX19) (T := TX19) (N := 36) hx hb hts hi_dm_X19_record_X19 hown hK hP 0 rfl rfl 22 (by decide) (hts (.fieldLink RX19 192 "TimeMachineModel" "events" "I") (List.mem_of_getElem? (i := 1) rfl)) (fun _ h9 => h9) rfl dX19_record_1 ?_
  refine lv_sipush (v := 2048) hx hb dX19_record_4 (by decide) ?_
  refine lv_icmp_eq (tgt := 24) hx hb dX19_record_7 (by decide) (fun c1 => ?_) (fun c1 => ?_)
  · have h := nd_pos h c1
    exact (db_X19_record_24 C K)  s0 _ _ _ h hP hD hS (lv_sub hl [] rfl)
  · have h := nd_neg h c1
    refine lv_aload_n hx hb dX19_record_10 rfl (lv_at hl 0 rfl) ?_
    refine va_get (D := (dC, dI)) (ci := 20) (v := .ref (a 44)) (C := RX19) (T := TX19) (N := 36) hx hb hts hi_dm_X19_record_X19 hown hK hP 0 rfl rfl 13 (by decide) (hts (.fieldLink RX19 58 "TimeMachineModel" "m" "LTimeMachineModel$Machine;") (List.mem_of_getElem? (i := 2) rfl)) (fun _ h9 => h9) rfl dX19_record_11 ?_
    refine lv_iload_n hx hb dX19_record_14 rfl (lv_at hl 1 rfl) ?_
    refine lv_lload_n hx hb dX19_record_15 rfl (lv_at hl 2 rfl) ?_
    refine lv_iload hx hb dX19_record_16 (lv_at hl 3 rfl) ?_
    obtain ⟨q2, s3, hq, h⟩ := nd_b2_e h
    have hPc := dp_X19_44 hP
    have hDc := dd_X19_44 hD
    have hKc := dy_X19_44 hK
    have hFc := nd_rs hDc hS hA
    have hzA : ∀ q : Nat, H.size ≤ q → A q := fun q h => hA q (Nat.le_trans hS.1 h)
    refine nd_cVi (As := [.int v0, .long v1, .int v2]) (rest := []) (q := q2) (w' := dw_X16 (fun k => a (k + 44)) (fun k => ac (k + 44)) s3) ⟨hx, hb, hml, hown, hts⟩ (fun sz => dm_X16_event l hlt dC dI (fun k => a (k + 44)) (fun k => ac (k + 44)) n (v0) (v1) (v2) s0.2.2.1.2 hq sz) (cwV 3 hts gi_dm_X19_record_0 rfl rfl rfl (by decide +kernel) ⟨Nat.le_of_ble_eq_true rfl, Nat.le_of_ble_eq_true rfl⟩) hPc hDc hKc hS hA hN (va_recv hKc hPc (ci := 17) (q0 := 0) rfl rfl) rfl hl.1 rfl (Nat.le_of_ble_eq_true rfl) dX19_record_18 (fun H locs hP1 hD1 hk1 hS => ?_)
    obtain ⟨hP, hD⟩ := dn_X19_44 hP hD hzA hk1 hP1 hD1
    obtain ⟨s5, es5, h⟩ := nd_let_e h
    have hP : va_P (dC, dI) vwCl (dw_X19 a ac s5) H := by rw [es5]; exact hP
    have hD : va_D A (dw_X19 a ac s5) := by rw [es5]; exact hD
    refine lv_if_ne (tgt := 26) hx hb dX19_record_21 (by decide) (fun c6 => ?_) (fun c6 => ?_)
    · have h := nd_neg h c6
      refine lv_aload_n hx hb dX19_record_26 rfl (lv_at hl 0 rfl) ?_
      refine va_get (D := (dC, dI)) (ci := 20) (v := .ref (a 6)) (C := RX19) (T := TX19) (N := 36) hx hb hts hi_dm_X19_record_X19 hown hK hP 0 rfl rfl 26 (by decide) (hts (.fieldLink RX19 85 "TimeMachineModel" "kind" "[I") (List.mem_of_getElem? (i := 7) rfl)) (fun _ h9 => h9) rfl dX19_record_27 ?_
      refine lv_aload_n hx hb dX19_record_30 rfl (lv_at hl 0 rfl) ?_
      refine va_get (D := (dC, dI)) (ci := 20) (v := .int (sI s5.1 8)) (C := RX19) (T := TX19) (N := 36) hx hb hts hi_dm_X19_record_X19 hown hK hP 0 rfl rfl 22 (by decide) (hts (.fieldLink RX19 192 "TimeMachineModel" "events" "I") (List.mem_of_getElem? (i := 1) rfl)) (fun _ h9 => h9) rfl dX19_record_31 ?_
      refine lv_iload_n hx hb dX19_record_34 rfl (lv_at hl 1 rfl) ?_
      obtain ⟨i7, h⟩ := nd_ck_e h
      refine va_iast (i := (sI s5.1 8)) (x := v0) hx hb hK hP hD hS 6 5 rfl rfl i7 dX19_record_35 (fun H locs hP hD hS => ?_)
      obtain ⟨s8, es8, h⟩ := nd_let_e h
      have hP : va_P (dC, dI) vwCl (dw_X19 a ac s8) H := by rw [es8]; exact hP
      have hD : va_D A (dw_X19 a ac s8) := by rw [es8]; exact hD
      refine lv_aload_n hx hb dX19_record_36 rfl (lv_at hl 0 rfl) ?_
      refine va_get (D := (dC, dI)) (ci := 20) (v := .ref (a 11)) (C := RX19) (T := TX19) (N := 36) hx hb hts hi_dm_X19_record_X19 hown hK hP 0 rfl rfl 31 (by decide) (hts (.fieldLink RX19 100 "TimeMachineModel" "a" "[J") (List.mem_of_getElem? (i := 8) rfl)) (fun _ h9 => h9) rfl dX19_record_37 ?_
      refine lv_aload_n hx hb dX19_record_40 rfl (lv_at hl 0 rfl) ?_
      refine va_get (D := (dC, dI)) (ci := 20) (v := .int (sI s8.1 8)) (C := RX19) (T := TX19) (N := 36) hx hb hts hi_dm_X19_record_X19 hown hK hP 0 rfl rfl 22 (by decide) (hts (.fieldLink RX19 192 "TimeMachineModel" "events" "I") (List.mem_of_getElem? (i := 1) rfl)) (fun _ h9 => h9) rfl dX19_record_41 ?_
      refine lv_lload_n hx hb dX19_record_44 rfl (lv_at hl 2 rfl) ?_
      obtain ⟨i9, h⟩ := nd_ck_e h
      refine va_last (i := (sI s8.1 8)) (x := v1) hx hb hK hP hD hS 11 10 rfl rfl i9 dX19_record_45 (fun H locs hP hD hS => ?_)
      obtain ⟨s10, es10, h⟩ := nd_let_e h
      have hP : va_P (dC, dI) vwCl (dw_X19 a ac s10) H := by rw [es10]; exact hP
      have hD : va_D A (dw_X19 a ac s10) := by rw [es10]; exact hD
      refine lv_aload_n hx hb dX19_record_46 rfl (lv_at hl 0 rfl) ?_
      refine va_get (D := (dC, dI)) (ci := 20) (v := .ref (a 7)) (C := RX19) (T := TX19) (N := 36) hx hb hts hi_dm_X19_record_X19 hown hK hP 0 rfl rfl 27 (by decide) (hts (.fieldLink RX19 88 "TimeMachineModel" "b" "[I") (List.mem_of_getElem? (i := 9) rfl)) (fun _ h9 => h9) rfl dX19_record_47 ?_
      refine lv_aload_n hx hb dX19_record_50 rfl (lv_at hl 0 rfl) ?_
      refine va_get (D := (dC, dI)) (ci := 20) (v := .int (sI s10.1 8)) (C := RX19) (T := TX19) (N := 36) hx hb hts hi_dm_X19_record_X19 hown hK hP 0 rfl rfl 22 (by decide) (hts (.fieldLink RX19 192 "TimeMachineModel" "events" "I") (List.mem_of_getElem? (i := 1) rfl)) (fun _ h9 => h9) rfl dX19_record_51 ?_
      refine lv_iload hx hb dX19_record_54 (lv_at hl 3 rfl) ?_
      obtain ⟨i11, h⟩ := nd_ck_e h
      refine va_iast (i := (sI s10.1 8)) (x := v2) hx hb hK hP hD hS 7 6 rfl rfl i11 dX19_record_56 (fun H locs hP hD hS => ?_)
      obtain ⟨s12, es12, h⟩ := nd_let_e h
      have hP : va_P (dC, dI) vwCl (dw_X19 a ac s12) H := by rw [es12]; exact hP
      have hD : va_D A (dw_X19 a ac s12) := by rw [es12]; exact hD
      refine lv_aload_n hx hb dX19_record_57 rfl (lv_at hl 0 rfl) ?_
      refine va_get (D := (dC, dI)) (ci := 20) (v := .ref (a 8)) (C := RX19) (T := TX19) (N := 36) hx hb hts hi_dm_X19_record_X19 hown hK hP 0 rfl rfl 28 (by decide) (hts (.fieldLink RX19 91 "TimeMachineModel" "when" "[I") (List.mem_of_getElem? (i := 10) rfl)) (fun _ h9 => h9) rfl dX19_record_58 ?_
      refine lv_aload_n hx hb dX19_record_61 rfl (lv_at hl 0 rfl) ?_
      refine va_get (D := (dC, dI)) (ci := 20) (v := .int (sI s12.1 8)) (C := RX19) (T := TX19) (N := 36) hx hb hts hi_dm_X19_record_X19 hown hK hP 0 rfl rfl 22 (by decide) (hts (.fieldLink RX19 192 "TimeMachineModel" "events" "I") (List.mem_of_getElem? (i := 1) rfl)) (fun _ h9 => h9) rfl dX19_record_62 ?_
      refine lv_aload_n hx hb dX19_record_65 rfl (lv_at hl 0 rfl) ?_
      refine va_get (D := (dC, dI)) (ci := 20) (v := .int (sI s12.1 6)) (C := RX19) (T := TX19) (N := 36) hx hb hts hi_dm_X19_record_X19 hown hK hP 0 rfl rfl 20 (by decide) (hts (.fieldLink RX19 210 "TimeMachineModel" "end" "I") (List.mem_of_getElem? (i := 11) rfl)) (fun _ h9 => h9) rfl dX19_record_66 ?_
      obtain ⟨i13, h⟩ := nd_ck_e h
      refine va_iast (i := (sI s12.1 8)) (x := (sI s12.1 6)) hx hb hK hP hD hS 8 7 rfl rfl i13 dX19_record_69 (fun H locs hP hD hS => ?_)
      obtain ⟨s14, es14, h⟩ := nd_let_e h
      have hP : va_P (dC, dI) vwCl (dw_X19 a ac s14) H := by rw [es14]; exact hP
      have hD : va_D A (dw_X19 a ac s14) := by rw [es14]; exact hD
      refine lv_aload_n hx hb dX19_record_70 rfl (lv_at hl 0 rfl) ?_
      refine lv_dup hx hb dX19_record_71 rfl ?_
      refine va_get (D := (dC, dI)) (ci := 20) (v := .int (sI s14.1 8)) (C := RX19) (T := TX19) (N := 36) hx hb hts hi_dm_X19_record_X19 hown hK hP 0 rfl rfl 22 (by decide) (hts (.fieldLink RX19 192 "TimeMachineModel" "events" "I") (List.mem_of_getElem? (i := 1) rfl)) (fun _ h9 => h9) rfl dX19_record_72 ?_
      refine lv_iconst (v := 1) hx hb dX19_record_75 (by decide) ?_
      refine lv_iadd hx hb dX19_record_76 ?_
      refine va_put (D := (dC, dI)) (ci := 20) (v := .int ((sI s14.1 8) + 1)) (ty := .int) (C := RX19) (T := TX19) (N := 36) hx hb hts hi_dm_X19_record_X19 tyX19 tyX19_ok nmX19 hown hK hP hD hS 0 rfl rfl 22 (by decide) (hts (.fieldLink RX19 192 "TimeMachineModel" "events" "I") (List.mem_of_getElem? (i := 1) rfl)) (fun _ h9 => h9) rfl (by decide +kernel) rfl rfl (Nat.le_of_ble_eq_true rfl) dX19_record_77 (fun H locs hP hD hS => ?_)
      obtain ⟨s15, es15, h⟩ := nd_let_e h
      have hP : va_P (dC, dI) vwCl (dw_X19 a ac s15) H := by rw [es15]; exact hP
      have hD : va_D A (dw_X19 a ac s15) := by rw [es15]; exact hD
      refine lv_aload_n hx hb dX19_record_80 rfl (lv_at hl 0 rfl) ?_
      refine lv_aload_n hx hb dX19_record_81 rfl (lv_at hl 0 rfl) ?_
      refine va_get (D := (dC, dI)) (ci := 20) (v := .int (sI s15.1 8)) (C := RX19) (T := TX19) (N := 36) hx hb hts hi_dm_X19_record_X19 hown hK hP 0 rfl rfl 22 (by decide) (hts (.fieldLink RX19 192 "TimeMachineModel" "events" "I") (List.mem_of_getElem? (i := 1) rfl)) (fun _ h9 => h9) rfl dX19_record_82 ?_
      refine va_put (D := (dC, dI)) (ci := 20) (v := .int (sI s15.1 8)) (ty := .int) (C := RX19) (T := TX19) (N := 36) hx hb hts hi_dm_X19_record_X19 tyX19 tyX19_ok nmX19 hown hK hP hD hS 0 rfl rfl 24 (by decide) (hts (.fieldLink RX19 186 "TimeMachineModel" "taken" "I") (List.mem_of_getElem? (i := 12) rfl)) (fun _ h9 => h9) rfl (by decide +kernel) rfl rfl (Nat.le_of_ble_eq_true rfl) dX19_record_85 (fun H locs hP hD hS => ?_)
      obtain ⟨s16, es16, h⟩ := nd_let_e h
      have hP : va_P (dC, dI) vwCl (dw_X19 a ac s16) H := by rw [es16]; exact hP
      have hD : va_D A (dw_X19 a ac s16) := by rw [es16]; exact hD
      refine lv_iconst (v := 1) hx hb dX19_record_88 (by decide) ?_
      exact K _ _ _ _ _ _ dX19_record_89 (by first | rfl | decide) (Option.some.inj h).symm hP hD hS
    · have h := nd_pos h c6
      exact (db_X19_record_24 C K)  s5 _ _ _ h hP hD hS (lv_sub hl [] rfl)
set_option maxHeartbeats 40000000 in
set_option maxRecDepth 100000 in
theorem dm_X19_record (l : Launch) (hlt : l.stackTraces = false) (dC : Nat → ClassId) (dI : Nat → Nat → Nat) (a : Nat → Nat) (ac : Nat → ClassId) (n : Nat) (v0 : Int32) (v1 : Int64) (v2 : Int32) (s0 : St × (St) × (St × (St × (St))) × (St) × (St)) {r : Int32 × (St × (St) × (St × (St × (St))) × (St) × (St))} (h : df_X19_record n v0 v1 v2 s0 = some r) (sz : Nat) : Met l yX19_record ow_dm_X19_record ({ frames := 5, cells := 0, slots := 0, locals := 119 }) (va_Pc [.ref (a 0), .int v0, .long v1, .int v2] (fun U => U.heap.size = sz ∧ va_P (dC, dI) vwCl (dw_X19 a ac s0) U.heap ∧ va_K (dC, dI) vwCl (dk_X19 ac) U ∧ va_D (fun _ => True) (dw_X19 a ac s0) ∧ nv_E dI (va_A (dw_X19 a ac s0) sz) U)) (va_Qi (fun x _ => x = r.1) (fun (_ : Unit) t => va_P (dC, dI) vwCl (dw_X19 a ac r.2) t.heap ∧ va_K (dC, dI) vwCl (dk_X19 ac) t ∧ va_D (va_A (dw_X19 a ac s0) sz) (dw_X19 a ac r.2)) (va_A (dw_X19 a ac s0) sz)) 0 0 (va_A (dw_X19 a ac s0) sz) := by
  refine Met.ofW (cc := cX19_record) (maxL := 5) (ret := (some .boolean)) (by decide) rfl ?_
  intro p e s m args below meth c s₁ B hml hv
  obtain ⟨rfl, hsz, hP, hK, hD0, hN⟩ := hv
  have hx := B.exec
  have hb := B.bytes
  have hr := B.returns
  have hts := atoms_spec (ws := ow_dm_X19_record) B.pre
  have hown : s.vm.findClass RX19 = some m.cls := findClass_of_methodNamed B.named
  have hlocks := B.notSynchronized
  subst hsz
  have hD := hD0.self (sz := s.heap.size)
  generalize hAe : va_A (dw_X19 a ac s0) s.heap.size = A at hD hN ⊢
  have hA : ∀ q : Nat, s.heap.size ≤ q → A q := fun q h => by rw [← hAe]; exact Or.inr h
  have hl := lv_entry ([.ref (a 0), .int v0, .long v1, .int v2]) (n := 5) (Nat.le_of_ble_eq_true rfl)
  rw [lg_entry_eq]
  generalize (lg_sl ([.ref (a 0), .int v0, .long v1, .int v2]) ++ List.replicate (5 - (lg_sl ([.ref (a 0), .int v0, .long v1, .int v2])).length) Slot.unset).toArray = ls at hl ⊢
  have hl : lv_has ls 5 [(0, .ref (a 0)), (1, .int v0), (2, .long v1), (4, .int v2)] := hl
  exact db_X19_record_0 (dC := dC) (dI := dI) (a := a) (ac := ac) (n := n) (r := r) ⟨hlt, hx, hb, hml, hown, hts, hN, hA, hK⟩ (fun pc v τ H locs ls d z er hP hD hS => by subst er; exact W.zret (v := v) hx hb hr z (fun t ht hW => ⟨⟨v, (), rfl, rfl, by rw [ht]; exact hP, va_K.moved hW.alike hK, hD⟩, hS.F ht⟩) hS.2.2 d) v0 v1 v2 s0 _ _ _ h hP hD va_S.rf (lv_sub hl [0, 1, 2, 3] rfl)
def ow_dm_X19_takeScheduled : List Cond := Cond.code yX19_takeScheduled cX19_takeScheduled 3 (some .boolean) :: ([Cond.fieldLink RX19 212 "TimeMachineModel" "scheduled" "I", Cond.fieldLink RX19 107 "TimeMachineModel" "laterWhen" "[J", Cond.fieldLink RX19 210 "TimeMachineModel" "end" "I", Cond.fieldLink RX19 94 "TimeMachineModel" "laterKind" "[I", Cond.fieldLink RX19 104 "TimeMachineModel" "laterA" "[J", Cond.fieldLink RX19 97 "TimeMachineModel" "laterB" "[I", Cond.methodLink RX19 215 yX19_record, Cond.instanceMethod yX19_record, Cond.selects RX19 yX19_record yX19_record, Cond.initialized RX19] ++ (u_ws RX19 TX19 36 ++ (ow_dm_X19_record ++ [])))
theorem gd_dm_X19_takeScheduled : ∀ w ∈ ow_dm_X19_takeScheduled, (w.onTables && w.keeps) = true ∨ ∃ ty, w = Cond.arrayClass ty := List.forall_mem_cons.mpr ⟨good_of_word rfl, List.forall_mem_append.mpr ⟨fun w h => good_of_word (List.all_eq_true.mp (by decide +kernel) w h), List.forall_mem_append.mpr ⟨gu_X19, List.forall_mem_append.mpr ⟨gd_dm_X19_record, fun _ h => nomatch h⟩⟩⟩⟩
theorem hi_dm_X19_takeScheduled_X19 : ∀ w ∈ u_ws RX19 TX19 36, w ∈ ow_dm_X19_takeScheduled := fun w h => List.mem_cons_of_mem _ (List.mem_append_right _ (List.mem_append_left _ h))
theorem gi_dm_X19_takeScheduled_0 : GoodIn ow_dm_X19_takeScheduled (wsV RX19 215 RX19 yX19_record ow_dm_X19_record) := goodIn_app (goodIn_of _ (by decide +kernel)) (fun w h => ⟨List.mem_cons_of_mem _ (List.mem_append_right _ (List.mem_append_right _ (List.mem_append_left _ h))), gd_dm_X19_record w h⟩)
def dj_X19_takeScheduled_144 (p : Program) (l : Launch) (e : Env) (s : State) (m : MethodId) (args : Array Value) (below : List Frame) (meth : Method) (c : Code) (Q : State → Prop) (A : Nat → Prop) (dC : Nat → ClassId) (dI : Nat → Nat → Nat) (a : Nat → Nat) (ac : Nat → ClassId) (g : Int32 → (St × (St) × (St × (St × (St))) × (St) × (St)) → Option (Int32 × (St × (St) × (St × (St × (St))) × (St) × (St)))) (r : Int32 × (St × (St) × (St × (St × (St))) × (St) × (St))) : Prop := ∀ (x1 : Int32) (s0 : St × (St) × (St × (St × (St))) × (St) × (St)) (H : Heap) (locs : List Loc) (ls : Array Slot), g x1 s0 = some r → va_P (dC, dI) vwCl (dw_X19 a ac s0) H → va_D A (dw_X19 a ac s0) → va_S A s.heap H locs → lv_has ls 3 [(1, .int x1)] → W p l e (headSpec ow_dm_X19_takeScheduled ({ frames := 6, cells := 0, slots := 0, locals := 143 })).room s m args below meth c H locs 0 0 Q (F0 m 144 ls [])
def dj_X19_takeScheduled_71 (p : Program) (l : Launch) (e : Env) (s : State) (m : MethodId) (args : Array Value) (below : List Frame) (meth : Method) (c : Code) (Q : State → Prop) (A : Nat → Prop) (dC : Nat → ClassId) (dI : Nat → Nat → Nat) (a : Nat → Nat) (ac : Nat → ClassId) (g : Int32 → Int32 → (St × (St) × (St × (St × (St))) × (St) × (St)) → Option (Int32 × (St × (St) × (St × (St × (St))) × (St) × (St)))) (r : Int32 × (St × (St) × (St × (St × (St))) × (St) × (St))) : Prop := ∀ (x1 : Int32) (x2 : Int32) (s0 : St × (St) × (St × (St × (St))) × (St) × (St)) (H : Heap) (locs : List Loc) (ls : Array Slot), g x1 x2 s0 = some r → va_P (dC, dI) vwCl (dw_X19 a ac s0) H → va_D A (dw_X19 a ac s0) → va_S A s.heap H locs → lv_has ls 3 [(0, .ref (a 0)), (1, .int x1), (2, .int x2)] → W p l e (headSpec ow_dm_X19_takeScheduled ({ frames := 6, cells := 0, slots := 0, locals := 143 })).room s m args below meth c H locs 0 0 Q (F0 m 71 ls [])
def dj_X19_takeScheduled_66 (p : Program) (l : Launch) (e : Env) (s : State) (m : MethodId) (args : Array Value) (below : List Frame) (meth : Method) (c : Code) (Q : State → Prop) (A : Nat → Prop) (dC : Nat → ClassId) (dI : Nat → Nat → Nat) (a : Nat → Nat) (ac : Nat → ClassId) (g : Int32 → Int32 → (St × (St) × (St × (St × (St))) × (St) × (St)) → Option (Int32 × (St × (St) × (St × (St × (St))) × (St) × (St)))) (r : Int32 × (St × (St) × (St × (St × (St))) × (St) × (St))) : Prop := ∀ (x1 : Int32) (y1 : Int32) (s0 : St × (St) × (St × (St × (St))) × (St) × (St)) (H : Heap) (locs : List Loc) (ls : Array Slot), g x1 y1 s0 = some r → va_P (dC, dI) vwCl (dw_X19 a ac s0) H → va_D A (dw_X19 a ac s0) → va_S A s.heap H locs → lv_has ls 3 [(0, .ref (a 0)), (1, .int x1)] → W p l e (headSpec ow_dm_X19_takeScheduled ({ frames := 6, cells := 0, slots := 0, locals := 143 })).room s m args below meth c H locs 0 0 Q (F0 m 66 ls [.int y1, .ref (a 0)])
def dj_X19_takeScheduled_2 (p : Program) (l : Launch) (e : Env) (s : State) (m : MethodId) (args : Array Value) (below : List Frame) (meth : Method) (c : Code) (Q : State → Prop) (A : Nat → Prop) (dC : Nat → ClassId) (dI : Nat → Nat → Nat) (a : Nat → Nat) (ac : Nat → ClassId) (g : Int32 → (St × (St) × (St × (St × (St))) × (St) × (St)) → Option (Int32 × (St × (St) × (St × (St × (St))) × (St) × (St)))) (r : Int32 × (St × (St) × (St × (St × (St))) × (St) × (St))) : Prop := ∀ (x1 : Int32) (s0 : St × (St) × (St × (St × (St))) × (St) × (St)) (H : Heap) (locs : List Loc) (ls : Array Slot), g x1 s0 = some r → va_P (dC, dI) vwCl (dw_X19 a ac s0) H → va_D A (dw_X19 a ac s0) → va_S A s.heap H locs → lv_has ls 3 [(0, .ref (a 0)), (1, .int x1)] → W p l e (headSpec ow_dm_X19_takeScheduled ({ frames := 6, cells := 0, slots := 0, locals := 143 })).room s m args below meth c H locs 0 0 Q (F0 m 2 ls [])
def dj_X19_takeScheduled_0 (p : Program) (l : Launch) (e : Env) (s : State) (m : MethodId) (args : Array Value) (below : List Frame) (meth : Method) (c : Code) (Q : State → Prop) (A : Nat → Prop) (dC : Nat → ClassId) (dI : Nat → Nat → Nat) (a : Nat → Nat) (ac : Nat → ClassId) (g : (St × (St) × (St × (St × (St))) × (St) × (St)) → Option (Int32 × (St × (St) × (St × (St × (St))) × (St) × (St)))) (r : Int32 × (St × (St) × (St × (St × (St))) × (St) × (St))) : Prop := ∀ (s0 : St × (St) × (St × (St × (St))) × (St) × (St)) (H : Heap) (locs : List Loc) (ls : Array Slot), g s0 = some r → va_P (dC, dI) vwCl (dw_X19 a ac s0) H → va_D A (dw_X19 a ac s0) → va_S A s.heap H locs → lv_has ls 3 [(0, .ref (a 0))] → W p l e (headSpec ow_dm_X19_takeScheduled ({ frames := 6, cells := 0, slots := 0, locals := 143 })).room s m args below meth c H locs 0 0 Q (F0 m 0 ls [])
set_option maxHeartbeats 40000000 in
set_option maxRecDepth 100000 in
theorem db_X19_takeScheduled_144 {p : Program} {l : Launch} {e : Env} {s : State} {m : MethodId} {args : Array Value} {below : List Frame} {meth : Method} {c : Code} {Q : State → Prop} {A : Nat → Prop} {dC : Nat → ClassId} {dI : Nat → Nat → Nat} {a : Nat → Nat} {ac : Nat → ClassId} {n : Nat} {r : Int32 × (St × (St) × (St × (St × (St))) × (St) × (St))} (C : nd_C p l s m args c A (dC, dI) cX19_takeScheduled 3 RX19 ow_dm_X19_takeScheduled (dk_X19 ac)) (K : nd_Ki p l e (headSpec ow_dm_X19_takeScheduled ({ frames := 6, cells := 0, slots := 0, locals := 143 })).room s m args below meth c Q A (dC, dI) cX19_takeScheduled .boolean (St × (St) × (St × (St × (St))) × (St) × (St)) (dw_X19 a ac) r) : dj_X19_takeScheduled_144 p l e s m args below meth c Q A dC dI a ac (df_X19_takeScheduled_144 n) r := by
  obtain ⟨hlt, hx, hb, hml, hown, hts, hN, hA, hK⟩ := id C
  intro x1 s0 H locs ls h hP hD hS hl
  unfold df_X19_takeScheduled_144 at h
  refine lv_iload_n hx hb dX19_takeScheduled_144 rfl (lv_at hl 0 rfl) ?_
  obtain ⟨n2, h⟩ := nd_z_e ⟨_, rfl⟩ h
  exact K _ _ _ _ _ _ dX19_takeScheduled_145 n2 (Option.some.inj h).symm hP hD hS
set_option maxHeartbeats 40000000 in
set_option maxRecDepth 100000 in
theorem dB_X19_takeScheduled_71 {p : Program} {l : Launch} {e : Env} {s : State} {m : MethodId} {args : Array Value} {below : List Frame} {meth : Method} {c : Code} {Q : State → Prop} {A : Nat → Prop} {dC : Nat → ClassId} {dI : Nat → Nat → Nat} {a : Nat → Nat} {ac : Nat → ClassId} {n : Nat} {r : Int32 × (St × (St) × (St × (St × (St))) × (St) × (St))} (C : nd_C p l s m args c A (dC, dI) cX19_takeScheduled 3 RX19 ow_dm_X19_takeScheduled (dk_X19 ac)) (K : nd_Ki p l e (headSpec ow_dm_X19_takeScheduled ({ frames := 6, cells := 0, slots := 0, locals := 143 })).room s m args below meth c Q A (dC, dI) cX19_takeScheduled .boolean (St × (St) × (St × (St × (St))) × (St) × (St)) (dw_X19 a ac) r) {g2 : Int32 → (St × (St) × (St × (St × (St))) × (St) × (St)) → Option (Int32 × (St × (St) × (St × (St × (St))) × (St) × (St)))} (J2 : dj_X19_takeScheduled_2 p l e s m args below meth c Q A dC dI a ac g2 r) {g71 : Int32 → Int32 → (St × (St) × (St × (St × (St))) × (St) × (St)) → Option (Int32 × (St × (St) × (St × (St × (St))) × (St) × (St)))} (J71 : dj_X19_takeScheduled_71 p l e s m args below meth c Q A dC dI a ac g71 r) : dj_X19_takeScheduled_71 p l e s m args below meth c Q A dC dI a ac (dF_X19_takeScheduled_71 n g2 g71) r := by
  obtain ⟨hlt, hx, hb, hml, hown, hts, hN, hA, hK⟩ := id C
  intro x1 x2 s0 H locs ls h hP hD hS hl
  unfold dF_X19_takeScheduled_71 at h
  refine lv_iload_n hx hb dX19_takeScheduled_71 rfl (lv_at hl 2 rfl) ?_
  refine lv_aload_n hx hb dX19_takeScheduled_72 rfl (lv_at hl 0 rfl) ?_
  refine va_get (D := (dC, dI)) (ci := 20) (v := .int (sI s0.1 9)) (C := RX19) (T := TX19) (N := 36) hx hb hts hi_dm_X19_takeScheduled_X19 hown hK hP 0 rfl rfl 23 (by decide) (hts (.fieldLink RX19 212 "TimeMachineModel" "scheduled" "I") (List.mem_of_getElem? (i := 1) rfl)) (fun _ h9 => h9) rfl dX19_takeScheduled_73 ?_
  refine lv_icmp_ge (tgt := 141) hx hb dX19_takeScheduled_76 (by decide) (fun c10 => ?_) (fun c10 => ?_)
  · have h := nd_pos h c10
    refine lv_goto (tgt := 2) hx hb dX19_takeScheduled_141 (by decide) ?_
    exact (J2) (x1) s0 _ _ _ h hP hD hS (lv_sub hl [0, 1] rfl)
  · have h := nd_neg h c10
    refine lv_aload_n hx hb dX19_takeScheduled_79 rfl (lv_at hl 0 rfl) ?_
    refine va_get (D := (dC, dI)) (ci := 20) (v := .ref (a 9)) (C := RX19) (T := TX19) (N := 36) hx hb hts hi_dm_X19_takeScheduled_X19 hown hK hP 0 rfl rfl 29 (by decide) (hts (.fieldLink RX19 94 "TimeMachineModel" "laterKind" "[I") (List.mem_of_getElem? (i := 4) rfl)) (fun _ h9 => h9) rfl dX19_takeScheduled_80 ?_
    refine lv_iload_n hx hb dX19_takeScheduled_83 rfl (lv_at hl 2 rfl) ?_
    refine lv_aload_n hx hb dX19_takeScheduled_84 rfl (lv_at hl 0 rfl) ?_
    refine va_get (D := (dC, dI)) (ci := 20) (v := .ref (a 9)) (C := RX19) (T := TX19) (N := 36) hx hb hts hi_dm_X19_takeScheduled_X19 hown hK hP 0 rfl rfl 29 (by decide) (hts (.fieldLink RX19 94 "TimeMachineModel" "laterKind" "[I") (List.mem_of_getElem? (i := 4) rfl)) (fun _ h9 => h9) rfl dX19_takeScheduled_85 ?_
    refine lv_iload_n hx hb dX19_takeScheduled_88 rfl (lv_at hl 2 rfl) ?_
    refine lv_iconst (v := 1) hx hb dX19_takeScheduled_89 (by decide) ?_
    refine lv_iadd hx hb dX19_takeScheduled_90 ?_
    obtain ⟨i11, h⟩ := nd_ck_e h
    refine va_iald (i := (x2 + 1)) hx hb hK hP 9 8 rfl rfl i11 dX19_takeScheduled_91 ?_
    obtain ⟨i12, h⟩ := nd_ck_e h
    refine va_iast (i := x2) (x := (sR s0.1 8 (Int32.toNatClampNeg (x2 + 1)))) hx hb hK hP hD hS 9 8 rfl rfl i12 dX19_takeScheduled_92 (fun H locs hP hD hS => ?_)
    obtain ⟨s13, es13, h⟩ := nd_let_e h
    have hP : va_P (dC, dI) vwCl (dw_X19 a ac s13) H := by rw [es13]; exact hP
    have hD : va_D A (dw_X19 a ac s13) := by rw [es13]; exact hD
    refine lv_aload_n hx hb dX19_takeScheduled_93 rfl (lv_at hl 0 rfl) ?_
    refine va_get (D := (dC, dI)) (ci := 20) (v := .ref (a 12)) (C := RX19) (T := TX19) (N := 36) hx hb hts hi_dm_X19_takeScheduled_X19 hown hK hP 0 rfl rfl 32 (by decide) (hts (.fieldLink RX19 104 "TimeMachineModel" "laterA" "[J") (List.mem_of_getElem? (i := 5) rfl)) (fun _ h9 => h9) rfl dX19_takeScheduled_94 ?_
    refine lv_iload_n hx hb dX19_takeScheduled_97 rfl (lv_at hl 2 rfl) ?_
    refine lv_aload_n hx hb dX19_takeScheduled_98 rfl (lv_at hl 0 rfl) ?_
    refine va_get (D := (dC, dI)) (ci := 20) (v := .ref (a 12)) (C := RX19) (T := TX19) (N := 36) hx hb hts hi_dm_X19_takeScheduled_X19 hown hK hP 0 rfl rfl 32 (by decide) (hts (.fieldLink RX19 104 "TimeMachineModel" "laterA" "[J") (List.mem_of_getElem? (i := 5) rfl)) (fun _ h9 => h9) rfl dX19_takeScheduled_99 ?_
    refine lv_iload_n hx hb dX19_takeScheduled_102 rfl (lv_at hl 2 rfl) ?_
    refine lv_iconst (v := 1) hx hb dX19_takeScheduled_103 (by decide) ?_
    refine lv_iadd hx hb dX19_takeScheduled_104 ?_
    obtain ⟨i14, h⟩ := nd_ck_e h
    refine va_lald (i := (x2 + 1)) hx hb hK hP 12 11 rfl rfl i14 dX19_takeScheduled_105 ?_
    obtain ⟨i15, h⟩ := nd_ck_e h
    refine va_last (i := x2) (x := (sQ s13.1 1 (Int32.toNatClampNeg (x2 + 1)))) hx hb hK hP hD hS 12 11 rfl rfl i15 dX19_takeScheduled_106 (fun H locs hP hD hS => ?_)
    obtain ⟨s16, es16, h⟩ := nd_let_e h
    have hP : va_P (dC, dI) vwCl (dw_X19 a ac s16) H := by rw [es16]; exact hP
    have hD : va_D A (dw_X19 a ac s16) := by rw [es16]; exact hD
    refine lv_aload_n hx hb dX19_takeScheduled_107 rfl (lv_at hl 0 rfl) ?_
    refine va_get (D := (dC, dI)) (ci := 20) (v := .ref (a 10)) (C := RX19) (T := TX19) (N := 36) hx hb hts hi_dm_X19_takeScheduled_X19 hown hK hP 0 rfl rfl 30 (by decide) (hts (.fieldLink RX19 97 "TimeMachineModel" "laterB" "[I") (List.mem_of_getElem? (i := 6) rfl)) (fun _ h9 => h9) rfl dX19_takeScheduled_108 ?_
    refine lv_iload_n hx hb dX19_takeScheduled_111 rfl (lv_at hl 2 rfl) ?_
    refine lv_aload_n hx hb dX19_takeScheduled_112 rfl (lv_at hl 0 rfl) ?_
    refine va_get (D := (dC, dI)) (ci := 20) (v := .ref (a 10)) (C := RX19) (T := TX19) (N := 36) hx hb hts hi_dm_X19_takeScheduled_X19 hown hK hP 0 rfl rfl 30 (by decide) (hts (.fieldLink RX19 97 "TimeMachineModel" "laterB" "[I") (List.mem_of_getElem? (i := 6) rfl)) (fun _ h9 => h9) rfl dX19_takeScheduled_113 ?_
    refine lv_iload_n hx hb dX19_takeScheduled_116 rfl (lv_at hl 2 rfl) ?_
    refine lv_iconst (v := 1) hx hb dX19_takeScheduled_117 (by decide) ?_
    refine lv_iadd hx hb dX19_takeScheduled_118 ?_
    obtain ⟨i17, h⟩ := nd_ck_e h
    refine va_iald (i := (x2 + 1)) hx hb hK hP 10 9 rfl rfl i17 dX19_takeScheduled_119 ?_
    obtain ⟨i18, h⟩ := nd_ck_e h
    refine va_iast (i := x2) (x := (sR s16.1 9 (Int32.toNatClampNeg (x2 + 1)))) hx hb hK hP hD hS 10 9 rfl rfl i18 dX19_takeScheduled_120 (fun H locs hP hD hS => ?_)
    obtain ⟨s19, es19, h⟩ := nd_let_e h
    have hP : va_P (dC, dI) vwCl (dw_X19 a ac s19) H := by rw [es19]; exact hP
    have hD : va_D A (dw_X19 a ac s19) := by rw [es19]; exact hD
    refine lv_aload_n hx hb dX19_takeScheduled_121 rfl (lv_at hl 0 rfl) ?_
    refine va_get (D := (dC, dI)) (ci := 20) (v := .ref (a 13)) (C := RX19) (T := TX19) (N := 36) hx hb hts hi_dm_X19_takeScheduled_X19 hown hK hP 0 rfl rfl 33 (by decide) (hts (.fieldLink RX19 107 "TimeMachineModel" "laterWhen" "[J") (List.mem_of_getElem? (i := 2) rfl)) (fun _ h9 => h9) rfl dX19_takeScheduled_122 ?_
    refine lv_iload_n hx hb dX19_takeScheduled_125 rfl (lv_at hl 2 rfl) ?_
    refine lv_aload_n hx hb dX19_takeScheduled_126 rfl (lv_at hl 0 rfl) ?_
    refine va_get (D := (dC, dI)) (ci := 20) (v := .ref (a 13)) (C := RX19) (T := TX19) (N := 36) hx hb hts hi_dm_X19_takeScheduled_X19 hown hK hP 0 rfl rfl 33 (by decide) (hts (.fieldLink RX19 107 "TimeMachineModel" "laterWhen" "[J") (List.mem_of_getElem? (i := 2) rfl)) (fun _ h9 => h9) rfl dX19_takeScheduled_127 ?_
    refine lv_iload_n hx hb dX19_takeScheduled_130 rfl (lv_at hl 2 rfl) ?_
    refine lv_iconst (v := 1) hx hb dX19_takeScheduled_131 (by decide) ?_
    refine lv_iadd hx hb dX19_takeScheduled_132 ?_
    obtain ⟨i20, h⟩ := nd_ck_e h
    refine va_lald (i := (x2 + 1)) hx hb hK hP 13 12 rfl rfl i20 dX19_takeScheduled_133 ?_
    obtain ⟨i21, h⟩ := nd_ck_e h
    refine va_last (i := x2) (x := (sQ s19.1 2 (Int32.toNatClampNeg (x2 + 1)))) hx hb hK hP hD hS 13 12 rfl rfl i21 dX19_takeScheduled_134 (fun H locs hP hD hS => ?_)
    obtain ⟨s22, es22, h⟩ := nd_let_e h
    have hP : va_P (dC, dI) vwCl (dw_X19 a ac s22) H := by rw [es22]; exact hP
    have hD : va_D A (dw_X19 a ac s22) := by rw [es22]; exact hD
    obtain ⟨z23, ez23, h⟩ := nd_let_e h
    refine lv_iinc (v := z23) (lv' := [(2, .int z23), (0, .ref (a 0)), (1, .int x1)]) hx hb dX19_takeScheduled_135 hl (k := 2) rfl (by rw [ez23]) (by decide) rfl (fun ls hl => ?_)
    refine lv_goto (tgt := 71) hx hb dX19_takeScheduled_138 (by decide) ?_
    exact (J71) (x1) (z23) s22 _ _ _ h hP hD hS (lv_sub hl [1, 2, 0] rfl)
set_option maxHeartbeats 40000000 in
set_option maxRecDepth 100000 in
theorem db_X19_takeScheduled_71 {p : Program} {l : Launch} {e : Env} {s : State} {m : MethodId} {args : Array Value} {below : List Frame} {meth : Method} {c : Code} {Q : State → Prop} {A : Nat → Prop} {dC : Nat → ClassId} {dI : Nat → Nat → Nat} {a : Nat → Nat} {ac : Nat → ClassId} {n : Nat} {r : Int32 × (St × (St) × (St × (St × (St))) × (St) × (St))} (C : nd_C p l s m args c A (dC, dI) cX19_takeScheduled 3 RX19 ow_dm_X19_takeScheduled (dk_X19 ac)) (K : nd_Ki p l e (headSpec ow_dm_X19_takeScheduled ({ frames := 6, cells := 0, slots := 0, locals := 143 })).room s m args below meth c Q A (dC, dI) cX19_takeScheduled .boolean (St × (St) × (St × (St × (St))) × (St) × (St)) (dw_X19 a ac) r) {g2 : Int32 → (St × (St) × (St × (St × (St))) × (St) × (St)) → Option (Int32 × (St × (St) × (St × (St × (St))) × (St) × (St)))} (J2 : dj_X19_takeScheduled_2 p l e s m args below meth c Q A dC dI a ac g2 r) (k : Nat) : dj_X19_takeScheduled_71 p l e s m args below meth c Q A dC dI a ac (df_X19_takeScheduled_71 n g2 k) r := by
  induction k with
  | zero => intro x1 x2 s0 H locs ls h; exact nomatch (show (none : Option (Int32 × (St × (St) × (St × (St × (St))) × (St) × (St)))) = some r from h)
  | succ k ih => exact dB_X19_takeScheduled_71 C K J2 ih
set_option maxHeartbeats 40000000 in
set_option maxRecDepth 100000 in
theorem db_X19_takeScheduled_66 {p : Program} {l : Launch} {e : Env} {s : State} {m : MethodId} {args : Array Value} {below : List Frame} {meth : Method} {c : Code} {Q : State → Prop} {A : Nat → Prop} {dC : Nat → ClassId} {dI : Nat → Nat → Nat} {a : Nat → Nat} {ac : Nat → ClassId} {n : Nat} {r : Int32 × (St × (St) × (St × (St × (St))) × (St) × (St))} (C : nd_C p l s m args c A (dC, dI) cX19_takeScheduled 3 RX19 ow_dm_X19_takeScheduled (dk_X19 ac)) (K : nd_Ki p l e (headSpec ow_dm_X19_takeScheduled ({ frames := 6, cells := 0, slots := 0, locals := 143 })).room s m args below meth c Q A (dC, dI) cX19_takeScheduled .boolean (St × (St) × (St × (St × (St))) × (St) × (St)) (dw_X19 a ac) r) {g2 : Int32 → (St × (St) × (St × (St × (St))) × (St) × (St)) → Option (Int32 × (St × (St) × (St × (St × (St))) × (St) × (St)))} (J2 : dj_X19_takeScheduled_2 p l e s m args below meth c Q A dC dI a ac g2 r) : dj_X19_takeScheduled_66 p l e s m args below meth c Q A dC dI a ac (df_X19_takeScheduled_66 n g2) r := by
  obtain ⟨hlt, hx, hb, hml, hown, hts, hN, hA, hK⟩ := id C
  intro x1 y1 s0 H locs ls h hP hD hS hl
  unfold df_X19_takeScheduled_66 at h
  refine va_put (D := (dC, dI)) (ci := 20) (v := .int y1) (ty := .int) (C := RX19) (T := TX19) (N := 36) hx hb hts hi_dm_X19_takeScheduled_X19 tyX19 tyX19_ok nmX19 hown hK hP hD hS 0 rfl rfl 23 (by decide) (hts (.fieldLink RX19 212 "TimeMachineModel" "scheduled" "I") (List.mem_of_getElem? (i := 1) rfl)) (fun _ h9 => h9) rfl (by decide +kernel) rfl rfl (Nat.le_of_ble_eq_true rfl) dX19_takeScheduled_66 (fun H locs hP hD hS => ?_)
  obtain ⟨s9, es9, h⟩ := nd_let_e h
  have hP : va_P (dC, dI) vwCl (dw_X19 a ac s9) H := by rw [es9]; exact hP
  have hD : va_D A (dw_X19 a ac s9) := by rw [es9]; exact hD
  refine lv_iconst (v := 0) hx hb dX19_takeScheduled_69 (by decide) ?_
  refine lv_istore_n (lv' := [(2, .int 0), (0, .ref (a 0)), (1, .int x1)]) hx hb dX19_takeScheduled_70 rfl hl (by decide) rfl (fun ls hl => ?_)
  exact (db_X19_takeScheduled_71 C K J2 n) (x1) (0) s9 _ _ _ h hP hD hS (lv_sub hl [1, 2, 0] rfl)
set_option maxHeartbeats 40000000 in
set_option maxRecDepth 100000 in
theorem dB_X19_takeScheduled_2 {p : Program} {l : Launch} {e : Env} {s : State} {m : MethodId} {args : Array Value} {below : List Frame} {meth : Method} {c : Code} {Q : State → Prop} {A : Nat → Prop} {dC : Nat → ClassId} {dI : Nat → Nat → Nat} {a : Nat → Nat} {ac : Nat → ClassId} {n : Nat} {r : Int32 × (St × (St) × (St × (St × (St))) × (St) × (St))} (C : nd_C p l s m args c A (dC, dI) cX19_takeScheduled 3 RX19 ow_dm_X19_takeScheduled (dk_X19 ac)) (K : nd_Ki p l e (headSpec ow_dm_X19_takeScheduled ({ frames := 6, cells := 0, slots := 0, locals := 143 })).room s m args below meth c Q A (dC, dI) cX19_takeScheduled .boolean (St × (St) × (St × (St × (St))) × (St) × (St)) (dw_X19 a ac) r) {g2 : Int32 → (St × (St) × (St × (St × (St))) × (St) × (St)) → Option (Int32 × (St × (St) × (St × (St × (St))) × (St) × (St)))} (J2 : dj_X19_takeScheduled_2 p l e s m args below meth c Q A dC dI a ac g2 r) : dj_X19_takeScheduled_2 p l e s m args below meth c Q A dC dI a ac (dF_X19_takeScheduled_2 n g2) r := by
  obtain ⟨hlt, hx, hb, hml, hown, hts, hN, hA, hK⟩ := id C
  intro x1 s0 H locs ls h hP hD hS hl
  unfold dF_X19_takeScheduled_2 at h
  refine lv_aload_n hx hb dX19_takeScheduled_2 rfl (lv_at hl 0 rfl) ?_
  refine va_get (D := (dC, dI)) (ci := 20) (v := .int (sI s0.1 9)) (C := RX19) (T := TX19) (N := 36) hx hb hts hi_dm_X19_takeScheduled_X19 hown hK hP 0 rfl rfl 23 (by decide) (hts (.fieldLink RX19 212 "TimeMachineModel" "scheduled" "I") (List.mem_of_getElem? (i := 1) rfl)) (fun _ h9 => h9) rfl dX19_takeScheduled_3 ?_
  refine lv_if_le (tgt := 144) hx hb dX19_takeScheduled_6 (by decide) (fun c1 => ?_) (fun c1 => ?_)
  · have h := nd_pos h c1
    exact (db_X19_takeScheduled_144 C K) (x1) s0 _ _ _ h hP hD hS (lv_sub hl [1] rfl)
  · have h := nd_neg h c1
    refine lv_aload_n hx hb dX19_takeScheduled_9 rfl (lv_at hl 0 rfl) ?_
    refine va_get (D := (dC, dI)) (ci := 20) (v := .ref (a 13)) (C := RX19) (T := TX19) (N := 36) hx hb hts hi_dm_X19_takeScheduled_X19 hown hK hP 0 rfl rfl 33 (by decide) (hts (.fieldLink RX19 107 "TimeMachineModel" "laterWhen" "[J") (List.mem_of_getElem? (i := 2) rfl)) (fun _ h9 => h9) rfl dX19_takeScheduled_10 ?_
    refine lv_iconst (v := 0) hx hb dX19_takeScheduled_13 (by decide) ?_
    refine va_lald (i := 0) hx hb hK hP 13 12 rfl rfl (vp_in_iff.mpr ⟨by decide, by decide⟩) dX19_takeScheduled_14 ?_
    refine lv_aload_n hx hb dX19_takeScheduled_15 rfl (lv_at hl 0 rfl) ?_
    refine va_get (D := (dC, dI)) (ci := 20) (v := .int (sI s0.1 6)) (C := RX19) (T := TX19) (N := 36) hx hb hts hi_dm_X19_takeScheduled_X19 hown hK hP 0 rfl rfl 20 (by decide) (hts (.fieldLink RX19 210 "TimeMachineModel" "end" "I") (List.mem_of_getElem? (i := 3) rfl)) (fun _ h9 => h9) rfl dX19_takeScheduled_16 ?_
    refine lv_i2l hx hb dX19_takeScheduled_19 rfl ?_
    refine W.lcmp hx hb dX19_takeScheduled_20 ?_
    refine lv_if_ne (tgt := 144) hx hb dX19_takeScheduled_21 (by decide) (fun c3 => ?_) (fun c3 => ?_)
    · have h := nd_neg h c3
      exact (db_X19_takeScheduled_144 C K) (x1) s0 _ _ _ h hP hD hS (lv_sub hl [1] rfl)
    · have h := nd_pos h c3
      refine lv_iload_n hx hb dX19_takeScheduled_24 rfl (lv_at hl 1 rfl) ?_
      refine lv_if_eq (tgt := 144) hx hb dX19_takeScheduled_25 (by decide) (fun c4 => ?_) (fun c4 => ?_)
      · have h := nd_pos h c4
        exact (db_X19_takeScheduled_144 C K) (x1) s0 _ _ _ h hP hD hS (lv_sub hl [1] rfl)
      · have h := nd_neg h c4
        refine lv_aload_n hx hb dX19_takeScheduled_28 rfl (lv_at hl 0 rfl) ?_
        refine lv_aload_n hx hb dX19_takeScheduled_29 rfl (lv_at hl 0 rfl) ?_
        refine va_get (D := (dC, dI)) (ci := 20) (v := .ref (a 9)) (C := RX19) (T := TX19) (N := 36) hx hb hts hi_dm_X19_takeScheduled_X19 hown hK hP 0 rfl rfl 29 (by decide) (hts (.fieldLink RX19 94 "TimeMachineModel" "laterKind" "[I") (List.mem_of_getElem? (i := 4) rfl)) (fun _ h9 => h9) rfl dX19_takeScheduled_30 ?_
        refine lv_iconst (v := 0) hx hb dX19_takeScheduled_33 (by decide) ?_
        refine va_iald (i := 0) hx hb hK hP 9 8 rfl rfl (vp_in_iff.mpr ⟨by decide, by decide⟩) dX19_takeScheduled_34 ?_
        refine lv_aload_n hx hb dX19_takeScheduled_35 rfl (lv_at hl 0 rfl) ?_
        refine va_get (D := (dC, dI)) (ci := 20) (v := .ref (a 12)) (C := RX19) (T := TX19) (N := 36) hx hb hts hi_dm_X19_takeScheduled_X19 hown hK hP 0 rfl rfl 32 (by decide) (hts (.fieldLink RX19 104 "TimeMachineModel" "laterA" "[J") (List.mem_of_getElem? (i := 5) rfl)) (fun _ h9 => h9) rfl dX19_takeScheduled_36 ?_
        refine lv_iconst (v := 0) hx hb dX19_takeScheduled_39 (by decide) ?_
        refine va_lald (i := 0) hx hb hK hP 12 11 rfl rfl (vp_in_iff.mpr ⟨by decide, by decide⟩) dX19_takeScheduled_40 ?_
        refine lv_aload_n hx hb dX19_takeScheduled_41 rfl (lv_at hl 0 rfl) ?_
        refine va_get (D := (dC, dI)) (ci := 20) (v := .ref (a 10)) (C := RX19) (T := TX19) (N := 36) hx hb hts hi_dm_X19_takeScheduled_X19 hown hK hP 0 rfl rfl 30 (by decide) (hts (.fieldLink RX19 97 "TimeMachineModel" "laterB" "[I") (List.mem_of_getElem? (i := 6) rfl)) (fun _ h9 => h9) rfl dX19_takeScheduled_42 ?_
        refine lv_iconst (v := 0) hx hb dX19_takeScheduled_45 (by decide) ?_
        refine va_iald (i := 0) hx hb hK hP 10 9 rfl rfl (vp_in_iff.mpr ⟨by decide, by decide⟩) dX19_takeScheduled_46 ?_
        obtain ⟨q5, s6, hq, h⟩ := nd_b2_e h
        have hPc := hP
        have hDc := hD
        have hKc := hK
        have hFc := nd_rs hD hS hA
        refine nd_cVi (As := [.int (sR s0.1 8 (Int32.toNatClampNeg 0)), .long (sQ s0.1 1 (Int32.toNatClampNeg 0)), .int (sR s0.1 9 (Int32.toNatClampNeg 0))]) (rest := []) (q := q5) (w' := dw_X19 a ac s6) ⟨hx, hb, hml, hown, hts⟩ (fun sz => dm_X19_record l hlt dC dI a ac n ((sR s0.1 8 (Int32.toNatClampNeg 0))) ((sQ s0.1 1 (Int32.toNatClampNeg 0))) ((sR s0.1 9 (Int32.toNatClampNeg 0))) s0 hq sz) (cwV 3 hts gi_dm_X19_takeScheduled_0 rfl rfl rfl (by decide +kernel) ⟨Nat.le_of_ble_eq_true rfl, Nat.le_of_ble_eq_true rfl⟩) hPc hDc hKc hS hA hN (va_recv hKc hPc (ci := 20) (q0 := 0) rfl rfl) rfl hl.1 rfl (Nat.le_of_ble_eq_true rfl) dX19_takeScheduled_47 (fun H locs hP1 hD1 hk1 hS => ?_)
        have hP := hP1
        have hD := hD1.weaken (fun k q _ h => hFc q.1 h)
        refine lv_istore_n (lv' := [(1, .int q5), (0, .ref (a 0))]) hx hb dX19_takeScheduled_50 rfl hl (by decide) rfl (fun ls hl => ?_)
        refine lv_aload_n hx hb dX19_takeScheduled_51 rfl (lv_at hl 1 rfl) ?_
        refine lv_iload_n hx hb dX19_takeScheduled_52 rfl (lv_at hl 0 rfl) ?_
        refine lv_if_eq (tgt := 65) hx hb dX19_takeScheduled_53 (by decide) (fun c8 => ?_) (fun c8 => ?_)
        · have h := nd_pos h c8
          refine lv_iconst (v := 0) hx hb dX19_takeScheduled_65 (by decide) ?_
          exact (db_X19_takeScheduled_66 C K J2) (q5) (0) s6 _ _ _ h hP hD hS (lv_sub hl [1, 0] rfl)
        · have h := nd_neg h c8
          refine lv_aload_n hx hb dX19_takeScheduled_56 rfl (lv_at hl 1 rfl) ?_
          refine va_get (D := (dC, dI)) (ci := 20) (v := .int (sI s6.1 9)) (C := RX19) (T := TX19) (N := 36) hx hb hts hi_dm_X19_takeScheduled_X19 hown hK hP 0 rfl rfl 23 (by decide) (hts (.fieldLink RX19 212 "TimeMachineModel" "scheduled" "I") (List.mem_of_getElem? (i := 1) rfl)) (fun _ h9 => h9) rfl dX19_takeScheduled_57 ?_
          refine lv_iconst (v := 1) hx hb dX19_takeScheduled_60 (by decide) ?_
          refine lv_isub hx hb dX19_takeScheduled_61 ?_
          refine lv_goto (tgt := 66) hx hb dX19_takeScheduled_62 (by decide) ?_
          exact (db_X19_takeScheduled_66 C K J2) (q5) (((sI s6.1 9) - 1)) s6 _ _ _ h hP hD hS (lv_sub hl [1, 0] rfl)
set_option maxHeartbeats 40000000 in
set_option maxRecDepth 100000 in
theorem db_X19_takeScheduled_2 {p : Program} {l : Launch} {e : Env} {s : State} {m : MethodId} {args : Array Value} {below : List Frame} {meth : Method} {c : Code} {Q : State → Prop} {A : Nat → Prop} {dC : Nat → ClassId} {dI : Nat → Nat → Nat} {a : Nat → Nat} {ac : Nat → ClassId} {n : Nat} {r : Int32 × (St × (St) × (St × (St × (St))) × (St) × (St))} (C : nd_C p l s m args c A (dC, dI) cX19_takeScheduled 3 RX19 ow_dm_X19_takeScheduled (dk_X19 ac)) (K : nd_Ki p l e (headSpec ow_dm_X19_takeScheduled ({ frames := 6, cells := 0, slots := 0, locals := 143 })).room s m args below meth c Q A (dC, dI) cX19_takeScheduled .boolean (St × (St) × (St × (St × (St))) × (St) × (St)) (dw_X19 a ac) r) (k : Nat) : dj_X19_takeScheduled_2 p l e s m args below meth c Q A dC dI a ac (df_X19_takeScheduled_2 n k) r := by
  induction k with
  | zero => intro x1 s0 H locs ls h; exact nomatch (show (none : Option (Int32 × (St × (St) × (St × (St × (St))) × (St) × (St)))) = some r from h)
  | succ k ih => exact dB_X19_takeScheduled_2 C K ih
set_option maxHeartbeats 40000000 in
set_option maxRecDepth 100000 in
theorem db_X19_takeScheduled_0 {p : Program} {l : Launch} {e : Env} {s : State} {m : MethodId} {args : Array Value} {below : List Frame} {meth : Method} {c : Code} {Q : State → Prop} {A : Nat → Prop} {dC : Nat → ClassId} {dI : Nat → Nat → Nat} {a : Nat → Nat} {ac : Nat → ClassId} {n : Nat} {r : Int32 × (St × (St) × (St × (St × (St))) × (St) × (St))} (C : nd_C p l s m args c A (dC, dI) cX19_takeScheduled 3 RX19 ow_dm_X19_takeScheduled (dk_X19 ac)) (K : nd_Ki p l e (headSpec ow_dm_X19_takeScheduled ({ frames := 6, cells := 0, slots := 0, locals := 143 })).room s m args below meth c Q A (dC, dI) cX19_takeScheduled .boolean (St × (St) × (St × (St × (St))) × (St) × (St)) (dw_X19 a ac) r) : dj_X19_takeScheduled_0 p l e s m args below meth c Q A dC dI a ac (df_X19_takeScheduled_0 n) r := by
  obtain ⟨hlt, hx, hb, hml, hown, hts, hN, hA, hK⟩ := id C
  intro s0 H locs ls h hP hD hS hl
  unfold df_X19_takeScheduled_0 at h
  refine lv_iconst (v := 1) hx hb dX19_takeScheduled_0 (by decide) ?_
  refine lv_istore_n (lv' := [(1, .int 1), (0, .ref (a 0))]) hx hb dX19_takeScheduled_1 rfl hl (by decide) rfl (fun ls hl => ?_)
  exact (db_X19_takeScheduled_2 C K n) (1) s0 _ _ _ h hP hD hS (lv_sub hl [1, 0] rfl)
set_option maxHeartbeats 40000000 in
set_option maxRecDepth 100000 in
theorem dm_X19_takeScheduled (l : Launch) (hlt : l.stackTraces = false) (dC : Nat → ClassId) (dI : Nat → Nat → Nat) (a : Nat → Nat) (ac : Nat → ClassId) (n : Nat) (s0 : St × (St) × (St × (St × (St))) × (St) × (St)) {r : Int32 × (St × (St) × (St × (St × (St))) × (St) × (St))} (h : df_X19_takeScheduled n s0 = some r) (sz : Nat) : Met l yX19_takeScheduled ow_dm_X19_takeScheduled ({ frames := 6, cells := 0, slots := 0, locals := 143 }) (va_Pc [.ref (a 0)] (fun U => U.heap.size = sz ∧ va_P (dC, dI) vwCl (dw_X19 a ac s0) U.heap ∧ va_K (dC, dI) vwCl (dk_X19 ac) U ∧ va_D (fun _ => True) (dw_X19 a ac s0) ∧ nv_E dI (va_A (dw_X19 a ac s0) sz) U)) (va_Qi (fun x _ => x = r.1) (fun (_ : Unit) t => va_P (dC, dI) vwCl (dw_X19 a ac r.2) t.heap ∧ va_K (dC, dI) vwCl (dk_X19 ac) t ∧ va_D (va_A (dw_X19 a ac s0) sz) (dw_X19 a ac r.2)) (va_A (dw_X19 a ac s0) sz)) 0 0 (va_A (dw_X19 a ac s0) sz) := by
  refine Met.ofW (cc := cX19_takeScheduled) (maxL := 3) (ret := (some .boolean)) (by decide) rfl ?_
  intro p e s m args below meth c s₁ B hml hv
  obtain ⟨rfl, hsz, hP, hK, hD0, hN⟩ := hv
  have hx := B.exec
  have hb := B.bytes
  have hr := B.returns
  have hts := atoms_spec (ws := ow_dm_X19_takeScheduled) B.pre
  have hown : s.vm.findClass RX19 = some m.cls := findClass_of_methodNamed B.named
  have hlocks := B.notSynchronized
  subst hsz
  have hD := hD0.self (sz := s.heap.size)
  generalize hAe : va_A (dw_X19 a ac s0) s.heap.size = A at hD hN ⊢
  have hA : ∀ q : Nat, s.heap.size ≤ q → A q := fun q h => by rw [← hAe]; exact Or.inr h
  have hl := lv_entry ([.ref (a 0)]) (n := 3) (Nat.le_of_ble_eq_true rfl)
  rw [lg_entry_eq]
  generalize (lg_sl ([.ref (a 0)]) ++ List.replicate (3 - (lg_sl ([.ref (a 0)])).length) Slot.unset).toArray = ls at hl ⊢
  have hl : lv_has ls 3 [(0, .ref (a 0))] := hl
  exact db_X19_takeScheduled_0 (dC := dC) (dI := dI) (a := a) (ac := ac) (n := n) (r := r) ⟨hlt, hx, hb, hml, hown, hts, hN, hA, hK⟩ (fun pc v τ H locs ls d z er hP hD hS => by subst er; exact W.zret (v := v) hx hb hr z (fun t ht hW => ⟨⟨v, (), rfl, rfl, by rw [ht]; exact hP, va_K.moved hW.alike hK, hD⟩, hS.F ht⟩) hS.2.2 d) s0 _ _ _ h hP hD va_S.rf (lv_sub hl [0] rfl)
def ow_dm_X19_begin : List Cond := Cond.code yX19_begin cX19_begin 3 none :: ([Cond.constant RX19 30 (131072), Cond.fieldLink RX19 231 "TimeMachineModel" "booted" "Z", Cond.fieldLink RX19 179 "TimeMachineModel" "program" "I", Cond.fieldLink RX19 212 "TimeMachineModel" "scheduled" "I", Cond.fieldLink RX19 192 "TimeMachineModel" "events" "I", Cond.fieldLink RX19 210 "TimeMachineModel" "end" "I", Cond.fieldLink RX19 234 "TimeMachineModel" "now" "I", Cond.fieldLink RX19 236 "TimeMachineModel" "refused" "Z", Cond.methodLink RX19 206 yX19_anew, Cond.instanceMethod yX19_anew, Cond.selects RX19 yX19_anew yX19_anew, Cond.initialized RX19, Cond.fieldLink RX19 42 "TimeMachineModel" "booting" "LTimeMachineModel$Programs;", Cond.fieldLink RX19 31 "TimeMachineModel" "images" "[I", Cond.fieldLink RX19 14 "TimeMachineModel" "isProgram" "[Z", Cond.fieldLink RX19 18 "TimeMachineModel" "text" "[I", Cond.fieldLink RX19 21 "TimeMachineModel" "data" "[I", Cond.fieldLink RX19 24 "TimeMachineModel" "ends" "[I"] ++ (u_ws RX19 TX19 36 ++ (u_ws RX17 TX17 5 ++ (ow_dm_X19_anew ++ []))))
theorem gd_dm_X19_begin : ∀ w ∈ ow_dm_X19_begin, (w.onTables && w.keeps) = true ∨ ∃ ty, w = Cond.arrayClass ty := List.forall_mem_cons.mpr ⟨good_of_word rfl, List.forall_mem_append.mpr ⟨fun w h => good_of_word (List.all_eq_true.mp (by decide +kernel) w h), List.forall_mem_append.mpr ⟨gu_X19, List.forall_mem_append.mpr ⟨gu_X17, List.forall_mem_append.mpr ⟨gd_dm_X19_anew, fun _ h => nomatch h⟩⟩⟩⟩⟩
theorem hi_dm_X19_begin_X19 : ∀ w ∈ u_ws RX19 TX19 36, w ∈ ow_dm_X19_begin := fun w h => List.mem_cons_of_mem _ (List.mem_append_right _ (List.mem_append_left _ h))
theorem hi_dm_X19_begin_X17 : ∀ w ∈ u_ws RX17 TX17 5, w ∈ ow_dm_X19_begin := fun w h => List.mem_cons_of_mem _ (List.mem_append_right _ (List.mem_append_right _ (List.mem_append_left _ h)))
theorem gi_dm_X19_begin_0 : GoodIn ow_dm_X19_begin (wsV RX19 206 RX19 yX19_anew ow_dm_X19_anew) := goodIn_app (goodIn_of _ (by decide +kernel)) (fun w h => ⟨List.mem_cons_of_mem _ (List.mem_append_right _ (List.mem_append_right _ (List.mem_append_right _ (List.mem_append_left _ h)))), gd_dm_X19_anew w h⟩)
def dj_X19_begin_75 (p : Program) (l : Launch) (e : Env) (s : State) (m : MethodId) (args : Array Value) (below : List Frame) (meth : Method) (c : Code) (Q : State → Prop) (A : Nat → Prop) (dC : Nat → ClassId) (dI : Nat → Nat → Nat) (a : Nat → Nat) (ac : Nat → ClassId) (g : Int32 → Int32 → (St × (St) × (St × (St × (St))) × (St) × (St)) → Option (St × (St) × (St × (St × (St))) × (St) × (St))) (r : St × (St) × (St × (St × (St))) × (St) × (St)) : Prop := ∀ (x1 : Int32) (x2 : Int32) (s0 : St × (St) × (St × (St × (St))) × (St) × (St)) (H : Heap) (locs : List Loc) (ls : Array Slot), g x1 x2 s0 = some r → va_P (dC, dI) vwCl (dw_X19 a ac s0) H → va_D A (dw_X19 a ac s0) → va_S A s.heap H locs → lv_has ls 3 [(0, .ref (a 0)), (1, .int x1), (2, .int x2)] → W p l e (headSpec ow_dm_X19_begin ({ frames := 7, cells := 0, slots := 0, locals := 159 })).room s m args below meth c H locs 0 0 Q (F0 m 75 ls [])
def dj_X19_begin_2 (p : Program) (l : Launch) (e : Env) (s : State) (m : MethodId) (args : Array Value) (below : List Frame) (meth : Method) (c : Code) (Q : State → Prop) (A : Nat → Prop) (dC : Nat → ClassId) (dI : Nat → Nat → Nat) (a : Nat → Nat) (ac : Nat → ClassId) (g : Int32 → Int32 → (St × (St) × (St × (St × (St))) × (St) × (St)) → Option (St × (St) × (St × (St × (St))) × (St) × (St))) (r : St × (St) × (St × (St × (St))) × (St) × (St)) : Prop := ∀ (x1 : Int32) (x2 : Int32) (s0 : St × (St) × (St × (St × (St))) × (St) × (St)) (H : Heap) (locs : List Loc) (ls : Array Slot), g x1 x2 s0 = some r → va_P (dC, dI) vwCl (dw_X19 a ac s0) H → va_D A (dw_X19 a ac s0) → va_S A s.heap H locs → lv_has ls 3 [(0, .ref (a 0)), (1, .int x1), (2, .int x2)] → W p l e (headSpec ow_dm_X19_begin ({ frames := 7, cells := 0, slots := 0, locals := 159 })).room s m args below meth c H locs 0 0 Q (F0 m 2 ls [])
def dj_X19_begin_0 (p : Program) (l : Launch) (e : Env) (s : State) (m : MethodId) (args : Array Value) (below : List Frame) (meth : Method) (c : Code) (Q : State → Prop) (A : Nat → Prop) (dC : Nat → ClassId) (dI : Nat → Nat → Nat) (a : Nat → Nat) (ac : Nat → ClassId) (g : Int32 → (St × (St) × (St × (St × (St))) × (St) × (St)) → Option (St × (St) × (St × (St × (St))) × (St) × (St))) (r : St × (St) × (St × (St × (St))) × (St) × (St)) : Prop := ∀ (v0 : Int32) (s0 : St × (St) × (St × (St × (St))) × (St) × (St)) (H : Heap) (locs : List Loc) (ls : Array Slot), g v0 s0 = some r → va_P (dC, dI) vwCl (dw_X19 a ac s0) H → va_D A (dw_X19 a ac s0) → va_S A s.heap H locs → lv_has ls 3 [(0, .ref (a 0)), (1, .int v0)] → W p l e (headSpec ow_dm_X19_begin ({ frames := 7, cells := 0, slots := 0, locals := 159 })).room s m args below meth c H locs 0 0 Q (F0 m 0 ls [])
set_option maxHeartbeats 40000000 in
set_option maxRecDepth 100000 in
theorem dB_X19_begin_75 {p : Program} {l : Launch} {e : Env} {s : State} {m : MethodId} {args : Array Value} {below : List Frame} {meth : Method} {c : Code} {Q : State → Prop} {A : Nat → Prop} {dC : Nat → ClassId} {dI : Nat → Nat → Nat} {a : Nat → Nat} {ac : Nat → ClassId} {n : Nat} {r : St × (St) × (St × (St × (St))) × (St) × (St)} (C : nd_C p l s m args c A (dC, dI) cX19_begin 3 RX19 ow_dm_X19_begin (dk_X19 ac)) (K : nd_Kv p l e (headSpec ow_dm_X19_begin ({ frames := 7, cells := 0, slots := 0, locals := 159 })).room s m args below meth c Q A (dC, dI) cX19_begin (St × (St) × (St × (St × (St))) × (St) × (St)) (dw_X19 a ac) r) {g75 : Int32 → Int32 → (St × (St) × (St × (St × (St))) × (St) × (St)) → Option (St × (St) × (St × (St × (St))) × (St) × (St))} (J75 : dj_X19_begin_75 p l e s m args below meth c Q A dC dI a ac g75 r) : dj_X19_begin_75 p l e s m args below meth c Q A dC dI a ac (dF_X19_begin_75 n g75) r := by
  obtain ⟨hlt, hx, hb, hml, hown, hts, hN, hA, hK⟩ := id C
  intro x1 x2 s0 H locs ls h hP hD hS hl
  unfold dF_X19_begin_75 at h
  refine lv_iload_n hx hb dX19_begin_75 rfl (lv_at hl 2 rfl) ?_
  refine lv_ldc hx hb hown (hts (.constant RX19 30 (131072)) (List.mem_of_getElem? (i := 1) rfl)) dX19_begin_76 ?_
  refine lv_icmp_ge (tgt := 152) hx hb dX19_begin_78 (by decide) (fun c2 => ?_) (fun c2 => ?_)
  · have h := nd_pos h c2
    refine lv_aload_n hx hb dX19_begin_152 rfl (lv_at hl 0 rfl) ?_
    refine lv_iconst (v := 1) hx hb dX19_begin_153 (by decide) ?_
    refine va_put (D := (dC, dI)) (ci := 20) (v := .int 1) (ty := .boolean) (C := RX19) (T := TX19) (N := 36) hx hb hts hi_dm_X19_begin_X19 tyX19 tyX19_ok nmX19 hown hK hP hD hS 0 rfl rfl 17 (by decide) (hts (.fieldLink RX19 231 "TimeMachineModel" "booted" "Z") (List.mem_of_getElem? (i := 2) rfl)) (fun _ h9 => h9) rfl (by decide +kernel) (by first | rfl | decide) rfl (Nat.le_of_ble_eq_true rfl) dX19_begin_154 (fun H locs hP hD hS => ?_)
    obtain ⟨s3, es3, h⟩ := nd_let_e h
    have hP : va_P (dC, dI) vwCl (dw_X19 a ac s3) H := by rw [es3]; exact hP
    have hD : va_D A (dw_X19 a ac s3) := by rw [es3]; exact hD
    refine lv_aload_n hx hb dX19_begin_157 rfl (lv_at hl 0 rfl) ?_
    refine lv_iload_n hx hb dX19_begin_158 rfl (lv_at hl 1 rfl) ?_
    refine va_put (D := (dC, dI)) (ci := 20) (v := .int x1) (ty := .int) (C := RX19) (T := TX19) (N := 36) hx hb hts hi_dm_X19_begin_X19 tyX19 tyX19_ok nmX19 hown hK hP hD hS 0 rfl rfl 18 (by decide) (hts (.fieldLink RX19 179 "TimeMachineModel" "program" "I") (List.mem_of_getElem? (i := 3) rfl)) (fun _ h9 => h9) rfl (by decide +kernel) rfl rfl (Nat.le_of_ble_eq_true rfl) dX19_begin_159 (fun H locs hP hD hS => ?_)
    obtain ⟨s4, es4, h⟩ := nd_let_e h
    have hP : va_P (dC, dI) vwCl (dw_X19 a ac s4) H := by rw [es4]; exact hP
    have hD : va_D A (dw_X19 a ac s4) := by rw [es4]; exact hD
    refine lv_aload_n hx hb dX19_begin_162 rfl (lv_at hl 0 rfl) ?_
    refine lv_aload_n hx hb dX19_begin_163 rfl (lv_at hl 0 rfl) ?_
    refine lv_aload_n hx hb dX19_begin_164 rfl (lv_at hl 0 rfl) ?_
    refine lv_aload_n hx hb dX19_begin_165 rfl (lv_at hl 0 rfl) ?_
    refine lv_iconst (v := 0) hx hb dX19_begin_166 (by decide) ?_
    refine lv_dup_x1 hx hb dX19_begin_167 rfl rfl ?_
    refine va_put (D := (dC, dI)) (ci := 20) (v := .int 0) (ty := .int) (C := RX19) (T := TX19) (N := 36) hx hb hts hi_dm_X19_begin_X19 tyX19 tyX19_ok nmX19 hown hK hP hD hS 0 rfl rfl 23 (by decide) (hts (.fieldLink RX19 212 "TimeMachineModel" "scheduled" "I") (List.mem_of_getElem? (i := 4) rfl)) (fun _ h9 => h9) rfl (by decide +kernel) rfl rfl (Nat.le_of_ble_eq_true rfl) dX19_begin_168 (fun H locs hP hD hS => ?_)
    obtain ⟨s5, es5, h⟩ := nd_let_e h
    have hP : va_P (dC, dI) vwCl (dw_X19 a ac s5) H := by rw [es5]; exact hP
    have hD : va_D A (dw_X19 a ac s5) := by rw [es5]; exact hD
    refine lv_dup_x1 hx hb dX19_begin_171 rfl rfl ?_
    refine va_put (D := (dC, dI)) (ci := 20) (v := .int 0) (ty := .int) (C := RX19) (T := TX19) (N := 36) hx hb hts hi_dm_X19_begin_X19 tyX19 tyX19_ok nmX19 hown hK hP hD hS 0 rfl rfl 22 (by decide) (hts (.fieldLink RX19 192 "TimeMachineModel" "events" "I") (List.mem_of_getElem? (i := 5) rfl)) (fun _ h9 => h9) rfl (by decide +kernel) rfl rfl (Nat.le_of_ble_eq_true rfl) dX19_begin_172 (fun H locs hP hD hS => ?_)
    obtain ⟨s6, es6, h⟩ := nd_let_e h
    have hP : va_P (dC, dI) vwCl (dw_X19 a ac s6) H := by rw [es6]; exact hP
    have hD : va_D A (dw_X19 a ac s6) := by rw [es6]; exact hD
    refine lv_dup_x1 hx hb dX19_begin_175 rfl rfl ?_
    refine va_put (D := (dC, dI)) (ci := 20) (v := .int 0) (ty := .int) (C := RX19) (T := TX19) (N := 36) hx hb hts hi_dm_X19_begin_X19 tyX19 tyX19_ok nmX19 hown hK hP hD hS 0 rfl rfl 20 (by decide) (hts (.fieldLink RX19 210 "TimeMachineModel" "end" "I") (List.mem_of_getElem? (i := 6) rfl)) (fun _ h9 => h9) rfl (by decide +kernel) rfl rfl (Nat.le_of_ble_eq_true rfl) dX19_begin_176 (fun H locs hP hD hS => ?_)
    obtain ⟨s7, es7, h⟩ := nd_let_e h
    have hP : va_P (dC, dI) vwCl (dw_X19 a ac s7) H := by rw [es7]; exact hP
    have hD : va_D A (dw_X19 a ac s7) := by rw [es7]; exact hD
    refine va_put (D := (dC, dI)) (ci := 20) (v := .int 0) (ty := .int) (C := RX19) (T := TX19) (N := 36) hx hb hts hi_dm_X19_begin_X19 tyX19 tyX19_ok nmX19 hown hK hP hD hS 0 rfl rfl 19 (by decide) (hts (.fieldLink RX19 234 "TimeMachineModel" "now" "I") (List.mem_of_getElem? (i := 7) rfl)) (fun _ h9 => h9) rfl (by decide +kernel) rfl rfl (Nat.le_of_ble_eq_true rfl) dX19_begin_179 (fun H locs hP hD hS => ?_)
    obtain ⟨s8, es8, h⟩ := nd_let_e h
    have hP : va_P (dC, dI) vwCl (dw_X19 a ac s8) H := by rw [es8]; exact hP
    have hD : va_D A (dw_X19 a ac s8) := by rw [es8]; exact hD
    refine lv_aload_n hx hb dX19_begin_182 rfl (lv_at hl 0 rfl) ?_
    refine lv_iconst (v := 0) hx hb dX19_begin_183 (by decide) ?_
    refine va_put (D := (dC, dI)) (ci := 20) (v := .int 0) (ty := .boolean) (C := RX19) (T := TX19) (N := 36) hx hb hts hi_dm_X19_begin_X19 tyX19 tyX19_ok nmX19 hown hK hP hD hS 0 rfl rfl 25 (by decide) (hts (.fieldLink RX19 236 "TimeMachineModel" "refused" "Z") (List.mem_of_getElem? (i := 8) rfl)) (fun _ h9 => h9) rfl (by decide +kernel) (by first | rfl | decide) rfl (Nat.le_of_ble_eq_true rfl) dX19_begin_184 (fun H locs hP hD hS => ?_)
    obtain ⟨s9, es9, h⟩ := nd_let_e h
    have hP : va_P (dC, dI) vwCl (dw_X19 a ac s9) H := by rw [es9]; exact hP
    have hD : va_D A (dw_X19 a ac s9) := by rw [es9]; exact hD
    refine lv_aload_n hx hb dX19_begin_187 rfl (lv_at hl 0 rfl) ?_
    obtain ⟨s11, hq, h⟩ := nd_b1_e h
    have hPc := hP
    have hDc := hD
    have hKc := hK
    have hFc := nd_rs hD hS hA
    refine nd_cVv (As := []) (rest := []) (w' := dw_X19 a ac s11) ⟨hx, hb, hml, hown, hts⟩ (fun sz => dm_X19_anew l hlt dC dI a ac n  s9 hq sz) (cwV 0 hts gi_dm_X19_begin_0 rfl rfl rfl (by decide +kernel) ⟨Nat.le_of_ble_eq_true rfl, Nat.le_of_ble_eq_true rfl⟩) hPc hDc hKc hS hA hN (va_recv hKc hPc (ci := 20) (q0 := 0) rfl rfl) rfl hl.1 rfl (Nat.le_of_ble_eq_true rfl) dX19_begin_188 (fun H locs hP1 hD1 hk1 hS => ?_)
    have hP := hP1
    have hD := hD1.weaken (fun k q _ h => hFc q.1 h)
    exact K _ _ _ _ _ dX19_begin_191 (Option.some.inj h).symm hP hD hS
  · have h := nd_neg h c2
    refine lv_aload_n hx hb dX19_begin_81 rfl (lv_at hl 0 rfl) ?_
    refine va_get (D := (dC, dI)) (ci := 20) (v := .ref (a 80)) (C := RX19) (T := TX19) (N := 36) hx hb hts hi_dm_X19_begin_X19 hown hK hP 0 rfl rfl 11 (by decide) (hts (.fieldLink RX19 42 "TimeMachineModel" "booting" "LTimeMachineModel$Programs;") (List.mem_of_getElem? (i := 13) rfl)) (fun _ h9 => h9) rfl dX19_begin_82 ?_
    refine va_getN (D := (dC, dI)) (ci := 18) (v := .ref (a 85)) (C := RX17) (T := TX17) (N := 5) hx hb hts hi_dm_X19_begin_X17 hown hK hP 80 rfl rfl 4 (by decide) (va_Nw.use rfl (hN.1 ("TimeMachineModel", 228, "TimeMachineModel$Programs", "image", "[I", "TimeMachineModel") (by decide))) (fun _ h9 => h9) rfl dX19_begin_85 ?_
    refine lv_iload_n hx hb dX19_begin_88 rfl (lv_at hl 2 rfl) ?_
    refine lv_iconst (v := 4) hx hb dX19_begin_89 (by decide) ?_
    refine lv_idiv hx hb dX19_begin_90 (by decide) ?_
    refine lv_aload_n hx hb dX19_begin_91 rfl (lv_at hl 0 rfl) ?_
    refine va_get (D := (dC, dI)) (ci := 20) (v := .ref (a 26)) (C := RX19) (T := TX19) (N := 36) hx hb hts hi_dm_X19_begin_X19 hown hK hP 0 rfl rfl 9 (by decide) (hts (.fieldLink RX19 31 "TimeMachineModel" "images" "[I") (List.mem_of_getElem? (i := 14) rfl)) (fun _ h9 => h9) rfl dX19_begin_92 ?_
    refine lv_iload_n hx hb dX19_begin_95 rfl (lv_at hl 2 rfl) ?_
    obtain ⟨i13, h⟩ := nd_ck_e h
    refine va_iald (i := x2) hx hb hK hP 26 24 rfl rfl i13 dX19_begin_96 ?_
    refine lv_sipush (v := 255) hx hb dX19_begin_97 (by decide) ?_
    refine lv_iand hx hb dX19_begin_100 ?_
    refine lv_aload_n hx hb dX19_begin_101 rfl (lv_at hl 0 rfl) ?_
    refine va_get (D := (dC, dI)) (ci := 20) (v := .ref (a 26)) (C := RX19) (T := TX19) (N := 36) hx hb hts hi_dm_X19_begin_X19 hown hK hP 0 rfl rfl 9 (by decide) (hts (.fieldLink RX19 31 "TimeMachineModel" "images" "[I") (List.mem_of_getElem? (i := 14) rfl)) (fun _ h9 => h9) rfl dX19_begin_102 ?_
    refine lv_iload_n hx hb dX19_begin_105 rfl (lv_at hl 2 rfl) ?_
    refine lv_iconst (v := 1) hx hb dX19_begin_106 (by decide) ?_
    refine lv_iadd hx hb dX19_begin_107 ?_
    obtain ⟨i14, h⟩ := nd_ck_e h
    refine va_iald (i := (x2 + 1)) hx hb hK hP 26 24 rfl rfl i14 dX19_begin_108 ?_
    refine lv_sipush (v := 255) hx hb dX19_begin_109 (by decide) ?_
    refine lv_iand hx hb dX19_begin_112 ?_
    refine lv_bipush (v := 8) hx hb dX19_begin_113 (by decide) ?_
    refine lv_ishl hx hb dX19_begin_115 ?_
    refine lv_ior hx hb dX19_begin_116 ?_
    refine lv_aload_n hx hb dX19_begin_117 rfl (lv_at hl 0 rfl) ?_
    refine va_get (D := (dC, dI)) (ci := 20) (v := .ref (a 26)) (C := RX19) (T := TX19) (N := 36) hx hb hts hi_dm_X19_begin_X19 hown hK hP 0 rfl rfl 9 (by decide) (hts (.fieldLink RX19 31 "TimeMachineModel" "images" "[I") (List.mem_of_getElem? (i := 14) rfl)) (fun _ h9 => h9) rfl dX19_begin_118 ?_
    refine lv_iload_n hx hb dX19_begin_121 rfl (lv_at hl 2 rfl) ?_
    refine lv_iconst (v := 2) hx hb dX19_begin_122 (by decide) ?_
    refine lv_iadd hx hb dX19_begin_123 ?_
    obtain ⟨i15, h⟩ := nd_ck_e h
    refine va_iald (i := (x2 + 2)) hx hb hK hP 26 24 rfl rfl i15 dX19_begin_124 ?_
    refine lv_sipush (v := 255) hx hb dX19_begin_125 (by decide) ?_
    refine lv_iand hx hb dX19_begin_128 ?_
    refine lv_bipush (v := 16) hx hb dX19_begin_129 (by decide) ?_
    refine lv_ishl hx hb dX19_begin_131 ?_
    refine lv_ior hx hb dX19_begin_132 ?_
    refine lv_aload_n hx hb dX19_begin_133 rfl (lv_at hl 0 rfl) ?_
    refine va_get (D := (dC, dI)) (ci := 20) (v := .ref (a 26)) (C := RX19) (T := TX19) (N := 36) hx hb hts hi_dm_X19_begin_X19 hown hK hP 0 rfl rfl 9 (by decide) (hts (.fieldLink RX19 31 "TimeMachineModel" "images" "[I") (List.mem_of_getElem? (i := 14) rfl)) (fun _ h9 => h9) rfl dX19_begin_134 ?_
    refine lv_iload_n hx hb dX19_begin_137 rfl (lv_at hl 2 rfl) ?_
    refine lv_iconst (v := 3) hx hb dX19_begin_138 (by decide) ?_
    refine lv_iadd hx hb dX19_begin_139 ?_
    obtain ⟨i16, h⟩ := nd_ck_e h
    refine va_iald (i := (x2 + 3)) hx hb hK hP 26 24 rfl rfl i16 dX19_begin_140 ?_
    refine lv_bipush (v := 24) hx hb dX19_begin_141 (by decide) ?_
    refine lv_ishl hx hb dX19_begin_143 ?_
    refine lv_ior hx hb dX19_begin_144 ?_
    obtain ⟨i17, h⟩ := nd_ck_e h
    refine va_iast (i := ((x2 : Int32) / 4)) (x := (((((sR s0.2.1 9 (Int32.toNatClampNeg x2)) &&& 255) ||| ((((sR s0.2.1 9 (Int32.toNatClampNeg (x2 + 1))) &&& 255) : Int32) <<< ((8 : Int32) &&& 31))) ||| ((((sR s0.2.1 9 (Int32.toNatClampNeg (x2 + 2))) &&& 255) : Int32) <<< ((16 : Int32) &&& 31))) ||| (((sR s0.2.1 9 (Int32.toNatClampNeg (x2 + 3))) : Int32) <<< ((24 : Int32) &&& 31)))) hx hb hK hP hD hS 85 80 rfl rfl i17 dX19_begin_145 (fun H locs hP hD hS => ?_)
    obtain ⟨s18, es18, h⟩ := nd_let_e h
    have hP : va_P (dC, dI) vwCl (dw_X19 a ac s18) H := by rw [es18]; exact hP
    have hD : va_D A (dw_X19 a ac s18) := by rw [es18]; exact hD
    obtain ⟨z19, ez19, h⟩ := nd_let_e h
    refine lv_iinc (v := z19) (lv' := [(2, .int z19), (0, .ref (a 0)), (1, .int x1)]) hx hb dX19_begin_146 hl (k := 2) rfl (by rw [ez19]) (by decide) rfl (fun ls hl => ?_)
    refine lv_goto (tgt := 75) hx hb dX19_begin_149 (by decide) ?_
    exact (J75) (x1) (z19) s18 _ _ _ h hP hD hS (lv_sub hl [1, 2, 0] rfl)
set_option maxHeartbeats 40000000 in
set_option maxRecDepth 100000 in
theorem db_X19_begin_75 {p : Program} {l : Launch} {e : Env} {s : State} {m : MethodId} {args : Array Value} {below : List Frame} {meth : Method} {c : Code} {Q : State → Prop} {A : Nat → Prop} {dC : Nat → ClassId} {dI : Nat → Nat → Nat} {a : Nat → Nat} {ac : Nat → ClassId} {n : Nat} {r : St × (St) × (St × (St × (St))) × (St) × (St)} (C : nd_C p l s m args c A (dC, dI) cX19_begin 3 RX19 ow_dm_X19_begin (dk_X19 ac)) (K : nd_Kv p l e (headSpec ow_dm_X19_begin ({ frames := 7, cells := 0, slots := 0, locals := 159 })).room s m args below meth c Q A (dC, dI) cX19_begin (St × (St) × (St × (St × (St))) × (St) × (St)) (dw_X19 a ac) r) (k : Nat) : dj_X19_begin_75 p l e s m args below meth c Q A dC dI a ac (df_X19_begin_75 n k) r := by
  induction k with
  | zero => intro x1 x2 s0 H locs ls h; exact nomatch (show (none : Option (St × (St) × (St × (St × (St))) × (St) × (St))) = some r from h)
  | succ k ih => exact dB_X19_begin_75 C K ih
set_option maxHeartbeats 40000000 in
set_option maxRecDepth 100000 in
theorem dB_X19_begin_2 {p : Program} {l : Launch} {e : Env} {s : State} {m : MethodId} {args : Array Value} {below : List Frame} {meth : Method} {c : Code} {Q : State → Prop} {A : Nat → Prop} {dC : Nat → ClassId} {dI : Nat → Nat → Nat} {a : Nat → Nat} {ac : Nat → ClassId} {n : Nat} {r : St × (St) × (St × (St × (St))) × (St) × (St)} (C : nd_C p l s m args c A (dC, dI) cX19_begin 3 RX19 ow_dm_X19_begin (dk_X19 ac)) (K : nd_Kv p l e (headSpec ow_dm_X19_begin ({ frames := 7, cells := 0, slots := 0, locals := 159 })).room s m args below meth c Q A (dC, dI) cX19_begin (St × (St) × (St × (St × (St))) × (St) × (St)) (dw_X19 a ac) r) {g2 : Int32 → Int32 → (St × (St) × (St × (St × (St))) × (St) × (St)) → Option (St × (St) × (St × (St × (St))) × (St) × (St))} (J2 : dj_X19_begin_2 p l e s m args below meth c Q A dC dI a ac g2 r) : dj_X19_begin_2 p l e s m args below meth c Q A dC dI a ac (dF_X19_begin_2 n g2) r := by
  obtain ⟨hlt, hx, hb, hml, hown, hts, hN, hA, hK⟩ := id C
  intro x1 x2 s0 H locs ls h hP hD hS hl
  unfold dF_X19_begin_2 at h
  refine lv_iload_n hx hb dX19_begin_2 rfl (lv_at hl 2 rfl) ?_
  refine lv_iconst (v := 4) hx hb dX19_begin_3 (by decide) ?_
  refine lv_icmp_ge (tgt := 73) hx hb dX19_begin_4 (by decide) (fun c1 => ?_) (fun c1 => ?_)
  · have h := nd_pos h c1
    refine lv_iconst (v := 0) hx hb dX19_begin_73 (by decide) ?_
    refine lv_istore_n (lv' := [(2, .int 0), (0, .ref (a 0)), (1, .int x1)]) hx hb dX19_begin_74 rfl hl (by decide) rfl (fun ls hl => ?_)
    exact (db_X19_begin_75 C K n) (x1) (0) s0 _ _ _ h hP hD hS (lv_sub hl [1, 2, 0] rfl)
  · have h := nd_neg h c1
    refine lv_aload_n hx hb dX19_begin_7 rfl (lv_at hl 0 rfl) ?_
    refine va_get (D := (dC, dI)) (ci := 20) (v := .ref (a 80)) (C := RX19) (T := TX19) (N := 36) hx hb hts hi_dm_X19_begin_X19 hown hK hP 0 rfl rfl 11 (by decide) (hts (.fieldLink RX19 42 "TimeMachineModel" "booting" "LTimeMachineModel$Programs;") (List.mem_of_getElem? (i := 13) rfl)) (fun _ h9 => h9) rfl dX19_begin_8 ?_
    refine va_getN (D := (dC, dI)) (ci := 18) (v := .ref (a 81)) (C := RX17) (T := TX17) (N := 5) hx hb hts hi_dm_X19_begin_X17 hown hK hP 80 rfl rfl 0 (by decide) (va_Nw.use rfl (hN.1 ("TimeMachineModel", 218, "TimeMachineModel$Programs", "assembled", "[Z", "TimeMachineModel") (by decide))) (fun _ h9 => h9) rfl dX19_begin_11 ?_
    refine lv_iload_n hx hb dX19_begin_14 rfl (lv_at hl 2 rfl) ?_
    refine lv_aload_n hx hb dX19_begin_15 rfl (lv_at hl 0 rfl) ?_
    refine va_get (D := (dC, dI)) (ci := 20) (v := .ref (a 1)) (C := RX19) (T := TX19) (N := 36) hx hb hts hi_dm_X19_begin_X19 hown hK hP 0 rfl rfl 4 (by decide) (hts (.fieldLink RX19 14 "TimeMachineModel" "isProgram" "[Z") (List.mem_of_getElem? (i := 15) rfl)) (fun _ h9 => h9) rfl dX19_begin_16 ?_
    refine lv_iload_n hx hb dX19_begin_19 rfl (lv_at hl 2 rfl) ?_
    obtain ⟨i20, h⟩ := nd_ck_e h
    refine va_zald (i := x2) hx hb hK hP 1 0 rfl rfl i20 dX19_begin_20 ?_
    obtain ⟨i21, h⟩ := nd_ck_e h
    refine va_zast (i := x2) (x := (sR s0.1 0 (Int32.toNatClampNeg x2))) hx hb hK hP hD hS 81 76 rfl rfl i21 dX19_begin_21 (fun H locs hP hD hS => ?_)
    obtain ⟨s22, es22, h⟩ := nd_let_e h
    have hP : va_P (dC, dI) vwCl (dw_X19 a ac s22) H := by rw [es22]; exact hP
    have hD : va_D A (dw_X19 a ac s22) := by rw [es22]; exact hD
    refine lv_aload_n hx hb dX19_begin_22 rfl (lv_at hl 0 rfl) ?_
    refine va_get (D := (dC, dI)) (ci := 20) (v := .ref (a 80)) (C := RX19) (T := TX19) (N := 36) hx hb hts hi_dm_X19_begin_X19 hown hK hP 0 rfl rfl 11 (by decide) (hts (.fieldLink RX19 42 "TimeMachineModel" "booting" "LTimeMachineModel$Programs;") (List.mem_of_getElem? (i := 13) rfl)) (fun _ h9 => h9) rfl dX19_begin_23 ?_
    refine va_getN (D := (dC, dI)) (ci := 18) (v := .ref (a 82)) (C := RX17) (T := TX17) (N := 5) hx hb hts hi_dm_X19_begin_X17 hown hK hP 80 rfl rfl 1 (by decide) (va_Nw.use rfl (hN.1 ("TimeMachineModel", 221, "TimeMachineModel$Programs", "textSize", "[I", "TimeMachineModel") (by decide))) (fun _ h9 => h9) rfl dX19_begin_26 ?_
    refine lv_iload_n hx hb dX19_begin_29 rfl (lv_at hl 2 rfl) ?_
    refine lv_aload_n hx hb dX19_begin_30 rfl (lv_at hl 0 rfl) ?_
    refine va_get (D := (dC, dI)) (ci := 20) (v := .ref (a 2)) (C := RX19) (T := TX19) (N := 36) hx hb hts hi_dm_X19_begin_X19 hown hK hP 0 rfl rfl 5 (by decide) (hts (.fieldLink RX19 18 "TimeMachineModel" "text" "[I") (List.mem_of_getElem? (i := 16) rfl)) (fun _ h9 => h9) rfl dX19_begin_31 ?_
    refine lv_iload_n hx hb dX19_begin_34 rfl (lv_at hl 2 rfl) ?_
    obtain ⟨i23, h⟩ := nd_ck_e h
    refine va_iald (i := x2) hx hb hK hP 2 1 rfl rfl i23 dX19_begin_35 ?_
    obtain ⟨i24, h⟩ := nd_ck_e h
    refine va_iast (i := x2) (x := (sR s22.1 1 (Int32.toNatClampNeg x2))) hx hb hK hP hD hS 82 77 rfl rfl i24 dX19_begin_36 (fun H locs hP hD hS => ?_)
    obtain ⟨s25, es25, h⟩ := nd_let_e h
    have hP : va_P (dC, dI) vwCl (dw_X19 a ac s25) H := by rw [es25]; exact hP
    have hD : va_D A (dw_X19 a ac s25) := by rw [es25]; exact hD
    refine lv_aload_n hx hb dX19_begin_37 rfl (lv_at hl 0 rfl) ?_
    refine va_get (D := (dC, dI)) (ci := 20) (v := .ref (a 80)) (C := RX19) (T := TX19) (N := 36) hx hb hts hi_dm_X19_begin_X19 hown hK hP 0 rfl rfl 11 (by decide) (hts (.fieldLink RX19 42 "TimeMachineModel" "booting" "LTimeMachineModel$Programs;") (List.mem_of_getElem? (i := 13) rfl)) (fun _ h9 => h9) rfl dX19_begin_38 ?_
    refine va_getN (D := (dC, dI)) (ci := 18) (v := .ref (a 83)) (C := RX17) (T := TX17) (N := 5) hx hb hts hi_dm_X19_begin_X17 hown hK hP 80 rfl rfl 2 (by decide) (va_Nw.use rfl (hN.1 ("TimeMachineModel", 223, "TimeMachineModel$Programs", "dataBegin", "[I", "TimeMachineModel") (by decide))) (fun _ h9 => h9) rfl dX19_begin_41 ?_
    refine lv_iload_n hx hb dX19_begin_44 rfl (lv_at hl 2 rfl) ?_
    refine lv_aload_n hx hb dX19_begin_45 rfl (lv_at hl 0 rfl) ?_
    refine va_get (D := (dC, dI)) (ci := 20) (v := .ref (a 3)) (C := RX19) (T := TX19) (N := 36) hx hb hts hi_dm_X19_begin_X19 hown hK hP 0 rfl rfl 6 (by decide) (hts (.fieldLink RX19 21 "TimeMachineModel" "data" "[I") (List.mem_of_getElem? (i := 17) rfl)) (fun _ h9 => h9) rfl dX19_begin_46 ?_
    refine lv_iload_n hx hb dX19_begin_49 rfl (lv_at hl 2 rfl) ?_
    obtain ⟨i26, h⟩ := nd_ck_e h
    refine va_iald (i := x2) hx hb hK hP 3 2 rfl rfl i26 dX19_begin_50 ?_
    obtain ⟨i27, h⟩ := nd_ck_e h
    refine va_iast (i := x2) (x := (sR s25.1 2 (Int32.toNatClampNeg x2))) hx hb hK hP hD hS 83 78 rfl rfl i27 dX19_begin_51 (fun H locs hP hD hS => ?_)
    obtain ⟨s28, es28, h⟩ := nd_let_e h
    have hP : va_P (dC, dI) vwCl (dw_X19 a ac s28) H := by rw [es28]; exact hP
    have hD : va_D A (dw_X19 a ac s28) := by rw [es28]; exact hD
    refine lv_aload_n hx hb dX19_begin_52 rfl (lv_at hl 0 rfl) ?_
    refine va_get (D := (dC, dI)) (ci := 20) (v := .ref (a 80)) (C := RX19) (T := TX19) (N := 36) hx hb hts hi_dm_X19_begin_X19 hown hK hP 0 rfl rfl 11 (by decide) (hts (.fieldLink RX19 42 "TimeMachineModel" "booting" "LTimeMachineModel$Programs;") (List.mem_of_getElem? (i := 13) rfl)) (fun _ h9 => h9) rfl dX19_begin_53 ?_
    refine va_getN (D := (dC, dI)) (ci := 18) (v := .ref (a 84)) (C := RX17) (T := TX17) (N := 5) hx hb hts hi_dm_X19_begin_X17 hown hK hP 80 rfl rfl 3 (by decide) (va_Nw.use rfl (hN.1 ("TimeMachineModel", 225, "TimeMachineModel$Programs", "size", "[I", "TimeMachineModel") (by decide))) (fun _ h9 => h9) rfl dX19_begin_56 ?_
    refine lv_iload_n hx hb dX19_begin_59 rfl (lv_at hl 2 rfl) ?_
    refine lv_aload_n hx hb dX19_begin_60 rfl (lv_at hl 0 rfl) ?_
    refine va_get (D := (dC, dI)) (ci := 20) (v := .ref (a 4)) (C := RX19) (T := TX19) (N := 36) hx hb hts hi_dm_X19_begin_X19 hown hK hP 0 rfl rfl 7 (by decide) (hts (.fieldLink RX19 24 "TimeMachineModel" "ends" "[I") (List.mem_of_getElem? (i := 18) rfl)) (fun _ h9 => h9) rfl dX19_begin_61 ?_
    refine lv_iload_n hx hb dX19_begin_64 rfl (lv_at hl 2 rfl) ?_
    obtain ⟨i29, h⟩ := nd_ck_e h
    refine va_iald (i := x2) hx hb hK hP 4 3 rfl rfl i29 dX19_begin_65 ?_
    obtain ⟨i30, h⟩ := nd_ck_e h
    refine va_iast (i := x2) (x := (sR s28.1 3 (Int32.toNatClampNeg x2))) hx hb hK hP hD hS 84 79 rfl rfl i30 dX19_begin_66 (fun H locs hP hD hS => ?_)
    obtain ⟨s31, es31, h⟩ := nd_let_e h
    have hP : va_P (dC, dI) vwCl (dw_X19 a ac s31) H := by rw [es31]; exact hP
    have hD : va_D A (dw_X19 a ac s31) := by rw [es31]; exact hD
    obtain ⟨z32, ez32, h⟩ := nd_let_e h
    refine lv_iinc (v := z32) (lv' := [(2, .int z32), (0, .ref (a 0)), (1, .int x1)]) hx hb dX19_begin_67 hl (k := 2) rfl (by rw [ez32]) (by decide) rfl (fun ls hl => ?_)
    refine lv_goto (tgt := 2) hx hb dX19_begin_70 (by decide) ?_
    exact (J2) (x1) (z32) s31 _ _ _ h hP hD hS (lv_sub hl [1, 2, 0] rfl)
set_option maxHeartbeats 40000000 in
set_option maxRecDepth 100000 in
theorem db_X19_begin_2 {p : Program} {l : Launch} {e : Env} {s : State} {m : MethodId} {args : Array Value} {below : List Frame} {meth : Method} {c : Code} {Q : State → Prop} {A : Nat → Prop} {dC : Nat → ClassId} {dI : Nat → Nat → Nat} {a : Nat → Nat} {ac : Nat → ClassId} {n : Nat} {r : St × (St) × (St × (St × (St))) × (St) × (St)} (C : nd_C p l s m args c A (dC, dI) cX19_begin 3 RX19 ow_dm_X19_begin (dk_X19 ac)) (K : nd_Kv p l e (headSpec ow_dm_X19_begin ({ frames := 7, cells := 0, slots := 0, locals := 159 })).room s m args below meth c Q A (dC, dI) cX19_begin (St × (St) × (St × (St × (St))) × (St) × (St)) (dw_X19 a ac) r) (k : Nat) : dj_X19_begin_2 p l e s m args below meth c Q A dC dI a ac (df_X19_begin_2 n k) r := by
  induction k with
  | zero => intro x1 x2 s0 H locs ls h; exact nomatch (show (none : Option (St × (St) × (St × (St × (St))) × (St) × (St))) = some r from h)
  | succ k ih => exact dB_X19_begin_2 C K ih
set_option maxHeartbeats 40000000 in
set_option maxRecDepth 100000 in
theorem db_X19_begin_0 {p : Program} {l : Launch} {e : Env} {s : State} {m : MethodId} {args : Array Value} {below : List Frame} {meth : Method} {c : Code} {Q : State → Prop} {A : Nat → Prop} {dC : Nat → ClassId} {dI : Nat → Nat → Nat} {a : Nat → Nat} {ac : Nat → ClassId} {n : Nat} {r : St × (St) × (St × (St × (St))) × (St) × (St)} (C : nd_C p l s m args c A (dC, dI) cX19_begin 3 RX19 ow_dm_X19_begin (dk_X19 ac)) (K : nd_Kv p l e (headSpec ow_dm_X19_begin ({ frames := 7, cells := 0, slots := 0, locals := 159 })).room s m args below meth c Q A (dC, dI) cX19_begin (St × (St) × (St × (St × (St))) × (St) × (St)) (dw_X19 a ac) r) : dj_X19_begin_0 p l e s m args below meth c Q A dC dI a ac (df_X19_begin_0 n) r := by
  obtain ⟨hlt, hx, hb, hml, hown, hts, hN, hA, hK⟩ := id C
  intro v0 s0 H locs ls h hP hD hS hl
  unfold df_X19_begin_0 at h
  refine lv_iconst (v := 0) hx hb dX19_begin_0 (by decide) ?_
  refine lv_istore_n (lv' := [(2, .int 0), (0, .ref (a 0)), (1, .int v0)]) hx hb dX19_begin_1 rfl hl (by decide) rfl (fun ls hl => ?_)
  exact (db_X19_begin_2 C K n) (v0) (0) s0 _ _ _ h hP hD hS (lv_sub hl [1, 2, 0] rfl)
set_option maxHeartbeats 40000000 in
set_option maxRecDepth 100000 in
theorem dm_X19_begin (l : Launch) (hlt : l.stackTraces = false) (dC : Nat → ClassId) (dI : Nat → Nat → Nat) (a : Nat → Nat) (ac : Nat → ClassId) (n : Nat) (v0 : Int32) (s0 : St × (St) × (St × (St × (St))) × (St) × (St)) {r : St × (St) × (St × (St × (St))) × (St) × (St)} (h : df_X19_begin n v0 s0 = some r) (sz : Nat) : Met l yX19_begin ow_dm_X19_begin ({ frames := 7, cells := 0, slots := 0, locals := 159 }) (va_Pc [.ref (a 0), .int v0] (fun U => U.heap.size = sz ∧ va_P (dC, dI) vwCl (dw_X19 a ac s0) U.heap ∧ va_K (dC, dI) vwCl (dk_X19 ac) U ∧ va_D (fun _ => True) (dw_X19 a ac s0) ∧ nv_E dI (va_A (dw_X19 a ac s0) sz) U)) (va_Qv (fun _ => True) (fun (_ : Unit) t => va_P (dC, dI) vwCl (dw_X19 a ac r) t.heap ∧ va_K (dC, dI) vwCl (dk_X19 ac) t ∧ va_D (va_A (dw_X19 a ac s0) sz) (dw_X19 a ac r)) (va_A (dw_X19 a ac s0) sz)) 0 0 (va_A (dw_X19 a ac s0) sz) := by
  refine Met.ofW (cc := cX19_begin) (maxL := 3) (ret := none) (by decide) rfl ?_
  intro p e s m args below meth c s₁ B hml hv
  obtain ⟨rfl, hsz, hP, hK, hD0, hN⟩ := hv
  have hx := B.exec
  have hb := B.bytes
  have hr := B.returns
  have hts := atoms_spec (ws := ow_dm_X19_begin) B.pre
  have hown : s.vm.findClass RX19 = some m.cls := findClass_of_methodNamed B.named
  have hlocks := B.notSynchronized
  subst hsz
  have hD := hD0.self (sz := s.heap.size)
  generalize hAe : va_A (dw_X19 a ac s0) s.heap.size = A at hD hN ⊢
  have hA : ∀ q : Nat, s.heap.size ≤ q → A q := fun q h => by rw [← hAe]; exact Or.inr h
  have hl := lv_entry ([.ref (a 0), .int v0]) (n := 3) (Nat.le_of_ble_eq_true rfl)
  rw [lg_entry_eq]
  generalize (lg_sl ([.ref (a 0), .int v0]) ++ List.replicate (3 - (lg_sl ([.ref (a 0), .int v0])).length) Slot.unset).toArray = ls at hl ⊢
  have hl : lv_has ls 3 [(0, .ref (a 0)), (1, .int v0)] := hl
  exact db_X19_begin_0 (dC := dC) (dI := dI) (a := a) (ac := ac) (n := n) (r := r) ⟨hlt, hx, hb, hml, hown, hts, hN, hA, hK⟩ (fun pc τ H locs ls d er hP hD hS => by subst er; exact W.vret hx hb hr (fun t ht hW => ⟨⟨(), rfl, trivial, by rw [ht]; exact hP, va_K.moved hW.alike hK, hD⟩, hS.F ht⟩) hS.2.2 d) v0 s0 _ _ _ h hP hD va_S.rf (lv_sub hl [0, 1] rfl)
def ow_dm_X19_boot : List Cond := Cond.code yX19_boot cX19_boot 2 none :: ([Cond.constantLong RX19 134 (3), Cond.methodLink RX19 126 yX19_in, Cond.static yX19_in, Cond.initialized RX19, Cond.methodLink RX19 136 yX19_fails, Cond.instanceMethod yX19_fails, Cond.selects RX19 yX19_fails yX19_fails, Cond.methodLink RX19 239 yX19_begin, Cond.instanceMethod yX19_begin, Cond.selects RX19 yX19_begin yX19_begin, Cond.fieldLink RX19 14 "TimeMachineModel" "isProgram" "[Z"] ++ (u_ws RX19 TX19 36 ++ (ow_dm_X19_in ++ (ow_dm_X19_fails ++ (ow_dm_X19_begin ++ [])))))
theorem gd_dm_X19_boot : ∀ w ∈ ow_dm_X19_boot, (w.onTables && w.keeps) = true ∨ ∃ ty, w = Cond.arrayClass ty := List.forall_mem_cons.mpr ⟨good_of_word rfl, List.forall_mem_append.mpr ⟨fun w h => good_of_word (List.all_eq_true.mp (by decide +kernel) w h), List.forall_mem_append.mpr ⟨gu_X19, List.forall_mem_append.mpr ⟨gd_dm_X19_in, List.forall_mem_append.mpr ⟨gd_dm_X19_fails, List.forall_mem_append.mpr ⟨gd_dm_X19_begin, fun _ h => nomatch h⟩⟩⟩⟩⟩⟩
theorem hi_dm_X19_boot_X19 : ∀ w ∈ u_ws RX19 TX19 36, w ∈ ow_dm_X19_boot := fun w h => List.mem_cons_of_mem _ (List.mem_append_right _ (List.mem_append_left _ h))
theorem gi_dm_X19_boot_0 : GoodIn ow_dm_X19_boot (wsS RX19 126 yX19_in ow_dm_X19_in) := goodIn_app (goodIn_of _ (by decide +kernel)) (fun w h => ⟨List.mem_cons_of_mem _ (List.mem_append_right _ (List.mem_append_right _ (List.mem_append_left _ h))), gd_dm_X19_in w h⟩)
theorem gi_dm_X19_boot_1 : GoodIn ow_dm_X19_boot (wsV RX19 136 RX19 yX19_fails ow_dm_X19_fails) := goodIn_app (goodIn_of _ (by decide +kernel)) (fun w h => ⟨List.mem_cons_of_mem _ (List.mem_append_right _ (List.mem_append_right _ (List.mem_append_right _ (List.mem_append_left _ h)))), gd_dm_X19_fails w h⟩)
theorem gi_dm_X19_boot_2 : GoodIn ow_dm_X19_boot (wsV RX19 239 RX19 yX19_begin ow_dm_X19_begin) := goodIn_app (goodIn_of _ (by decide +kernel)) (fun w h => ⟨List.mem_cons_of_mem _ (List.mem_append_right _ (List.mem_append_right _ (List.mem_append_right _ (List.mem_append_right _ (List.mem_append_left _ h))))), gd_dm_X19_begin w h⟩)
def dj_X19_boot_57 (p : Program) (l : Launch) (e : Env) (s : State) (m : MethodId) (args : Array Value) (below : List Frame) (meth : Method) (c : Code) (Q : State → Prop) (A : Nat → Prop) (dC : Nat → ClassId) (dI : Nat → Nat → Nat) (a : Nat → Nat) (ac : Nat → ClassId) (g : (St × (St) × (St × (St × (St))) × (St) × (St)) → Option (St × (St) × (St × (St × (St))) × (St) × (St))) (r : St × (St) × (St × (St × (St))) × (St) × (St)) : Prop := ∀ (s0 : St × (St) × (St × (St × (St))) × (St) × (St)) (H : Heap) (locs : List Loc) (ls : Array Slot), g s0 = some r → va_P (dC, dI) vwCl (dw_X19 a ac s0) H → va_D A (dw_X19 a ac s0) → va_S A s.heap H locs → lv_has ls 2 [] → W p l e (headSpec ow_dm_X19_boot ({ frames := 8, cells := 0, slots := 0, locals := 181 })).room s m args below meth c H locs 0 0 Q (F0 m 57 ls [])
def dj_X19_boot_46 (p : Program) (l : Launch) (e : Env) (s : State) (m : MethodId) (args : Array Value) (below : List Frame) (meth : Method) (c : Code) (Q : State → Prop) (A : Nat → Prop) (dC : Nat → ClassId) (dI : Nat → Nat → Nat) (a : Nat → Nat) (ac : Nat → ClassId) (g : Int32 → Int32 → Int32 → (St × (St) × (St × (St × (St))) × (St) × (St)) → Option (St × (St) × (St × (St × (St))) × (St) × (St))) (r : St × (St) × (St × (St × (St))) × (St) × (St)) : Prop := ∀ (x1 : Int32) (y1 : Int32) (y2 : Int32) (s0 : St × (St) × (St × (St × (St))) × (St) × (St)) (H : Heap) (locs : List Loc) (ls : Array Slot), g x1 y1 y2 s0 = some r → va_P (dC, dI) vwCl (dw_X19 a ac s0) H → va_D A (dw_X19 a ac s0) → va_S A s.heap H locs → lv_has ls 2 [(0, .ref (a 0)), (1, .int x1)] → W p l e (headSpec ow_dm_X19_boot ({ frames := 8, cells := 0, slots := 0, locals := 181 })).room s m args below meth c H locs 0 0 Q (F0 m 46 ls [.int y2, .int y1, .ref (a 0)])
def dj_X19_boot_45 (p : Program) (l : Launch) (e : Env) (s : State) (m : MethodId) (args : Array Value) (below : List Frame) (meth : Method) (c : Code) (Q : State → Prop) (A : Nat → Prop) (dC : Nat → ClassId) (dI : Nat → Nat → Nat) (a : Nat → Nat) (ac : Nat → ClassId) (g : Int32 → Int32 → (St × (St) × (St × (St × (St))) × (St) × (St)) → Option (St × (St) × (St × (St × (St))) × (St) × (St))) (r : St × (St) × (St × (St × (St))) × (St) × (St)) : Prop := ∀ (x1 : Int32) (y1 : Int32) (s0 : St × (St) × (St × (St × (St))) × (St) × (St)) (H : Heap) (locs : List Loc) (ls : Array Slot), g x1 y1 s0 = some r → va_P (dC, dI) vwCl (dw_X19 a ac s0) H → va_D A (dw_X19 a ac s0) → va_S A s.heap H locs → lv_has ls 2 [(0, .ref (a 0)), (1, .int x1)] → W p l e (headSpec ow_dm_X19_boot ({ frames := 8, cells := 0, slots := 0, locals := 181 })).room s m args below meth c H locs 0 0 Q (F0 m 45 ls [.int y1, .ref (a 0)])
def dj_X19_boot_18 (p : Program) (l : Launch) (e : Env) (s : State) (m : MethodId) (args : Array Value) (below : List Frame) (meth : Method) (c : Code) (Q : State → Prop) (A : Nat → Prop) (dC : Nat → ClassId) (dI : Nat → Nat → Nat) (a : Nat → Nat) (ac : Nat → ClassId) (g : Int32 → Int32 → (St × (St) × (St × (St × (St))) × (St) × (St)) → Option (St × (St) × (St × (St × (St))) × (St) × (St))) (r : St × (St) × (St × (St × (St))) × (St) × (St)) : Prop := ∀ (x1 : Int32) (y1 : Int32) (s0 : St × (St) × (St × (St × (St))) × (St) × (St)) (H : Heap) (locs : List Loc) (ls : Array Slot), g x1 y1 s0 = some r → va_P (dC, dI) vwCl (dw_X19 a ac s0) H → va_D A (dw_X19 a ac s0) → va_S A s.heap H locs → lv_has ls 2 [(0, .ref (a 0)), (1, .int x1)] → W p l e (headSpec ow_dm_X19_boot ({ frames := 8, cells := 0, slots := 0, locals := 181 })).room s m args below meth c H locs 0 0 Q (F0 m 18 ls [.int y1, .ref (a 0)])
def dj_X19_boot_0 (p : Program) (l : Launch) (e : Env) (s : State) (m : MethodId) (args : Array Value) (below : List Frame) (meth : Method) (c : Code) (Q : State → Prop) (A : Nat → Prop) (dC : Nat → ClassId) (dI : Nat → Nat → Nat) (a : Nat → Nat) (ac : Nat → ClassId) (g : Int32 → (St × (St) × (St × (St × (St))) × (St) × (St)) → Option (St × (St) × (St × (St × (St))) × (St) × (St))) (r : St × (St) × (St × (St × (St))) × (St) × (St)) : Prop := ∀ (v0 : Int32) (s0 : St × (St) × (St × (St × (St))) × (St) × (St)) (H : Heap) (locs : List Loc) (ls : Array Slot), g v0 s0 = some r → va_P (dC, dI) vwCl (dw_X19 a ac s0) H → va_D A (dw_X19 a ac s0) → va_S A s.heap H locs → lv_has ls 2 [(0, .ref (a 0)), (1, .int v0)] → W p l e (headSpec ow_dm_X19_boot ({ frames := 8, cells := 0, slots := 0, locals := 181 })).room s m args below meth c H locs 0 0 Q (F0 m 0 ls [])
set_option maxHeartbeats 40000000 in
set_option maxRecDepth 100000 in
theorem db_X19_boot_57 {p : Program} {l : Launch} {e : Env} {s : State} {m : MethodId} {args : Array Value} {below : List Frame} {meth : Method} {c : Code} {Q : State → Prop} {A : Nat → Prop} {dC : Nat → ClassId} {dI : Nat → Nat → Nat} {a : Nat → Nat} {ac : Nat → ClassId} {n : Nat} {r : St × (St) × (St × (St × (St))) × (St) × (St)} (C : nd_C p l s m args c A (dC, dI) cX19_boot 2 RX19 ow_dm_X19_boot (dk_X19 ac)) (K : nd_Kv p l e (headSpec ow_dm_X19_boot ({ frames := 8, cells := 0, slots := 0, locals := 181 })).room s m args below meth c Q A (dC, dI) cX19_boot (St × (St) × (St × (St × (St))) × (St) × (St)) (dw_X19 a ac) r) : dj_X19_boot_57 p l e s m args below meth c Q A dC dI a ac (df_X19_boot_57 n) r := by
  obtain ⟨hlt, hx, hb, hml, hown, hts, hN, hA, hK⟩ := id C
  intro s0 H locs ls h hP hD hS hl
  unfold df_X19_boot_57 at h
  exact K _ _ _ _ _ dX19_boot_57 (Option.some.inj h).symm hP hD hS
set_option maxHeartbeats 40000000 in
set_option maxRecDepth 100000 in
theorem db_X19_boot_46 {p : Program} {l : Launch} {e : Env} {s : State} {m : MethodId} {args : Array Value} {below : List Frame} {meth : Method} {c : Code} {Q : State → Prop} {A : Nat → Prop} {dC : Nat → ClassId} {dI : Nat → Nat → Nat} {a : Nat → Nat} {ac : Nat → ClassId} {n : Nat} {r : St × (St) × (St × (St × (St))) × (St) × (St)} (C : nd_C p l s m args c A (dC, dI) cX19_boot 2 RX19 ow_dm_X19_boot (dk_X19 ac)) (K : nd_Kv p l e (headSpec ow_dm_X19_boot ({ frames := 8, cells := 0, slots := 0, locals := 181 })).room s m args below meth c Q A (dC, dI) cX19_boot (St × (St) × (St × (St × (St))) × (St) × (St)) (dw_X19 a ac) r) : dj_X19_boot_46 p l e s m args below meth c Q A dC dI a ac (df_X19_boot_46 n) r := by
  obtain ⟨hlt, hx, hb, hml, hown, hts, hN, hA, hK⟩ := id C
  intro x1 y1 y2 s0 H locs ls h hP hD hS hl
  unfold df_X19_boot_46 at h
  obtain ⟨q9, s10, hq, h⟩ := nd_b2_e h
  have hPc := hP
  have hDc := hD
  have hKc := hK
  have hFc := nd_rs hD hS hA
  refine nd_cVi (As := [.int y1, .int y2]) (rest := []) (q := q9) (w' := dw_X19 a ac s10) ⟨hx, hb, hml, hown, hts⟩ (fun sz => dm_X19_fails l hlt dC dI a ac n (y1) (y2) s0 hq sz) (cwV 2 hts gi_dm_X19_boot_1 rfl rfl rfl (by decide +kernel) ⟨Nat.le_of_ble_eq_true rfl, Nat.le_of_ble_eq_true rfl⟩) hPc hDc hKc hS hA hN (va_recv hKc hPc (ci := 20) (q0 := 0) rfl rfl) rfl hl.1 rfl (Nat.le_of_ble_eq_true rfl) dX19_boot_46 (fun H locs hP1 hD1 hk1 hS => ?_)
  have hP := hP1
  have hD := hD1.weaken (fun k q _ h => hFc q.1 h)
  refine lv_if_ne (tgt := 57) hx hb dX19_boot_49 (by decide) (fun c12 => ?_) (fun c12 => ?_)
  · have h := nd_neg h c12
    exact (db_X19_boot_57 C K)  s10 _ _ _ h hP hD hS (lv_sub hl [] rfl)
  · have h := nd_pos h c12
    refine lv_aload_n hx hb dX19_boot_52 rfl (lv_at hl 0 rfl) ?_
    refine lv_iload_n hx hb dX19_boot_53 rfl (lv_at hl 1 rfl) ?_
    obtain ⟨s14, hq, h⟩ := nd_b1_e h
    have hPc := hP
    have hDc := hD
    have hKc := hK
    have hFc := nd_rs hD hS hA
    refine nd_cVv (As := [.int x1]) (rest := []) (w' := dw_X19 a ac s14) ⟨hx, hb, hml, hown, hts⟩ (fun sz => dm_X19_begin l hlt dC dI a ac n (x1) s10 hq sz) (cwV 1 hts gi_dm_X19_boot_2 rfl rfl rfl (by decide +kernel) ⟨Nat.le_of_ble_eq_true rfl, Nat.le_of_ble_eq_true rfl⟩) hPc hDc hKc hS hA hN (va_recv hKc hPc (ci := 20) (q0 := 0) rfl rfl) rfl hl.1 rfl (Nat.le_of_ble_eq_true rfl) dX19_boot_54 (fun H locs hP1 hD1 hk1 hS => ?_)
    have hP := hP1
    have hD := hD1.weaken (fun k q _ h => hFc q.1 h)
    exact (db_X19_boot_57 C K)  s14 _ _ _ h hP hD hS (lv_sub hl [] rfl)
set_option maxHeartbeats 40000000 in
set_option maxRecDepth 100000 in
theorem db_X19_boot_45 {p : Program} {l : Launch} {e : Env} {s : State} {m : MethodId} {args : Array Value} {below : List Frame} {meth : Method} {c : Code} {Q : State → Prop} {A : Nat → Prop} {dC : Nat → ClassId} {dI : Nat → Nat → Nat} {a : Nat → Nat} {ac : Nat → ClassId} {n : Nat} {r : St × (St) × (St × (St × (St))) × (St) × (St)} (C : nd_C p l s m args c A (dC, dI) cX19_boot 2 RX19 ow_dm_X19_boot (dk_X19 ac)) (K : nd_Kv p l e (headSpec ow_dm_X19_boot ({ frames := 8, cells := 0, slots := 0, locals := 181 })).room s m args below meth c Q A (dC, dI) cX19_boot (St × (St) × (St × (St × (St))) × (St) × (St)) (dw_X19 a ac) r) : dj_X19_boot_45 p l e s m args below meth c Q A dC dI a ac (df_X19_boot_45 n) r := by
  obtain ⟨hlt, hx, hb, hml, hown, hts, hN, hA, hK⟩ := id C
  intro x1 y1 s0 H locs ls h hP hD hS hl
  unfold df_X19_boot_45 at h
  refine lv_iconst (v := 0) hx hb dX19_boot_45 (by decide) ?_
  exact (db_X19_boot_46 C K) (x1) (y1) (0) s0 _ _ _ h hP hD hS (lv_sub hl [0, 1] rfl)
set_option maxHeartbeats 40000000 in
set_option maxRecDepth 100000 in
theorem db_X19_boot_18 {p : Program} {l : Launch} {e : Env} {s : State} {m : MethodId} {args : Array Value} {below : List Frame} {meth : Method} {c : Code} {Q : State → Prop} {A : Nat → Prop} {dC : Nat → ClassId} {dI : Nat → Nat → Nat} {a : Nat → Nat} {ac : Nat → ClassId} {n : Nat} {r : St × (St) × (St × (St × (St))) × (St) × (St)} (C : nd_C p l s m args c A (dC, dI) cX19_boot 2 RX19 ow_dm_X19_boot (dk_X19 ac)) (K : nd_Kv p l e (headSpec ow_dm_X19_boot ({ frames := 8, cells := 0, slots := 0, locals := 181 })).room s m args below meth c Q A (dC, dI) cX19_boot (St × (St) × (St × (St × (St))) × (St) × (St)) (dw_X19 a ac) r) : dj_X19_boot_18 p l e s m args below meth c Q A dC dI a ac (df_X19_boot_18 n) r := by
  obtain ⟨hlt, hx, hb, hml, hown, hts, hN, hA, hK⟩ := id C
  intro x1 y1 s0 H locs ls h hP hD hS hl
  unfold df_X19_boot_18 at h
  refine lv_iload_n hx hb dX19_boot_18 rfl (lv_at hl 1 rfl) ?_
  refine lv_i2l hx hb dX19_boot_19 rfl ?_
  refine lv_lconst (v := 0) hx hb dX19_boot_20 (by decide) ?_
  refine lv_ldc2 hx hb hown (hts (.constantLong RX19 134 (3)) (List.mem_of_getElem? (i := 1) rfl)) dX19_boot_21 ?_
  obtain ⟨q5, s6, hq, h⟩ := nd_b2_e h
  have hPc : va_P (dC, dI) vwCl (dw_P a ac ()) H := nd_p0
  have hDc : va_D A (dw_P a ac ()) := nd_d0
  have hKc : va_K (dC, dI) vwCl (dk_P ac) s := nd_y0 hK
  have hFc : ∀ q, va_A (dw_P a ac ()) H.size q → A q := nd_r0 hS hA
  refine nd_cSi (As := [.long (x1.toInt64), .long 0, .long 3]) (rest := [.int y1, .ref (a 0)]) (q := q5) (w' := dw_P a ac s6) ⟨hx, hb, hml, hown, hts⟩ (fun sz => dm_X19_in l hlt dC dI a ac n ((x1.toInt64)) (0) (3) () hq sz) (cwS 3 hts gi_dm_X19_boot_0 rfl rfl rfl (by decide +kernel) ⟨Nat.le_of_ble_eq_true rfl, Nat.le_of_ble_eq_true rfl⟩) hPc hDc hKc hS hA hN rfl hl.1 rfl (Nat.le_of_ble_eq_true rfl) dX19_boot_24 (fun H locs hP1 hD1 hk1 hS => ?_)
  have hP := nd_n0 hP hk1
  refine lv_if_eq (tgt := 45) hx hb dX19_boot_27 (by decide) (fun c8 => ?_) (fun c8 => ?_)
  · have h := nd_pos h c8
    exact (db_X19_boot_45 C K) (x1) (y1) s0 _ _ _ h hP hD hS (lv_sub hl [0, 1] rfl)
  · have h := nd_neg h c8
    refine lv_aload_n hx hb dX19_boot_30 rfl (lv_at hl 0 rfl) ?_
    refine va_get (D := (dC, dI)) (ci := 20) (v := .ref (a 1)) (C := RX19) (T := TX19) (N := 36) hx hb hts hi_dm_X19_boot_X19 hown hK hP 0 rfl rfl 4 (by decide) (hts (.fieldLink RX19 14 "TimeMachineModel" "isProgram" "[Z") (List.mem_of_getElem? (i := 11) rfl)) (fun _ h9 => h9) rfl dX19_boot_31 ?_
    refine lv_iload_n hx hb dX19_boot_34 rfl (lv_at hl 1 rfl) ?_
    refine lv_iconst (v := 3) hx hb dX19_boot_35 (by decide) ?_
    refine lv_iand hx hb dX19_boot_36 ?_
    obtain ⟨i16, h⟩ := nd_ck_e h
    refine va_zald (i := (x1 &&& 3)) hx hb hK hP 1 0 rfl rfl i16 dX19_boot_37 ?_
    refine lv_if_ne (tgt := 45) hx hb dX19_boot_38 (by decide) (fun c17 => ?_) (fun c17 => ?_)
    · have h := nd_neg h c17
      exact (db_X19_boot_45 C K) (x1) (y1) s0 _ _ _ h hP hD hS (lv_sub hl [0, 1] rfl)
    · have h := nd_pos h c17
      refine lv_iconst (v := 1) hx hb dX19_boot_41 (by decide) ?_
      refine lv_goto (tgt := 46) hx hb dX19_boot_42 (by decide) ?_
      exact (db_X19_boot_46 C K) (x1) (y1) (1) s0 _ _ _ h hP hD hS (lv_sub hl [0, 1] rfl)
set_option maxHeartbeats 40000000 in
set_option maxRecDepth 100000 in
theorem db_X19_boot_0 {p : Program} {l : Launch} {e : Env} {s : State} {m : MethodId} {args : Array Value} {below : List Frame} {meth : Method} {c : Code} {Q : State → Prop} {A : Nat → Prop} {dC : Nat → ClassId} {dI : Nat → Nat → Nat} {a : Nat → Nat} {ac : Nat → ClassId} {n : Nat} {r : St × (St) × (St × (St × (St))) × (St) × (St)} (C : nd_C p l s m args c A (dC, dI) cX19_boot 2 RX19 ow_dm_X19_boot (dk_X19 ac)) (K : nd_Kv p l e (headSpec ow_dm_X19_boot ({ frames := 8, cells := 0, slots := 0, locals := 181 })).room s m args below meth c Q A (dC, dI) cX19_boot (St × (St) × (St × (St × (St))) × (St) × (St)) (dw_X19 a ac) r) : dj_X19_boot_0 p l e s m args below meth c Q A dC dI a ac (df_X19_boot_0 n) r := by
  obtain ⟨hlt, hx, hb, hml, hown, hts, hN, hA, hK⟩ := id C
  intro v0 s0 H locs ls h hP hD hS hl
  unfold df_X19_boot_0 at h
  refine lv_aload_n hx hb dX19_boot_0 rfl (lv_at hl 0 rfl) ?_
  refine lv_iload_n hx hb dX19_boot_1 rfl (lv_at hl 1 rfl) ?_
  refine lv_i2l hx hb dX19_boot_2 rfl ?_
  refine lv_lconst (v := 0) hx hb dX19_boot_3 (by decide) ?_
  refine lv_ldc2 hx hb hown (hts (.constantLong RX19 134 (3)) (List.mem_of_getElem? (i := 1) rfl)) dX19_boot_4 ?_
  obtain ⟨q1, s2, hq, h⟩ := nd_b2_e h
  have hPc : va_P (dC, dI) vwCl (dw_P a ac ()) H := nd_p0
  have hDc : va_D A (dw_P a ac ()) := nd_d0
  have hKc : va_K (dC, dI) vwCl (dk_P ac) s := nd_y0 hK
  have hFc : ∀ q, va_A (dw_P a ac ()) H.size q → A q := nd_r0 hS hA
  refine nd_cSi (As := [.long (v0.toInt64), .long 0, .long 3]) (rest := [.ref (a 0)]) (q := q1) (w' := dw_P a ac s2) ⟨hx, hb, hml, hown, hts⟩ (fun sz => dm_X19_in l hlt dC dI a ac n ((v0.toInt64)) (0) (3) () hq sz) (cwS 3 hts gi_dm_X19_boot_0 rfl rfl rfl (by decide +kernel) ⟨Nat.le_of_ble_eq_true rfl, Nat.le_of_ble_eq_true rfl⟩) hPc hDc hKc hS hA hN rfl hl.1 rfl (Nat.le_of_ble_eq_true rfl) dX19_boot_7 (fun H locs hP1 hD1 hk1 hS => ?_)
  have hP := nd_n0 hP hk1
  refine lv_if_ne (tgt := 17) hx hb dX19_boot_10 (by decide) (fun c4 => ?_) (fun c4 => ?_)
  · have h := nd_neg h c4
    refine lv_iconst (v := 0) hx hb dX19_boot_17 (by decide) ?_
    exact (db_X19_boot_18 C K) (v0) (0) s0 _ _ _ h hP hD hS (lv_sub hl [0, 1] rfl)
  · have h := nd_pos h c4
    refine lv_iconst (v := 1) hx hb dX19_boot_13 (by decide) ?_
    refine lv_goto (tgt := 18) hx hb dX19_boot_14 (by decide) ?_
    exact (db_X19_boot_18 C K) (v0) (1) s0 _ _ _ h hP hD hS (lv_sub hl [0, 1] rfl)
set_option maxHeartbeats 40000000 in
set_option maxRecDepth 100000 in
theorem dm_X19_boot (l : Launch) (hlt : l.stackTraces = false) (dC : Nat → ClassId) (dI : Nat → Nat → Nat) (a : Nat → Nat) (ac : Nat → ClassId) (n : Nat) (v0 : Int32) (s0 : St × (St) × (St × (St × (St))) × (St) × (St)) {r : St × (St) × (St × (St × (St))) × (St) × (St)} (h : df_X19_boot n v0 s0 = some r) (sz : Nat) : Met l yX19_boot ow_dm_X19_boot ({ frames := 8, cells := 0, slots := 0, locals := 181 }) (va_Pc [.ref (a 0), .int v0] (fun U => U.heap.size = sz ∧ va_P (dC, dI) vwCl (dw_X19 a ac s0) U.heap ∧ va_K (dC, dI) vwCl (dk_X19 ac) U ∧ va_D (fun _ => True) (dw_X19 a ac s0) ∧ nv_E dI (va_A (dw_X19 a ac s0) sz) U)) (va_Qv (fun _ => True) (fun (_ : Unit) t => va_P (dC, dI) vwCl (dw_X19 a ac r) t.heap ∧ va_K (dC, dI) vwCl (dk_X19 ac) t ∧ va_D (va_A (dw_X19 a ac s0) sz) (dw_X19 a ac r)) (va_A (dw_X19 a ac s0) sz)) 0 0 (va_A (dw_X19 a ac s0) sz) := by
  refine Met.ofW (cc := cX19_boot) (maxL := 2) (ret := none) (by decide) rfl ?_
  intro p e s m args below meth c s₁ B hml hv
  obtain ⟨rfl, hsz, hP, hK, hD0, hN⟩ := hv
  have hx := B.exec
  have hb := B.bytes
  have hr := B.returns
  have hts := atoms_spec (ws := ow_dm_X19_boot) B.pre
  have hown : s.vm.findClass RX19 = some m.cls := findClass_of_methodNamed B.named
  have hlocks := B.notSynchronized
  subst hsz
  have hD := hD0.self (sz := s.heap.size)
  generalize hAe : va_A (dw_X19 a ac s0) s.heap.size = A at hD hN ⊢
  have hA : ∀ q : Nat, s.heap.size ≤ q → A q := fun q h => by rw [← hAe]; exact Or.inr h
  have hl := lv_entry ([.ref (a 0), .int v0]) (n := 2) (Nat.le_of_ble_eq_true rfl)
  rw [lg_entry_eq]
  generalize (lg_sl ([.ref (a 0), .int v0]) ++ List.replicate (2 - (lg_sl ([.ref (a 0), .int v0])).length) Slot.unset).toArray = ls at hl ⊢
  have hl : lv_has ls 2 [(0, .ref (a 0)), (1, .int v0)] := hl
  exact db_X19_boot_0 (dC := dC) (dI := dI) (a := a) (ac := ac) (n := n) (r := r) ⟨hlt, hx, hb, hml, hown, hts, hN, hA, hK⟩ (fun pc τ H locs ls d er hP hD hS => by subst er; exact W.vret hx hb hr (fun t ht hW => ⟨⟨(), rfl, trivial, by rw [ht]; exact hP, va_K.moved hW.alike hK, hD⟩, hS.F ht⟩) hS.2.2 d) v0 s0 _ _ _ h hP hD va_S.rf (lv_sub hl [0, 1] rfl)
def ow_dm_X19_replay : List Cond := Cond.code yX19_replay cX19_replay 6 (some .int) :: ([Cond.constantLong RX19 134 (3), Cond.methodLink RX19 126 yX19_in, Cond.static yX19_in, Cond.initialized RX19, Cond.methodLink RX19 136 yX19_fails, Cond.instanceMethod yX19_fails, Cond.selects RX19 yX19_fails yX19_fails, Cond.fieldLink RX19 74 "TimeMachineModel" "codec" "LTimeMachineModel$Codec;", Cond.fieldLink RX19 10 "TimeMachineModel" "tape" "[I", Cond.fieldLink RX19 117 "TimeMachineModel" "taped" "I", Cond.methodLink RX19 242 yX14_read, Cond.instanceMethod yX14_read, Cond.selects RX14 yX14_read yX14_read, Cond.initialized RX14, Cond.methodLink RX19 148 yX19_use, Cond.instanceMethod yX19_use, Cond.selects RX19 yX19_use yX19_use, Cond.methodLink RX19 239 yX19_begin, Cond.instanceMethod yX19_begin, Cond.selects RX19 yX19_begin yX19_begin, Cond.fieldLink RX19 212 "TimeMachineModel" "scheduled" "I", Cond.methodLink RX19 252 yX19_takeScheduled, Cond.instanceMethod yX19_takeScheduled, Cond.selects RX19 yX19_takeScheduled yX19_takeScheduled, Cond.fieldLink RX19 236 "TimeMachineModel" "refused" "Z", Cond.fieldLink RX19 107 "TimeMachineModel" "laterWhen" "[J", Cond.fieldLink RX19 94 "TimeMachineModel" "laterKind" "[I", Cond.fieldLink RX19 104 "TimeMachineModel" "laterA" "[J", Cond.fieldLink RX19 97 "TimeMachineModel" "laterB" "[I", Cond.fieldLink RX19 14 "TimeMachineModel" "isProgram" "[Z"] ++ (u_ws RX19 TX19 36 ++ (u_ws RX14 TX14 11 ++ (ow_dm_X19_in ++ (ow_dm_X19_fails ++ (ow_dm_X14_read ++ (ow_dm_X19_use ++ (ow_dm_X19_begin ++ (ow_dm_X19_takeScheduled ++ [])))))))))
theorem gd_dm_X19_replay : ∀ w ∈ ow_dm_X19_replay, (w.onTables && w.keeps) = true ∨ ∃ ty, w = Cond.arrayClass ty := List.forall_mem_cons.mpr ⟨good_of_word rfl, List.forall_mem_append.mpr ⟨fun w h => good_of_word (List.all_eq_true.mp (by decide +kernel) w h), List.forall_mem_append.mpr ⟨gu_X19, List.forall_mem_append.mpr ⟨gu_X14, List.forall_mem_append.mpr ⟨gd_dm_X19_in, List.forall_mem_append.mpr ⟨gd_dm_X19_fails, List.forall_mem_append.mpr ⟨gd_dm_X14_read, List.forall_mem_append.mpr ⟨gd_dm_X19_use, List.forall_mem_append.mpr ⟨gd_dm_X19_begin, List.forall_mem_append.mpr ⟨gd_dm_X19_takeScheduled, fun _ h => nomatch h⟩⟩⟩⟩⟩⟩⟩⟩⟩⟩
theorem hi_dm_X19_replay_X19 : ∀ w ∈ u_ws RX19 TX19 36, w ∈ ow_dm_X19_replay := fun w h => List.mem_cons_of_mem _ (List.mem_append_right _ (List.mem_append_left _ h))
theorem hi_dm_X19_replay_X14 : ∀ w ∈ u_ws RX14 TX14 11, w ∈ ow_dm_X19_replay := fun w h => List.mem_cons_of_mem _ (List.mem_append_right _ (List.mem_append_right _ (List.mem_append_left _ h)))
theorem gi_dm_X19_replay_0 : GoodIn ow_dm_X19_replay (wsS RX19 126 yX19_in ow_dm_X19_in) := goodIn_app (goodIn_of _ (by decide +kernel)) (fun w h => ⟨List.mem_cons_of_mem _ (List.mem_append_right _ (List.mem_append_right _ (List.mem_append_right _ (List.mem_append_left _ h)))), gd_dm_X19_in w h⟩)
theorem gi_dm_X19_replay_1 : GoodIn ow_dm_X19_replay (wsV RX19 136 RX19 yX19_fails ow_dm_X19_fails) := goodIn_app (goodIn_of _ (by decide +kernel)) (fun w h => ⟨List.mem_cons_of_mem _ (List.mem_append_right _ (List.mem_append_right _ (List.mem_append_right _ (List.mem_append_right _ (List.mem_append_left _ h))))), gd_dm_X19_fails w h⟩)
theorem gi_dm_X19_replay_2 : GoodIn ow_dm_X19_replay (wsV RX19 242 RX14 yX14_read ow_dm_X14_read) := goodIn_app (goodIn_of _ (by decide +kernel)) (fun w h => ⟨List.mem_cons_of_mem _ (List.mem_append_right _ (List.mem_append_right _ (List.mem_append_right _ (List.mem_append_right _ (List.mem_append_right _ (List.mem_append_left _ h)))))), gd_dm_X14_read w h⟩)
theorem gi_dm_X19_replay_3 : GoodIn ow_dm_X19_replay (wsV RX19 148 RX19 yX19_use ow_dm_X19_use) := goodIn_app (goodIn_of _ (by decide +kernel)) (fun w h => ⟨List.mem_cons_of_mem _ (List.mem_append_right _ (List.mem_append_right _ (List.mem_append_right _ (List.mem_append_right _ (List.mem_append_right _ (List.mem_append_right _ (List.mem_append_left _ h))))))), gd_dm_X19_use w h⟩)
theorem gi_dm_X19_replay_4 : GoodIn ow_dm_X19_replay (wsV RX19 239 RX19 yX19_begin ow_dm_X19_begin) := goodIn_app (goodIn_of _ (by decide +kernel)) (fun w h => ⟨List.mem_cons_of_mem _ (List.mem_append_right _ (List.mem_append_right _ (List.mem_append_right _ (List.mem_append_right _ (List.mem_append_right _ (List.mem_append_right _ (List.mem_append_right _ (List.mem_append_left _ h)))))))), gd_dm_X19_begin w h⟩)
theorem gi_dm_X19_replay_5 : GoodIn ow_dm_X19_replay (wsV RX19 252 RX19 yX19_takeScheduled ow_dm_X19_takeScheduled) := goodIn_app (goodIn_of _ (by decide +kernel)) (fun w h => ⟨List.mem_cons_of_mem _ (List.mem_append_right _ (List.mem_append_right _ (List.mem_append_right _ (List.mem_append_right _ (List.mem_append_right _ (List.mem_append_right _ (List.mem_append_right _ (List.mem_append_right _ (List.mem_append_left _ h))))))))), gd_dm_X19_takeScheduled w h⟩)
def dj_X19_replay_209 (p : Program) (l : Launch) (e : Env) (s : State) (m : MethodId) (args : Array Value) (below : List Frame) (meth : Method) (c : Code) (Q : State → Prop) (A : Nat → Prop) (dC : Nat → ClassId) (dI : Nat → Nat → Nat) (a : Nat → Nat) (ac : Nat → ClassId) (g : Int32 → Int32 → (St × (St) × (St × (St × (St))) × (St) × (St)) → Option (Int32 × (St × (St) × (St × (St × (St))) × (St) × (St)))) (r : Int32 × (St × (St) × (St × (St × (St))) × (St) × (St))) : Prop := ∀ (x5 : Int32) (y1 : Int32) (s0 : St × (St) × (St × (St × (St))) × (St) × (St)) (H : Heap) (locs : List Loc) (ls : Array Slot), g x5 y1 s0 = some r → va_P (dC, dI) vwCl (dw_X19 a ac s0) H → va_D A (dw_X19 a ac s0) → va_S A s.heap H locs → lv_has ls 6 [(5, .int x5)] → W p l e (headSpec ow_dm_X19_replay ({ frames := 8, cells := 0, slots := 0, locals := 181 })).room s m args below meth c H locs 0 0 Q (F0 m 209 ls [.int y1, .ref (a 0)])
def dj_X19_replay_103 (p : Program) (l : Launch) (e : Env) (s : State) (m : MethodId) (args : Array Value) (below : List Frame) (meth : Method) (c : Code) (Q : State → Prop) (A : Nat → Prop) (dC : Nat → ClassId) (dI : Nat → Nat → Nat) (a : Nat → Nat) (ac : Nat → ClassId) (g : Int64 → Int32 → (St × (St) × (St × (St × (St))) × (St) × (St)) → Option (Int32 × (St × (St) × (St × (St × (St))) × (St) × (St)))) (r : Int32 × (St × (St) × (St × (St × (St))) × (St) × (St))) : Prop := ∀ (x3 : Int64) (x5 : Int32) (s0 : St × (St) × (St × (St × (St))) × (St) × (St)) (H : Heap) (locs : List Loc) (ls : Array Slot), g x3 x5 s0 = some r → va_P (dC, dI) vwCl (dw_X19 a ac s0) H → va_D A (dw_X19 a ac s0) → va_S A s.heap H locs → lv_has ls 6 [(0, .ref (a 0)), (3, .long x3), (5, .int x5)] → W p l e (headSpec ow_dm_X19_replay ({ frames := 8, cells := 0, slots := 0, locals := 181 })).room s m args below meth c H locs 0 0 Q (F0 m 103 ls [])
def dj_X19_replay_46 (p : Program) (l : Launch) (e : Env) (s : State) (m : MethodId) (args : Array Value) (below : List Frame) (meth : Method) (c : Code) (Q : State → Prop) (A : Nat → Prop) (dC : Nat → ClassId) (dI : Nat → Nat → Nat) (a : Nat → Nat) (ac : Nat → ClassId) (g : Int32 → Int32 → Int32 → (St × (St) × (St × (St × (St))) × (St) × (St)) → Option (Int32 × (St × (St) × (St × (St × (St))) × (St) × (St)))) (r : Int32 × (St × (St) × (St × (St × (St))) × (St) × (St))) : Prop := ∀ (x1 : Int32) (y1 : Int32) (y2 : Int32) (s0 : St × (St) × (St × (St × (St))) × (St) × (St)) (H : Heap) (locs : List Loc) (ls : Array Slot), g x1 y1 y2 s0 = some r → va_P (dC, dI) vwCl (dw_X19 a ac s0) H → va_D A (dw_X19 a ac s0) → va_S A s.heap H locs → lv_has ls 6 [(0, .ref (a 0)), (1, .int x1)] → W p l e (headSpec ow_dm_X19_replay ({ frames := 8, cells := 0, slots := 0, locals := 181 })).room s m args below meth c H locs 0 0 Q (F0 m 46 ls [.int y2, .int y1, .ref (a 0)])
def dj_X19_replay_45 (p : Program) (l : Launch) (e : Env) (s : State) (m : MethodId) (args : Array Value) (below : List Frame) (meth : Method) (c : Code) (Q : State → Prop) (A : Nat → Prop) (dC : Nat → ClassId) (dI : Nat → Nat → Nat) (a : Nat → Nat) (ac : Nat → ClassId) (g : Int32 → Int32 → (St × (St) × (St × (St × (St))) × (St) × (St)) → Option (Int32 × (St × (St) × (St × (St × (St))) × (St) × (St)))) (r : Int32 × (St × (St) × (St × (St × (St))) × (St) × (St))) : Prop := ∀ (x1 : Int32) (y1 : Int32) (s0 : St × (St) × (St × (St × (St))) × (St) × (St)) (H : Heap) (locs : List Loc) (ls : Array Slot), g x1 y1 s0 = some r → va_P (dC, dI) vwCl (dw_X19 a ac s0) H → va_D A (dw_X19 a ac s0) → va_S A s.heap H locs → lv_has ls 6 [(0, .ref (a 0)), (1, .int x1)] → W p l e (headSpec ow_dm_X19_replay ({ frames := 8, cells := 0, slots := 0, locals := 181 })).room s m args below meth c H locs 0 0 Q (F0 m 45 ls [.int y1, .ref (a 0)])
def dj_X19_replay_18 (p : Program) (l : Launch) (e : Env) (s : State) (m : MethodId) (args : Array Value) (below : List Frame) (meth : Method) (c : Code) (Q : State → Prop) (A : Nat → Prop) (dC : Nat → ClassId) (dI : Nat → Nat → Nat) (a : Nat → Nat) (ac : Nat → ClassId) (g : Int32 → Int32 → (St × (St) × (St × (St × (St))) × (St) × (St)) → Option (Int32 × (St × (St) × (St × (St × (St))) × (St) × (St)))) (r : Int32 × (St × (St) × (St × (St × (St))) × (St) × (St))) : Prop := ∀ (x1 : Int32) (y1 : Int32) (s0 : St × (St) × (St × (St × (St))) × (St) × (St)) (H : Heap) (locs : List Loc) (ls : Array Slot), g x1 y1 s0 = some r → va_P (dC, dI) vwCl (dw_X19 a ac s0) H → va_D A (dw_X19 a ac s0) → va_S A s.heap H locs → lv_has ls 6 [(0, .ref (a 0)), (1, .int x1)] → W p l e (headSpec ow_dm_X19_replay ({ frames := 8, cells := 0, slots := 0, locals := 181 })).room s m args below meth c H locs 0 0 Q (F0 m 18 ls [.int y1, .ref (a 0)])
def dj_X19_replay_0 (p : Program) (l : Launch) (e : Env) (s : State) (m : MethodId) (args : Array Value) (below : List Frame) (meth : Method) (c : Code) (Q : State → Prop) (A : Nat → Prop) (dC : Nat → ClassId) (dI : Nat → Nat → Nat) (a : Nat → Nat) (ac : Nat → ClassId) (g : Int32 → (St × (St) × (St × (St × (St))) × (St) × (St)) → Option (Int32 × (St × (St) × (St × (St × (St))) × (St) × (St)))) (r : Int32 × (St × (St) × (St × (St × (St))) × (St) × (St))) : Prop := ∀ (v0 : Int32) (s0 : St × (St) × (St × (St × (St))) × (St) × (St)) (H : Heap) (locs : List Loc) (ls : Array Slot), g v0 s0 = some r → va_P (dC, dI) vwCl (dw_X19 a ac s0) H → va_D A (dw_X19 a ac s0) → va_S A s.heap H locs → lv_has ls 6 [(0, .ref (a 0)), (1, .int v0)] → W p l e (headSpec ow_dm_X19_replay ({ frames := 8, cells := 0, slots := 0, locals := 181 })).room s m args below meth c H locs 0 0 Q (F0 m 0 ls [])
set_option maxHeartbeats 40000000 in
set_option maxRecDepth 100000 in
theorem db_X19_replay_209 {p : Program} {l : Launch} {e : Env} {s : State} {m : MethodId} {args : Array Value} {below : List Frame} {meth : Method} {c : Code} {Q : State → Prop} {A : Nat → Prop} {dC : Nat → ClassId} {dI : Nat → Nat → Nat} {a : Nat → Nat} {ac : Nat → ClassId} {n : Nat} {r : Int32 × (St × (St) × (St × (St × (St))) × (St) × (St))} (C : nd_C p l s m args c A (dC, dI) cX19_replay 6 RX19 ow_dm_X19_replay (dk_X19 ac)) (K : nd_Ki p l e (headSpec ow_dm_X19_replay ({ frames := 8, cells := 0, slots := 0, locals := 181 })).room s m args below meth c Q A (dC, dI) cX19_replay .int (St × (St) × (St × (St × (St))) × (St) × (St)) (dw_X19 a ac) r) : dj_X19_replay_209 p l e s m args below meth c Q A dC dI a ac (df_X19_replay_209 n) r := by
  obtain ⟨hlt, hx, hb, hml, hown, hts, hN, hA, hK⟩ := id C
  intro x5 y1 s0 H locs ls h hP hD hS hl
  unfold df_X19_replay_209 at h
  obtain ⟨n31, h⟩ := nd_f_e h
  obtain ⟨n32, h⟩ := nd_z_e ⟨_, rfl⟩ h
  refine va_put (D := (dC, dI)) (ci := 20) (v := .int y1) (ty := .boolean) (C := RX19) (T := TX19) (N := 36) hx hb hts hi_dm_X19_replay_X19 tyX19 tyX19_ok nmX19 hown hK hP hD hS 0 rfl rfl 25 (by decide) (hts (.fieldLink RX19 236 "TimeMachineModel" "refused" "Z") (List.mem_of_getElem? (i := 25) rfl)) (fun _ h9 => h9) rfl (by decide +kernel) n32 n31 (Nat.le_of_ble_eq_true rfl) dX19_replay_209 (fun H locs hP hD hS => ?_)
  obtain ⟨s33, es33, h⟩ := nd_let_e h
  have hP : va_P (dC, dI) vwCl (dw_X19 a ac s33) H := by rw [es33]; exact hP
  have hD : va_D A (dw_X19 a ac s33) := by rw [es33]; exact hD
  refine lv_iload hx hb dX19_replay_212 (lv_at hl 0 rfl) ?_
  exact K _ _ _ _ _ _ dX19_replay_214 rfl (Option.some.inj h).symm hP hD hS
set_option maxHeartbeats 40000000 in
set_option maxRecDepth 100000 in
theorem dB_X19_replay_103 {p : Program} {l : Launch} {e : Env} {s : State} {m : MethodId} {args : Array Value} {below : List Frame} {meth : Method} {c : Code} {Q : State → Prop} {A : Nat → Prop} {dC : Nat → ClassId} {dI : Nat → Nat → Nat} {a : Nat → Nat} {ac : Nat → ClassId} {n : Nat} {r : Int32 × (St × (St) × (St × (St × (St))) × (St) × (St))} (C : nd_C p l s m args c A (dC, dI) cX19_replay 6 RX19 ow_dm_X19_replay (dk_X19 ac)) (K : nd_Ki p l e (headSpec ow_dm_X19_replay ({ frames := 8, cells := 0, slots := 0, locals := 181 })).room s m args below meth c Q A (dC, dI) cX19_replay .int (St × (St) × (St × (St × (St))) × (St) × (St)) (dw_X19 a ac) r) {g103 : Int64 → Int32 → (St × (St) × (St × (St × (St))) × (St) × (St)) → Option (Int32 × (St × (St) × (St × (St × (St))) × (St) × (St)))} (J103 : dj_X19_replay_103 p l e s m args below meth c Q A dC dI a ac g103 r) : dj_X19_replay_103 p l e s m args below meth c Q A dC dI a ac (dF_X19_replay_103 n g103) r := by
  obtain ⟨hlt, hx, hb, hml, hown, hts, hN, hA, hK⟩ := id C
  intro x3 x5 s0 H locs ls h hP hD hS hl
  unfold dF_X19_replay_103 at h
  refine lv_iload hx hb dX19_replay_103 (lv_at hl 2 rfl) ?_
  refine lv_aload_n hx hb dX19_replay_105 rfl (lv_at hl 0 rfl) ?_
  refine va_get (D := (dC, dI)) (ci := 20) (v := .int (sI s0.1 9)) (C := RX19) (T := TX19) (N := 36) hx hb hts hi_dm_X19_replay_X19 hown hK hP 0 rfl rfl 23 (by decide) (hts (.fieldLink RX19 212 "TimeMachineModel" "scheduled" "I") (List.mem_of_getElem? (i := 21) rfl)) (fun _ h9 => h9) rfl dX19_replay_106 ?_
  refine lv_icmp_ge (tgt := 190) hx hb dX19_replay_109 (by decide) (fun c25 => ?_) (fun c25 => ?_)
  · have h := nd_pos h c25
    refine lv_aload_n hx hb dX19_replay_190 rfl (lv_at hl 0 rfl) ?_
    refine va_get (D := (dC, dI)) (ci := 20) (v := .int (sI s0.1 9)) (C := RX19) (T := TX19) (N := 36) hx hb hts hi_dm_X19_replay_X19 hown hK hP 0 rfl rfl 23 (by decide) (hts (.fieldLink RX19 212 "TimeMachineModel" "scheduled" "I") (List.mem_of_getElem? (i := 21) rfl)) (fun _ h9 => h9) rfl dX19_replay_191 ?_
    refine lv_topi (fun z26 ez26 => ?_)
    have h := nd_at h ez26
    refine lv_istore (lv' := [(5, .int z26), (0, .ref (a 0)), (3, .long x3)]) hx hb dX19_replay_194 hl (by decide) rfl (fun ls hl => ?_)
    refine lv_aload_n hx hb dX19_replay_196 rfl (lv_at hl 1 rfl) ?_
    refine lv_aload_n hx hb dX19_replay_197 rfl (lv_at hl 1 rfl) ?_
    obtain ⟨q27, s28, hq, h⟩ := nd_b2_e h
    have hPc := hP
    have hDc := hD
    have hKc := hK
    have hFc := nd_rs hD hS hA
    refine nd_cVi (As := []) (rest := [.ref (a 0)]) (q := q27) (w' := dw_X19 a ac s28) ⟨hx, hb, hml, hown, hts⟩ (fun sz => dm_X19_takeScheduled l hlt dC dI a ac n  s0 hq sz) (cwV 0 hts gi_dm_X19_replay_5 rfl rfl rfl (by decide +kernel) ⟨Nat.le_of_ble_eq_true rfl, Nat.le_of_ble_eq_true rfl⟩) hPc hDc hKc hS hA hN (va_recv hKc hPc (ci := 20) (q0 := 0) rfl rfl) rfl hl.1 rfl (Nat.le_of_ble_eq_true rfl) dX19_replay_198 (fun H locs hP1 hD1 hk1 hS => ?_)
    have hP := hP1
    have hD := hD1.weaken (fun k q _ h => hFc q.1 h)
    refine lv_if_ne (tgt := 208) hx hb dX19_replay_201 (by decide) (fun c30 => ?_) (fun c30 => ?_)
    · have h := nd_neg h c30
      refine lv_iconst (v := 0) hx hb dX19_replay_208 (by decide) ?_
      exact (db_X19_replay_209 C K) (z26) (0) s28 _ _ _ h hP hD hS (lv_sub hl [0] rfl)
    · have h := nd_pos h c30
      refine lv_iconst (v := 1) hx hb dX19_replay_204 (by decide) ?_
      refine lv_goto (tgt := 209) hx hb dX19_replay_205 (by decide) ?_
      exact (db_X19_replay_209 C K) (z26) (1) s28 _ _ _ h hP hD hS (lv_sub hl [0] rfl)
  · have h := nd_neg h c25
    refine lv_lload_n hx hb dX19_replay_112 rfl (lv_at hl 1 rfl) ?_
    refine lv_aload_n hx hb dX19_replay_113 rfl (lv_at hl 0 rfl) ?_
    refine va_get (D := (dC, dI)) (ci := 20) (v := .ref (a 86)) (C := RX19) (T := TX19) (N := 36) hx hb hts hi_dm_X19_replay_X19 hown hK hP 0 rfl rfl 15 (by decide) (hts (.fieldLink RX19 74 "TimeMachineModel" "codec" "LTimeMachineModel$Codec;") (List.mem_of_getElem? (i := 8) rfl)) (fun _ h9 => h9) rfl dX19_replay_114 ?_
    refine va_getN (D := (dC, dI)) (ci := 15) (v := .ref (a 89)) (C := RX14) (T := TX14) (N := 11) hx hb hts hi_dm_X19_replay_X14 hown hK hP 86 rfl rfl 3 (by decide) (va_Nw.use rfl (hN.1 ("TimeMachineModel", 246, "TimeMachineModel$Codec", "difference", "[J", "TimeMachineModel") (by decide))) (fun _ h9 => h9) rfl dX19_replay_117 ?_
    refine lv_iload hx hb dX19_replay_120 (lv_at hl 2 rfl) ?_
    obtain ⟨i34, h⟩ := nd_ck_e h
    refine va_lald (i := x5) hx hb hK hP 89 83 rfl rfl i34 dX19_replay_122 ?_
    refine lv_ladd hx hb dX19_replay_123 ?_
    refine lv_topl (fun z35 ez35 => ?_)
    have h := nd_at h ez35
    refine lv_lstore_n (lv' := [(3, .long z35), (0, .ref (a 0)), (5, .int x5)]) hx hb dX19_replay_124 rfl hl (by decide) rfl (fun ls hl => ?_)
    refine lv_aload_n hx hb dX19_replay_125 rfl (lv_at hl 1 rfl) ?_
    refine va_get (D := (dC, dI)) (ci := 20) (v := .ref (a 13)) (C := RX19) (T := TX19) (N := 36) hx hb hts hi_dm_X19_replay_X19 hown hK hP 0 rfl rfl 33 (by decide) (hts (.fieldLink RX19 107 "TimeMachineModel" "laterWhen" "[J") (List.mem_of_getElem? (i := 26) rfl)) (fun _ h9 => h9) rfl dX19_replay_126 ?_
    refine lv_iload hx hb dX19_replay_129 (lv_at hl 2 rfl) ?_
    refine lv_lload_n hx hb dX19_replay_131 rfl (lv_at hl 0 rfl) ?_
    obtain ⟨i36, h⟩ := nd_ck_e h
    refine va_last (i := x5) (x := z35) hx hb hK hP hD hS 13 12 rfl rfl i36 dX19_replay_132 (fun H locs hP hD hS => ?_)
    obtain ⟨s37, es37, h⟩ := nd_let_e h
    have hP : va_P (dC, dI) vwCl (dw_X19 a ac s37) H := by rw [es37]; exact hP
    have hD : va_D A (dw_X19 a ac s37) := by rw [es37]; exact hD
    refine lv_aload_n hx hb dX19_replay_133 rfl (lv_at hl 1 rfl) ?_
    refine va_get (D := (dC, dI)) (ci := 20) (v := .ref (a 9)) (C := RX19) (T := TX19) (N := 36) hx hb hts hi_dm_X19_replay_X19 hown hK hP 0 rfl rfl 29 (by decide) (hts (.fieldLink RX19 94 "TimeMachineModel" "laterKind" "[I") (List.mem_of_getElem? (i := 27) rfl)) (fun _ h9 => h9) rfl dX19_replay_134 ?_
    refine lv_iload hx hb dX19_replay_137 (lv_at hl 2 rfl) ?_
    refine lv_aload_n hx hb dX19_replay_139 rfl (lv_at hl 1 rfl) ?_
    refine va_get (D := (dC, dI)) (ci := 20) (v := .ref (a 86)) (C := RX19) (T := TX19) (N := 36) hx hb hts hi_dm_X19_replay_X19 hown hK hP 0 rfl rfl 15 (by decide) (hts (.fieldLink RX19 74 "TimeMachineModel" "codec" "LTimeMachineModel$Codec;") (List.mem_of_getElem? (i := 8) rfl)) (fun _ h9 => h9) rfl dX19_replay_140 ?_
    refine va_getN (D := (dC, dI)) (ci := 15) (v := .ref (a 87)) (C := RX14) (T := TX14) (N := 11) hx hb hts hi_dm_X19_replay_X14 hown hK hP 86 rfl rfl 1 (by decide) (va_Nw.use rfl (hN.1 ("TimeMachineModel", 249, "TimeMachineModel$Codec", "kind", "[I", "TimeMachineModel") (by decide))) (fun _ h9 => h9) rfl dX19_replay_143 ?_
    refine lv_iload hx hb dX19_replay_146 (lv_at hl 2 rfl) ?_
    obtain ⟨i38, h⟩ := nd_ck_e h
    refine va_iald (i := x5) hx hb hK hP 87 81 rfl rfl i38 dX19_replay_148 ?_
    obtain ⟨i39, h⟩ := nd_ck_e h
    refine va_iast (i := x5) (x := (sR s37.2.2.2.1 0 (Int32.toNatClampNeg x5))) hx hb hK hP hD hS 9 8 rfl rfl i39 dX19_replay_149 (fun H locs hP hD hS => ?_)
    obtain ⟨s40, es40, h⟩ := nd_let_e h
    have hP : va_P (dC, dI) vwCl (dw_X19 a ac s40) H := by rw [es40]; exact hP
    have hD : va_D A (dw_X19 a ac s40) := by rw [es40]; exact hD
    refine lv_aload_n hx hb dX19_replay_150 rfl (lv_at hl 1 rfl) ?_
    refine va_get (D := (dC, dI)) (ci := 20) (v := .ref (a 12)) (C := RX19) (T := TX19) (N := 36) hx hb hts hi_dm_X19_replay_X19 hown hK hP 0 rfl rfl 32 (by decide) (hts (.fieldLink RX19 104 "TimeMachineModel" "laterA" "[J") (List.mem_of_getElem? (i := 28) rfl)) (fun _ h9 => h9) rfl dX19_replay_151 ?_
    refine lv_iload hx hb dX19_replay_154 (lv_at hl 2 rfl) ?_
    refine lv_aload_n hx hb dX19_replay_156 rfl (lv_at hl 1 rfl) ?_
    refine va_get (D := (dC, dI)) (ci := 20) (v := .ref (a 86)) (C := RX19) (T := TX19) (N := 36) hx hb hts hi_dm_X19_replay_X19 hown hK hP 0 rfl rfl 15 (by decide) (hts (.fieldLink RX19 74 "TimeMachineModel" "codec" "LTimeMachineModel$Codec;") (List.mem_of_getElem? (i := 8) rfl)) (fun _ h9 => h9) rfl dX19_replay_157 ?_
    refine va_getN (D := (dC, dI)) (ci := 15) (v := .ref (a 90)) (C := RX14) (T := TX14) (N := 11) hx hb hts hi_dm_X19_replay_X14 hown hK hP 86 rfl rfl 4 (by decide) (va_Nw.use rfl (hN.1 ("TimeMachineModel", 250, "TimeMachineModel$Codec", "a", "[J", "TimeMachineModel") (by decide))) (fun _ h9 => h9) rfl dX19_replay_160 ?_
    refine lv_iload hx hb dX19_replay_163 (lv_at hl 2 rfl) ?_
    obtain ⟨i41, h⟩ := nd_ck_e h
    refine va_lald (i := x5) hx hb hK hP 90 84 rfl rfl i41 dX19_replay_165 ?_
    obtain ⟨i42, h⟩ := nd_ck_e h
    refine va_last (i := x5) (x := (sQ s40.2.2.2.1 1 (Int32.toNatClampNeg x5))) hx hb hK hP hD hS 12 11 rfl rfl i42 dX19_replay_166 (fun H locs hP hD hS => ?_)
    obtain ⟨s43, es43, h⟩ := nd_let_e h
    have hP : va_P (dC, dI) vwCl (dw_X19 a ac s43) H := by rw [es43]; exact hP
    have hD : va_D A (dw_X19 a ac s43) := by rw [es43]; exact hD
    refine lv_aload_n hx hb dX19_replay_167 rfl (lv_at hl 1 rfl) ?_
    refine va_get (D := (dC, dI)) (ci := 20) (v := .ref (a 10)) (C := RX19) (T := TX19) (N := 36) hx hb hts hi_dm_X19_replay_X19 hown hK hP 0 rfl rfl 30 (by decide) (hts (.fieldLink RX19 97 "TimeMachineModel" "laterB" "[I") (List.mem_of_getElem? (i := 29) rfl)) (fun _ h9 => h9) rfl dX19_replay_168 ?_
    refine lv_iload hx hb dX19_replay_171 (lv_at hl 2 rfl) ?_
    refine lv_aload_n hx hb dX19_replay_173 rfl (lv_at hl 1 rfl) ?_
    refine va_get (D := (dC, dI)) (ci := 20) (v := .ref (a 86)) (C := RX19) (T := TX19) (N := 36) hx hb hts hi_dm_X19_replay_X19 hown hK hP 0 rfl rfl 15 (by decide) (hts (.fieldLink RX19 74 "TimeMachineModel" "codec" "LTimeMachineModel$Codec;") (List.mem_of_getElem? (i := 8) rfl)) (fun _ h9 => h9) rfl dX19_replay_174 ?_
    refine va_getN (D := (dC, dI)) (ci := 15) (v := .ref (a 88)) (C := RX14) (T := TX14) (N := 11) hx hb hts hi_dm_X19_replay_X14 hown hK hP 86 rfl rfl 2 (by decide) (va_Nw.use rfl (hN.1 ("TimeMachineModel", 251, "TimeMachineModel$Codec", "b", "[I", "TimeMachineModel") (by decide))) (fun _ h9 => h9) rfl dX19_replay_177 ?_
    refine lv_iload hx hb dX19_replay_180 (lv_at hl 2 rfl) ?_
    obtain ⟨i44, h⟩ := nd_ck_e h
    refine va_iald (i := x5) hx hb hK hP 88 82 rfl rfl i44 dX19_replay_182 ?_
    obtain ⟨i45, h⟩ := nd_ck_e h
    refine va_iast (i := x5) (x := (sR s43.2.2.2.1 1 (Int32.toNatClampNeg x5))) hx hb hK hP hD hS 10 9 rfl rfl i45 dX19_replay_183 (fun H locs hP hD hS => ?_)
    obtain ⟨s46, es46, h⟩ := nd_let_e h
    have hP : va_P (dC, dI) vwCl (dw_X19 a ac s46) H := by rw [es46]; exact hP
    have hD : va_D A (dw_X19 a ac s46) := by rw [es46]; exact hD
    obtain ⟨z47, ez47, h⟩ := nd_let_e h
    refine lv_iinc (v := z47) (lv' := [(5, .int z47), (3, .long z35), (0, .ref (a 0))]) hx hb dX19_replay_184 hl (k := 2) rfl (by rw [ez47]) (by decide) rfl (fun ls hl => ?_)
    refine lv_goto (tgt := 103) hx hb dX19_replay_187 (by decide) ?_
    exact (J103) (z35) (z47) s46 _ _ _ h hP hD hS (lv_sub hl [2, 1, 0] rfl)
set_option maxHeartbeats 40000000 in
set_option maxRecDepth 100000 in
theorem db_X19_replay_103 {p : Program} {l : Launch} {e : Env} {s : State} {m : MethodId} {args : Array Value} {below : List Frame} {meth : Method} {c : Code} {Q : State → Prop} {A : Nat → Prop} {dC : Nat → ClassId} {dI : Nat → Nat → Nat} {a : Nat → Nat} {ac : Nat → ClassId} {n : Nat} {r : Int32 × (St × (St) × (St × (St × (St))) × (St) × (St))} (C : nd_C p l s m args c A (dC, dI) cX19_replay 6 RX19 ow_dm_X19_replay (dk_X19 ac)) (K : nd_Ki p l e (headSpec ow_dm_X19_replay ({ frames := 8, cells := 0, slots := 0, locals := 181 })).room s m args below meth c Q A (dC, dI) cX19_replay .int (St × (St) × (St × (St × (St))) × (St) × (St)) (dw_X19 a ac) r) (k : Nat) : dj_X19_replay_103 p l e s m args below meth c Q A dC dI a ac (df_X19_replay_103 n k) r := by
  induction k with
  | zero => intro x3 x5 s0 H locs ls h; exact nomatch (show (none : Option (Int32 × (St × (St) × (St × (St × (St))) × (St) × (St)))) = some r from h)
  | succ k ih => exact dB_X19_replay_103 C K ih
set_option maxHeartbeats 40000000 in
set_option maxRecDepth 100000 in
theorem db_X19_replay_46 {p : Program} {l : Launch} {e : Env} {s : State} {m : MethodId} {args : Array Value} {below : List Frame} {meth : Method} {c : Code} {Q : State → Prop} {A : Nat → Prop} {dC : Nat → ClassId} {dI : Nat → Nat → Nat} {a : Nat → Nat} {ac : Nat → ClassId} {n : Nat} {r : Int32 × (St × (St) × (St × (St × (St))) × (St) × (St))} (C : nd_C p l s m args c A (dC, dI) cX19_replay 6 RX19 ow_dm_X19_replay (dk_X19 ac)) (K : nd_Ki p l e (headSpec ow_dm_X19_replay ({ frames := 8, cells := 0, slots := 0, locals := 181 })).room s m args below meth c Q A (dC, dI) cX19_replay .int (St × (St) × (St × (St × (St))) × (St) × (St)) (dw_X19 a ac) r) : dj_X19_replay_46 p l e s m args below meth c Q A dC dI a ac (df_X19_replay_46 n) r := by
  obtain ⟨hlt, hx, hb, hml, hown, hts, hN, hA, hK⟩ := id C
  intro x1 y1 y2 s0 H locs ls h hP hD hS hl
  unfold df_X19_replay_46 at h
  obtain ⟨q9, s10, hq, h⟩ := nd_b2_e h
  have hPc := hP
  have hDc := hD
  have hKc := hK
  have hFc := nd_rs hD hS hA
  refine nd_cVi (As := [.int y1, .int y2]) (rest := []) (q := q9) (w' := dw_X19 a ac s10) ⟨hx, hb, hml, hown, hts⟩ (fun sz => dm_X19_fails l hlt dC dI a ac n (y1) (y2) s0 hq sz) (cwV 2 hts gi_dm_X19_replay_1 rfl rfl rfl (by decide +kernel) ⟨Nat.le_of_ble_eq_true rfl, Nat.le_of_ble_eq_true rfl⟩) hPc hDc hKc hS hA hN (va_recv hKc hPc (ci := 20) (q0 := 0) rfl rfl) rfl hl.1 rfl (Nat.le_of_ble_eq_true rfl) dX19_replay_46 (fun H locs hP1 hD1 hk1 hS => ?_)
  have hP := hP1
  have hD := hD1.weaken (fun k q _ h => hFc q.1 h)
  refine lv_if_eq (tgt := 54) hx hb dX19_replay_49 (by decide) (fun c12 => ?_) (fun c12 => ?_)
  · have h := nd_pos h c12
    refine lv_aload_n hx hb dX19_replay_54 rfl (lv_at hl 0 rfl) ?_
    refine va_get (D := (dC, dI)) (ci := 20) (v := .ref (a 86)) (C := RX19) (T := TX19) (N := 36) hx hb hts hi_dm_X19_replay_X19 hown hK hP 0 rfl rfl 15 (by decide) (hts (.fieldLink RX19 74 "TimeMachineModel" "codec" "LTimeMachineModel$Codec;") (List.mem_of_getElem? (i := 8) rfl)) (fun _ h9 => h9) rfl dX19_replay_55 ?_
    refine lv_aload_n hx hb dX19_replay_58 rfl (lv_at hl 0 rfl) ?_
    refine va_get (D := (dC, dI)) (ci := 20) (v := .ref (a 92)) (C := RX19) (T := TX19) (N := 36) hx hb hts hi_dm_X19_replay_X19 hown hK hP 0 rfl rfl 1 (by decide) (hts (.fieldLink RX19 10 "TimeMachineModel" "tape" "[I") (List.mem_of_getElem? (i := 9) rfl)) (fun _ h9 => h9) rfl dX19_replay_59 ?_
    refine lv_aload_n hx hb dX19_replay_62 rfl (lv_at hl 0 rfl) ?_
    refine va_get (D := (dC, dI)) (ci := 20) (v := .int (sI s10.1 1)) (C := RX19) (T := TX19) (N := 36) hx hb hts hi_dm_X19_replay_X19 hown hK hP 0 rfl rfl 2 (by decide) (hts (.fieldLink RX19 117 "TimeMachineModel" "taped" "I") (List.mem_of_getElem? (i := 10) rfl)) (fun _ h9 => h9) rfl dX19_replay_63 ?_
    obtain ⟨q13, s14, hq, h⟩ := nd_b2_e h
    have hPc := dp_X19_86 hP
    have hDc := dd_X19_86 hD
    have hKc := dy_X19_86 hK
    have hFc := nd_rs hDc hS hA
    have hzA : ∀ q : Nat, H.size ≤ q → A q := fun q h => hA q (Nat.le_trans hS.1 h)
    refine nd_cVi (As := [.ref (a 92), .int (sI s10.1 1)]) (rest := []) (q := q13) (w' := dw_X14 (fun k => a (k + 86)) (fun k => ac (k + 86)) s14) ⟨hx, hb, hml, hown, hts⟩ (fun sz => dm_X14_read l hlt dC dI (fun k => a (k + 86)) (fun k => ac (k + 86)) n ((sI s10.1 1)) s10.2.2.2.1 hq sz) (cwV 2 hts gi_dm_X19_replay_2 rfl rfl rfl (by decide +kernel) ⟨Nat.le_of_ble_eq_true rfl, Nat.le_of_ble_eq_true rfl⟩) hPc hDc hKc hS hA hN (va_recv hKc hPc (ci := 15) (q0 := 0) rfl rfl) rfl hl.1 rfl (Nat.le_of_ble_eq_true rfl) dX19_replay_66 (fun H locs hP1 hD1 hk1 hS => ?_)
    obtain ⟨hP, hD⟩ := dn_X19_86 hP hD hzA hk1 hP1 hD1
    obtain ⟨s16, es16, h⟩ := nd_let_e h
    have hP : va_P (dC, dI) vwCl (dw_X19 a ac s16) H := by rw [es16]; exact hP
    have hD : va_D A (dw_X19 a ac s16) := by rw [es16]; exact hD
    refine lv_istore_n (lv' := [(2, .int q13), (0, .ref (a 0)), (1, .int x1)]) hx hb dX19_replay_69 rfl hl (by decide) rfl (fun ls hl => ?_)
    refine lv_aload_n hx hb dX19_replay_70 rfl (lv_at hl 1 rfl) ?_
    obtain ⟨s18, hq, h⟩ := nd_b1_e h
    have hPc := hP
    have hDc := hD
    have hKc := hK
    have hFc := nd_rs hD hS hA
    refine nd_cVv (As := []) (rest := []) (w' := dw_X19 a ac s18) ⟨hx, hb, hml, hown, hts⟩ (fun sz => dm_X19_use l hlt dC dI a ac n  s16 hq sz) (cwV 0 hts gi_dm_X19_replay_3 rfl rfl rfl (by decide +kernel) ⟨Nat.le_of_ble_eq_true rfl, Nat.le_of_ble_eq_true rfl⟩) hPc hDc hKc hS hA hN (va_recv hKc hPc (ci := 20) (q0 := 0) rfl rfl) rfl hl.1 rfl (Nat.le_of_ble_eq_true rfl) dX19_replay_71 (fun H locs hP1 hD1 hk1 hS => ?_)
    have hP := hP1
    have hD := hD1.weaken (fun k q _ h => hFc q.1 h)
    refine lv_iload_n hx hb dX19_replay_74 rfl (lv_at hl 0 rfl) ?_
    refine lv_if_le (tgt := 82) hx hb dX19_replay_75 (by decide) (fun c20 => ?_) (fun c20 => ?_)
    · have h := nd_pos h c20
      refine lv_aload_n hx hb dX19_replay_82 rfl (lv_at hl 1 rfl) ?_
      refine lv_iload_n hx hb dX19_replay_83 rfl (lv_at hl 2 rfl) ?_
      obtain ⟨s22, hq, h⟩ := nd_b1_e h
      have hPc := hP
      have hDc := hD
      have hKc := hK
      have hFc := nd_rs hD hS hA
      refine nd_cVv (As := [.int x1]) (rest := []) (w' := dw_X19 a ac s22) ⟨hx, hb, hml, hown, hts⟩ (fun sz => dm_X19_begin l hlt dC dI a ac n (x1) s18 hq sz) (cwV 1 hts gi_dm_X19_replay_4 rfl rfl rfl (by decide +kernel) ⟨Nat.le_of_ble_eq_true rfl, Nat.le_of_ble_eq_true rfl⟩) hPc hDc hKc hS hA hN (va_recv hKc hPc (ci := 20) (q0 := 0) rfl rfl) rfl hl.1 rfl (Nat.le_of_ble_eq_true rfl) dX19_replay_84 (fun H locs hP1 hD1 hk1 hS => ?_)
      have hP := hP1
      have hD := hD1.weaken (fun k q _ h => hFc q.1 h)
      refine lv_aload_n hx hb dX19_replay_87 rfl (lv_at hl 1 rfl) ?_
      refine lv_aload_n hx hb dX19_replay_88 rfl (lv_at hl 1 rfl) ?_
      refine va_get (D := (dC, dI)) (ci := 20) (v := .ref (a 86)) (C := RX19) (T := TX19) (N := 36) hx hb hts hi_dm_X19_replay_X19 hown hK hP 0 rfl rfl 15 (by decide) (hts (.fieldLink RX19 74 "TimeMachineModel" "codec" "LTimeMachineModel$Codec;") (List.mem_of_getElem? (i := 8) rfl)) (fun _ h9 => h9) rfl dX19_replay_89 ?_
      refine va_getN (D := (dC, dI)) (ci := 15) (v := .int (sI s22.2.2.2.1 0)) (C := RX14) (T := TX14) (N := 11) hx hb hts hi_dm_X19_replay_X14 hown hK hP 86 rfl rfl 0 (by decide) (va_Nw.use rfl (hN.1 ("TimeMachineModel", 245, "TimeMachineModel$Codec", "events", "I", "TimeMachineModel") (by decide))) (fun _ h9 => h9) rfl dX19_replay_92 ?_
      refine va_put (D := (dC, dI)) (ci := 20) (v := .int (sI s22.2.2.2.1 0)) (ty := .int) (C := RX19) (T := TX19) (N := 36) hx hb hts hi_dm_X19_replay_X19 tyX19 tyX19_ok nmX19 hown hK hP hD hS 0 rfl rfl 23 (by decide) (hts (.fieldLink RX19 212 "TimeMachineModel" "scheduled" "I") (List.mem_of_getElem? (i := 21) rfl)) (fun _ h9 => h9) rfl (by decide +kernel) rfl rfl (Nat.le_of_ble_eq_true rfl) dX19_replay_95 (fun H locs hP hD hS => ?_)
      obtain ⟨s24, es24, h⟩ := nd_let_e h
      have hP : va_P (dC, dI) vwCl (dw_X19 a ac s24) H := by rw [es24]; exact hP
      have hD : va_D A (dw_X19 a ac s24) := by rw [es24]; exact hD
      refine lv_lconst (v := 0) hx hb dX19_replay_98 (by decide) ?_
      refine lv_lstore_n (lv' := [(3, .long 0), (2, .int q13), (0, .ref (a 0)), (1, .int x1)]) hx hb dX19_replay_99 rfl hl (by decide) rfl (fun ls hl => ?_)
      refine lv_iconst (v := 0) hx hb dX19_replay_100 (by decide) ?_
      refine lv_istore (lv' := [(5, .int 0), (3, .long 0), (2, .int q13), (0, .ref (a 0)), (1, .int x1)]) hx hb dX19_replay_101 hl (by decide) rfl (fun ls hl => ?_)
      exact (db_X19_replay_103 C K n) (0) (0) s24 _ _ _ h hP hD hS (lv_sub hl [3, 1, 0] rfl)
    · have h := nd_neg h c20
      refine lv_iconst (v := (-1)) hx hb dX19_replay_78 (by decide) ?_
      refine lv_iload_n hx hb dX19_replay_79 rfl (lv_at hl 0 rfl) ?_
      refine lv_isub hx hb dX19_replay_80 ?_
      exact K _ _ _ _ _ _ dX19_replay_81 rfl (Option.some.inj h).symm hP hD hS
  · have h := nd_neg h c12
    refine lv_iconst (v := 0) hx hb dX19_replay_52 (by decide) ?_
    exact K _ _ _ _ _ _ dX19_replay_53 rfl (Option.some.inj h).symm hP hD hS
set_option maxHeartbeats 40000000 in
set_option maxRecDepth 100000 in
theorem db_X19_replay_45 {p : Program} {l : Launch} {e : Env} {s : State} {m : MethodId} {args : Array Value} {below : List Frame} {meth : Method} {c : Code} {Q : State → Prop} {A : Nat → Prop} {dC : Nat → ClassId} {dI : Nat → Nat → Nat} {a : Nat → Nat} {ac : Nat → ClassId} {n : Nat} {r : Int32 × (St × (St) × (St × (St × (St))) × (St) × (St))} (C : nd_C p l s m args c A (dC, dI) cX19_replay 6 RX19 ow_dm_X19_replay (dk_X19 ac)) (K : nd_Ki p l e (headSpec ow_dm_X19_replay ({ frames := 8, cells := 0, slots := 0, locals := 181 })).room s m args below meth c Q A (dC, dI) cX19_replay .int (St × (St) × (St × (St × (St))) × (St) × (St)) (dw_X19 a ac) r) : dj_X19_replay_45 p l e s m args below meth c Q A dC dI a ac (df_X19_replay_45 n) r := by
  obtain ⟨hlt, hx, hb, hml, hown, hts, hN, hA, hK⟩ := id C
  intro x1 y1 s0 H locs ls h hP hD hS hl
  unfold df_X19_replay_45 at h
  refine lv_iconst (v := 0) hx hb dX19_replay_45 (by decide) ?_
  exact (db_X19_replay_46 C K) (x1) (y1) (0) s0 _ _ _ h hP hD hS (lv_sub hl [0, 1] rfl)
set_option maxHeartbeats 40000000 in
set_option maxRecDepth 100000 in
theorem db_X19_replay_18 {p : Program} {l : Launch} {e : Env} {s : State} {m : MethodId} {args : Array Value} {below : List Frame} {meth : Method} {c : Code} {Q : State → Prop} {A : Nat → Prop} {dC : Nat → ClassId} {dI : Nat → Nat → Nat} {a : Nat → Nat} {ac : Nat → ClassId} {n : Nat} {r : Int32 × (St × (St) × (St × (St × (St))) × (St) × (St))} (C : nd_C p l s m args c A (dC, dI) cX19_replay 6 RX19 ow_dm_X19_replay (dk_X19 ac)) (K : nd_Ki p l e (headSpec ow_dm_X19_replay ({ frames := 8, cells := 0, slots := 0, locals := 181 })).room s m args below meth c Q A (dC, dI) cX19_replay .int (St × (St) × (St × (St × (St))) × (St) × (St)) (dw_X19 a ac) r) : dj_X19_replay_18 p l e s m args below meth c Q A dC dI a ac (df_X19_replay_18 n) r := by
  obtain ⟨hlt, hx, hb, hml, hown, hts, hN, hA, hK⟩ := id C
  intro x1 y1 s0 H locs ls h hP hD hS hl
  unfold df_X19_replay_18 at h
  refine lv_iload_n hx hb dX19_replay_18 rfl (lv_at hl 1 rfl) ?_
  refine lv_i2l hx hb dX19_replay_19 rfl ?_
  refine lv_lconst (v := 0) hx hb dX19_replay_20 (by decide) ?_
  refine lv_ldc2 hx hb hown (hts (.constantLong RX19 134 (3)) (List.mem_of_getElem? (i := 1) rfl)) dX19_replay_21 ?_
  obtain ⟨q5, s6, hq, h⟩ := nd_b2_e h
  have hPc : va_P (dC, dI) vwCl (dw_P a ac ()) H := nd_p0
  have hDc : va_D A (dw_P a ac ()) := nd_d0
  have hKc : va_K (dC, dI) vwCl (dk_P ac) s := nd_y0 hK
  have hFc : ∀ q, va_A (dw_P a ac ()) H.size q → A q := nd_r0 hS hA
  refine nd_cSi (As := [.long (x1.toInt64), .long 0, .long 3]) (rest := [.int y1, .ref (a 0)]) (q := q5) (w' := dw_P a ac s6) ⟨hx, hb, hml, hown, hts⟩ (fun sz => dm_X19_in l hlt dC dI a ac n ((x1.toInt64)) (0) (3) () hq sz) (cwS 3 hts gi_dm_X19_replay_0 rfl rfl rfl (by decide +kernel) ⟨Nat.le_of_ble_eq_true rfl, Nat.le_of_ble_eq_true rfl⟩) hPc hDc hKc hS hA hN rfl hl.1 rfl (Nat.le_of_ble_eq_true rfl) dX19_replay_24 (fun H locs hP1 hD1 hk1 hS => ?_)
  have hP := nd_n0 hP hk1
  refine lv_if_eq (tgt := 45) hx hb dX19_replay_27 (by decide) (fun c8 => ?_) (fun c8 => ?_)
  · have h := nd_pos h c8
    exact (db_X19_replay_45 C K) (x1) (y1) s0 _ _ _ h hP hD hS (lv_sub hl [0, 1] rfl)
  · have h := nd_neg h c8
    refine lv_aload_n hx hb dX19_replay_30 rfl (lv_at hl 0 rfl) ?_
    refine va_get (D := (dC, dI)) (ci := 20) (v := .ref (a 1)) (C := RX19) (T := TX19) (N := 36) hx hb hts hi_dm_X19_replay_X19 hown hK hP 0 rfl rfl 4 (by decide) (hts (.fieldLink RX19 14 "TimeMachineModel" "isProgram" "[Z") (List.mem_of_getElem? (i := 30) rfl)) (fun _ h9 => h9) rfl dX19_replay_31 ?_
    refine lv_iload_n hx hb dX19_replay_34 rfl (lv_at hl 1 rfl) ?_
    refine lv_iconst (v := 3) hx hb dX19_replay_35 (by decide) ?_
    refine lv_iand hx hb dX19_replay_36 ?_
    obtain ⟨i48, h⟩ := nd_ck_e h
    refine va_zald (i := (x1 &&& 3)) hx hb hK hP 1 0 rfl rfl i48 dX19_replay_37 ?_
    refine lv_if_ne (tgt := 45) hx hb dX19_replay_38 (by decide) (fun c49 => ?_) (fun c49 => ?_)
    · have h := nd_neg h c49
      exact (db_X19_replay_45 C K) (x1) (y1) s0 _ _ _ h hP hD hS (lv_sub hl [0, 1] rfl)
    · have h := nd_pos h c49
      refine lv_iconst (v := 1) hx hb dX19_replay_41 (by decide) ?_
      refine lv_goto (tgt := 46) hx hb dX19_replay_42 (by decide) ?_
      exact (db_X19_replay_46 C K) (x1) (y1) (1) s0 _ _ _ h hP hD hS (lv_sub hl [0, 1] rfl)
set_option maxHeartbeats 40000000 in
set_option maxRecDepth 100000 in
theorem db_X19_replay_0 {p : Program} {l : Launch} {e : Env} {s : State} {m : MethodId} {args : Array Value} {below : List Frame} {meth : Method} {c : Code} {Q : State → Prop} {A : Nat → Prop} {dC : Nat → ClassId} {dI : Nat → Nat → Nat} {a : Nat → Nat} {ac : Nat → ClassId} {n : Nat} {r : Int32 × (St × (St) × (St × (St × (St))) × (St) × (St))} (C : nd_C p l s m args c A (dC, dI) cX19_replay 6 RX19 ow_dm_X19_replay (dk_X19 ac)) (K : nd_Ki p l e (headSpec ow_dm_X19_replay ({ frames := 8, cells := 0, slots := 0, locals := 181 })).room s m args below meth c Q A (dC, dI) cX19_replay .int (St × (St) × (St × (St × (St))) × (St) × (St)) (dw_X19 a ac) r) : dj_X19_replay_0 p l e s m args below meth c Q A dC dI a ac (df_X19_replay_0 n) r := by
  obtain ⟨hlt, hx, hb, hml, hown, hts, hN, hA, hK⟩ := id C
  intro v0 s0 H locs ls h hP hD hS hl
  unfold df_X19_replay_0 at h
  refine lv_aload_n hx hb dX19_replay_0 rfl (lv_at hl 0 rfl) ?_
  refine lv_iload_n hx hb dX19_replay_1 rfl (lv_at hl 1 rfl) ?_
  refine lv_i2l hx hb dX19_replay_2 rfl ?_
  refine lv_lconst (v := 0) hx hb dX19_replay_3 (by decide) ?_
  refine lv_ldc2 hx hb hown (hts (.constantLong RX19 134 (3)) (List.mem_of_getElem? (i := 1) rfl)) dX19_replay_4 ?_
  obtain ⟨q1, s2, hq, h⟩ := nd_b2_e h
  have hPc : va_P (dC, dI) vwCl (dw_P a ac ()) H := nd_p0
  have hDc : va_D A (dw_P a ac ()) := nd_d0
  have hKc : va_K (dC, dI) vwCl (dk_P ac) s := nd_y0 hK
  have hFc : ∀ q, va_A (dw_P a ac ()) H.size q → A q := nd_r0 hS hA
  refine nd_cSi (As := [.long (v0.toInt64), .long 0, .long 3]) (rest := [.ref (a 0)]) (q := q1) (w' := dw_P a ac s2) ⟨hx, hb, hml, hown, hts⟩ (fun sz => dm_X19_in l hlt dC dI a ac n ((v0.toInt64)) (0) (3) () hq sz) (cwS 3 hts gi_dm_X19_replay_0 rfl rfl rfl (by decide +kernel) ⟨Nat.le_of_ble_eq_true rfl, Nat.le_of_ble_eq_true rfl⟩) hPc hDc hKc hS hA hN rfl hl.1 rfl (Nat.le_of_ble_eq_true rfl) dX19_replay_7 (fun H locs hP1 hD1 hk1 hS => ?_)
  have hP := nd_n0 hP hk1
  refine lv_if_ne (tgt := 17) hx hb dX19_replay_10 (by decide) (fun c4 => ?_) (fun c4 => ?_)
  · have h := nd_neg h c4
    refine lv_iconst (v := 0) hx hb dX19_replay_17 (by decide) ?_
    exact (db_X19_replay_18 C K) (v0) (0) s0 _ _ _ h hP hD hS (lv_sub hl [0, 1] rfl)
  · have h := nd_pos h c4
    refine lv_iconst (v := 1) hx hb dX19_replay_13 (by decide) ?_
    refine lv_goto (tgt := 18) hx hb dX19_replay_14 (by decide) ?_
    exact (db_X19_replay_18 C K) (v0) (1) s0 _ _ _ h hP hD hS (lv_sub hl [0, 1] rfl)
set_option maxHeartbeats 40000000 in
set_option maxRecDepth 100000 in
theorem dm_X19_replay (l : Launch) (hlt : l.stackTraces = false) (dC : Nat → ClassId) (dI : Nat → Nat → Nat) (a : Nat → Nat) (ac : Nat → ClassId) (n : Nat) (v0 : Int32) (s0 : St × (St) × (St × (St × (St))) × (St) × (St)) {r : Int32 × (St × (St) × (St × (St × (St))) × (St) × (St))} (h : df_X19_replay n v0 s0 = some r) (sz : Nat) : Met l yX19_replay ow_dm_X19_replay ({ frames := 8, cells := 0, slots := 0, locals := 181 }) (va_Pc [.ref (a 0), .int v0] (fun U => U.heap.size = sz ∧ va_P (dC, dI) vwCl (dw_X19 a ac s0) U.heap ∧ va_K (dC, dI) vwCl (dk_X19 ac) U ∧ va_D (fun _ => True) (dw_X19 a ac s0) ∧ nv_E dI (va_A (dw_X19 a ac s0) sz) U)) (va_Qi (fun x _ => x = r.1) (fun (_ : Unit) t => va_P (dC, dI) vwCl (dw_X19 a ac r.2) t.heap ∧ va_K (dC, dI) vwCl (dk_X19 ac) t ∧ va_D (va_A (dw_X19 a ac s0) sz) (dw_X19 a ac r.2)) (va_A (dw_X19 a ac s0) sz)) 0 0 (va_A (dw_X19 a ac s0) sz) := by
  refine Met.ofW (cc := cX19_replay) (maxL := 6) (ret := (some .int)) (by decide) rfl ?_
  intro p e s m args below meth c s₁ B hml hv
  obtain ⟨rfl, hsz, hP, hK, hD0, hN⟩ := hv
  have hx := B.exec
  have hb := B.bytes
  have hr := B.returns
  have hts := atoms_spec (ws := ow_dm_X19_replay) B.pre
  have hown : s.vm.findClass RX19 = some m.cls := findClass_of_methodNamed B.named
  have hlocks := B.notSynchronized
  subst hsz
  have hD := hD0.self (sz := s.heap.size)
  generalize hAe : va_A (dw_X19 a ac s0) s.heap.size = A at hD hN ⊢
  have hA : ∀ q : Nat, s.heap.size ≤ q → A q := fun q h => by rw [← hAe]; exact Or.inr h
  have hl := lv_entry ([.ref (a 0), .int v0]) (n := 6) (Nat.le_of_ble_eq_true rfl)
  rw [lg_entry_eq]
  generalize (lg_sl ([.ref (a 0), .int v0]) ++ List.replicate (6 - (lg_sl ([.ref (a 0), .int v0])).length) Slot.unset).toArray = ls at hl ⊢
  have hl : lv_has ls 6 [(0, .ref (a 0)), (1, .int v0)] := hl
  exact db_X19_replay_0 (dC := dC) (dI := dI) (a := a) (ac := ac) (n := n) (r := r) ⟨hlt, hx, hb, hml, hown, hts, hN, hA, hK⟩ (fun pc v τ H locs ls d z er hP hD hS => by subst er; exact W.zret (v := v) hx hb hr z (fun t ht hW => ⟨⟨v, (), rfl, rfl, by rw [ht]; exact hP, va_K.moved hW.alike hK, hD⟩, hS.F ht⟩) hS.2.2 d) v0 s0 _ _ _ h hP hD va_S.rf (lv_sub hl [0, 1] rfl)
def ow_dm_X19_isSaid : List Cond := Cond.code yX19_isSaid cX19_isSaid 4 (some .boolean) :: ([Cond.constantLong RX19 261 (1099511627776), Cond.methodLink RX19 126 yX19_in, Cond.static yX19_in, Cond.initialized RX19, Cond.constantLong RX19 255 (15), Cond.constantLong RX19 259 (31), Cond.constantLong RX19 257 (8)] ++ (ow_dm_X19_in ++ []))
theorem gd_dm_X19_isSaid : ∀ w ∈ ow_dm_X19_isSaid, (w.onTables && w.keeps) = true ∨ ∃ ty, w = Cond.arrayClass ty := List.forall_mem_cons.mpr ⟨good_of_word rfl, List.forall_mem_append.mpr ⟨fun w h => good_of_word (List.all_eq_true.mp (by decide +kernel) w h), List.forall_mem_append.mpr ⟨gd_dm_X19_in, fun _ h => nomatch h⟩⟩⟩
theorem gi_dm_X19_isSaid_0 : GoodIn ow_dm_X19_isSaid (wsS RX19 126 yX19_in ow_dm_X19_in) := goodIn_app (goodIn_of _ (by decide +kernel)) (fun w h => ⟨List.mem_cons_of_mem _ (List.mem_append_right _ (List.mem_append_left _ h)), gd_dm_X19_in w h⟩)
def dj_X19_isSaid_94 (p : Program) (l : Launch) (e : Env) (s : State) (m : MethodId) (args : Array Value) (below : List Frame) (meth : Method) (c : Code) (Q : State → Prop) (A : Nat → Prop) (dC : Nat → ClassId) (dI : Nat → Nat → Nat) (a : Nat → Nat) (ac : Nat → ClassId) (g : Int32 → (Unit) → Option (Int32 × (Unit))) (r : Int32 × (Unit)) : Prop := ∀ (y0 : Int32) (s0 : Unit) (H : Heap) (locs : List Loc) (ls : Array Slot), g y0 s0 = some r → va_P (dC, dI) vwCl (dw_P a ac s0) H → va_D A (dw_P a ac s0) → va_S A s.heap H locs → lv_has ls 4 [] → W p l e (headSpec ow_dm_X19_isSaid ({ frames := 1, cells := 0, slots := 0, locals := 25 })).room s m args below meth c H locs 0 0 Q (F0 m 94 ls [.int y0])
def dj_X19_isSaid_64 (p : Program) (l : Launch) (e : Env) (s : State) (m : MethodId) (args : Array Value) (below : List Frame) (meth : Method) (c : Code) (Q : State → Prop) (A : Nat → Prop) (dC : Nat → ClassId) (dI : Nat → Nat → Nat) (a : Nat → Nat) (ac : Nat → ClassId) (g : (Unit) → Option (Int32 × (Unit))) (r : Int32 × (Unit)) : Prop := ∀ (s0 : Unit) (H : Heap) (locs : List Loc) (ls : Array Slot), g s0 = some r → va_P (dC, dI) vwCl (dw_P a ac s0) H → va_D A (dw_P a ac s0) → va_S A s.heap H locs → lv_has ls 4 [] → W p l e (headSpec ow_dm_X19_isSaid ({ frames := 1, cells := 0, slots := 0, locals := 25 })).room s m args below meth c H locs 0 0 Q (F0 m 64 ls [])
def dj_X19_isSaid_0 (p : Program) (l : Launch) (e : Env) (s : State) (m : MethodId) (args : Array Value) (below : List Frame) (meth : Method) (c : Code) (Q : State → Prop) (A : Nat → Prop) (dC : Nat → ClassId) (dI : Nat → Nat → Nat) (a : Nat → Nat) (ac : Nat → ClassId) (g : Int32 → Int64 → Int32 → (Unit) → Option (Int32 × (Unit))) (r : Int32 × (Unit)) : Prop := ∀ (v0 : Int32) (v1 : Int64) (v2 : Int32) (s0 : Unit) (H : Heap) (locs : List Loc) (ls : Array Slot), g v0 v1 v2 s0 = some r → va_P (dC, dI) vwCl (dw_P a ac s0) H → va_D A (dw_P a ac s0) → va_S A s.heap H locs → lv_has ls 4 [(0, .int v0), (1, .long v1), (3, .int v2)] → W p l e (headSpec ow_dm_X19_isSaid ({ frames := 1, cells := 0, slots := 0, locals := 25 })).room s m args below meth c H locs 0 0 Q (F0 m 0 ls [])
set_option maxHeartbeats 40000000 in
set_option maxRecDepth 100000 in
theorem db_X19_isSaid_94 {p : Program} {l : Launch} {e : Env} {s : State} {m : MethodId} {args : Array Value} {below : List Frame} {meth : Method} {c : Code} {Q : State → Prop} {A : Nat → Prop} {dC : Nat → ClassId} {dI : Nat → Nat → Nat} {a : Nat → Nat} {ac : Nat → ClassId} {n : Nat} {r : Int32 × (Unit)} (C : nd_C p l s m args c A (dC, dI) cX19_isSaid 4 RX19 ow_dm_X19_isSaid (dk_P ac)) (K : nd_Ki p l e (headSpec ow_dm_X19_isSaid ({ frames := 1, cells := 0, slots := 0, locals := 25 })).room s m args below meth c Q A (dC, dI) cX19_isSaid .boolean (Unit) (dw_P a ac) r) : dj_X19_isSaid_94 p l e s m args below meth c Q A dC dI a ac (df_X19_isSaid_94 n) r := by
  obtain ⟨hlt, hx, hb, hml, hown, hts, hN, hA, hK⟩ := id C
  intro y0 s0 H locs ls h hP hD hS hl
  unfold df_X19_isSaid_94 at h
  obtain ⟨n6, h⟩ := nd_z_e ⟨_, rfl⟩ h
  exact K _ _ _ _ _ _ dX19_isSaid_94 n6 (Option.some.inj h).symm hP hD hS
set_option maxHeartbeats 40000000 in
set_option maxRecDepth 100000 in
theorem db_X19_isSaid_64 {p : Program} {l : Launch} {e : Env} {s : State} {m : MethodId} {args : Array Value} {below : List Frame} {meth : Method} {c : Code} {Q : State → Prop} {A : Nat → Prop} {dC : Nat → ClassId} {dI : Nat → Nat → Nat} {a : Nat → Nat} {ac : Nat → ClassId} {n : Nat} {r : Int32 × (Unit)} (C : nd_C p l s m args c A (dC, dI) cX19_isSaid 4 RX19 ow_dm_X19_isSaid (dk_P ac)) (K : nd_Ki p l e (headSpec ow_dm_X19_isSaid ({ frames := 1, cells := 0, slots := 0, locals := 25 })).room s m args below meth c Q A (dC, dI) cX19_isSaid .boolean (Unit) (dw_P a ac) r) : dj_X19_isSaid_64 p l e s m args below meth c Q A dC dI a ac (df_X19_isSaid_64 n) r := by
  obtain ⟨hlt, hx, hb, hml, hown, hts, hN, hA, hK⟩ := id C
  intro s0 H locs ls h hP hD hS hl
  unfold df_X19_isSaid_64 at h
  refine lv_iconst (v := 0) hx hb dX19_isSaid_64 (by decide) ?_
  refine lv_goto (tgt := 94) hx hb dX19_isSaid_65 (by decide) ?_
  exact (db_X19_isSaid_94 C K) (0) s0 _ _ _ h hP hD hS (lv_sub hl [] rfl)
set_option maxHeartbeats 40000000 in
set_option maxRecDepth 100000 in
theorem db_X19_isSaid_0 {p : Program} {l : Launch} {e : Env} {s : State} {m : MethodId} {args : Array Value} {below : List Frame} {meth : Method} {c : Code} {Q : State → Prop} {A : Nat → Prop} {dC : Nat → ClassId} {dI : Nat → Nat → Nat} {a : Nat → Nat} {ac : Nat → ClassId} {n : Nat} {r : Int32 × (Unit)} (C : nd_C p l s m args c A (dC, dI) cX19_isSaid 4 RX19 ow_dm_X19_isSaid (dk_P ac)) (K : nd_Ki p l e (headSpec ow_dm_X19_isSaid ({ frames := 1, cells := 0, slots := 0, locals := 25 })).room s m args below meth c Q A (dC, dI) cX19_isSaid .boolean (Unit) (dw_P a ac) r) : dj_X19_isSaid_0 p l e s m args below meth c Q A dC dI a ac (df_X19_isSaid_0 n) r := by
  obtain ⟨hlt, hx, hb, hml, hown, hts, hN, hA, hK⟩ := id C
  intro v0 v1 v2 s0 H locs ls h hP hD hS hl
  unfold df_X19_isSaid_0 at h
  refine lv_iload_n hx hb dX19_isSaid_0 rfl (lv_at hl 0 rfl) ?_
  refine lv_if_ne (tgt := 15) hx hb dX19_isSaid_1 (by decide) (fun c1 => ?_) (fun c1 => ?_)
  · have h := nd_neg h c1
    refine lv_iload_n hx hb dX19_isSaid_15 rfl (lv_at hl 0 rfl) ?_
    refine lv_iconst (v := 1) hx hb dX19_isSaid_16 (by decide) ?_
    refine lv_icmp_ne (tgt := 32) hx hb dX19_isSaid_17 (by decide) (fun c2 => ?_) (fun c2 => ?_)
    · have h := nd_neg h c2
      refine lv_iload_n hx hb dX19_isSaid_32 rfl (lv_at hl 0 rfl) ?_
      refine lv_iconst (v := 2) hx hb dX19_isSaid_33 (by decide) ?_
      refine lv_icmp_ne (tgt := 68) hx hb dX19_isSaid_34 (by decide) (fun c3 => ?_) (fun c3 => ?_)
      · have h := nd_neg h c3
        refine lv_iload_n hx hb dX19_isSaid_68 rfl (lv_at hl 0 rfl) ?_
        refine lv_iconst (v := 3) hx hb dX19_isSaid_69 (by decide) ?_
        refine lv_icmp_ne (tgt := 84) hx hb dX19_isSaid_70 (by decide) (fun c4 => ?_) (fun c4 => ?_)
        · have h := nd_neg h c4
          refine lv_iload_n hx hb dX19_isSaid_84 rfl (lv_at hl 0 rfl) ?_
          refine lv_iconst (v := 4) hx hb dX19_isSaid_85 (by decide) ?_
          refine lv_icmp_ne (tgt := 93) hx hb dX19_isSaid_86 (by decide) (fun c5 => ?_) (fun c5 => ?_)
          · have h := nd_neg h c5
            refine lv_iconst (v := 0) hx hb dX19_isSaid_93 (by decide) ?_
            exact (db_X19_isSaid_94 C K) (0) s0 _ _ _ h hP hD hS (lv_sub hl [] rfl)
          · have h := nd_pos h c5
            refine lv_iconst (v := 1) hx hb dX19_isSaid_89 (by decide) ?_
            refine lv_goto (tgt := 94) hx hb dX19_isSaid_90 (by decide) ?_
            exact (db_X19_isSaid_94 C K) (1) s0 _ _ _ h hP hD hS (lv_sub hl [] rfl)
        · have h := nd_pos h c4
          refine lv_lload_n hx hb dX19_isSaid_73 rfl (lv_at hl 1 rfl) ?_
          refine lv_lconst (v := 0) hx hb dX19_isSaid_74 (by decide) ?_
          refine lv_ldc2 hx hb hown (hts (.constantLong RX19 261 (1099511627776)) (List.mem_of_getElem? (i := 1) rfl)) dX19_isSaid_75 ?_
          obtain ⟨q7, s8, hq, h⟩ := nd_b2_e h
          have hPc : va_P (dC, dI) vwCl (dw_P a ac ()) H := nd_p0
          have hDc : va_D A (dw_P a ac ()) := nd_d0
          have hKc : va_K (dC, dI) vwCl (dk_P ac) s := nd_y0 hK
          have hFc : ∀ q, va_A (dw_P a ac ()) H.size q → A q := nd_r0 hS hA
          refine nd_cSi (As := [.long v1, .long 0, .long 1099511627776]) (rest := []) (q := q7) (w' := dw_P a ac s8) ⟨hx, hb, hml, hown, hts⟩ (fun sz => dm_X19_in l hlt dC dI a ac n (v1) (0) (1099511627776) () hq sz) (cwS 3 hts gi_dm_X19_isSaid_0 rfl rfl rfl (by decide +kernel) ⟨Nat.le_of_ble_eq_true rfl, Nat.le_of_ble_eq_true rfl⟩) hPc hDc hKc hS hA hN rfl hl.1 rfl (Nat.le_of_ble_eq_true rfl) dX19_isSaid_78 (fun H locs hP1 hD1 hk1 hS => ?_)
          have hP := nd_n0 hP hk1
          refine lv_goto (tgt := 94) hx hb dX19_isSaid_81 (by decide) ?_
          exact (db_X19_isSaid_94 C K) (q7) s0 _ _ _ h hP hD hS (lv_sub hl [] rfl)
      · have h := nd_pos h c3
        refine lv_lload_n hx hb dX19_isSaid_37 rfl (lv_at hl 1 rfl) ?_
        refine lv_lconst (v := 0) hx hb dX19_isSaid_38 (by decide) ?_
        refine lv_ldc2 hx hb hown (hts (.constantLong RX19 255 (15)) (List.mem_of_getElem? (i := 5) rfl)) dX19_isSaid_39 ?_
        obtain ⟨q10, s11, hq, h⟩ := nd_b2_e h
        have hPc : va_P (dC, dI) vwCl (dw_P a ac ()) H := nd_p0
        have hDc : va_D A (dw_P a ac ()) := nd_d0
        have hKc : va_K (dC, dI) vwCl (dk_P ac) s := nd_y0 hK
        have hFc : ∀ q, va_A (dw_P a ac ()) H.size q → A q := nd_r0 hS hA
        refine nd_cSi (As := [.long v1, .long 0, .long 15]) (rest := []) (q := q10) (w' := dw_P a ac s11) ⟨hx, hb, hml, hown, hts⟩ (fun sz => dm_X19_in l hlt dC dI a ac n (v1) (0) (15) () hq sz) (cwS 3 hts gi_dm_X19_isSaid_0 rfl rfl rfl (by decide +kernel) ⟨Nat.le_of_ble_eq_true rfl, Nat.le_of_ble_eq_true rfl⟩) hPc hDc hKc hS hA hN rfl hl.1 rfl (Nat.le_of_ble_eq_true rfl) dX19_isSaid_42 (fun H locs hP1 hD1 hk1 hS => ?_)
        have hP := nd_n0 hP hk1
        refine lv_if_eq (tgt := 64) hx hb dX19_isSaid_45 (by decide) (fun c13 => ?_) (fun c13 => ?_)
        · have h := nd_pos h c13
          exact (db_X19_isSaid_64 C K)  s0 _ _ _ h hP hD hS (lv_sub hl [] rfl)
        · have h := nd_neg h c13
          refine lv_iload_n hx hb dX19_isSaid_48 rfl (lv_at hl 2 rfl) ?_
          refine lv_i2l hx hb dX19_isSaid_49 rfl ?_
          refine lv_lconst (v := 1) hx hb dX19_isSaid_50 (by decide) ?_
          refine lv_ldc2 hx hb hown (hts (.constantLong RX19 259 (31)) (List.mem_of_getElem? (i := 6) rfl)) dX19_isSaid_51 ?_
          obtain ⟨q14, s15, hq, h⟩ := nd_b2_e h
          have hPc : va_P (dC, dI) vwCl (dw_P a ac ()) H := nd_p0
          have hDc : va_D A (dw_P a ac ()) := nd_d0
          have hKc : va_K (dC, dI) vwCl (dk_P ac) s := nd_y0 hK
          have hFc : ∀ q, va_A (dw_P a ac ()) H.size q → A q := nd_r0 hS hA
          refine nd_cSi (As := [.long (v2.toInt64), .long 1, .long 31]) (rest := []) (q := q14) (w' := dw_P a ac s15) ⟨hx, hb, hml, hown, hts⟩ (fun sz => dm_X19_in l hlt dC dI a ac n ((v2.toInt64)) (1) (31) () hq sz) (cwS 3 hts gi_dm_X19_isSaid_0 rfl rfl rfl (by decide +kernel) ⟨Nat.le_of_ble_eq_true rfl, Nat.le_of_ble_eq_true rfl⟩) hPc hDc hKc hS hA hN rfl hl.1 rfl (Nat.le_of_ble_eq_true rfl) dX19_isSaid_54 (fun H locs hP1 hD1 hk1 hS => ?_)
          have hP := nd_n0 hP hk1
          refine lv_if_eq (tgt := 64) hx hb dX19_isSaid_57 (by decide) (fun c17 => ?_) (fun c17 => ?_)
          · have h := nd_pos h c17
            exact (db_X19_isSaid_64 C K)  s0 _ _ _ h hP hD hS (lv_sub hl [] rfl)
          · have h := nd_neg h c17
            refine lv_iconst (v := 1) hx hb dX19_isSaid_60 (by decide) ?_
            refine lv_goto (tgt := 94) hx hb dX19_isSaid_61 (by decide) ?_
            exact (db_X19_isSaid_94 C K) (1) s0 _ _ _ h hP hD hS (lv_sub hl [] rfl)
    · have h := nd_pos h c2
      refine lv_iload_n hx hb dX19_isSaid_20 rfl (lv_at hl 2 rfl) ?_
      refine lv_i2l hx hb dX19_isSaid_21 rfl ?_
      refine lv_lconst (v := 1) hx hb dX19_isSaid_22 (by decide) ?_
      refine lv_ldc2 hx hb hown (hts (.constantLong RX19 257 (8)) (List.mem_of_getElem? (i := 7) rfl)) dX19_isSaid_23 ?_
      obtain ⟨q18, s19, hq, h⟩ := nd_b2_e h
      have hPc : va_P (dC, dI) vwCl (dw_P a ac ()) H := nd_p0
      have hDc : va_D A (dw_P a ac ()) := nd_d0
      have hKc : va_K (dC, dI) vwCl (dk_P ac) s := nd_y0 hK
      have hFc : ∀ q, va_A (dw_P a ac ()) H.size q → A q := nd_r0 hS hA
      refine nd_cSi (As := [.long (v2.toInt64), .long 1, .long 8]) (rest := []) (q := q18) (w' := dw_P a ac s19) ⟨hx, hb, hml, hown, hts⟩ (fun sz => dm_X19_in l hlt dC dI a ac n ((v2.toInt64)) (1) (8) () hq sz) (cwS 3 hts gi_dm_X19_isSaid_0 rfl rfl rfl (by decide +kernel) ⟨Nat.le_of_ble_eq_true rfl, Nat.le_of_ble_eq_true rfl⟩) hPc hDc hKc hS hA hN rfl hl.1 rfl (Nat.le_of_ble_eq_true rfl) dX19_isSaid_26 (fun H locs hP1 hD1 hk1 hS => ?_)
      have hP := nd_n0 hP hk1
      refine lv_goto (tgt := 94) hx hb dX19_isSaid_29 (by decide) ?_
      exact (db_X19_isSaid_94 C K) (q18) s0 _ _ _ h hP hD hS (lv_sub hl [] rfl)
  · have h := nd_pos h c1
    refine lv_lload_n hx hb dX19_isSaid_4 rfl (lv_at hl 1 rfl) ?_
    refine lv_lconst (v := 0) hx hb dX19_isSaid_5 (by decide) ?_
    refine lv_ldc2 hx hb hown (hts (.constantLong RX19 255 (15)) (List.mem_of_getElem? (i := 5) rfl)) dX19_isSaid_6 ?_
    obtain ⟨q21, s22, hq, h⟩ := nd_b2_e h
    have hPc : va_P (dC, dI) vwCl (dw_P a ac ()) H := nd_p0
    have hDc : va_D A (dw_P a ac ()) := nd_d0
    have hKc : va_K (dC, dI) vwCl (dk_P ac) s := nd_y0 hK
    have hFc : ∀ q, va_A (dw_P a ac ()) H.size q → A q := nd_r0 hS hA
    refine nd_cSi (As := [.long v1, .long 0, .long 15]) (rest := []) (q := q21) (w' := dw_P a ac s22) ⟨hx, hb, hml, hown, hts⟩ (fun sz => dm_X19_in l hlt dC dI a ac n (v1) (0) (15) () hq sz) (cwS 3 hts gi_dm_X19_isSaid_0 rfl rfl rfl (by decide +kernel) ⟨Nat.le_of_ble_eq_true rfl, Nat.le_of_ble_eq_true rfl⟩) hPc hDc hKc hS hA hN rfl hl.1 rfl (Nat.le_of_ble_eq_true rfl) dX19_isSaid_9 (fun H locs hP1 hD1 hk1 hS => ?_)
    have hP := nd_n0 hP hk1
    refine lv_goto (tgt := 94) hx hb dX19_isSaid_12 (by decide) ?_
    exact (db_X19_isSaid_94 C K) (q21) s0 _ _ _ h hP hD hS (lv_sub hl [] rfl)
set_option maxHeartbeats 40000000 in
set_option maxRecDepth 100000 in
theorem dm_X19_isSaid (l : Launch) (hlt : l.stackTraces = false) (dC : Nat → ClassId) (dI : Nat → Nat → Nat) (a : Nat → Nat) (ac : Nat → ClassId) (n : Nat) (v0 : Int32) (v1 : Int64) (v2 : Int32) (s0 : Unit) {r : Int32 × (Unit)} (h : df_X19_isSaid n v0 v1 v2 s0 = some r) (sz : Nat) : Met l yX19_isSaid ow_dm_X19_isSaid ({ frames := 1, cells := 0, slots := 0, locals := 25 }) (va_Pc [.int v0, .long v1, .int v2] (fun U => U.heap.size = sz ∧ va_P (dC, dI) vwCl (dw_P a ac s0) U.heap ∧ va_K (dC, dI) vwCl (dk_P ac) U ∧ va_D (fun _ => True) (dw_P a ac s0) ∧ nv_E dI (va_A (dw_P a ac s0) sz) U)) (va_Qi (fun x _ => x = r.1) (fun (_ : Unit) t => va_P (dC, dI) vwCl (dw_P a ac r.2) t.heap ∧ va_K (dC, dI) vwCl (dk_P ac) t ∧ va_D (va_A (dw_P a ac s0) sz) (dw_P a ac r.2)) (va_A (dw_P a ac s0) sz)) 0 0 (va_A (dw_P a ac s0) sz) := by
  refine Met.ofW (cc := cX19_isSaid) (maxL := 4) (ret := (some .boolean)) (by decide) rfl ?_
  intro p e s m args below meth c s₁ B hml hv
  obtain ⟨rfl, hsz, hP, hK, hD0, hN⟩ := hv
  have hx := B.exec
  have hb := B.bytes
  have hr := B.returns
  have hts := atoms_spec (ws := ow_dm_X19_isSaid) B.pre
  have hown : s.vm.findClass RX19 = some m.cls := findClass_of_methodNamed B.named
  have hlocks := B.notSynchronized
  subst hsz
  have hD := hD0.self (sz := s.heap.size)
  generalize hAe : va_A (dw_P a ac s0) s.heap.size = A at hD hN ⊢
  have hA : ∀ q : Nat, s.heap.size ≤ q → A q := fun q h => by rw [← hAe]; exact Or.inr h
  have hl := lv_entry ([.int v0, .long v1, .int v2]) (n := 4) (Nat.le_of_ble_eq_true rfl)
  rw [lg_entry_eq]
  generalize (lg_sl ([.int v0, .long v1, .int v2]) ++ List.replicate (4 - (lg_sl ([.int v0, .long v1, .int v2])).length) Slot.unset).toArray = ls at hl ⊢
  have hl : lv_has ls 4 [(0, .int v0), (1, .long v1), (3, .int v2)] := hl
  exact db_X19_isSaid_0 (dC := dC) (dI := dI) (a := a) (ac := ac) (n := n) (r := r) ⟨hlt, hx, hb, hml, hown, hts, hN, hA, hK⟩ (fun pc v τ H locs ls d z er hP hD hS => by subst er; exact W.zret (v := v) hx hb hr z (fun t ht hW => ⟨⟨v, (), rfl, rfl, by rw [ht]; exact hP, va_K.moved hW.alike hK, hD⟩, hS.F ht⟩) hS.2.2 d) v0 v1 v2 s0 _ _ _ h hP hD va_S.rf (lv_sub hl [0, 1, 2] rfl)
def ow_dm_X19_low : List Cond := Cond.code yX19_low cX19_low 3 (some .long) :: ([] ++ [])
theorem gd_dm_X19_low : ∀ w ∈ ow_dm_X19_low, (w.onTables && w.keeps) = true ∨ ∃ ty, w = Cond.arrayClass ty := List.forall_mem_cons.mpr ⟨good_of_word rfl, List.forall_mem_append.mpr ⟨fun w h => good_of_word (List.all_eq_true.mp (by decide +kernel) w h), fun _ h => nomatch h⟩⟩
def dj_X19_low_20 (p : Program) (l : Launch) (e : Env) (s : State) (m : MethodId) (args : Array Value) (below : List Frame) (meth : Method) (c : Code) (Q : State → Prop) (A : Nat → Prop) (dC : Nat → ClassId) (dI : Nat → Nat → Nat) (a : Nat → Nat) (ac : Nat → ClassId) (g : Int64 → (Unit) → Option (Int64 × (Unit))) (r : Int64 × (Unit)) : Prop := ∀ (y0 : Int64) (s0 : Unit) (H : Heap) (locs : List Loc) (ls : Array Slot), g y0 s0 = some r → va_P (dC, dI) vwCl (dw_P a ac s0) H → va_D A (dw_P a ac s0) → va_S A s.heap H locs → lv_has ls 3 [] → W p l e (headSpec ow_dm_X19_low ({ frames := 0, cells := 0, slots := 0, locals := 0 })).room s m args below meth c H locs 0 0 Q (F0 m 20 ls [.long y0])
def dj_X19_low_0 (p : Program) (l : Launch) (e : Env) (s : State) (m : MethodId) (args : Array Value) (below : List Frame) (meth : Method) (c : Code) (Q : State → Prop) (A : Nat → Prop) (dC : Nat → ClassId) (dI : Nat → Nat → Nat) (a : Nat → Nat) (ac : Nat → ClassId) (g : Int64 → Int32 → (Unit) → Option (Int64 × (Unit))) (r : Int64 × (Unit)) : Prop := ∀ (v0 : Int64) (v1 : Int32) (s0 : Unit) (H : Heap) (locs : List Loc) (ls : Array Slot), g v0 v1 s0 = some r → va_P (dC, dI) vwCl (dw_P a ac s0) H → va_D A (dw_P a ac s0) → va_S A s.heap H locs → lv_has ls 3 [(0, .long v0), (2, .int v1)] → W p l e (headSpec ow_dm_X19_low ({ frames := 0, cells := 0, slots := 0, locals := 0 })).room s m args below meth c H locs 0 0 Q (F0 m 0 ls [])
set_option maxHeartbeats 40000000 in
set_option maxRecDepth 100000 in
theorem db_X19_low_20 {p : Program} {l : Launch} {e : Env} {s : State} {m : MethodId} {args : Array Value} {below : List Frame} {meth : Method} {c : Code} {Q : State → Prop} {A : Nat → Prop} {dC : Nat → ClassId} {dI : Nat → Nat → Nat} {a : Nat → Nat} {ac : Nat → ClassId} {n : Nat} {r : Int64 × (Unit)} (C : nd_C p l s m args c A (dC, dI) cX19_low 3 RX19 ow_dm_X19_low (dk_P ac)) (K : nd_Kl p l e (headSpec ow_dm_X19_low ({ frames := 0, cells := 0, slots := 0, locals := 0 })).room s m args below meth c Q A (dC, dI) cX19_low (Unit) (dw_P a ac) r) : dj_X19_low_20 p l e s m args below meth c Q A dC dI a ac (df_X19_low_20 n) r := by
  obtain ⟨hlt, hx, hb, hml, hown, hts, hN, hA, hK⟩ := id C
  intro y0 s0 H locs ls h hP hD hS hl
  unfold df_X19_low_20 at h
  exact K _ _ _ _ _ _ dX19_low_20 (Option.some.inj h).symm hP hD hS
set_option maxHeartbeats 40000000 in
set_option maxRecDepth 100000 in
theorem db_X19_low_0 {p : Program} {l : Launch} {e : Env} {s : State} {m : MethodId} {args : Array Value} {below : List Frame} {meth : Method} {c : Code} {Q : State → Prop} {A : Nat → Prop} {dC : Nat → ClassId} {dI : Nat → Nat → Nat} {a : Nat → Nat} {ac : Nat → ClassId} {n : Nat} {r : Int64 × (Unit)} (C : nd_C p l s m args c A (dC, dI) cX19_low 3 RX19 ow_dm_X19_low (dk_P ac)) (K : nd_Kl p l e (headSpec ow_dm_X19_low ({ frames := 0, cells := 0, slots := 0, locals := 0 })).room s m args below meth c Q A (dC, dI) cX19_low (Unit) (dw_P a ac) r) : dj_X19_low_0 p l e s m args below meth c Q A dC dI a ac (df_X19_low_0 n) r := by
  obtain ⟨hlt, hx, hb, hml, hown, hts, hN, hA, hK⟩ := id C
  intro v0 v1 s0 H locs ls h hP hD hS hl
  unfold df_X19_low_0 at h
  refine lv_iload_n hx hb dX19_low_0 rfl (lv_at hl 1 rfl) ?_
  refine lv_bipush (v := 7) hx hb dX19_low_1 (by decide) ?_
  refine lv_icmp_le (tgt := 10) hx hb dX19_low_3 (by decide) (fun c1 => ?_) (fun c1 => ?_)
  · have h := nd_pos h c1
    refine lv_lload_n hx hb dX19_low_10 rfl (lv_at hl 0 rfl) ?_
    refine lv_lconst (v := 1) hx hb dX19_low_11 (by decide) ?_
    refine lv_bipush (v := 8) hx hb dX19_low_12 (by decide) ?_
    refine lv_iload_n hx hb dX19_low_14 rfl (lv_at hl 1 rfl) ?_
    refine lv_imul hx hb dX19_low_15 ?_
    refine lv_lshl hx hb dX19_low_16 rfl ?_
    refine lv_lconst (v := 1) hx hb dX19_low_17 (by decide) ?_
    refine lv_lsub hx hb dX19_low_18 ?_
    refine lv_land hx hb dX19_low_19 ?_
    exact (db_X19_low_20 C K) (((v0 : Int64) &&& ((((1 : Int64) <<< (((8 * v1) : Int32).toInt64 &&& 63)) : Int64) - 1))) s0 _ _ _ h hP hD hS (lv_sub hl [] rfl)
  · have h := nd_neg h c1
    refine lv_lload_n hx hb dX19_low_6 rfl (lv_at hl 0 rfl) ?_
    refine lv_goto (tgt := 20) hx hb dX19_low_7 (by decide) ?_
    exact (db_X19_low_20 C K) (v0) s0 _ _ _ h hP hD hS (lv_sub hl [] rfl)
set_option maxHeartbeats 40000000 in
set_option maxRecDepth 100000 in
theorem dm_X19_low (l : Launch) (hlt : l.stackTraces = false) (dC : Nat → ClassId) (dI : Nat → Nat → Nat) (a : Nat → Nat) (ac : Nat → ClassId) (n : Nat) (v0 : Int64) (v1 : Int32) (s0 : Unit) {r : Int64 × (Unit)} (h : df_X19_low n v0 v1 s0 = some r) (sz : Nat) : Met l yX19_low ow_dm_X19_low ({ frames := 0, cells := 0, slots := 0, locals := 0 }) (va_Pc [.long v0, .int v1] (fun U => U.heap.size = sz ∧ va_P (dC, dI) vwCl (dw_P a ac s0) U.heap ∧ va_K (dC, dI) vwCl (dk_P ac) U ∧ va_D (fun _ => True) (dw_P a ac s0) ∧ nv_E dI (va_A (dw_P a ac s0) sz) U)) (va_Ql (fun x _ => x = r.1) (fun (_ : Unit) t => va_P (dC, dI) vwCl (dw_P a ac r.2) t.heap ∧ va_K (dC, dI) vwCl (dk_P ac) t ∧ va_D (va_A (dw_P a ac s0) sz) (dw_P a ac r.2)) (va_A (dw_P a ac s0) sz)) 0 0 (va_A (dw_P a ac s0) sz) := by
  refine Met.ofW (cc := cX19_low) (maxL := 3) (ret := (some .long)) (by decide) rfl ?_
  intro p e s m args below meth c s₁ B hml hv
  obtain ⟨rfl, hsz, hP, hK, hD0, hN⟩ := hv
  have hx := B.exec
  have hb := B.bytes
  have hr := B.returns
  have hts := atoms_spec (ws := ow_dm_X19_low) B.pre
  have hown : s.vm.findClass RX19 = some m.cls := findClass_of_methodNamed B.named
  have hlocks := B.notSynchronized
  subst hsz
  have hD := hD0.self (sz := s.heap.size)
  generalize hAe : va_A (dw_P a ac s0) s.heap.size = A at hD hN ⊢
  have hA : ∀ q : Nat, s.heap.size ≤ q → A q := fun q h => by rw [← hAe]; exact Or.inr h
  have hl := lv_entry ([.long v0, .int v1]) (n := 3) (Nat.le_of_ble_eq_true rfl)
  rw [lg_entry_eq]
  generalize (lg_sl ([.long v0, .int v1]) ++ List.replicate (3 - (lg_sl ([.long v0, .int v1])).length) Slot.unset).toArray = ls at hl ⊢
  have hl : lv_has ls 3 [(0, .long v0), (2, .int v1)] := hl
  exact db_X19_low_0 (dC := dC) (dI := dI) (a := a) (ac := ac) (n := n) (r := r) ⟨hlt, hx, hb, hml, hown, hts, hN, hA, hK⟩ (fun pc v τ H locs ls d er hP hD hS => by subst er; exact W.lret (v := v) hx hb hr (fun t ht hW => ⟨⟨v, (), rfl, rfl, by rw [ht]; exact hP, va_K.moved hW.alike hK, hD⟩, hS.F ht⟩) hS.2.2 d) v0 v1 s0 _ _ _ h hP hD va_S.rf (lv_sub hl [0, 1] rfl)
def ow_dm_X19_outside : List Cond := Cond.code yX19_outside cX19_outside 6 (some .int) :: ([Cond.methodLink RX19 263 yX19_isSaid, Cond.static yX19_isSaid, Cond.initialized RX19, Cond.methodLink RX19 136 yX19_fails, Cond.instanceMethod yX19_fails, Cond.selects RX19 yX19_fails yX19_fails, Cond.fieldLink RX19 234 "TimeMachineModel" "now" "I", Cond.fieldLink RX19 210 "TimeMachineModel" "end" "I", Cond.fieldLink RX19 212 "TimeMachineModel" "scheduled" "I", Cond.fieldLink RX19 192 "TimeMachineModel" "events" "I", Cond.methodLink RX19 266 yX19_come, Cond.instanceMethod yX19_come, Cond.selects RX19 yX19_come yX19_come, Cond.methodLink RX19 215 yX19_record, Cond.instanceMethod yX19_record, Cond.selects RX19 yX19_record yX19_record, Cond.methodLink RX19 269 yX19_low, Cond.static yX19_low, Cond.fieldLink RX19 231 "TimeMachineModel" "booted" "Z"] ++ (u_ws RX19 TX19 36 ++ (ow_dm_X19_isSaid ++ (ow_dm_X19_fails ++ (ow_dm_X19_come ++ (ow_dm_X19_record ++ (ow_dm_X19_low ++ [])))))))
theorem gd_dm_X19_outside : ∀ w ∈ ow_dm_X19_outside, (w.onTables && w.keeps) = true ∨ ∃ ty, w = Cond.arrayClass ty := List.forall_mem_cons.mpr ⟨good_of_word rfl, List.forall_mem_append.mpr ⟨fun w h => good_of_word (List.all_eq_true.mp (by decide +kernel) w h), List.forall_mem_append.mpr ⟨gu_X19, List.forall_mem_append.mpr ⟨gd_dm_X19_isSaid, List.forall_mem_append.mpr ⟨gd_dm_X19_fails, List.forall_mem_append.mpr ⟨gd_dm_X19_come, List.forall_mem_append.mpr ⟨gd_dm_X19_record, List.forall_mem_append.mpr ⟨gd_dm_X19_low, fun _ h => nomatch h⟩⟩⟩⟩⟩⟩⟩⟩
theorem hi_dm_X19_outside_X19 : ∀ w ∈ u_ws RX19 TX19 36, w ∈ ow_dm_X19_outside := fun w h => List.mem_cons_of_mem _ (List.mem_append_right _ (List.mem_append_left _ h))
theorem gi_dm_X19_outside_0 : GoodIn ow_dm_X19_outside (wsS RX19 263 yX19_isSaid ow_dm_X19_isSaid) := goodIn_app (goodIn_of _ (by decide +kernel)) (fun w h => ⟨List.mem_cons_of_mem _ (List.mem_append_right _ (List.mem_append_right _ (List.mem_append_left _ h))), gd_dm_X19_isSaid w h⟩)
theorem gi_dm_X19_outside_1 : GoodIn ow_dm_X19_outside (wsV RX19 136 RX19 yX19_fails ow_dm_X19_fails) := goodIn_app (goodIn_of _ (by decide +kernel)) (fun w h => ⟨List.mem_cons_of_mem _ (List.mem_append_right _ (List.mem_append_right _ (List.mem_append_right _ (List.mem_append_left _ h)))), gd_dm_X19_fails w h⟩)
theorem gi_dm_X19_outside_2 : GoodIn ow_dm_X19_outside (wsV RX19 266 RX19 yX19_come ow_dm_X19_come) := goodIn_app (goodIn_of _ (by decide +kernel)) (fun w h => ⟨List.mem_cons_of_mem _ (List.mem_append_right _ (List.mem_append_right _ (List.mem_append_right _ (List.mem_append_right _ (List.mem_append_left _ h))))), gd_dm_X19_come w h⟩)
theorem gi_dm_X19_outside_3 : GoodIn ow_dm_X19_outside (wsV RX19 215 RX19 yX19_record ow_dm_X19_record) := goodIn_app (goodIn_of _ (by decide +kernel)) (fun w h => ⟨List.mem_cons_of_mem _ (List.mem_append_right _ (List.mem_append_right _ (List.mem_append_right _ (List.mem_append_right _ (List.mem_append_right _ (List.mem_append_left _ h)))))), gd_dm_X19_record w h⟩)
theorem gi_dm_X19_outside_4 : GoodIn ow_dm_X19_outside (wsS RX19 269 yX19_low ow_dm_X19_low) := goodIn_app (goodIn_of _ (by decide +kernel)) (fun w h => ⟨List.mem_cons_of_mem _ (List.mem_append_right _ (List.mem_append_right _ (List.mem_append_right _ (List.mem_append_right _ (List.mem_append_right _ (List.mem_append_right _ (List.mem_append_left _ h))))))), gd_dm_X19_low w h⟩)
def dj_X19_outside_63 (p : Program) (l : Launch) (e : Env) (s : State) (m : MethodId) (args : Array Value) (below : List Frame) (meth : Method) (c : Code) (Q : State → Prop) (A : Nat → Prop) (dC : Nat → ClassId) (dI : Nat → Nat → Nat) (a : Nat → Nat) (ac : Nat → ClassId) (g : (St × (St) × (St × (St × (St))) × (St) × (St)) → Option (Int32 × (St × (St) × (St × (St × (St))) × (St) × (St)))) (r : Int32 × (St × (St) × (St × (St × (St))) × (St) × (St))) : Prop := ∀ (s0 : St × (St) × (St × (St × (St))) × (St) × (St)) (H : Heap) (locs : List Loc) (ls : Array Slot), g s0 = some r → va_P (dC, dI) vwCl (dw_X19 a ac s0) H → va_D A (dw_X19 a ac s0) → va_S A s.heap H locs → lv_has ls 6 [] → W p l e (headSpec ow_dm_X19_outside ({ frames := 10, cells := 0, slots := 0, locals := 225 })).room s m args below meth c H locs 0 0 Q (F0 m 63 ls [])
def dj_X19_outside_142 (p : Program) (l : Launch) (e : Env) (s : State) (m : MethodId) (args : Array Value) (below : List Frame) (meth : Method) (c : Code) (Q : State → Prop) (A : Nat → Prop) (dC : Nat → ClassId) (dI : Nat → Nat → Nat) (a : Nat → Nat) (ac : Nat → ClassId) (g : Int32 → (St × (St) × (St × (St × (St))) × (St) × (St)) → Option (Int32 × (St × (St) × (St × (St × (St))) × (St) × (St)))) (r : Int32 × (St × (St) × (St × (St × (St))) × (St) × (St))) : Prop := ∀ (y0 : Int32) (s0 : St × (St) × (St × (St × (St))) × (St) × (St)) (H : Heap) (locs : List Loc) (ls : Array Slot), g y0 s0 = some r → va_P (dC, dI) vwCl (dw_X19 a ac s0) H → va_D A (dw_X19 a ac s0) → va_S A s.heap H locs → lv_has ls 6 [] → W p l e (headSpec ow_dm_X19_outside ({ frames := 10, cells := 0, slots := 0, locals := 225 })).room s m args below meth c H locs 0 0 Q (F0 m 142 ls [.int y0])
def dj_X19_outside_131 (p : Program) (l : Launch) (e : Env) (s : State) (m : MethodId) (args : Array Value) (below : List Frame) (meth : Method) (c : Code) (Q : State → Prop) (A : Nat → Prop) (dC : Nat → ClassId) (dI : Nat → Nat → Nat) (a : Nat → Nat) (ac : Nat → ClassId) (g : Int32 → Int64 → Int32 → (St × (St) × (St × (St × (St))) × (St) × (St)) → Option (Int32 × (St × (St) × (St × (St × (St))) × (St) × (St)))) (r : Int32 × (St × (St) × (St × (St × (St))) × (St) × (St))) : Prop := ∀ (y1 : Int32) (y2 : Int64) (y3 : Int32) (s0 : St × (St) × (St × (St × (St))) × (St) × (St)) (H : Heap) (locs : List Loc) (ls : Array Slot), g y1 y2 y3 s0 = some r → va_P (dC, dI) vwCl (dw_X19 a ac s0) H → va_D A (dw_X19 a ac s0) → va_S A s.heap H locs → lv_has ls 6 [] → W p l e (headSpec ow_dm_X19_outside ({ frames := 10, cells := 0, slots := 0, locals := 225 })).room s m args below meth c H locs 0 0 Q (F0 m 131 ls [.int y3, .long y2, .int y1, .ref (a 0)])
def dj_X19_outside_125 (p : Program) (l : Launch) (e : Env) (s : State) (m : MethodId) (args : Array Value) (below : List Frame) (meth : Method) (c : Code) (Q : State → Prop) (A : Nat → Prop) (dC : Nat → ClassId) (dI : Nat → Nat → Nat) (a : Nat → Nat) (ac : Nat → ClassId) (g : Int32 → Int32 → Int64 → (St × (St) × (St × (St × (St))) × (St) × (St)) → Option (Int32 × (St × (St) × (St × (St × (St))) × (St) × (St)))) (r : Int32 × (St × (St) × (St × (St × (St))) × (St) × (St))) : Prop := ∀ (x4 : Int32) (y1 : Int32) (y2 : Int64) (s0 : St × (St) × (St × (St × (St))) × (St) × (St)) (H : Heap) (locs : List Loc) (ls : Array Slot), g x4 y1 y2 s0 = some r → va_P (dC, dI) vwCl (dw_X19 a ac s0) H → va_D A (dw_X19 a ac s0) → va_S A s.heap H locs → lv_has ls 6 [(4, .int x4)] → W p l e (headSpec ow_dm_X19_outside ({ frames := 10, cells := 0, slots := 0, locals := 225 })).room s m args below meth c H locs 0 0 Q (F0 m 125 ls [.long y2, .int y1, .ref (a 0)])
def dj_X19_outside_115 (p : Program) (l : Launch) (e : Env) (s : State) (m : MethodId) (args : Array Value) (below : List Frame) (meth : Method) (c : Code) (Q : State → Prop) (A : Nat → Prop) (dC : Nat → ClassId) (dI : Nat → Nat → Nat) (a : Nat → Nat) (ac : Nat → ClassId) (g : Int32 → Int32 → Int32 → Int64 → (St × (St) × (St × (St × (St))) × (St) × (St)) → Option (Int32 × (St × (St) × (St × (St × (St))) × (St) × (St)))) (r : Int32 × (St × (St) × (St × (St × (St))) × (St) × (St))) : Prop := ∀ (x1 : Int32) (x4 : Int32) (y1 : Int32) (y2 : Int64) (s0 : St × (St) × (St × (St × (St))) × (St) × (St)) (H : Heap) (locs : List Loc) (ls : Array Slot), g x1 x4 y1 y2 s0 = some r → va_P (dC, dI) vwCl (dw_X19 a ac s0) H → va_D A (dw_X19 a ac s0) → va_S A s.heap H locs → lv_has ls 6 [(1, .int x1), (4, .int x4)] → W p l e (headSpec ow_dm_X19_outside ({ frames := 10, cells := 0, slots := 0, locals := 225 })).room s m args below meth c H locs 0 0 Q (F0 m 115 ls [.long y2, .int y1, .ref (a 0)])
def dj_X19_outside_37 (p : Program) (l : Launch) (e : Env) (s : State) (m : MethodId) (args : Array Value) (below : List Frame) (meth : Method) (c : Code) (Q : State → Prop) (A : Nat → Prop) (dC : Nat → ClassId) (dI : Nat → Nat → Nat) (a : Nat → Nat) (ac : Nat → ClassId) (g : Int32 → Int64 → Int32 → Int32 → Int32 → (St × (St) × (St × (St × (St))) × (St) × (St)) → Option (Int32 × (St × (St) × (St × (St × (St))) × (St) × (St)))) (r : Int32 × (St × (St) × (St × (St × (St))) × (St) × (St))) : Prop := ∀ (x1 : Int32) (x2 : Int64) (x4 : Int32) (y1 : Int32) (y2 : Int32) (s0 : St × (St) × (St × (St × (St))) × (St) × (St)) (H : Heap) (locs : List Loc) (ls : Array Slot), g x1 x2 x4 y1 y2 s0 = some r → va_P (dC, dI) vwCl (dw_X19 a ac s0) H → va_D A (dw_X19 a ac s0) → va_S A s.heap H locs → lv_has ls 6 [(0, .ref (a 0)), (1, .int x1), (2, .long x2), (4, .int x4)] → W p l e (headSpec ow_dm_X19_outside ({ frames := 10, cells := 0, slots := 0, locals := 225 })).room s m args below meth c H locs 0 0 Q (F0 m 37 ls [.int y2, .int y1, .ref (a 0)])
def dj_X19_outside_36 (p : Program) (l : Launch) (e : Env) (s : State) (m : MethodId) (args : Array Value) (below : List Frame) (meth : Method) (c : Code) (Q : State → Prop) (A : Nat → Prop) (dC : Nat → ClassId) (dI : Nat → Nat → Nat) (a : Nat → Nat) (ac : Nat → ClassId) (g : Int32 → Int64 → Int32 → Int32 → (St × (St) × (St × (St × (St))) × (St) × (St)) → Option (Int32 × (St × (St) × (St × (St × (St))) × (St) × (St)))) (r : Int32 × (St × (St) × (St × (St × (St))) × (St) × (St))) : Prop := ∀ (x1 : Int32) (x2 : Int64) (x4 : Int32) (y1 : Int32) (s0 : St × (St) × (St × (St × (St))) × (St) × (St)) (H : Heap) (locs : List Loc) (ls : Array Slot), g x1 x2 x4 y1 s0 = some r → va_P (dC, dI) vwCl (dw_X19 a ac s0) H → va_D A (dw_X19 a ac s0) → va_S A s.heap H locs → lv_has ls 6 [(0, .ref (a 0)), (1, .int x1), (2, .long x2), (4, .int x4)] → W p l e (headSpec ow_dm_X19_outside ({ frames := 10, cells := 0, slots := 0, locals := 225 })).room s m args below meth c H locs 0 0 Q (F0 m 36 ls [.int y1, .ref (a 0)])
def dj_X19_outside_20 (p : Program) (l : Launch) (e : Env) (s : State) (m : MethodId) (args : Array Value) (below : List Frame) (meth : Method) (c : Code) (Q : State → Prop) (A : Nat → Prop) (dC : Nat → ClassId) (dI : Nat → Nat → Nat) (a : Nat → Nat) (ac : Nat → ClassId) (g : Int32 → Int64 → Int32 → Int32 → Int32 → (St × (St) × (St × (St × (St))) × (St) × (St)) → Option (Int32 × (St × (St) × (St × (St × (St))) × (St) × (St)))) (r : Int32 × (St × (St) × (St × (St × (St))) × (St) × (St))) : Prop := ∀ (x1 : Int32) (x2 : Int64) (x4 : Int32) (x5 : Int32) (y1 : Int32) (s0 : St × (St) × (St × (St × (St))) × (St) × (St)) (H : Heap) (locs : List Loc) (ls : Array Slot), g x1 x2 x4 x5 y1 s0 = some r → va_P (dC, dI) vwCl (dw_X19 a ac s0) H → va_D A (dw_X19 a ac s0) → va_S A s.heap H locs → lv_has ls 6 [(0, .ref (a 0)), (1, .int x1), (2, .long x2), (4, .int x4), (5, .int x5)] → W p l e (headSpec ow_dm_X19_outside ({ frames := 10, cells := 0, slots := 0, locals := 225 })).room s m args below meth c H locs 0 0 Q (F0 m 20 ls [.int y1, .ref (a 0)])
def dj_X19_outside_0 (p : Program) (l : Launch) (e : Env) (s : State) (m : MethodId) (args : Array Value) (below : List Frame) (meth : Method) (c : Code) (Q : State → Prop) (A : Nat → Prop) (dC : Nat → ClassId) (dI : Nat → Nat → Nat) (a : Nat → Nat) (ac : Nat → ClassId) (g : Int32 → Int64 → Int32 → (St × (St) × (St × (St × (St))) × (St) × (St)) → Option (Int32 × (St × (St) × (St × (St × (St))) × (St) × (St)))) (r : Int32 × (St × (St) × (St × (St × (St))) × (St) × (St))) : Prop := ∀ (v0 : Int32) (v1 : Int64) (v2 : Int32) (s0 : St × (St) × (St × (St × (St))) × (St) × (St)) (H : Heap) (locs : List Loc) (ls : Array Slot), g v0 v1 v2 s0 = some r → va_P (dC, dI) vwCl (dw_X19 a ac s0) H → va_D A (dw_X19 a ac s0) → va_S A s.heap H locs → lv_has ls 6 [(0, .ref (a 0)), (1, .int v0), (2, .long v1), (4, .int v2)] → W p l e (headSpec ow_dm_X19_outside ({ frames := 10, cells := 0, slots := 0, locals := 225 })).room s m args below meth c H locs 0 0 Q (F0 m 0 ls [])
set_option maxHeartbeats 40000000 in
set_option maxRecDepth 100000 in
theorem db_X19_outside_63 {p : Program} {l : Launch} {e : Env} {s : State} {m : MethodId} {args : Array Value} {below : List Frame} {meth : Method} {c : Code} {Q : State → Prop} {A : Nat → Prop} {dC : Nat → ClassId} {dI : Nat → Nat → Nat} {a : Nat → Nat} {ac : Nat → ClassId} {n : Nat} {r : Int32 × (St × (St) × (St × (St × (St))) × (St) × (St))} (C : nd_C p l s m args c A (dC, dI) cX19_outside 6 RX19 ow_dm_X19_outside (dk_X19 ac)) (K : nd_Ki p l e (headSpec ow_dm_X19_outside ({ frames := 10, cells := 0, slots := 0, locals := 225 })).room s m args below meth c Q A (dC, dI) cX19_outside .int (St × (St) × (St × (St × (St))) × (St) × (St)) (dw_X19 a ac) r) : dj_X19_outside_63 p l e s m args below meth c Q A dC dI a ac (df_X19_outside_63 n) r := by
  obtain ⟨hlt, hx, hb, hml, hown, hts, hN, hA, hK⟩ := id C
  intro s0 H locs ls h hP hD hS hl
  unfold df_X19_outside_63 at h
  refine lv_iconst (v := 2) hx hb dX19_outside_63 (by decide) ?_
  exact K _ _ _ _ _ _ dX19_outside_64 rfl (Option.some.inj h).symm hP hD hS
set_option maxHeartbeats 40000000 in
set_option maxRecDepth 100000 in
theorem db_X19_outside_142 {p : Program} {l : Launch} {e : Env} {s : State} {m : MethodId} {args : Array Value} {below : List Frame} {meth : Method} {c : Code} {Q : State → Prop} {A : Nat → Prop} {dC : Nat → ClassId} {dI : Nat → Nat → Nat} {a : Nat → Nat} {ac : Nat → ClassId} {n : Nat} {r : Int32 × (St × (St) × (St × (St × (St))) × (St) × (St))} (C : nd_C p l s m args c A (dC, dI) cX19_outside 6 RX19 ow_dm_X19_outside (dk_X19 ac)) (K : nd_Ki p l e (headSpec ow_dm_X19_outside ({ frames := 10, cells := 0, slots := 0, locals := 225 })).room s m args below meth c Q A (dC, dI) cX19_outside .int (St × (St) × (St × (St × (St))) × (St) × (St)) (dw_X19 a ac) r) : dj_X19_outside_142 p l e s m args below meth c Q A dC dI a ac (df_X19_outside_142 n) r := by
  obtain ⟨hlt, hx, hb, hml, hown, hts, hN, hA, hK⟩ := id C
  intro y0 s0 H locs ls h hP hD hS hl
  unfold df_X19_outside_142 at h
  exact K _ _ _ _ _ _ dX19_outside_142 rfl (Option.some.inj h).symm hP hD hS
set_option maxHeartbeats 40000000 in
set_option maxRecDepth 100000 in
theorem db_X19_outside_131 {p : Program} {l : Launch} {e : Env} {s : State} {m : MethodId} {args : Array Value} {below : List Frame} {meth : Method} {c : Code} {Q : State → Prop} {A : Nat → Prop} {dC : Nat → ClassId} {dI : Nat → Nat → Nat} {a : Nat → Nat} {ac : Nat → ClassId} {n : Nat} {r : Int32 × (St × (St) × (St × (St × (St))) × (St) × (St))} (C : nd_C p l s m args c A (dC, dI) cX19_outside 6 RX19 ow_dm_X19_outside (dk_X19 ac)) (K : nd_Ki p l e (headSpec ow_dm_X19_outside ({ frames := 10, cells := 0, slots := 0, locals := 225 })).room s m args below meth c Q A (dC, dI) cX19_outside .int (St × (St) × (St × (St × (St))) × (St) × (St)) (dw_X19 a ac) r) : dj_X19_outside_131 p l e s m args below meth c Q A dC dI a ac (df_X19_outside_131 n) r := by
  obtain ⟨hlt, hx, hb, hml, hown, hts, hN, hA, hK⟩ := id C
  intro y1 y2 y3 s0 H locs ls h hP hD hS hl
  unfold df_X19_outside_131 at h
  obtain ⟨q19, s20, hq, h⟩ := nd_b2_e h
  have hPc := hP
  have hDc := hD
  have hKc := hK
  have hFc := nd_rs hD hS hA
  refine nd_cVi (As := [.int y1, .long y2, .int y3]) (rest := []) (q := q19) (w' := dw_X19 a ac s20) ⟨hx, hb, hml, hown, hts⟩ (fun sz => dm_X19_record l hlt dC dI a ac n (y1) (y2) (y3) s0 hq sz) (cwV 3 hts gi_dm_X19_outside_3 rfl rfl rfl (by decide +kernel) ⟨Nat.le_of_ble_eq_true rfl, Nat.le_of_ble_eq_true rfl⟩) hPc hDc hKc hS hA hN (va_recv hKc hPc (ci := 20) (q0 := 0) rfl rfl) rfl hl.1 rfl (Nat.le_of_ble_eq_true rfl) dX19_outside_131 (fun H locs hP1 hD1 hk1 hS => ?_)
  have hP := hP1
  have hD := hD1.weaken (fun k q _ h => hFc q.1 h)
  refine lv_if_eq (tgt := 141) hx hb dX19_outside_134 (by decide) (fun c22 => ?_) (fun c22 => ?_)
  · have h := nd_pos h c22
    refine lv_iconst (v := 1) hx hb dX19_outside_141 (by decide) ?_
    exact (db_X19_outside_142 C K) (1) s20 _ _ _ h hP hD hS (lv_sub hl [] rfl)
  · have h := nd_neg h c22
    refine lv_iconst (v := 0) hx hb dX19_outside_137 (by decide) ?_
    refine lv_goto (tgt := 142) hx hb dX19_outside_138 (by decide) ?_
    exact (db_X19_outside_142 C K) (0) s20 _ _ _ h hP hD hS (lv_sub hl [] rfl)
set_option maxHeartbeats 40000000 in
set_option maxRecDepth 100000 in
theorem db_X19_outside_125 {p : Program} {l : Launch} {e : Env} {s : State} {m : MethodId} {args : Array Value} {below : List Frame} {meth : Method} {c : Code} {Q : State → Prop} {A : Nat → Prop} {dC : Nat → ClassId} {dI : Nat → Nat → Nat} {a : Nat → Nat} {ac : Nat → ClassId} {n : Nat} {r : Int32 × (St × (St) × (St × (St × (St))) × (St) × (St))} (C : nd_C p l s m args c A (dC, dI) cX19_outside 6 RX19 ow_dm_X19_outside (dk_X19 ac)) (K : nd_Ki p l e (headSpec ow_dm_X19_outside ({ frames := 10, cells := 0, slots := 0, locals := 225 })).room s m args below meth c Q A (dC, dI) cX19_outside .int (St × (St) × (St × (St × (St))) × (St) × (St)) (dw_X19 a ac) r) : dj_X19_outside_125 p l e s m args below meth c Q A dC dI a ac (df_X19_outside_125 n) r := by
  obtain ⟨hlt, hx, hb, hml, hown, hts, hN, hA, hK⟩ := id C
  intro x4 y1 y2 s0 H locs ls h hP hD hS hl
  unfold df_X19_outside_125 at h
  refine lv_iload hx hb dX19_outside_125 (lv_at hl 0 rfl) ?_
  refine lv_goto (tgt := 131) hx hb dX19_outside_127 (by decide) ?_
  exact (db_X19_outside_131 C K) (y1) (y2) (x4) s0 _ _ _ h hP hD hS (lv_sub hl [] rfl)
set_option maxHeartbeats 40000000 in
set_option maxRecDepth 100000 in
theorem db_X19_outside_115 {p : Program} {l : Launch} {e : Env} {s : State} {m : MethodId} {args : Array Value} {below : List Frame} {meth : Method} {c : Code} {Q : State → Prop} {A : Nat → Prop} {dC : Nat → ClassId} {dI : Nat → Nat → Nat} {a : Nat → Nat} {ac : Nat → ClassId} {n : Nat} {r : Int32 × (St × (St) × (St × (St × (St))) × (St) × (St))} (C : nd_C p l s m args c A (dC, dI) cX19_outside 6 RX19 ow_dm_X19_outside (dk_X19 ac)) (K : nd_Ki p l e (headSpec ow_dm_X19_outside ({ frames := 10, cells := 0, slots := 0, locals := 225 })).room s m args below meth c Q A (dC, dI) cX19_outside .int (St × (St) × (St × (St × (St))) × (St) × (St)) (dw_X19 a ac) r) : dj_X19_outside_115 p l e s m args below meth c Q A dC dI a ac (df_X19_outside_115 n) r := by
  obtain ⟨hlt, hx, hb, hml, hown, hts, hN, hA, hK⟩ := id C
  intro x1 x4 y1 y2 s0 H locs ls h hP hD hS hl
  unfold df_X19_outside_115 at h
  refine lv_iload_n hx hb dX19_outside_115 rfl (lv_at hl 0 rfl) ?_
  refine lv_iconst (v := 1) hx hb dX19_outside_116 (by decide) ?_
  refine lv_icmp_eq (tgt := 125) hx hb dX19_outside_117 (by decide) (fun c18 => ?_) (fun c18 => ?_)
  · have h := nd_pos h c18
    exact (db_X19_outside_125 C K) (x4) (y1) (y2) s0 _ _ _ h hP hD hS (lv_sub hl [1] rfl)
  · have h := nd_neg h c18
    refine lv_iload_n hx hb dX19_outside_120 rfl (lv_at hl 0 rfl) ?_
    refine lv_iconst (v := 2) hx hb dX19_outside_121 (by decide) ?_
    refine lv_icmp_ne (tgt := 130) hx hb dX19_outside_122 (by decide) (fun c23 => ?_) (fun c23 => ?_)
    · have h := nd_neg h c23
      refine lv_iconst (v := 0) hx hb dX19_outside_130 (by decide) ?_
      exact (db_X19_outside_131 C K) (y1) (y2) (0) s0 _ _ _ h hP hD hS (lv_sub hl [] rfl)
    · have h := nd_pos h c23
      exact (db_X19_outside_125 C K) (x4) (y1) (y2) s0 _ _ _ h hP hD hS (lv_sub hl [1] rfl)
set_option maxHeartbeats 40000000 in
set_option maxRecDepth 100000 in
theorem db_X19_outside_37 {p : Program} {l : Launch} {e : Env} {s : State} {m : MethodId} {args : Array Value} {below : List Frame} {meth : Method} {c : Code} {Q : State → Prop} {A : Nat → Prop} {dC : Nat → ClassId} {dI : Nat → Nat → Nat} {a : Nat → Nat} {ac : Nat → ClassId} {n : Nat} {r : Int32 × (St × (St) × (St × (St × (St))) × (St) × (St))} (C : nd_C p l s m args c A (dC, dI) cX19_outside 6 RX19 ow_dm_X19_outside (dk_X19 ac)) (K : nd_Ki p l e (headSpec ow_dm_X19_outside ({ frames := 10, cells := 0, slots := 0, locals := 225 })).room s m args below meth c Q A (dC, dI) cX19_outside .int (St × (St) × (St × (St × (St))) × (St) × (St)) (dw_X19 a ac) r) : dj_X19_outside_37 p l e s m args below meth c Q A dC dI a ac (df_X19_outside_37 n) r := by
  obtain ⟨hlt, hx, hb, hml, hown, hts, hN, hA, hK⟩ := id C
  intro x1 x2 x4 y1 y2 s0 H locs ls h hP hD hS hl
  unfold df_X19_outside_37 at h
  obtain ⟨q6, s7, hq, h⟩ := nd_b2_e h
  have hPc := hP
  have hDc := hD
  have hKc := hK
  have hFc := nd_rs hD hS hA
  refine nd_cVi (As := [.int y1, .int y2]) (rest := []) (q := q6) (w' := dw_X19 a ac s7) ⟨hx, hb, hml, hown, hts⟩ (fun sz => dm_X19_fails l hlt dC dI a ac n (y1) (y2) s0 hq sz) (cwV 2 hts gi_dm_X19_outside_1 rfl rfl rfl (by decide +kernel) ⟨Nat.le_of_ble_eq_true rfl, Nat.le_of_ble_eq_true rfl⟩) hPc hDc hKc hS hA hN (va_recv hKc hPc (ci := 20) (q0 := 0) rfl rfl) rfl hl.1 rfl (Nat.le_of_ble_eq_true rfl) dX19_outside_37 (fun H locs hP1 hD1 hk1 hS => ?_)
  have hP := hP1
  have hD := hD1.weaken (fun k q _ h => hFc q.1 h)
  refine lv_if_eq (tgt := 45) hx hb dX19_outside_40 (by decide) (fun c9 => ?_) (fun c9 => ?_)
  · have h := nd_pos h c9
    refine lv_aload_n hx hb dX19_outside_45 rfl (lv_at hl 0 rfl) ?_
    refine va_get (D := (dC, dI)) (ci := 20) (v := .int (sI s7.1 5)) (C := RX19) (T := TX19) (N := 36) hx hb hts hi_dm_X19_outside_X19 hown hK hP 0 rfl rfl 19 (by decide) (hts (.fieldLink RX19 234 "TimeMachineModel" "now" "I") (List.mem_of_getElem? (i := 7) rfl)) (fun _ h9 => h9) rfl dX19_outside_46 ?_
    refine lv_aload_n hx hb dX19_outside_49 rfl (lv_at hl 0 rfl) ?_
    refine va_get (D := (dC, dI)) (ci := 20) (v := .int (sI s7.1 6)) (C := RX19) (T := TX19) (N := 36) hx hb hts hi_dm_X19_outside_X19 hown hK hP 0 rfl rfl 20 (by decide) (hts (.fieldLink RX19 210 "TimeMachineModel" "end" "I") (List.mem_of_getElem? (i := 8) rfl)) (fun _ h9 => h9) rfl dX19_outside_50 ?_
    refine lv_icmp_ne (tgt := 63) hx hb dX19_outside_53 (by decide) (fun c10 => ?_) (fun c10 => ?_)
    · have h := nd_neg h c10
      exact (db_X19_outside_63 C K)  s7 _ _ _ h hP hD hS (lv_sub hl [] rfl)
    · have h := nd_pos h c10
      refine lv_aload_n hx hb dX19_outside_56 rfl (lv_at hl 0 rfl) ?_
      refine va_get (D := (dC, dI)) (ci := 20) (v := .int (sI s7.1 9)) (C := RX19) (T := TX19) (N := 36) hx hb hts hi_dm_X19_outside_X19 hown hK hP 0 rfl rfl 23 (by decide) (hts (.fieldLink RX19 212 "TimeMachineModel" "scheduled" "I") (List.mem_of_getElem? (i := 9) rfl)) (fun _ h9 => h9) rfl dX19_outside_57 ?_
      refine lv_if_le (tgt := 65) hx hb dX19_outside_60 (by decide) (fun c11 => ?_) (fun c11 => ?_)
      · have h := nd_pos h c11
        refine lv_aload_n hx hb dX19_outside_65 rfl (lv_at hl 0 rfl) ?_
        refine va_get (D := (dC, dI)) (ci := 20) (v := .int (sI s7.1 8)) (C := RX19) (T := TX19) (N := 36) hx hb hts hi_dm_X19_outside_X19 hown hK hP 0 rfl rfl 22 (by decide) (hts (.fieldLink RX19 192 "TimeMachineModel" "events" "I") (List.mem_of_getElem? (i := 10) rfl)) (fun _ h9 => h9) rfl dX19_outside_66 ?_
        refine lv_sipush (v := 2048) hx hb dX19_outside_69 (by decide) ?_
        refine lv_icmp_ne (tgt := 77) hx hb dX19_outside_72 (by decide) (fun c12 => ?_) (fun c12 => ?_)
        · have h := nd_neg h c12
          refine lv_aload_n hx hb dX19_outside_77 rfl (lv_at hl 0 rfl) ?_
          refine lv_aload_n hx hb dX19_outside_78 rfl (lv_at hl 0 rfl) ?_
          refine va_get (D := (dC, dI)) (ci := 20) (v := .int (sI s7.1 6)) (C := RX19) (T := TX19) (N := 36) hx hb hts hi_dm_X19_outside_X19 hown hK hP 0 rfl rfl 20 (by decide) (hts (.fieldLink RX19 210 "TimeMachineModel" "end" "I") (List.mem_of_getElem? (i := 8) rfl)) (fun _ h9 => h9) rfl dX19_outside_79 ?_
          obtain ⟨s14, hq, h⟩ := nd_b1_e h
          have hPc := hP
          have hDc := hD
          have hKc := hK
          have hFc := nd_rs hD hS hA
          refine nd_cVv (As := [.int (sI s7.1 6)]) (rest := []) (w' := dw_X19 a ac s14) ⟨hx, hb, hml, hown, hts⟩ (fun sz => dm_X19_come l hlt dC dI a ac n ((sI s7.1 6)) s7 hq sz) (cwV 1 hts gi_dm_X19_outside_2 rfl rfl rfl (by decide +kernel) ⟨Nat.le_of_ble_eq_true rfl, Nat.le_of_ble_eq_true rfl⟩) hPc hDc hKc hS hA hN (va_recv hKc hPc (ci := 20) (q0 := 0) rfl rfl) rfl hl.1 rfl (Nat.le_of_ble_eq_true rfl) dX19_outside_82 (fun H locs hP1 hD1 hk1 hS => ?_)
          have hP := hP1
          have hD := hD1.weaken (fun k q _ h => hFc q.1 h)
          refine lv_aload_n hx hb dX19_outside_85 rfl (lv_at hl 0 rfl) ?_
          refine lv_iload_n hx hb dX19_outside_86 rfl (lv_at hl 1 rfl) ?_
          refine lv_iload_n hx hb dX19_outside_87 rfl (lv_at hl 1 rfl) ?_
          refine lv_iconst (v := 1) hx hb dX19_outside_88 (by decide) ?_
          refine lv_icmp_ne (tgt := 101) hx hb dX19_outside_89 (by decide) (fun c16 => ?_) (fun c16 => ?_)
          · have h := nd_neg h c16
            refine lv_iload_n hx hb dX19_outside_101 rfl (lv_at hl 1 rfl) ?_
            refine lv_iconst (v := 4) hx hb dX19_outside_102 (by decide) ?_
            refine lv_icmp_ne (tgt := 114) hx hb dX19_outside_103 (by decide) (fun c17 => ?_) (fun c17 => ?_)
            · have h := nd_neg h c17
              refine lv_lload_n hx hb dX19_outside_114 rfl (lv_at hl 2 rfl) ?_
              exact (db_X19_outside_115 C K) (x1) (x4) (x1) (x2) s14 _ _ _ h hP hD hS (lv_sub hl [1, 3] rfl)
            · have h := nd_pos h c17
              refine lv_lload_n hx hb dX19_outside_106 rfl (lv_at hl 2 rfl) ?_
              refine lv_iconst (v := 4) hx hb dX19_outside_107 (by decide) ?_
              obtain ⟨q24, s25, hq, h⟩ := nd_b2_e h
              have hPc : va_P (dC, dI) vwCl (dw_P a ac ()) H := nd_p0
              have hDc : va_D A (dw_P a ac ()) := nd_d0
              have hKc : va_K (dC, dI) vwCl (dk_P ac) s := nd_y0 hK
              have hFc : ∀ q, va_A (dw_P a ac ()) H.size q → A q := nd_r0 hS hA
              refine nd_cSl (As := [.long x2, .int 4]) (rest := [.int x1, .ref (a 0)]) (q := q24) (w' := dw_P a ac s25) ⟨hx, hb, hml, hown, hts⟩ (fun sz => dm_X19_low l hlt dC dI a ac n (x2) (4) () hq sz) (cwS 2 hts gi_dm_X19_outside_4 rfl rfl rfl (by decide +kernel) ⟨Nat.le_of_ble_eq_true rfl, Nat.le_of_ble_eq_true rfl⟩) hPc hDc hKc hS hA hN rfl hl.1 rfl (Nat.le_of_ble_eq_true rfl) dX19_outside_108 (fun H locs hP1 hD1 hk1 hS => ?_)
              have hP := nd_n0 hP hk1
              refine lv_goto (tgt := 115) hx hb dX19_outside_111 (by decide) ?_
              exact (db_X19_outside_115 C K) (x1) (x4) (x1) (q24) s14 _ _ _ h hP hD hS (lv_sub hl [1, 3] rfl)
          · have h := nd_pos h c16
            refine lv_lload_n hx hb dX19_outside_92 rfl (lv_at hl 2 rfl) ?_
            refine lv_iload hx hb dX19_outside_93 (lv_at hl 3 rfl) ?_
            obtain ⟨q27, s28, hq, h⟩ := nd_b2_e h
            have hPc : va_P (dC, dI) vwCl (dw_P a ac ()) H := nd_p0
            have hDc : va_D A (dw_P a ac ()) := nd_d0
            have hKc : va_K (dC, dI) vwCl (dk_P ac) s := nd_y0 hK
            have hFc : ∀ q, va_A (dw_P a ac ()) H.size q → A q := nd_r0 hS hA
            refine nd_cSl (As := [.long x2, .int x4]) (rest := [.int x1, .ref (a 0)]) (q := q27) (w' := dw_P a ac s28) ⟨hx, hb, hml, hown, hts⟩ (fun sz => dm_X19_low l hlt dC dI a ac n (x2) (x4) () hq sz) (cwS 2 hts gi_dm_X19_outside_4 rfl rfl rfl (by decide +kernel) ⟨Nat.le_of_ble_eq_true rfl, Nat.le_of_ble_eq_true rfl⟩) hPc hDc hKc hS hA hN rfl hl.1 rfl (Nat.le_of_ble_eq_true rfl) dX19_outside_95 (fun H locs hP1 hD1 hk1 hS => ?_)
            have hP := nd_n0 hP hk1
            refine lv_goto (tgt := 115) hx hb dX19_outside_98 (by decide) ?_
            exact (db_X19_outside_115 C K) (x1) (x4) (x1) (q27) s14 _ _ _ h hP hD hS (lv_sub hl [1, 3] rfl)
        · have h := nd_pos h c12
          refine lv_iconst (v := 3) hx hb dX19_outside_75 (by decide) ?_
          exact K _ _ _ _ _ _ dX19_outside_76 rfl (Option.some.inj h).symm hP hD hS
      · have h := nd_neg h c11
        exact (db_X19_outside_63 C K)  s7 _ _ _ h hP hD hS (lv_sub hl [] rfl)
  · have h := nd_neg h c9
    refine lv_iconst (v := 0) hx hb dX19_outside_43 (by decide) ?_
    exact K _ _ _ _ _ _ dX19_outside_44 rfl (Option.some.inj h).symm hP hD hS
set_option maxHeartbeats 40000000 in
set_option maxRecDepth 100000 in
theorem db_X19_outside_36 {p : Program} {l : Launch} {e : Env} {s : State} {m : MethodId} {args : Array Value} {below : List Frame} {meth : Method} {c : Code} {Q : State → Prop} {A : Nat → Prop} {dC : Nat → ClassId} {dI : Nat → Nat → Nat} {a : Nat → Nat} {ac : Nat → ClassId} {n : Nat} {r : Int32 × (St × (St) × (St × (St × (St))) × (St) × (St))} (C : nd_C p l s m args c A (dC, dI) cX19_outside 6 RX19 ow_dm_X19_outside (dk_X19 ac)) (K : nd_Ki p l e (headSpec ow_dm_X19_outside ({ frames := 10, cells := 0, slots := 0, locals := 225 })).room s m args below meth c Q A (dC, dI) cX19_outside .int (St × (St) × (St × (St × (St))) × (St) × (St)) (dw_X19 a ac) r) : dj_X19_outside_36 p l e s m args below meth c Q A dC dI a ac (df_X19_outside_36 n) r := by
  obtain ⟨hlt, hx, hb, hml, hown, hts, hN, hA, hK⟩ := id C
  intro x1 x2 x4 y1 s0 H locs ls h hP hD hS hl
  unfold df_X19_outside_36 at h
  refine lv_iconst (v := 0) hx hb dX19_outside_36 (by decide) ?_
  exact (db_X19_outside_37 C K) (x1) (x2) (x4) (y1) (0) s0 _ _ _ h hP hD hS (lv_sub hl [0, 1, 2, 3] rfl)
set_option maxHeartbeats 40000000 in
set_option maxRecDepth 100000 in
theorem db_X19_outside_20 {p : Program} {l : Launch} {e : Env} {s : State} {m : MethodId} {args : Array Value} {below : List Frame} {meth : Method} {c : Code} {Q : State → Prop} {A : Nat → Prop} {dC : Nat → ClassId} {dI : Nat → Nat → Nat} {a : Nat → Nat} {ac : Nat → ClassId} {n : Nat} {r : Int32 × (St × (St) × (St × (St × (St))) × (St) × (St))} (C : nd_C p l s m args c A (dC, dI) cX19_outside 6 RX19 ow_dm_X19_outside (dk_X19 ac)) (K : nd_Ki p l e (headSpec ow_dm_X19_outside ({ frames := 10, cells := 0, slots := 0, locals := 225 })).room s m args below meth c Q A (dC, dI) cX19_outside .int (St × (St) × (St × (St × (St))) × (St) × (St)) (dw_X19 a ac) r) : dj_X19_outside_20 p l e s m args below meth c Q A dC dI a ac (df_X19_outside_20 n) r := by
  obtain ⟨hlt, hx, hb, hml, hown, hts, hN, hA, hK⟩ := id C
  intro x1 x2 x4 x5 y1 s0 H locs ls h hP hD hS hl
  unfold df_X19_outside_20 at h
  refine lv_iload hx hb dX19_outside_20 (lv_at hl 4 rfl) ?_
  refine lv_if_eq (tgt := 36) hx hb dX19_outside_22 (by decide) (fun c5 => ?_) (fun c5 => ?_)
  · have h := nd_pos h c5
    exact (db_X19_outside_36 C K) (x1) (x2) (x4) (y1) s0 _ _ _ h hP hD hS (lv_sub hl [0, 1, 2, 3] rfl)
  · have h := nd_neg h c5
    refine lv_aload_n hx hb dX19_outside_25 rfl (lv_at hl 0 rfl) ?_
    refine va_get (D := (dC, dI)) (ci := 20) (v := .int (sI s0.1 3)) (C := RX19) (T := TX19) (N := 36) hx hb hts hi_dm_X19_outside_X19 hown hK hP 0 rfl rfl 17 (by decide) (hts (.fieldLink RX19 231 "TimeMachineModel" "booted" "Z") (List.mem_of_getElem? (i := 19) rfl)) (fun _ h9 => h9) rfl dX19_outside_26 ?_
    refine lv_if_ne (tgt := 36) hx hb dX19_outside_29 (by decide) (fun c30 => ?_) (fun c30 => ?_)
    · have h := nd_neg h c30
      exact (db_X19_outside_36 C K) (x1) (x2) (x4) (y1) s0 _ _ _ h hP hD hS (lv_sub hl [0, 1, 2, 3] rfl)
    · have h := nd_pos h c30
      refine lv_iconst (v := 1) hx hb dX19_outside_32 (by decide) ?_
      refine lv_goto (tgt := 37) hx hb dX19_outside_33 (by decide) ?_
      exact (db_X19_outside_37 C K) (x1) (x2) (x4) (y1) (1) s0 _ _ _ h hP hD hS (lv_sub hl [0, 1, 2, 3] rfl)
set_option maxHeartbeats 40000000 in
set_option maxRecDepth 100000 in
theorem db_X19_outside_0 {p : Program} {l : Launch} {e : Env} {s : State} {m : MethodId} {args : Array Value} {below : List Frame} {meth : Method} {c : Code} {Q : State → Prop} {A : Nat → Prop} {dC : Nat → ClassId} {dI : Nat → Nat → Nat} {a : Nat → Nat} {ac : Nat → ClassId} {n : Nat} {r : Int32 × (St × (St) × (St × (St × (St))) × (St) × (St))} (C : nd_C p l s m args c A (dC, dI) cX19_outside 6 RX19 ow_dm_X19_outside (dk_X19 ac)) (K : nd_Ki p l e (headSpec ow_dm_X19_outside ({ frames := 10, cells := 0, slots := 0, locals := 225 })).room s m args below meth c Q A (dC, dI) cX19_outside .int (St × (St) × (St × (St × (St))) × (St) × (St)) (dw_X19 a ac) r) : dj_X19_outside_0 p l e s m args below meth c Q A dC dI a ac (df_X19_outside_0 n) r := by
  obtain ⟨hlt, hx, hb, hml, hown, hts, hN, hA, hK⟩ := id C
  intro v0 v1 v2 s0 H locs ls h hP hD hS hl
  unfold df_X19_outside_0 at h
  refine lv_iload_n hx hb dX19_outside_0 rfl (lv_at hl 1 rfl) ?_
  refine lv_lload_n hx hb dX19_outside_1 rfl (lv_at hl 2 rfl) ?_
  refine lv_iload hx hb dX19_outside_2 (lv_at hl 3 rfl) ?_
  obtain ⟨q1, s2, hq, h⟩ := nd_b2_e h
  have hPc : va_P (dC, dI) vwCl (dw_P a ac ()) H := nd_p0
  have hDc : va_D A (dw_P a ac ()) := nd_d0
  have hKc : va_K (dC, dI) vwCl (dk_P ac) s := nd_y0 hK
  have hFc : ∀ q, va_A (dw_P a ac ()) H.size q → A q := nd_r0 hS hA
  refine nd_cSi (As := [.int v0, .long v1, .int v2]) (rest := []) (q := q1) (w' := dw_P a ac s2) ⟨hx, hb, hml, hown, hts⟩ (fun sz => dm_X19_isSaid l hlt dC dI a ac n (v0) (v1) (v2) () hq sz) (cwS 3 hts gi_dm_X19_outside_0 rfl rfl rfl (by decide +kernel) ⟨Nat.le_of_ble_eq_true rfl, Nat.le_of_ble_eq_true rfl⟩) hPc hDc hKc hS hA hN rfl hl.1 rfl (Nat.le_of_ble_eq_true rfl) dX19_outside_4 (fun H locs hP1 hD1 hk1 hS => ?_)
  have hP := nd_n0 hP hk1
  refine lv_istore (lv' := [(5, .int q1), (0, .ref (a 0)), (1, .int v0), (2, .long v1), (4, .int v2)]) hx hb dX19_outside_7 hl (by decide) rfl (fun ls hl => ?_)
  refine lv_aload_n hx hb dX19_outside_9 rfl (lv_at hl 1 rfl) ?_
  refine lv_iload hx hb dX19_outside_10 (lv_at hl 0 rfl) ?_
  refine lv_if_ne (tgt := 19) hx hb dX19_outside_12 (by decide) (fun c4 => ?_) (fun c4 => ?_)
  · have h := nd_neg h c4
    refine lv_iconst (v := 0) hx hb dX19_outside_19 (by decide) ?_
    exact (db_X19_outside_20 C K) (v0) (v1) (v2) (q1) (0) s0 _ _ _ h hP hD hS (lv_sub hl [1, 2, 3, 4, 0] rfl)
  · have h := nd_pos h c4
    refine lv_iconst (v := 1) hx hb dX19_outside_15 (by decide) ?_
    refine lv_goto (tgt := 20) hx hb dX19_outside_16 (by decide) ?_
    exact (db_X19_outside_20 C K) (v0) (v1) (v2) (q1) (1) s0 _ _ _ h hP hD hS (lv_sub hl [1, 2, 3, 4, 0] rfl)
set_option maxHeartbeats 40000000 in
set_option maxRecDepth 100000 in
theorem dm_X19_outside (l : Launch) (hlt : l.stackTraces = false) (dC : Nat → ClassId) (dI : Nat → Nat → Nat) (a : Nat → Nat) (ac : Nat → ClassId) (n : Nat) (v0 : Int32) (v1 : Int64) (v2 : Int32) (s0 : St × (St) × (St × (St × (St))) × (St) × (St)) {r : Int32 × (St × (St) × (St × (St × (St))) × (St) × (St))} (h : df_X19_outside n v0 v1 v2 s0 = some r) (sz : Nat) : Met l yX19_outside ow_dm_X19_outside ({ frames := 10, cells := 0, slots := 0, locals := 225 }) (va_Pc [.ref (a 0), .int v0, .long v1, .int v2] (fun U => U.heap.size = sz ∧ va_P (dC, dI) vwCl (dw_X19 a ac s0) U.heap ∧ va_K (dC, dI) vwCl (dk_X19 ac) U ∧ va_D (fun _ => True) (dw_X19 a ac s0) ∧ nv_E dI (va_A (dw_X19 a ac s0) sz) U)) (va_Qi (fun x _ => x = r.1) (fun (_ : Unit) t => va_P (dC, dI) vwCl (dw_X19 a ac r.2) t.heap ∧ va_K (dC, dI) vwCl (dk_X19 ac) t ∧ va_D (va_A (dw_X19 a ac s0) sz) (dw_X19 a ac r.2)) (va_A (dw_X19 a ac s0) sz)) 0 0 (va_A (dw_X19 a ac s0) sz) := by
  refine Met.ofW (cc := cX19_outside) (maxL := 6) (ret := (some .int)) (by decide) rfl ?_
  intro p e s m args below meth c s₁ B hml hv
  obtain ⟨rfl, hsz, hP, hK, hD0, hN⟩ := hv
  have hx := B.exec
  have hb := B.bytes
  have hr := B.returns
  have hts := atoms_spec (ws := ow_dm_X19_outside) B.pre
  have hown : s.vm.findClass RX19 = some m.cls := findClass_of_methodNamed B.named
  have hlocks := B.notSynchronized
  subst hsz
  have hD := hD0.self (sz := s.heap.size)
  generalize hAe : va_A (dw_X19 a ac s0) s.heap.size = A at hD hN ⊢
  have hA : ∀ q : Nat, s.heap.size ≤ q → A q := fun q h => by rw [← hAe]; exact Or.inr h
  have hl := lv_entry ([.ref (a 0), .int v0, .long v1, .int v2]) (n := 6) (Nat.le_of_ble_eq_true rfl)
  rw [lg_entry_eq]
  generalize (lg_sl ([.ref (a 0), .int v0, .long v1, .int v2]) ++ List.replicate (6 - (lg_sl ([.ref (a 0), .int v0, .long v1, .int v2])).length) Slot.unset).toArray = ls at hl ⊢
  have hl : lv_has ls 6 [(0, .ref (a 0)), (1, .int v0), (2, .long v1), (4, .int v2)] := hl
  exact db_X19_outside_0 (dC := dC) (dI := dI) (a := a) (ac := ac) (n := n) (r := r) ⟨hlt, hx, hb, hml, hown, hts, hN, hA, hK⟩ (fun pc v τ H locs ls d z er hP hD hS => by subst er; exact W.zret (v := v) hx hb hr z (fun t ht hW => ⟨⟨v, (), rfl, rfl, by rw [ht]; exact hP, va_K.moved hW.alike hK, hD⟩, hS.F ht⟩) hS.2.2 d) v0 v1 v2 s0 _ _ _ h hP hD va_S.rf (lv_sub hl [0, 1, 2, 3] rfl)
def ow_dm_X19_hit : List Cond := Cond.code yX19_hit cX19_hit 2 (some .int) :: ([Cond.fieldLink RX19 67 "TimeMachineModel" "conditions" "LTimeMachineModel$Conditions;", Cond.methodLink RX19 273 yX15_isThere, Cond.instanceMethod yX15_isThere, Cond.selects RX15 yX15_isThere yX15_isThere, Cond.initialized RX15, Cond.methodLink RX19 276 yX15_value, Cond.instanceMethod yX15_value, Cond.selects RX15 yX15_value yX15_value] ++ (u_ws RX19 TX19 36 ++ (ow_dm_X15_isThere ++ (ow_dm_X15_value ++ []))))
theorem gd_dm_X19_hit : ∀ w ∈ ow_dm_X19_hit, (w.onTables && w.keeps) = true ∨ ∃ ty, w = Cond.arrayClass ty := List.forall_mem_cons.mpr ⟨good_of_word rfl, List.forall_mem_append.mpr ⟨fun w h => good_of_word (List.all_eq_true.mp (by decide +kernel) w h), List.forall_mem_append.mpr ⟨gu_X19, List.forall_mem_append.mpr ⟨gd_dm_X15_isThere, List.forall_mem_append.mpr ⟨gd_dm_X15_value, fun _ h => nomatch h⟩⟩⟩⟩⟩
theorem hi_dm_X19_hit_X19 : ∀ w ∈ u_ws RX19 TX19 36, w ∈ ow_dm_X19_hit := fun w h => List.mem_cons_of_mem _ (List.mem_append_right _ (List.mem_append_left _ h))
theorem gi_dm_X19_hit_0 : GoodIn ow_dm_X19_hit (wsV RX19 273 RX15 yX15_isThere ow_dm_X15_isThere) := goodIn_app (goodIn_of _ (by decide +kernel)) (fun w h => ⟨List.mem_cons_of_mem _ (List.mem_append_right _ (List.mem_append_right _ (List.mem_append_left _ h))), gd_dm_X15_isThere w h⟩)
theorem gi_dm_X19_hit_1 : GoodIn ow_dm_X19_hit (wsV RX19 276 RX15 yX15_value ow_dm_X15_value) := goodIn_app (goodIn_of _ (by decide +kernel)) (fun w h => ⟨List.mem_cons_of_mem _ (List.mem_append_right _ (List.mem_append_right _ (List.mem_append_right _ (List.mem_append_left _ h)))), gd_dm_X15_value w h⟩)
def dj_X19_hit_49 (p : Program) (l : Launch) (e : Env) (s : State) (m : MethodId) (args : Array Value) (below : List Frame) (meth : Method) (c : Code) (Q : State → Prop) (A : Nat → Prop) (dC : Nat → ClassId) (dI : Nat → Nat → Nat) (a : Nat → Nat) (ac : Nat → ClassId) (g : Int32 → (St × (St) × (St × (St × (St))) × (St) × (St)) → Option (Int32 × (St × (St) × (St × (St × (St))) × (St) × (St)))) (r : Int32 × (St × (St) × (St × (St × (St))) × (St) × (St))) : Prop := ∀ (y0 : Int32) (s0 : St × (St) × (St × (St × (St))) × (St) × (St)) (H : Heap) (locs : List Loc) (ls : Array Slot), g y0 s0 = some r → va_P (dC, dI) vwCl (dw_X19 a ac s0) H → va_D A (dw_X19 a ac s0) → va_S A s.heap H locs → lv_has ls 2 [] → W p l e (headSpec ow_dm_X19_hit ({ frames := 7, cells := 0, slots := 0, locals := 164 })).room s m args below meth c H locs 0 0 Q (F0 m 49 ls [.int y0])
def dj_X19_hit_38 (p : Program) (l : Launch) (e : Env) (s : State) (m : MethodId) (args : Array Value) (below : List Frame) (meth : Method) (c : Code) (Q : State → Prop) (A : Nat → Prop) (dC : Nat → ClassId) (dI : Nat → Nat → Nat) (a : Nat → Nat) (ac : Nat → ClassId) (g : Int32 → (St × (St) × (St × (St × (St))) × (St) × (St)) → Option (Int32 × (St × (St) × (St × (St × (St))) × (St) × (St)))) (r : Int32 × (St × (St) × (St × (St × (St))) × (St) × (St))) : Prop := ∀ (x1 : Int32) (s0 : St × (St) × (St × (St × (St))) × (St) × (St)) (H : Heap) (locs : List Loc) (ls : Array Slot), g x1 s0 = some r → va_P (dC, dI) vwCl (dw_X19 a ac s0) H → va_D A (dw_X19 a ac s0) → va_S A s.heap H locs → lv_has ls 2 [(1, .int x1)] → W p l e (headSpec ow_dm_X19_hit ({ frames := 7, cells := 0, slots := 0, locals := 164 })).room s m args below meth c H locs 0 0 Q (F0 m 38 ls [])
def dj_X19_hit_32 (p : Program) (l : Launch) (e : Env) (s : State) (m : MethodId) (args : Array Value) (below : List Frame) (meth : Method) (c : Code) (Q : State → Prop) (A : Nat → Prop) (dC : Nat → ClassId) (dI : Nat → Nat → Nat) (a : Nat → Nat) (ac : Nat → ClassId) (g : Int32 → (St × (St) × (St × (St × (St))) × (St) × (St)) → Option (Int32 × (St × (St) × (St × (St × (St))) × (St) × (St)))) (r : Int32 × (St × (St) × (St × (St × (St))) × (St) × (St))) : Prop := ∀ (x1 : Int32) (s0 : St × (St) × (St × (St × (St))) × (St) × (St)) (H : Heap) (locs : List Loc) (ls : Array Slot), g x1 s0 = some r → va_P (dC, dI) vwCl (dw_X19 a ac s0) H → va_D A (dw_X19 a ac s0) → va_S A s.heap H locs → lv_has ls 2 [(0, .ref (a 0)), (1, .int x1)] → W p l e (headSpec ow_dm_X19_hit ({ frames := 7, cells := 0, slots := 0, locals := 164 })).room s m args below meth c H locs 0 0 Q (F0 m 32 ls [])
def dj_X19_hit_2 (p : Program) (l : Launch) (e : Env) (s : State) (m : MethodId) (args : Array Value) (below : List Frame) (meth : Method) (c : Code) (Q : State → Prop) (A : Nat → Prop) (dC : Nat → ClassId) (dI : Nat → Nat → Nat) (a : Nat → Nat) (ac : Nat → ClassId) (g : Int32 → (St × (St) × (St × (St × (St))) × (St) × (St)) → Option (Int32 × (St × (St) × (St × (St × (St))) × (St) × (St)))) (r : Int32 × (St × (St) × (St × (St × (St))) × (St) × (St))) : Prop := ∀ (x1 : Int32) (s0 : St × (St) × (St × (St × (St))) × (St) × (St)) (H : Heap) (locs : List Loc) (ls : Array Slot), g x1 s0 = some r → va_P (dC, dI) vwCl (dw_X19 a ac s0) H → va_D A (dw_X19 a ac s0) → va_S A s.heap H locs → lv_has ls 2 [(0, .ref (a 0)), (1, .int x1)] → W p l e (headSpec ow_dm_X19_hit ({ frames := 7, cells := 0, slots := 0, locals := 164 })).room s m args below meth c H locs 0 0 Q (F0 m 2 ls [])
def dj_X19_hit_0 (p : Program) (l : Launch) (e : Env) (s : State) (m : MethodId) (args : Array Value) (below : List Frame) (meth : Method) (c : Code) (Q : State → Prop) (A : Nat → Prop) (dC : Nat → ClassId) (dI : Nat → Nat → Nat) (a : Nat → Nat) (ac : Nat → ClassId) (g : (St × (St) × (St × (St × (St))) × (St) × (St)) → Option (Int32 × (St × (St) × (St × (St × (St))) × (St) × (St)))) (r : Int32 × (St × (St) × (St × (St × (St))) × (St) × (St))) : Prop := ∀ (s0 : St × (St) × (St × (St × (St))) × (St) × (St)) (H : Heap) (locs : List Loc) (ls : Array Slot), g s0 = some r → va_P (dC, dI) vwCl (dw_X19 a ac s0) H → va_D A (dw_X19 a ac s0) → va_S A s.heap H locs → lv_has ls 2 [(0, .ref (a 0))] → W p l e (headSpec ow_dm_X19_hit ({ frames := 7, cells := 0, slots := 0, locals := 164 })).room s m args below meth c H locs 0 0 Q (F0 m 0 ls [])
set_option maxHeartbeats 40000000 in
set_option maxRecDepth 100000 in
theorem db_X19_hit_49 {p : Program} {l : Launch} {e : Env} {s : State} {m : MethodId} {args : Array Value} {below : List Frame} {meth : Method} {c : Code} {Q : State → Prop} {A : Nat → Prop} {dC : Nat → ClassId} {dI : Nat → Nat → Nat} {a : Nat → Nat} {ac : Nat → ClassId} {n : Nat} {r : Int32 × (St × (St) × (St × (St × (St))) × (St) × (St))} (C : nd_C p l s m args c A (dC, dI) cX19_hit 2 RX19 ow_dm_X19_hit (dk_X19 ac)) (K : nd_Ki p l e (headSpec ow_dm_X19_hit ({ frames := 7, cells := 0, slots := 0, locals := 164 })).room s m args below meth c Q A (dC, dI) cX19_hit .int (St × (St) × (St × (St × (St))) × (St) × (St)) (dw_X19 a ac) r) : dj_X19_hit_49 p l e s m args below meth c Q A dC dI a ac (df_X19_hit_49 n) r := by
  obtain ⟨hlt, hx, hb, hml, hown, hts, hN, hA, hK⟩ := id C
  intro y0 s0 H locs ls h hP hD hS hl
  unfold df_X19_hit_49 at h
  exact K _ _ _ _ _ _ dX19_hit_49 rfl (Option.some.inj h).symm hP hD hS
set_option maxHeartbeats 40000000 in
set_option maxRecDepth 100000 in
theorem db_X19_hit_38 {p : Program} {l : Launch} {e : Env} {s : State} {m : MethodId} {args : Array Value} {below : List Frame} {meth : Method} {c : Code} {Q : State → Prop} {A : Nat → Prop} {dC : Nat → ClassId} {dI : Nat → Nat → Nat} {a : Nat → Nat} {ac : Nat → ClassId} {n : Nat} {r : Int32 × (St × (St) × (St × (St × (St))) × (St) × (St))} (C : nd_C p l s m args c A (dC, dI) cX19_hit 2 RX19 ow_dm_X19_hit (dk_X19 ac)) (K : nd_Ki p l e (headSpec ow_dm_X19_hit ({ frames := 7, cells := 0, slots := 0, locals := 164 })).room s m args below meth c Q A (dC, dI) cX19_hit .int (St × (St) × (St × (St × (St))) × (St) × (St)) (dw_X19 a ac) r) : dj_X19_hit_38 p l e s m args below meth c Q A dC dI a ac (df_X19_hit_38 n) r := by
  obtain ⟨hlt, hx, hb, hml, hown, hts, hN, hA, hK⟩ := id C
  intro x1 s0 H locs ls h hP hD hS hl
  unfold df_X19_hit_38 at h
  refine lv_iload_n hx hb dX19_hit_38 rfl (lv_at hl 0 rfl) ?_
  refine lv_bipush (v := 8) hx hb dX19_hit_39 (by decide) ?_
  refine lv_icmp_ge (tgt := 48) hx hb dX19_hit_41 (by decide) (fun c2 => ?_) (fun c2 => ?_)
  · have h := nd_pos h c2
    refine lv_iconst (v := (-1)) hx hb dX19_hit_48 (by decide) ?_
    exact (db_X19_hit_49 C K) ((-1)) s0 _ _ _ h hP hD hS (lv_sub hl [] rfl)
  · have h := nd_neg h c2
    refine lv_iload_n hx hb dX19_hit_44 rfl (lv_at hl 0 rfl) ?_
    refine lv_goto (tgt := 49) hx hb dX19_hit_45 (by decide) ?_
    exact (db_X19_hit_49 C K) (x1) s0 _ _ _ h hP hD hS (lv_sub hl [] rfl)
set_option maxHeartbeats 40000000 in
set_option maxRecDepth 100000 in
theorem db_X19_hit_32 {p : Program} {l : Launch} {e : Env} {s : State} {m : MethodId} {args : Array Value} {below : List Frame} {meth : Method} {c : Code} {Q : State → Prop} {A : Nat → Prop} {dC : Nat → ClassId} {dI : Nat → Nat → Nat} {a : Nat → Nat} {ac : Nat → ClassId} {n : Nat} {r : Int32 × (St × (St) × (St × (St × (St))) × (St) × (St))} (C : nd_C p l s m args c A (dC, dI) cX19_hit 2 RX19 ow_dm_X19_hit (dk_X19 ac)) (K : nd_Ki p l e (headSpec ow_dm_X19_hit ({ frames := 7, cells := 0, slots := 0, locals := 164 })).room s m args below meth c Q A (dC, dI) cX19_hit .int (St × (St) × (St × (St × (St))) × (St) × (St)) (dw_X19 a ac) r) {g2 : Int32 → (St × (St) × (St × (St × (St))) × (St) × (St)) → Option (Int32 × (St × (St) × (St × (St × (St))) × (St) × (St)))} (J2 : dj_X19_hit_2 p l e s m args below meth c Q A dC dI a ac g2 r) : dj_X19_hit_32 p l e s m args below meth c Q A dC dI a ac (df_X19_hit_32 n g2) r := by
  obtain ⟨hlt, hx, hb, hml, hown, hts, hN, hA, hK⟩ := id C
  intro x1 s0 H locs ls h hP hD hS hl
  unfold df_X19_hit_32 at h
  obtain ⟨z8, ez8, h⟩ := nd_let_e h
  refine lv_iinc (v := z8) (lv' := [(1, .int z8), (0, .ref (a 0))]) hx hb dX19_hit_32 hl (k := 1) rfl (by rw [ez8]) (by decide) rfl (fun ls hl => ?_)
  refine lv_goto (tgt := 2) hx hb dX19_hit_35 (by decide) ?_
  exact (J2) (z8) s0 _ _ _ h hP hD hS (lv_sub hl [1, 0] rfl)
set_option maxHeartbeats 40000000 in
set_option maxRecDepth 100000 in
theorem dB_X19_hit_2 {p : Program} {l : Launch} {e : Env} {s : State} {m : MethodId} {args : Array Value} {below : List Frame} {meth : Method} {c : Code} {Q : State → Prop} {A : Nat → Prop} {dC : Nat → ClassId} {dI : Nat → Nat → Nat} {a : Nat → Nat} {ac : Nat → ClassId} {n : Nat} {r : Int32 × (St × (St) × (St × (St × (St))) × (St) × (St))} (C : nd_C p l s m args c A (dC, dI) cX19_hit 2 RX19 ow_dm_X19_hit (dk_X19 ac)) (K : nd_Ki p l e (headSpec ow_dm_X19_hit ({ frames := 7, cells := 0, slots := 0, locals := 164 })).room s m args below meth c Q A (dC, dI) cX19_hit .int (St × (St) × (St × (St × (St))) × (St) × (St)) (dw_X19 a ac) r) {g2 : Int32 → (St × (St) × (St × (St × (St))) × (St) × (St)) → Option (Int32 × (St × (St) × (St × (St × (St))) × (St) × (St)))} (J2 : dj_X19_hit_2 p l e s m args below meth c Q A dC dI a ac g2 r) : dj_X19_hit_2 p l e s m args below meth c Q A dC dI a ac (dF_X19_hit_2 n g2) r := by
  obtain ⟨hlt, hx, hb, hml, hown, hts, hN, hA, hK⟩ := id C
  intro x1 s0 H locs ls h hP hD hS hl
  unfold dF_X19_hit_2 at h
  refine lv_iload_n hx hb dX19_hit_2 rfl (lv_at hl 1 rfl) ?_
  refine lv_bipush (v := 8) hx hb dX19_hit_3 (by decide) ?_
  refine lv_icmp_ge (tgt := 38) hx hb dX19_hit_5 (by decide) (fun c1 => ?_) (fun c1 => ?_)
  · have h := nd_pos h c1
    exact (db_X19_hit_38 C K) (x1) s0 _ _ _ h hP hD hS (lv_sub hl [1] rfl)
  · have h := nd_neg h c1
    refine lv_aload_n hx hb dX19_hit_8 rfl (lv_at hl 0 rfl) ?_
    refine va_get (D := (dC, dI)) (ci := 20) (v := .ref (a 27)) (C := RX19) (T := TX19) (N := 36) hx hb hts hi_dm_X19_hit_X19 hown hK hP 0 rfl rfl 14 (by decide) (hts (.fieldLink RX19 67 "TimeMachineModel" "conditions" "LTimeMachineModel$Conditions;") (List.mem_of_getElem? (i := 1) rfl)) (fun _ h9 => h9) rfl dX19_hit_9 ?_
    refine lv_iload_n hx hb dX19_hit_12 rfl (lv_at hl 1 rfl) ?_
    obtain ⟨q3, s4, hq, h⟩ := nd_b2_e h
    have hPc := dp_X19_27 hP
    have hDc := dd_X19_27 hD
    have hKc := dy_X19_27 hK
    have hFc := nd_rs hDc hS hA
    have hzA : ∀ q : Nat, H.size ≤ q → A q := fun q h => hA q (Nat.le_trans hS.1 h)
    refine nd_cVi (As := [.int x1]) (rest := []) (q := q3) (w' := dw_X15 (fun k => a (k + 27)) (fun k => ac (k + 27)) s4) ⟨hx, hb, hml, hown, hts⟩ (fun sz => dm_X15_isThere l hlt dC dI (fun k => a (k + 27)) (fun k => ac (k + 27)) n (x1) s0.2.2.1 hq sz) (cwV 1 hts gi_dm_X19_hit_0 rfl rfl rfl (by decide +kernel) ⟨Nat.le_of_ble_eq_true rfl, Nat.le_of_ble_eq_true rfl⟩) hPc hDc hKc hS hA hN (va_recv hKc hPc (ci := 16) (q0 := 0) rfl rfl) rfl hl.1 rfl (Nat.le_of_ble_eq_true rfl) dX19_hit_13 (fun H locs hP1 hD1 hk1 hS => ?_)
    obtain ⟨hP, hD⟩ := dn_X19_27 hP hD hzA hk1 hP1 hD1
    obtain ⟨s6, es6, h⟩ := nd_let_e h
    have hP : va_P (dC, dI) vwCl (dw_X19 a ac s6) H := by rw [es6]; exact hP
    have hD : va_D A (dw_X19 a ac s6) := by rw [es6]; exact hD
    refine lv_if_eq (tgt := 32) hx hb dX19_hit_16 (by decide) (fun c7 => ?_) (fun c7 => ?_)
    · have h := nd_pos h c7
      exact (db_X19_hit_32 C K J2) (x1) s6 _ _ _ h hP hD hS (lv_sub hl [0, 1] rfl)
    · have h := nd_neg h c7
      refine lv_aload_n hx hb dX19_hit_19 rfl (lv_at hl 0 rfl) ?_
      refine va_get (D := (dC, dI)) (ci := 20) (v := .ref (a 27)) (C := RX19) (T := TX19) (N := 36) hx hb hts hi_dm_X19_hit_X19 hown hK hP 0 rfl rfl 14 (by decide) (hts (.fieldLink RX19 67 "TimeMachineModel" "conditions" "LTimeMachineModel$Conditions;") (List.mem_of_getElem? (i := 1) rfl)) (fun _ h9 => h9) rfl dX19_hit_20 ?_
      refine lv_iload_n hx hb dX19_hit_23 rfl (lv_at hl 1 rfl) ?_
      obtain ⟨q9, s10, hq, h⟩ := nd_b2_e h
      have hPc := dp_X19_27 hP
      have hDc := dd_X19_27 hD
      have hKc := dy_X19_27 hK
      have hFc := nd_rs hDc hS hA
      have hzA : ∀ q : Nat, H.size ≤ q → A q := fun q h => hA q (Nat.le_trans hS.1 h)
      refine nd_cVl (As := [.int x1]) (rest := []) (q := q9) (w' := dw_X15 (fun k => a (k + 27)) (fun k => ac (k + 27)) s10) ⟨hx, hb, hml, hown, hts⟩ (fun sz => dm_X15_value l hlt dC dI (fun k => a (k + 27)) (fun k => ac (k + 27)) n (x1) s6.2.2.1 hq sz) (cwV 1 hts gi_dm_X19_hit_1 rfl rfl rfl (by decide +kernel) ⟨Nat.le_of_ble_eq_true rfl, Nat.le_of_ble_eq_true rfl⟩) hPc hDc hKc hS hA hN (va_recv hKc hPc (ci := 16) (q0 := 0) rfl rfl) rfl hl.1 rfl (Nat.le_of_ble_eq_true rfl) dX19_hit_24 (fun H locs hP1 hD1 hk1 hS => ?_)
      obtain ⟨hP, hD⟩ := dn_X19_27 hP hD hzA hk1 hP1 hD1
      obtain ⟨s12, es12, h⟩ := nd_let_e h
      have hP : va_P (dC, dI) vwCl (dw_X19 a ac s12) H := by rw [es12]; exact hP
      have hD : va_D A (dw_X19 a ac s12) := by rw [es12]; exact hD
      refine lv_lconst (v := 0) hx hb dX19_hit_27 (by decide) ?_
      refine W.lcmp hx hb dX19_hit_28 ?_
      refine lv_if_ne (tgt := 38) hx hb dX19_hit_29 (by decide) (fun c13 => ?_) (fun c13 => ?_)
      · have h := nd_neg h c13
        exact (db_X19_hit_38 C K) (x1) s12 _ _ _ h hP hD hS (lv_sub hl [1] rfl)
      · have h := nd_pos h c13
        exact (db_X19_hit_32 C K J2) (x1) s12 _ _ _ h hP hD hS (lv_sub hl [0, 1] rfl)
set_option maxHeartbeats 40000000 in
set_option maxRecDepth 100000 in
theorem db_X19_hit_2 {p : Program} {l : Launch} {e : Env} {s : State} {m : MethodId} {args : Array Value} {below : List Frame} {meth : Method} {c : Code} {Q : State → Prop} {A : Nat → Prop} {dC : Nat → ClassId} {dI : Nat → Nat → Nat} {a : Nat → Nat} {ac : Nat → ClassId} {n : Nat} {r : Int32 × (St × (St) × (St × (St × (St))) × (St) × (St))} (C : nd_C p l s m args c A (dC, dI) cX19_hit 2 RX19 ow_dm_X19_hit (dk_X19 ac)) (K : nd_Ki p l e (headSpec ow_dm_X19_hit ({ frames := 7, cells := 0, slots := 0, locals := 164 })).room s m args below meth c Q A (dC, dI) cX19_hit .int (St × (St) × (St × (St × (St))) × (St) × (St)) (dw_X19 a ac) r) (k : Nat) : dj_X19_hit_2 p l e s m args below meth c Q A dC dI a ac (df_X19_hit_2 n k) r := by
  induction k with
  | zero => intro x1 s0 H locs ls h; exact nomatch (show (none : Option (Int32 × (St × (St) × (St × (St × (St))) × (St) × (St)))) = some r from h)
  | succ k ih => exact dB_X19_hit_2 C K ih
set_option maxHeartbeats 40000000 in
set_option maxRecDepth 100000 in
theorem db_X19_hit_0 {p : Program} {l : Launch} {e : Env} {s : State} {m : MethodId} {args : Array Value} {below : List Frame} {meth : Method} {c : Code} {Q : State → Prop} {A : Nat → Prop} {dC : Nat → ClassId} {dI : Nat → Nat → Nat} {a : Nat → Nat} {ac : Nat → ClassId} {n : Nat} {r : Int32 × (St × (St) × (St × (St × (St))) × (St) × (St))} (C : nd_C p l s m args c A (dC, dI) cX19_hit 2 RX19 ow_dm_X19_hit (dk_X19 ac)) (K : nd_Ki p l e (headSpec ow_dm_X19_hit ({ frames := 7, cells := 0, slots := 0, locals := 164 })).room s m args below meth c Q A (dC, dI) cX19_hit .int (St × (St) × (St × (St × (St))) × (St) × (St)) (dw_X19 a ac) r) : dj_X19_hit_0 p l e s m args below meth c Q A dC dI a ac (df_X19_hit_0 n) r := by
  obtain ⟨hlt, hx, hb, hml, hown, hts, hN, hA, hK⟩ := id C
  intro s0 H locs ls h hP hD hS hl
  unfold df_X19_hit_0 at h
  refine lv_iconst (v := 0) hx hb dX19_hit_0 (by decide) ?_
  refine lv_istore_n (lv' := [(1, .int 0), (0, .ref (a 0))]) hx hb dX19_hit_1 rfl hl (by decide) rfl (fun ls hl => ?_)
  exact (db_X19_hit_2 C K n) (0) s0 _ _ _ h hP hD hS (lv_sub hl [1, 0] rfl)
set_option maxHeartbeats 40000000 in
set_option maxRecDepth 100000 in
theorem dm_X19_hit (l : Launch) (hlt : l.stackTraces = false) (dC : Nat → ClassId) (dI : Nat → Nat → Nat) (a : Nat → Nat) (ac : Nat → ClassId) (n : Nat) (s0 : St × (St) × (St × (St × (St))) × (St) × (St)) {r : Int32 × (St × (St) × (St × (St × (St))) × (St) × (St))} (h : df_X19_hit n s0 = some r) (sz : Nat) : Met l yX19_hit ow_dm_X19_hit ({ frames := 7, cells := 0, slots := 0, locals := 164 }) (va_Pc [.ref (a 0)] (fun U => U.heap.size = sz ∧ va_P (dC, dI) vwCl (dw_X19 a ac s0) U.heap ∧ va_K (dC, dI) vwCl (dk_X19 ac) U ∧ va_D (fun _ => True) (dw_X19 a ac s0) ∧ nv_E dI (va_A (dw_X19 a ac s0) sz) U)) (va_Qi (fun x _ => x = r.1) (fun (_ : Unit) t => va_P (dC, dI) vwCl (dw_X19 a ac r.2) t.heap ∧ va_K (dC, dI) vwCl (dk_X19 ac) t ∧ va_D (va_A (dw_X19 a ac s0) sz) (dw_X19 a ac r.2)) (va_A (dw_X19 a ac s0) sz)) 0 0 (va_A (dw_X19 a ac s0) sz) := by
  refine Met.ofW (cc := cX19_hit) (maxL := 2) (ret := (some .int)) (by decide) rfl ?_
  intro p e s m args below meth c s₁ B hml hv
  obtain ⟨rfl, hsz, hP, hK, hD0, hN⟩ := hv
  have hx := B.exec
  have hb := B.bytes
  have hr := B.returns
  have hts := atoms_spec (ws := ow_dm_X19_hit) B.pre
  have hown : s.vm.findClass RX19 = some m.cls := findClass_of_methodNamed B.named
  have hlocks := B.notSynchronized
  subst hsz
  have hD := hD0.self (sz := s.heap.size)
  generalize hAe : va_A (dw_X19 a ac s0) s.heap.size = A at hD hN ⊢
  have hA : ∀ q : Nat, s.heap.size ≤ q → A q := fun q h => by rw [← hAe]; exact Or.inr h
  have hl := lv_entry ([.ref (a 0)]) (n := 2) (Nat.le_of_ble_eq_true rfl)
  rw [lg_entry_eq]
  generalize (lg_sl ([.ref (a 0)]) ++ List.replicate (2 - (lg_sl ([.ref (a 0)])).length) Slot.unset).toArray = ls at hl ⊢
  have hl : lv_has ls 2 [(0, .ref (a 0))] := hl
  exact db_X19_hit_0 (dC := dC) (dI := dI) (a := a) (ac := ac) (n := n) (r := r) ⟨hlt, hx, hb, hml, hown, hts, hN, hA, hK⟩ (fun pc v τ H locs ls d z er hP hD hS => by subst er; exact W.zret (v := v) hx hb hr z (fun t ht hW => ⟨⟨v, (), rfl, rfl, by rw [ht]; exact hP, va_K.moved hW.alike hK, hD⟩, hS.F ht⟩) hS.2.2 d) s0 _ _ _ h hP hD va_S.rf (lv_sub hl [0] rfl)
def ow_dm_X19_remember : List Cond := Cond.code yX19_remember cX19_remember 2 none :: ([Cond.fieldLink RX19 67 "TimeMachineModel" "conditions" "LTimeMachineModel$Conditions;", Cond.methodLink RX19 273 yX15_isThere, Cond.instanceMethod yX15_isThere, Cond.selects RX15 yX15_isThere yX15_isThere, Cond.initialized RX15, Cond.methodLink RX19 280 yX15_remember, Cond.instanceMethod yX15_remember, Cond.selects RX15 yX15_remember yX15_remember] ++ (u_ws RX19 TX19 36 ++ (ow_dm_X15_isThere ++ (ow_dm_X15_remember ++ []))))
theorem gd_dm_X19_remember : ∀ w ∈ ow_dm_X19_remember, (w.onTables && w.keeps) = true ∨ ∃ ty, w = Cond.arrayClass ty := List.forall_mem_cons.mpr ⟨good_of_word rfl, List.forall_mem_append.mpr ⟨fun w h => good_of_word (List.all_eq_true.mp (by decide +kernel) w h), List.forall_mem_append.mpr ⟨gu_X19, List.forall_mem_append.mpr ⟨gd_dm_X15_isThere, List.forall_mem_append.mpr ⟨gd_dm_X15_remember, fun _ h => nomatch h⟩⟩⟩⟩⟩
theorem hi_dm_X19_remember_X19 : ∀ w ∈ u_ws RX19 TX19 36, w ∈ ow_dm_X19_remember := fun w h => List.mem_cons_of_mem _ (List.mem_append_right _ (List.mem_append_left _ h))
theorem gi_dm_X19_remember_0 : GoodIn ow_dm_X19_remember (wsV RX19 273 RX15 yX15_isThere ow_dm_X15_isThere) := goodIn_app (goodIn_of _ (by decide +kernel)) (fun w h => ⟨List.mem_cons_of_mem _ (List.mem_append_right _ (List.mem_append_right _ (List.mem_append_left _ h))), gd_dm_X15_isThere w h⟩)
theorem gi_dm_X19_remember_1 : GoodIn ow_dm_X19_remember (wsV RX19 280 RX15 yX15_remember ow_dm_X15_remember) := goodIn_app (goodIn_of _ (by decide +kernel)) (fun w h => ⟨List.mem_cons_of_mem _ (List.mem_append_right _ (List.mem_append_right _ (List.mem_append_right _ (List.mem_append_left _ h)))), gd_dm_X15_remember w h⟩)
def dj_X19_remember_27 (p : Program) (l : Launch) (e : Env) (s : State) (m : MethodId) (args : Array Value) (below : List Frame) (meth : Method) (c : Code) (Q : State → Prop) (A : Nat → Prop) (dC : Nat → ClassId) (dI : Nat → Nat → Nat) (a : Nat → Nat) (ac : Nat → ClassId) (g : Int32 → (St × (St) × (St × (St × (St))) × (St) × (St)) → Option (St × (St) × (St × (St × (St))) × (St) × (St))) (r : St × (St) × (St × (St × (St))) × (St) × (St)) : Prop := ∀ (x1 : Int32) (s0 : St × (St) × (St × (St × (St))) × (St) × (St)) (H : Heap) (locs : List Loc) (ls : Array Slot), g x1 s0 = some r → va_P (dC, dI) vwCl (dw_X19 a ac s0) H → va_D A (dw_X19 a ac s0) → va_S A s.heap H locs → lv_has ls 2 [(0, .ref (a 0)), (1, .int x1)] → W p l e (headSpec ow_dm_X19_remember ({ frames := 7, cells := 0, slots := 0, locals := 166 })).room s m args below meth c H locs 0 0 Q (F0 m 27 ls [])
def dj_X19_remember_2 (p : Program) (l : Launch) (e : Env) (s : State) (m : MethodId) (args : Array Value) (below : List Frame) (meth : Method) (c : Code) (Q : State → Prop) (A : Nat → Prop) (dC : Nat → ClassId) (dI : Nat → Nat → Nat) (a : Nat → Nat) (ac : Nat → ClassId) (g : Int32 → (St × (St) × (St × (St × (St))) × (St) × (St)) → Option (St × (St) × (St × (St × (St))) × (St) × (St))) (r : St × (St) × (St × (St × (St))) × (St) × (St)) : Prop := ∀ (x1 : Int32) (s0 : St × (St) × (St × (St × (St))) × (St) × (St)) (H : Heap) (locs : List Loc) (ls : Array Slot), g x1 s0 = some r → va_P (dC, dI) vwCl (dw_X19 a ac s0) H → va_D A (dw_X19 a ac s0) → va_S A s.heap H locs → lv_has ls 2 [(0, .ref (a 0)), (1, .int x1)] → W p l e (headSpec ow_dm_X19_remember ({ frames := 7, cells := 0, slots := 0, locals := 166 })).room s m args below meth c H locs 0 0 Q (F0 m 2 ls [])
def dj_X19_remember_0 (p : Program) (l : Launch) (e : Env) (s : State) (m : MethodId) (args : Array Value) (below : List Frame) (meth : Method) (c : Code) (Q : State → Prop) (A : Nat → Prop) (dC : Nat → ClassId) (dI : Nat → Nat → Nat) (a : Nat → Nat) (ac : Nat → ClassId) (g : (St × (St) × (St × (St × (St))) × (St) × (St)) → Option (St × (St) × (St × (St × (St))) × (St) × (St))) (r : St × (St) × (St × (St × (St))) × (St) × (St)) : Prop := ∀ (s0 : St × (St) × (St × (St × (St))) × (St) × (St)) (H : Heap) (locs : List Loc) (ls : Array Slot), g s0 = some r → va_P (dC, dI) vwCl (dw_X19 a ac s0) H → va_D A (dw_X19 a ac s0) → va_S A s.heap H locs → lv_has ls 2 [(0, .ref (a 0))] → W p l e (headSpec ow_dm_X19_remember ({ frames := 7, cells := 0, slots := 0, locals := 166 })).room s m args below meth c H locs 0 0 Q (F0 m 0 ls [])

