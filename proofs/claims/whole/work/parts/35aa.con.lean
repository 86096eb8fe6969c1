def ow_dm_X9_open : List Cond := Cond.code yX9_open cX9_open 2 none :: ([Cond.fieldLink RX9 9 "TimeMachine$Reader" "source" "[B", Cond.fieldLink RX9 39 "TimeMachine$Reader" "codes" "I", Cond.fieldLink RX9 43 "TimeMachine$Reader" "names" "I", Cond.fieldLink RX9 46 "TimeMachine$Reader" "labels" "I", Cond.fieldLink RX9 30 "TimeMachine$Reader" "bucket" "[I", Cond.methodLink RX9 49 yJ7_fill_53178, Cond.static yJ7_fill_53178, Cond.initialized RJ7, Cond.fieldLink RX9 33 "TimeMachine$Reader" "near" "[I"] ++ (u_ws RX9 TX9 20 ++ (ow_dm_J7_fill_53178 ++ [])))
theorem gd_dm_X9_open : ∀ w ∈ ow_dm_X9_open, (w.onTables && w.keeps) = true ∨ ∃ ty, w = Cond.arrayClass ty := List.forall_mem_cons.mpr ⟨good_of_word rfl, List.forall_mem_append.mpr ⟨fun w h => good_of_word (List.all_eq_true.mp (by decide +kernel) w h), List.forall_mem_append.mpr ⟨gu_X9, List.forall_mem_append.mpr ⟨gd_dm_J7_fill_53178, fun _ h => nomatch h⟩⟩⟩⟩
theorem hi_dm_X9_open_X9 : ∀ w ∈ u_ws RX9 TX9 20, w ∈ ow_dm_X9_open := fun w h => List.mem_cons_of_mem _ (List.mem_append_right _ (List.mem_append_left _ h))
theorem gi_dm_X9_open_0 : GoodIn ow_dm_X9_open (va_wsS RX9 49 yJ7_fill_53178 ow_dm_J7_fill_53178) := goodIn_app (goodIn_of _ (by decide +kernel)) (fun w h => ⟨List.mem_cons_of_mem _ (List.mem_append_right _ (List.mem_append_right _ (List.mem_append_left _ h))), gd_dm_J7_fill_53178 w h⟩)
def dj_X9_open_0 (p : Program) (l : Launch) (e : Env) (s : State) (m : MethodId) (args : Array Value) (below : List Frame) (meth : Method) (c : Code) (Q : State → Prop) (A : Nat → Prop) (dC : Nat → ClassId) (dI : Nat → Nat → Nat) (a : Nat → Nat) (ac : Nat → ClassId) (g : (St) → Option (St)) (r : St) : Prop := ∀ (s0 : St) (H : Heap) (locs : List Loc) (ls : Array Slot), g s0 = some r → va_P (dC, dI) vwCl (dw_X9 a ac s0) H → va_D A (dw_X9 a ac s0) → va_S A s.heap H locs → lv_has ls 2 [(0, .ref (a 0)), (1, .ref (a 8))] → W p l e (headSpec ow_dm_X9_open ({ frames := 1, cells := 0, slots := 0, locals := 23 })).room s m args below meth c H locs 0 0 Q (F0 m 0 ls [])
set_option maxHeartbeats 40000000 in
set_option maxRecDepth 100000 in
theorem db_X9_open_0 {p : Program} {l : Launch} {e : Env} {s : State} {m : MethodId} {args : Array Value} {below : List Frame} {meth : Method} {c : Code} {Q : State → Prop} {A : Nat → Prop} {dC : Nat → ClassId} {dI : Nat → Nat → Nat} {a : Nat → Nat} {ac : Nat → ClassId} {n : Nat} {r : St} (C : nd_C p l s m args c A (dC, dI) cX9_open 2 RX9 ow_dm_X9_open (dk_X9 ac)) (K : nd_Kv p l e (headSpec ow_dm_X9_open ({ frames := 1, cells := 0, slots := 0, locals := 23 })).room s m args below meth c Q A (dC, dI) cX9_open (St) (dw_X9 a ac) r) : dj_X9_open_0 p l e s m args below meth c Q A dC dI a ac (df_X9_open_0 n) r := by
  obtain ⟨hlt, hx, hb, hml, hown, hts, hN, hA, hK⟩ := id C
  intro s0 H locs ls h hP hD hS hl
  unfold df_X9_open_0 at h
  refine lv_aload_n hx hb dX9_open_0 rfl (lv_at hl 0 rfl) ?_
  refine lv_aload_n hx hb dX9_open_1 rfl (lv_at hl 1 rfl) ?_
  refine va_put (D := (dC, dI)) (ci := 10) (v := .ref (a 8)) (ty := .array .byte) (C := RX9) (T := TX9) (N := 20) hx hb hts hi_dm_X9_open_X9 tyX9 tyX9_ok nmX9 hown hK hP hD hS 0 rfl rfl 0 (by decide) (hts (.fieldLink RX9 9 "TimeMachine$Reader" "source" "[B") (List.mem_of_getElem? (i := 1) rfl)) (fun _ h9 => h9) rfl (by decide +kernel) rfl rfl (Nat.le_of_ble_eq_true rfl) dX9_open_2 (fun H locs hP hD hS => ?_)
  obtain ⟨s1, es1, h⟩ := nd_let_e h
  have hP : va_P (dC, dI) vwCl (dw_X9 a ac s1) H := by rw [es1]; exact hP
  have hD : va_D A (dw_X9 a ac s1) := by rw [es1]; exact hD
  refine lv_aload_n hx hb dX9_open_5 rfl (lv_at hl 0 rfl) ?_
  refine lv_iconst (v := 0) hx hb dX9_open_6 (by decide) ?_
  refine va_put (D := (dC, dI)) (ci := 10) (v := .int 0) (ty := .int) (C := RX9) (T := TX9) (N := 20) hx hb hts hi_dm_X9_open_X9 tyX9 tyX9_ok nmX9 hown hK hP hD hS 0 rfl rfl 8 (by decide) (hts (.fieldLink RX9 39 "TimeMachine$Reader" "codes" "I") (List.mem_of_getElem? (i := 2) rfl)) (fun _ h9 => h9) rfl (by decide +kernel) rfl rfl (Nat.le_of_ble_eq_true rfl) dX9_open_7 (fun H locs hP hD hS => ?_)
  obtain ⟨s2, es2, h⟩ := nd_let_e h
  have hP : va_P (dC, dI) vwCl (dw_X9 a ac s2) H := by rw [es2]; exact hP
  have hD : va_D A (dw_X9 a ac s2) := by rw [es2]; exact hD
  refine lv_aload_n hx hb dX9_open_10 rfl (lv_at hl 0 rfl) ?_
  refine lv_iconst (v := 0) hx hb dX9_open_11 (by decide) ?_
  refine va_put (D := (dC, dI)) (ci := 10) (v := .int 0) (ty := .int) (C := RX9) (T := TX9) (N := 20) hx hb hts hi_dm_X9_open_X9 tyX9 tyX9_ok nmX9 hown hK hP hD hS 0 rfl rfl 13 (by decide) (hts (.fieldLink RX9 43 "TimeMachine$Reader" "names" "I") (List.mem_of_getElem? (i := 3) rfl)) (fun _ h9 => h9) rfl (by decide +kernel) rfl rfl (Nat.le_of_ble_eq_true rfl) dX9_open_12 (fun H locs hP hD hS => ?_)
  obtain ⟨s3, es3, h⟩ := nd_let_e h
  have hP : va_P (dC, dI) vwCl (dw_X9 a ac s3) H := by rw [es3]; exact hP
  have hD : va_D A (dw_X9 a ac s3) := by rw [es3]; exact hD
  refine lv_aload_n hx hb dX9_open_15 rfl (lv_at hl 0 rfl) ?_
  refine lv_iconst (v := 0) hx hb dX9_open_16 (by decide) ?_
  refine va_put (D := (dC, dI)) (ci := 10) (v := .int 0) (ty := .int) (C := RX9) (T := TX9) (N := 20) hx hb hts hi_dm_X9_open_X9 tyX9 tyX9_ok nmX9 hown hK hP hD hS 0 rfl rfl 17 (by decide) (hts (.fieldLink RX9 46 "TimeMachine$Reader" "labels" "I") (List.mem_of_getElem? (i := 4) rfl)) (fun _ h9 => h9) rfl (by decide +kernel) rfl rfl (Nat.le_of_ble_eq_true rfl) dX9_open_17 (fun H locs hP hD hS => ?_)
  obtain ⟨s4, es4, h⟩ := nd_let_e h
  have hP : va_P (dC, dI) vwCl (dw_X9 a ac s4) H := by rw [es4]; exact hP
  have hD : va_D A (dw_X9 a ac s4) := by rw [es4]; exact hD
  refine lv_aload_n hx hb dX9_open_20 rfl (lv_at hl 0 rfl) ?_
  refine va_get (D := (dC, dI)) (ci := 10) (v := .ref (a 5)) (C := RX9) (T := TX9) (N := 20) hx hb hts hi_dm_X9_open_X9 hown hK hP 0 rfl rfl 14 (by decide) (hts (.fieldLink RX9 30 "TimeMachine$Reader" "bucket" "[I") (List.mem_of_getElem? (i := 5) rfl)) (fun _ h9 => h9) rfl dX9_open_21 ?_
  refine lv_iconst (v := 0) hx hb dX9_open_24 (by decide) ?_
  have hcl : (dw_X9 a ac s4)[5]? = some ((a 5), .inl (ac 5, 256, .inl (sR s4 4))) := rfl
  have hPc := nd_c1 hP hcl
  have hDc := nd_cd hD hcl
  have hKc : va_K (dC, dI) vwCl [(ac 5, .int)] s := hK.sub [4] rfl
  have hFc := nd_rs hDc hS hA
  refine va_callv (va_runS (As := [.ref (a 5), .int 0]) (rest := []) ⟨hx, hb, hml, hown, hts⟩ (dm_J7_fill_53178 l hlt dC dI (a 5) (ac 5) 256 (by decide) (sR s4 4) 0 _) (va_cwS 2 hts gi_dm_X9_open_0 rfl rfl rfl (by decide +kernel) ⟨Nat.le_of_ble_eq_true rfl, Nat.le_of_ble_eq_true rfl⟩) ⟨fun a U g mk q => by obtain ⟨q0, q1, qP, qK, qD, qN⟩ := q; exact ⟨q0, q1, qP, va_K.moved (u := U) (U := U.calling g mk a) (Vm.Alike.refl U.vm) qK, qD, nv_same rfl rfl qN⟩, fun U hU hW => ⟨rfl, by rw [hU], by rw [hU]; exact hPc, va_K.moved hW.alike hKc, hDc.weaken (fun _ _ _ _ => trivial), nv_call hS hFc hU hW hN⟩⟩ rfl rfl hl.1 rfl (lv_room (Nat.le_of_ble_eq_true rfl)) dX9_open_25 ⟨by decide +kernel, by decide +kernel⟩) hS (fun q _ h => hFc q h) hFc (fun u t H locs ht hvm hw hB hz1 hk1 hS => ?_)
  obtain ⟨hP1, -, hD1⟩ := hB
  rw [ht] at hP1
  have hP := nd_cs hP hD hcl hk1 hP1
  have hD := hD.set (e := .inl (ac 5, 256, .inl (nd_fl 256 0 (sR s4 4)))) hcl
  refine W.widen (k := 0) (n := 0) (Nat.le_refl _) (Nat.le_refl _) ?_
  obtain ⟨s5, es5, h⟩ := nd_let_e h
  have hP : va_P (dC, dI) vwCl (dw_X9 a ac s5) H := by rw [es5]; exact hP
  have hD : va_D A (dw_X9 a ac s5) := by rw [es5]; exact hD
  refine lv_aload_n hx hb dX9_open_28 rfl (lv_at hl 0 rfl) ?_
  refine va_get (D := (dC, dI)) (ci := 10) (v := .ref (a 6)) (C := RX9) (T := TX9) (N := 20) hx hb hts hi_dm_X9_open_X9 hown hK hP 0 rfl rfl 15 (by decide) (hts (.fieldLink RX9 33 "TimeMachine$Reader" "near" "[I") (List.mem_of_getElem? (i := 9) rfl)) (fun _ h9 => h9) rfl dX9_open_29 ?_
  refine lv_iconst (v := 0) hx hb dX9_open_32 (by decide) ?_
  have hcl : (dw_X9 a ac s5)[6]? = some ((a 6), .inl (ac 6, 20, .inl (sR s5 5))) := rfl
  have hPc := nd_c1 hP hcl
  have hDc := nd_cd hD hcl
  have hKc : va_K (dC, dI) vwCl [(ac 6, .int)] s := hK.sub [5] rfl
  have hFc := nd_rs hDc hS hA
  refine va_callv (va_runS (As := [.ref (a 6), .int 0]) (rest := []) ⟨hx, hb, hml, hown, hts⟩ (dm_J7_fill_53178 l hlt dC dI (a 6) (ac 6) 20 (by decide) (sR s5 5) 0 _) (va_cwS 2 hts gi_dm_X9_open_0 rfl rfl rfl (by decide +kernel) ⟨Nat.le_of_ble_eq_true rfl, Nat.le_of_ble_eq_true rfl⟩) ⟨fun a U g mk q => by obtain ⟨q0, q1, qP, qK, qD, qN⟩ := q; exact ⟨q0, q1, qP, va_K.moved (u := U) (U := U.calling g mk a) (Vm.Alike.refl U.vm) qK, qD, nv_same rfl rfl qN⟩, fun U hU hW => ⟨rfl, by rw [hU], by rw [hU]; exact hPc, va_K.moved hW.alike hKc, hDc.weaken (fun _ _ _ _ => trivial), nv_call hS hFc hU hW hN⟩⟩ rfl rfl hl.1 rfl (lv_room (Nat.le_of_ble_eq_true rfl)) dX9_open_33 ⟨by decide +kernel, by decide +kernel⟩) hS (fun q _ h => hFc q h) hFc (fun u t H locs ht hvm hw hB hz1 hk1 hS => ?_)
  obtain ⟨hP1, -, hD1⟩ := hB
  rw [ht] at hP1
  have hP := nd_cs hP hD hcl hk1 hP1
  have hD := hD.set (e := .inl (ac 6, 20, .inl (nd_fl 20 0 (sR s5 5)))) hcl
  refine W.widen (k := 0) (n := 0) (Nat.le_refl _) (Nat.le_refl _) ?_
  obtain ⟨s6, es6, h⟩ := nd_let_e h
  have hP : va_P (dC, dI) vwCl (dw_X9 a ac s6) H := by rw [es6]; exact hP
  have hD : va_D A (dw_X9 a ac s6) := by rw [es6]; exact hD
  exact K _ _ _ _ _ dX9_open_36 (Option.some.inj h).symm hP hD hS
set_option maxHeartbeats 40000000 in
set_option maxRecDepth 100000 in
theorem dm_X9_open (l : Launch) (hlt : l.stackTraces = false) (dC : Nat → ClassId) (dI : Nat → Nat → Nat) (a : Nat → Nat) (ac : Nat → ClassId) (n : Nat) (s0 : St) {r : St} (h : df_X9_open n s0 = some r) (sz : Nat) : Met l yX9_open ow_dm_X9_open ({ frames := 1, cells := 0, slots := 0, locals := 23 }) (va_Pc [.ref (a 0), .ref (a 8)] (fun U => U.heap.size = sz ∧ va_P (dC, dI) vwCl (dw_X9 a ac s0) U.heap ∧ va_K (dC, dI) vwCl (dk_X9 ac) U ∧ va_D (fun _ => True) (dw_X9 a ac s0) ∧ nv_E dI (va_A (dw_X9 a ac s0) sz) U)) (va_Qv (fun _ => True) (fun (_ : Unit) t => va_P (dC, dI) vwCl (dw_X9 a ac r) t.heap ∧ va_K (dC, dI) vwCl (dk_X9 ac) t ∧ va_D (va_A (dw_X9 a ac s0) sz) (dw_X9 a ac r)) (va_A (dw_X9 a ac s0) sz)) 0 0 (va_A (dw_X9 a ac s0) sz) := by
  refine Met.ofW (cc := cX9_open) (maxL := 2) (ret := none) (by decide) rfl ?_
  intro p e s m args below meth c s₁ B hml hv
  obtain ⟨rfl, hsz, hP, hK, hD0, hN⟩ := hv
  have hx := B.exec
  have hb := B.bytes
  have hr := B.returns
  have hts := atoms_spec (ws := ow_dm_X9_open) B.pre
  have hown : s.vm.findClass RX9 = some m.cls := findClass_of_methodNamed B.named
  have hlocks := B.notSynchronized
  subst hsz
  have hD := hD0.self (sz := s.heap.size)
  generalize hAe : va_A (dw_X9 a ac s0) s.heap.size = A at hD hN ⊢
  have hA : ∀ q : Nat, s.heap.size ≤ q → A q := fun q h => by rw [← hAe]; exact Or.inr h
  have hl := lv_entry ([.ref (a 0), .ref (a 8)]) (n := 2) (Nat.le_of_ble_eq_true rfl)
  rw [lg_entry_eq]
  generalize (lg_sl ([.ref (a 0), .ref (a 8)]) ++ List.replicate (2 - (lg_sl ([.ref (a 0), .ref (a 8)])).length) Slot.unset).toArray = ls at hl ⊢
  have hl : lv_has ls 2 [(0, .ref (a 0)), (1, .ref (a 8))] := hl
  exact db_X9_open_0 (dC := dC) (dI := dI) (a := a) (ac := ac) (n := n) (r := r) ⟨hlt, hx, hb, hml, hown, hts, hN, hA, hK⟩ (fun pc τ H locs ls d er hP hD hS => by subst er; exact W.vret hx hb hr (fun t ht hW => ⟨⟨(), rfl, trivial, by rw [ht]; exact hP, va_K.moved hW.alike hK, hD⟩, hS.F ht⟩) hS.2.2 d) s0 _ _ _ h hP hD va_S.rf (lv_sub hl [0, 1] rfl)
def ow_dm_X1_blame : List Cond := Cond.code yX1_blame cX1_blame 2 none :: ([Cond.fieldLink RX1 32 "TimeMachine$Assembler" "fault" "I"] ++ (u_ws RX1 TX1 13 ++ []))
theorem gd_dm_X1_blame : ∀ w ∈ ow_dm_X1_blame, (w.onTables && w.keeps) = true ∨ ∃ ty, w = Cond.arrayClass ty := List.forall_mem_cons.mpr ⟨good_of_word rfl, List.forall_mem_append.mpr ⟨fun w h => good_of_word (List.all_eq_true.mp (by decide +kernel) w h), List.forall_mem_append.mpr ⟨gu_X1, fun _ h => nomatch h⟩⟩⟩
theorem hi_dm_X1_blame_X1 : ∀ w ∈ u_ws RX1 TX1 13, w ∈ ow_dm_X1_blame := fun w h => List.mem_cons_of_mem _ (List.mem_append_right _ (List.mem_append_left _ h))
def dj_X1_blame_12 (p : Program) (l : Launch) (e : Env) (s : State) (m : MethodId) (args : Array Value) (below : List Frame) (meth : Method) (c : Code) (Q : State → Prop) (A : Nat → Prop) (dC : Nat → ClassId) (dI : Nat → Nat → Nat) (a : Nat → Nat) (ac : Nat → ClassId) (g : (St × (St)) → Option (St × (St))) (r : St × (St)) : Prop := ∀ (s0 : St × (St)) (H : Heap) (locs : List Loc) (ls : Array Slot), g s0 = some r → va_P (dC, dI) vwCl (dw_X1 a ac s0) H → va_D A (dw_X1 a ac s0) → va_S A s.heap H locs → lv_has ls 2 [] → W p l e (headSpec ow_dm_X1_blame ({ frames := 0, cells := 0, slots := 0, locals := 0 })).room s m args below meth c H locs 0 0 Q (F0 m 12 ls [])
def dj_X1_blame_0 (p : Program) (l : Launch) (e : Env) (s : State) (m : MethodId) (args : Array Value) (below : List Frame) (meth : Method) (c : Code) (Q : State → Prop) (A : Nat → Prop) (dC : Nat → ClassId) (dI : Nat → Nat → Nat) (a : Nat → Nat) (ac : Nat → ClassId) (g : Int32 → (St × (St)) → Option (St × (St))) (r : St × (St)) : Prop := ∀ (v0 : Int32) (s0 : St × (St)) (H : Heap) (locs : List Loc) (ls : Array Slot), g v0 s0 = some r → va_P (dC, dI) vwCl (dw_X1 a ac s0) H → va_D A (dw_X1 a ac s0) → va_S A s.heap H locs → lv_has ls 2 [(0, .ref (a 0)), (1, .int v0)] → W p l e (headSpec ow_dm_X1_blame ({ frames := 0, cells := 0, slots := 0, locals := 0 })).room s m args below meth c H locs 0 0 Q (F0 m 0 ls [])
set_option maxHeartbeats 40000000 in
set_option maxRecDepth 100000 in
theorem db_X1_blame_12 {p : Program} {l : Launch} {e : Env} {s : State} {m : MethodId} {args : Array Value} {below : List Frame} {meth : Method} {c : Code} {Q : State → Prop} {A : Nat → Prop} {dC : Nat → ClassId} {dI : Nat → Nat → Nat} {a : Nat → Nat} {ac : Nat → ClassId} {n : Nat} {r : St × (St)} (C : nd_C p l s m args c A (dC, dI) cX1_blame 2 RX1 ow_dm_X1_blame (dk_X1 ac)) (K : nd_Kv p l e (headSpec ow_dm_X1_blame ({ frames := 0, cells := 0, slots := 0, locals := 0 })).room s m args below meth c Q A (dC, dI) cX1_blame (St × (St)) (dw_X1 a ac) r) : dj_X1_blame_12 p l e s m args below meth c Q A dC dI a ac (df_X1_blame_12 n) r := by
  obtain ⟨hlt, hx, hb, hml, hown, hts, hN, hA, hK⟩ := id C
  intro s0 H locs ls h hP hD hS hl
  unfold df_X1_blame_12 at h
  exact K _ _ _ _ _ dX1_blame_12 (Option.some.inj h).symm hP hD hS
set_option maxHeartbeats 40000000 in
set_option maxRecDepth 100000 in
theorem db_X1_blame_0 {p : Program} {l : Launch} {e : Env} {s : State} {m : MethodId} {args : Array Value} {below : List Frame} {meth : Method} {c : Code} {Q : State → Prop} {A : Nat → Prop} {dC : Nat → ClassId} {dI : Nat → Nat → Nat} {a : Nat → Nat} {ac : Nat → ClassId} {n : Nat} {r : St × (St)} (C : nd_C p l s m args c A (dC, dI) cX1_blame 2 RX1 ow_dm_X1_blame (dk_X1 ac)) (K : nd_Kv p l e (headSpec ow_dm_X1_blame ({ frames := 0, cells := 0, slots := 0, locals := 0 })).room s m args below meth c Q A (dC, dI) cX1_blame (St × (St)) (dw_X1 a ac) r) : dj_X1_blame_0 p l e s m args below meth c Q A dC dI a ac (df_X1_blame_0 n) r := by
  obtain ⟨hlt, hx, hb, hml, hown, hts, hN, hA, hK⟩ := id C
  intro v0 s0 H locs ls h hP hD hS hl
  unfold df_X1_blame_0 at h
  refine lv_aload_n hx hb dX1_blame_0 rfl (lv_at hl 0 rfl) ?_
  refine va_get (D := (dC, dI)) (ci := 2) (v := .int (sI s0.1 2)) (C := RX1) (T := TX1) (N := 13) hx hb hts hi_dm_X1_blame_X1 hown hK hP 0 rfl rfl 5 (by decide) (hts (.fieldLink RX1 32 "TimeMachine$Assembler" "fault" "I") (List.mem_of_getElem? (i := 1) rfl)) (fun _ h9 => h9) rfl dX1_blame_1 ?_
  refine lv_if_ne (tgt := 12) hx hb dX1_blame_4 (by decide) (fun c1 => ?_) (fun c1 => ?_)
  · have h := nd_neg h c1
    exact (db_X1_blame_12 C K)  s0 _ _ _ h hP hD hS (lv_sub hl [] rfl)
  · have h := nd_pos h c1
    refine lv_aload_n hx hb dX1_blame_7 rfl (lv_at hl 0 rfl) ?_
    refine lv_iload_n hx hb dX1_blame_8 rfl (lv_at hl 1 rfl) ?_
    refine va_put (D := (dC, dI)) (ci := 2) (v := .int v0) (ty := .int) (C := RX1) (T := TX1) (N := 13) hx hb hts hi_dm_X1_blame_X1 tyX1 tyX1_ok nmX1 hown hK hP hD hS 0 rfl rfl 5 (by decide) (hts (.fieldLink RX1 32 "TimeMachine$Assembler" "fault" "I") (List.mem_of_getElem? (i := 1) rfl)) (fun _ h9 => h9) rfl (by decide +kernel) rfl rfl (Nat.le_of_ble_eq_true rfl) dX1_blame_9 (fun H locs hP hD hS => ?_)
    obtain ⟨s2, es2, h⟩ := nd_let_e h
    have hP : va_P (dC, dI) vwCl (dw_X1 a ac s2) H := by rw [es2]; exact hP
    have hD : va_D A (dw_X1 a ac s2) := by rw [es2]; exact hD
    exact (db_X1_blame_12 C K)  s2 _ _ _ h hP hD hS (lv_sub hl [] rfl)
set_option maxHeartbeats 40000000 in
set_option maxRecDepth 100000 in
theorem dm_X1_blame (l : Launch) (hlt : l.stackTraces = false) (dC : Nat → ClassId) (dI : Nat → Nat → Nat) (a : Nat → Nat) (ac : Nat → ClassId) (n : Nat) (v0 : Int32) (s0 : St × (St)) {r : St × (St)} (h : df_X1_blame n v0 s0 = some r) (sz : Nat) : Met l yX1_blame ow_dm_X1_blame ({ frames := 0, cells := 0, slots := 0, locals := 0 }) (va_Pc [.ref (a 0), .int v0] (fun U => U.heap.size = sz ∧ va_P (dC, dI) vwCl (dw_X1 a ac s0) U.heap ∧ va_K (dC, dI) vwCl (dk_X1 ac) U ∧ va_D (fun _ => True) (dw_X1 a ac s0) ∧ nv_E dI (va_A (dw_X1 a ac s0) sz) U)) (va_Qv (fun _ => True) (fun (_ : Unit) t => va_P (dC, dI) vwCl (dw_X1 a ac r) t.heap ∧ va_K (dC, dI) vwCl (dk_X1 ac) t ∧ va_D (va_A (dw_X1 a ac s0) sz) (dw_X1 a ac r)) (va_A (dw_X1 a ac s0) sz)) 0 0 (va_A (dw_X1 a ac s0) sz) := by
  refine Met.ofW (cc := cX1_blame) (maxL := 2) (ret := none) (by decide) rfl ?_
  intro p e s m args below meth c s₁ B hml hv
  obtain ⟨rfl, hsz, hP, hK, hD0, hN⟩ := hv
  have hx := B.exec
  have hb := B.bytes
  have hr := B.returns
  have hts := atoms_spec (ws := ow_dm_X1_blame) B.pre
  have hown : s.vm.findClass RX1 = some m.cls := findClass_of_methodNamed B.named
  have hlocks := B.notSynchronized
  subst hsz
  have hD := hD0.self (sz := s.heap.size)
  generalize hAe : va_A (dw_X1 a ac s0) s.heap.size = A at hD hN ⊢
  have hA : ∀ q : Nat, s.heap.size ≤ q → A q := fun q h => by rw [← hAe]; exact Or.inr h
  have hl := lv_entry ([.ref (a 0), .int v0]) (n := 2) (Nat.le_of_ble_eq_true rfl)
  rw [lg_entry_eq]
  generalize (lg_sl ([.ref (a 0), .int v0]) ++ List.replicate (2 - (lg_sl ([.ref (a 0), .int v0])).length) Slot.unset).toArray = ls at hl ⊢
  have hl : lv_has ls 2 [(0, .ref (a 0)), (1, .int v0)] := hl
  exact db_X1_blame_0 (dC := dC) (dI := dI) (a := a) (ac := ac) (n := n) (r := r) ⟨hlt, hx, hb, hml, hown, hts, hN, hA, hK⟩ (fun pc τ H locs ls d er hP hD hS => by subst er; exact W.vret hx hb hr (fun t ht hW => ⟨⟨(), rfl, trivial, by rw [ht]; exact hP, va_K.moved hW.alike hK, hD⟩, hS.F ht⟩) hS.2.2 d) v0 s0 _ _ _ h hP hD va_S.rf (lv_sub hl [0, 1] rfl)
def ow_dm_X1_start : List Cond := Cond.code yX1_start cX1_start 6 none :: ([Cond.fieldLink RX1 12 "TimeMachine$Assembler" "reader" "LTimeMachine$Reader;", Cond.methodLink RX1 61 yX9_open, Cond.instanceMethod yX9_open, Cond.selects RX9 yX9_open yX9_open, Cond.initialized RX9, Cond.fieldLink RX1 65 "TimeMachine$Assembler" "statements" "I", Cond.fieldLink RX1 68 "TimeMachine$Assembler" "lettersUsed" "I", Cond.fieldLink RX1 32 "TimeMachine$Assembler" "fault" "I", Cond.fieldLink RX1 36 "TimeMachine$Assembler" "line" "I", Cond.fieldLink RX1 71 "TimeMachine$Assembler" "section" "I", Cond.fieldLink RX1 74 "TimeMachine$Assembler" "constants" "I", Cond.methodLink RX1 77 yX1_blame, Cond.instanceMethod yX1_blame, Cond.selects RX1 yX1_blame yX1_blame, Cond.initialized RX1] ++ (u_ws RX1 TX1 13 ++ (ow_dm_X9_open ++ (ow_dm_X1_blame ++ []))))
theorem gd_dm_X1_start : ∀ w ∈ ow_dm_X1_start, (w.onTables && w.keeps) = true ∨ ∃ ty, w = Cond.arrayClass ty := List.forall_mem_cons.mpr ⟨good_of_word rfl, List.forall_mem_append.mpr ⟨fun w h => good_of_word (List.all_eq_true.mp (by decide +kernel) w h), List.forall_mem_append.mpr ⟨gu_X1, List.forall_mem_append.mpr ⟨gd_dm_X9_open, List.forall_mem_append.mpr ⟨gd_dm_X1_blame, fun _ h => nomatch h⟩⟩⟩⟩⟩
theorem hi_dm_X1_start_X1 : ∀ w ∈ u_ws RX1 TX1 13, w ∈ ow_dm_X1_start := fun w h => List.mem_cons_of_mem _ (List.mem_append_right _ (List.mem_append_left _ h))
theorem gi_dm_X1_start_0 : GoodIn ow_dm_X1_start (wsV RX1 61 RX9 yX9_open ow_dm_X9_open) := goodIn_app (goodIn_of _ (by decide +kernel)) (fun w h => ⟨List.mem_cons_of_mem _ (List.mem_append_right _ (List.mem_append_right _ (List.mem_append_left _ h))), gd_dm_X9_open w h⟩)
theorem gi_dm_X1_start_1 : GoodIn ow_dm_X1_start (wsV RX1 77 RX1 yX1_blame ow_dm_X1_blame) := goodIn_app (goodIn_of _ (by decide +kernel)) (fun w h => ⟨List.mem_cons_of_mem _ (List.mem_append_right _ (List.mem_append_right _ (List.mem_append_right _ (List.mem_append_left _ h)))), gd_dm_X1_blame w h⟩)
def dj_X1_start_112 (p : Program) (l : Launch) (e : Env) (s : State) (m : MethodId) (args : Array Value) (below : List Frame) (meth : Method) (c : Code) (Q : State → Prop) (A : Nat → Prop) (dC : Nat → ClassId) (dI : Nat → Nat → Nat) (a : Nat → Nat) (ac : Nat → ClassId) (g : (St × (St)) → Option (St × (St))) (r : St × (St)) : Prop := ∀ (s0 : St × (St)) (H : Heap) (locs : List Loc) (ls : Array Slot), g s0 = some r → va_P (dC, dI) vwCl (dw_X1 a ac s0) H → va_D A (dw_X1 a ac s0) → va_S A s.heap H locs → lv_has ls 6 [] → W p l e (headSpec ow_dm_X1_start ({ frames := 2, cells := 0, slots := 0, locals := 44 })).room s m args below meth c H locs 0 0 Q (F0 m 112 ls [])
def dj_X1_start_106 (p : Program) (l : Launch) (e : Env) (s : State) (m : MethodId) (args : Array Value) (below : List Frame) (meth : Method) (c : Code) (Q : State → Prop) (A : Nat → Prop) (dC : Nat → ClassId) (dI : Nat → Nat → Nat) (a : Nat → Nat) (ac : Nat → ClassId) (g : Int32 → Int32 → Int32 → (St × (St)) → Option (St × (St))) (r : St × (St)) : Prop := ∀ (x2 : Int32) (x3 : Int32) (x4 : Int32) (s0 : St × (St)) (H : Heap) (locs : List Loc) (ls : Array Slot), g x2 x3 x4 s0 = some r → va_P (dC, dI) vwCl (dw_X1 a ac s0) H → va_D A (dw_X1 a ac s0) → va_S A s.heap H locs → lv_has ls 6 [(0, .ref (a 0)), (1, .ref (a 11)), (2, .int x2), (3, .int x3), (4, .int x4)] → W p l e (headSpec ow_dm_X1_start ({ frames := 2, cells := 0, slots := 0, locals := 44 })).room s m args below meth c H locs 0 0 Q (F0 m 106 ls [])
def dj_X1_start_96 (p : Program) (l : Launch) (e : Env) (s : State) (m : MethodId) (args : Array Value) (below : List Frame) (meth : Method) (c : Code) (Q : State → Prop) (A : Nat → Prop) (dC : Nat → ClassId) (dI : Nat → Nat → Nat) (a : Nat → Nat) (ac : Nat → ClassId) (g : Int32 → Int32 → Int32 → (St × (St)) → Option (St × (St))) (r : St × (St)) : Prop := ∀ (x2 : Int32) (x3 : Int32) (x4 : Int32) (s0 : St × (St)) (H : Heap) (locs : List Loc) (ls : Array Slot), g x2 x3 x4 s0 = some r → va_P (dC, dI) vwCl (dw_X1 a ac s0) H → va_D A (dw_X1 a ac s0) → va_S A s.heap H locs → lv_has ls 6 [(0, .ref (a 0)), (1, .ref (a 11)), (2, .int x2), (3, .int x3), (4, .int x4)] → W p l e (headSpec ow_dm_X1_start ({ frames := 2, cells := 0, slots := 0, locals := 44 })).room s m args below meth c H locs 0 0 Q (F0 m 96 ls [])
def dj_X1_start_43 (p : Program) (l : Launch) (e : Env) (s : State) (m : MethodId) (args : Array Value) (below : List Frame) (meth : Method) (c : Code) (Q : State → Prop) (A : Nat → Prop) (dC : Nat → ClassId) (dI : Nat → Nat → Nat) (a : Nat → Nat) (ac : Nat → ClassId) (g : Int32 → Int32 → Int32 → (St × (St)) → Option (St × (St))) (r : St × (St)) : Prop := ∀ (x2 : Int32) (x3 : Int32) (x4 : Int32) (s0 : St × (St)) (H : Heap) (locs : List Loc) (ls : Array Slot), g x2 x3 x4 s0 = some r → va_P (dC, dI) vwCl (dw_X1 a ac s0) H → va_D A (dw_X1 a ac s0) → va_S A s.heap H locs → lv_has ls 6 [(0, .ref (a 0)), (1, .ref (a 11)), (2, .int x2), (3, .int x3), (4, .int x4)] → W p l e (headSpec ow_dm_X1_start ({ frames := 2, cells := 0, slots := 0, locals := 44 })).room s m args below meth c H locs 0 0 Q (F0 m 43 ls [])
def dj_X1_start_0 (p : Program) (l : Launch) (e : Env) (s : State) (m : MethodId) (args : Array Value) (below : List Frame) (meth : Method) (c : Code) (Q : State → Prop) (A : Nat → Prop) (dC : Nat → ClassId) (dI : Nat → Nat → Nat) (a : Nat → Nat) (ac : Nat → ClassId) (g : Int32 → (St × (St)) → Option (St × (St))) (r : St × (St)) : Prop := ∀ (v1 : Int32) (s0 : St × (St)) (H : Heap) (locs : List Loc) (ls : Array Slot), g v1 s0 = some r → va_P (dC, dI) vwCl (dw_X1 a ac s0) H → va_D A (dw_X1 a ac s0) → va_S A s.heap H locs → lv_has ls 6 [(0, .ref (a 0)), (1, .ref (a 11)), (2, .int v1)] → W p l e (headSpec ow_dm_X1_start ({ frames := 2, cells := 0, slots := 0, locals := 44 })).room s m args below meth c H locs 0 0 Q (F0 m 0 ls [])
set_option maxHeartbeats 40000000 in
set_option maxRecDepth 100000 in
theorem db_X1_start_112 {p : Program} {l : Launch} {e : Env} {s : State} {m : MethodId} {args : Array Value} {below : List Frame} {meth : Method} {c : Code} {Q : State → Prop} {A : Nat → Prop} {dC : Nat → ClassId} {dI : Nat → Nat → Nat} {a : Nat → Nat} {ac : Nat → ClassId} {n : Nat} {r : St × (St)} (C : nd_C p l s m args c A (dC, dI) cX1_start 6 RX1 ow_dm_X1_start (dk_X1 ac)) (K : nd_Kv p l e (headSpec ow_dm_X1_start ({ frames := 2, cells := 0, slots := 0, locals := 44 })).room s m args below meth c Q A (dC, dI) cX1_start (St × (St)) (dw_X1 a ac) r) : dj_X1_start_112 p l e s m args below meth c Q A dC dI a ac (df_X1_start_112 n) r := by
  obtain ⟨hlt, hx, hb, hml, hown, hts, hN, hA, hK⟩ := id C
  intro s0 H locs ls h hP hD hS hl
  unfold df_X1_start_112 at h
  exact K _ _ _ _ _ dX1_start_112 (Option.some.inj h).symm hP hD hS
set_option maxHeartbeats 40000000 in
set_option maxRecDepth 100000 in
theorem db_X1_start_106 {p : Program} {l : Launch} {e : Env} {s : State} {m : MethodId} {args : Array Value} {below : List Frame} {meth : Method} {c : Code} {Q : State → Prop} {A : Nat → Prop} {dC : Nat → ClassId} {dI : Nat → Nat → Nat} {a : Nat → Nat} {ac : Nat → ClassId} {n : Nat} {r : St × (St)} (C : nd_C p l s m args c A (dC, dI) cX1_start 6 RX1 ow_dm_X1_start (dk_X1 ac)) (K : nd_Kv p l e (headSpec ow_dm_X1_start ({ frames := 2, cells := 0, slots := 0, locals := 44 })).room s m args below meth c Q A (dC, dI) cX1_start (St × (St)) (dw_X1 a ac) r) {g43 : Int32 → Int32 → Int32 → (St × (St)) → Option (St × (St))} (J43 : dj_X1_start_43 p l e s m args below meth c Q A dC dI a ac g43 r) : dj_X1_start_106 p l e s m args below meth c Q A dC dI a ac (df_X1_start_106 n g43) r := by
  obtain ⟨hlt, hx, hb, hml, hown, hts, hN, hA, hK⟩ := id C
  intro x2 x3 x4 s0 H locs ls h hP hD hS hl
  unfold df_X1_start_106 at h
  obtain ⟨z17, ez17, h⟩ := nd_let_e h
  refine lv_iinc (v := z17) (lv' := [(4, .int z17), (0, .ref (a 0)), (1, .ref (a 11)), (2, .int x2), (3, .int x3)]) hx hb dX1_start_106 hl (k := 4) rfl (by rw [ez17]) (by decide) rfl (fun ls hl => ?_)
  refine lv_goto (tgt := 43) hx hb dX1_start_109 (by decide) ?_
  exact (J43) (x2) (x3) (z17) s0 _ _ _ h hP hD hS (lv_sub hl [1, 2, 3, 4, 0] rfl)
set_option maxHeartbeats 40000000 in
set_option maxRecDepth 100000 in
theorem db_X1_start_96 {p : Program} {l : Launch} {e : Env} {s : State} {m : MethodId} {args : Array Value} {below : List Frame} {meth : Method} {c : Code} {Q : State → Prop} {A : Nat → Prop} {dC : Nat → ClassId} {dI : Nat → Nat → Nat} {a : Nat → Nat} {ac : Nat → ClassId} {n : Nat} {r : St × (St)} (C : nd_C p l s m args c A (dC, dI) cX1_start 6 RX1 ow_dm_X1_start (dk_X1 ac)) (K : nd_Kv p l e (headSpec ow_dm_X1_start ({ frames := 2, cells := 0, slots := 0, locals := 44 })).room s m args below meth c Q A (dC, dI) cX1_start (St × (St)) (dw_X1 a ac) r) {g43 : Int32 → Int32 → Int32 → (St × (St)) → Option (St × (St))} (J43 : dj_X1_start_43 p l e s m args below meth c Q A dC dI a ac g43 r) : dj_X1_start_96 p l e s m args below meth c Q A dC dI a ac (df_X1_start_96 n g43) r := by
  obtain ⟨hlt, hx, hb, hml, hown, hts, hN, hA, hK⟩ := id C
  intro x2 x3 x4 s0 H locs ls h hP hD hS hl
  unfold df_X1_start_96 at h
  refine lv_aload_n hx hb dX1_start_96 rfl (lv_at hl 0 rfl) ?_
  refine lv_iconst (v := 1) hx hb dX1_start_97 (by decide) ?_
  obtain ⟨s20, hq, h⟩ := nd_b1_e h
  have hPc := hP
  have hDc := hD
  have hKc := hK
  have hFc := nd_rs hD hS hA
  refine nd_cVv (As := [.int 1]) (rest := []) (w' := dw_X1 a ac s20) ⟨hx, hb, hml, hown, hts⟩ (fun sz => dm_X1_blame l hlt dC dI a ac n (1) s0 hq sz) (cwV 1 hts gi_dm_X1_start_1 rfl rfl rfl (by decide +kernel) ⟨Nat.le_of_ble_eq_true rfl, Nat.le_of_ble_eq_true rfl⟩) hPc hDc hKc hS hA hN (va_recv hKc hPc (ci := 2) (q0 := 0) rfl rfl) rfl hl.1 rfl (Nat.le_of_ble_eq_true rfl) dX1_start_98 (fun H locs hP1 hD1 hk1 hS => ?_)
  have hP := hP1
  have hD := hD1.weaken (fun k q _ h => hFc q.1 h)
  refine lv_aload_n hx hb dX1_start_101 rfl (lv_at hl 0 rfl) ?_
  refine lv_iload_n hx hb dX1_start_102 rfl (lv_at hl 3 rfl) ?_
  refine va_put (D := (dC, dI)) (ci := 2) (v := .int x3) (ty := .int) (C := RX1) (T := TX1) (N := 13) hx hb hts hi_dm_X1_start_X1 tyX1 tyX1_ok nmX1 hown hK hP hD hS 0 rfl rfl 6 (by decide) (hts (.fieldLink RX1 36 "TimeMachine$Assembler" "line" "I") (List.mem_of_getElem? (i := 9) rfl)) (fun _ h9 => h9) rfl (by decide +kernel) rfl rfl (Nat.le_of_ble_eq_true rfl) dX1_start_103 (fun H locs hP hD hS => ?_)
  obtain ⟨s22, es22, h⟩ := nd_let_e h
  have hP : va_P (dC, dI) vwCl (dw_X1 a ac s22) H := by rw [es22]; exact hP
  have hD : va_D A (dw_X1 a ac s22) := by rw [es22]; exact hD
  exact (db_X1_start_106 C K J43) (x2) (x3) (x4) s22 _ _ _ h hP hD hS (lv_sub hl [0, 1, 2, 3, 4] rfl)
set_option maxHeartbeats 40000000 in
set_option maxRecDepth 100000 in
theorem dB_X1_start_43 {p : Program} {l : Launch} {e : Env} {s : State} {m : MethodId} {args : Array Value} {below : List Frame} {meth : Method} {c : Code} {Q : State → Prop} {A : Nat → Prop} {dC : Nat → ClassId} {dI : Nat → Nat → Nat} {a : Nat → Nat} {ac : Nat → ClassId} {n : Nat} {r : St × (St)} (C : nd_C p l s m args c A (dC, dI) cX1_start 6 RX1 ow_dm_X1_start (dk_X1 ac)) (K : nd_Kv p l e (headSpec ow_dm_X1_start ({ frames := 2, cells := 0, slots := 0, locals := 44 })).room s m args below meth c Q A (dC, dI) cX1_start (St × (St)) (dw_X1 a ac) r) {g43 : Int32 → Int32 → Int32 → (St × (St)) → Option (St × (St))} (J43 : dj_X1_start_43 p l e s m args below meth c Q A dC dI a ac g43 r) : dj_X1_start_43 p l e s m args below meth c Q A dC dI a ac (dF_X1_start_43 n g43) r := by
  obtain ⟨hlt, hx, hb, hml, hown, hts, hN, hA, hK⟩ := id C
  intro x2 x3 x4 s0 H locs ls h hP hD hS hl
  unfold dF_X1_start_43 at h
  refine lv_iload hx hb dX1_start_43 (lv_at hl 4 rfl) ?_
  refine lv_iload_n hx hb dX1_start_45 rfl (lv_at hl 2 rfl) ?_
  refine lv_icmp_ge (tgt := 112) hx hb dX1_start_46 (by decide) (fun c11 => ?_) (fun c11 => ?_)
  · have h := nd_pos h c11
    exact (db_X1_start_112 C K)  s0 _ _ _ h hP hD hS (lv_sub hl [] rfl)
  · have h := nd_neg h c11
    refine lv_aload_n hx hb dX1_start_49 rfl (lv_at hl 0 rfl) ?_
    refine va_get (D := (dC, dI)) (ci := 2) (v := .int (sI s0.1 2)) (C := RX1) (T := TX1) (N := 13) hx hb hts hi_dm_X1_start_X1 hown hK hP 0 rfl rfl 5 (by decide) (hts (.fieldLink RX1 32 "TimeMachine$Assembler" "fault" "I") (List.mem_of_getElem? (i := 8) rfl)) (fun _ h9 => h9) rfl dX1_start_50 ?_
    refine lv_if_ne (tgt := 112) hx hb dX1_start_53 (by decide) (fun c12 => ?_) (fun c12 => ?_)
    · have h := nd_neg h c12
      exact (db_X1_start_112 C K)  s0 _ _ _ h hP hD hS (lv_sub hl [] rfl)
    · have h := nd_pos h c12
      refine lv_aload_n hx hb dX1_start_56 rfl (lv_at hl 1 rfl) ?_
      refine lv_iload hx hb dX1_start_57 (lv_at hl 4 rfl) ?_
      obtain ⟨i13, h⟩ := nd_ck_e h
      refine va_bald (i := x4) hx hb hK hP 11 9 rfl rfl i13 dX1_start_59 ?_
      refine lv_topi (fun z14 ez14 => ?_)
      have h := nd_at h ez14
      refine lv_istore (lv' := [(5, .int z14), (0, .ref (a 0)), (1, .ref (a 11)), (2, .int x2), (3, .int x3), (4, .int x4)]) hx hb dX1_start_60 hl (by decide) rfl (fun ls hl => ?_)
      refine lv_iload hx hb dX1_start_62 (lv_at hl 0 rfl) ?_
      refine lv_bipush (v := 10) hx hb dX1_start_64 (by decide) ?_
      refine lv_icmp_ne (tgt := 75) hx hb dX1_start_66 (by decide) (fun c15 => ?_) (fun c15 => ?_)
      · have h := nd_neg h c15
        refine lv_iload hx hb dX1_start_75 (lv_at hl 0 rfl) ?_
        refine lv_bipush (v := 9) hx hb dX1_start_77 (by decide) ?_
        refine lv_icmp_eq (tgt := 106) hx hb dX1_start_79 (by decide) (fun c16 => ?_) (fun c16 => ?_)
        · have h := nd_pos h c16
          exact (db_X1_start_106 C K J43) (x2) (x3) (x4) s0 _ _ _ h hP hD hS (lv_sub hl [1, 2, 3, 4, 5] rfl)
        · have h := nd_neg h c16
          refine lv_iload hx hb dX1_start_82 (lv_at hl 0 rfl) ?_
          refine lv_bipush (v := 32) hx hb dX1_start_84 (by decide) ?_
          refine lv_icmp_lt (tgt := 96) hx hb dX1_start_86 (by decide) (fun c18 => ?_) (fun c18 => ?_)
          · have h := nd_pos h c18
            exact (db_X1_start_96 C K J43) (x2) (x3) (x4) s0 _ _ _ h hP hD hS (lv_sub hl [1, 2, 3, 4, 5] rfl)
          · have h := nd_neg h c18
            refine lv_iload hx hb dX1_start_89 (lv_at hl 0 rfl) ?_
            refine lv_bipush (v := 126) hx hb dX1_start_91 (by decide) ?_
            refine lv_icmp_le (tgt := 106) hx hb dX1_start_93 (by decide) (fun c23 => ?_) (fun c23 => ?_)
            · have h := nd_pos h c23
              exact (db_X1_start_106 C K J43) (x2) (x3) (x4) s0 _ _ _ h hP hD hS (lv_sub hl [1, 2, 3, 4, 5] rfl)
            · have h := nd_neg h c23
              exact (db_X1_start_96 C K J43) (x2) (x3) (x4) s0 _ _ _ h hP hD hS (lv_sub hl [1, 2, 3, 4, 5] rfl)
      · have h := nd_pos h c15
        obtain ⟨z24, ez24, h⟩ := nd_let_e h
        refine lv_iinc (v := z24) (lv' := [(3, .int z24), (5, .int z14), (0, .ref (a 0)), (1, .ref (a 11)), (2, .int x2), (4, .int x4)]) hx hb dX1_start_69 hl (k := 4) rfl (by rw [ez24]) (by decide) rfl (fun ls hl => ?_)
        refine lv_goto (tgt := 106) hx hb dX1_start_72 (by decide) ?_
        exact (db_X1_start_106 C K J43) (x2) (z24) (x4) s0 _ _ _ h hP hD hS (lv_sub hl [2, 3, 4, 0, 5] rfl)
set_option maxHeartbeats 40000000 in
set_option maxRecDepth 100000 in
theorem db_X1_start_43 {p : Program} {l : Launch} {e : Env} {s : State} {m : MethodId} {args : Array Value} {below : List Frame} {meth : Method} {c : Code} {Q : State → Prop} {A : Nat → Prop} {dC : Nat → ClassId} {dI : Nat → Nat → Nat} {a : Nat → Nat} {ac : Nat → ClassId} {n : Nat} {r : St × (St)} (C : nd_C p l s m args c A (dC, dI) cX1_start 6 RX1 ow_dm_X1_start (dk_X1 ac)) (K : nd_Kv p l e (headSpec ow_dm_X1_start ({ frames := 2, cells := 0, slots := 0, locals := 44 })).room s m args below meth c Q A (dC, dI) cX1_start (St × (St)) (dw_X1 a ac) r) (k : Nat) : dj_X1_start_43 p l e s m args below meth c Q A dC dI a ac (df_X1_start_43 n k) r := by
  induction k with
  | zero => intro x2 x3 x4 s0 H locs ls h; exact nomatch (show (none : Option (St × (St))) = some r from h)
  | succ k ih => exact dB_X1_start_43 C K ih
set_option maxHeartbeats 40000000 in
set_option maxRecDepth 100000 in
theorem db_X1_start_0 {p : Program} {l : Launch} {e : Env} {s : State} {m : MethodId} {args : Array Value} {below : List Frame} {meth : Method} {c : Code} {Q : State → Prop} {A : Nat → Prop} {dC : Nat → ClassId} {dI : Nat → Nat → Nat} {a : Nat → Nat} {ac : Nat → ClassId} {n : Nat} {r : St × (St)} (C : nd_C p l s m args c A (dC, dI) cX1_start 6 RX1 ow_dm_X1_start (dk_X1 ac)) (K : nd_Kv p l e (headSpec ow_dm_X1_start ({ frames := 2, cells := 0, slots := 0, locals := 44 })).room s m args below meth c Q A (dC, dI) cX1_start (St × (St)) (dw_X1 a ac) r) : dj_X1_start_0 p l e s m args below meth c Q A dC dI a ac (df_X1_start_0 n) r := by
  obtain ⟨hlt, hx, hb, hml, hown, hts, hN, hA, hK⟩ := id C
  intro v1 s0 H locs ls h hP hD hS hl
  unfold df_X1_start_0 at h
  refine lv_aload_n hx hb dX1_start_0 rfl (lv_at hl 0 rfl) ?_
  refine va_get (D := (dC, dI)) (ci := 2) (v := .ref (a 3)) (C := RX1) (T := TX1) (N := 13) hx hb hts hi_dm_X1_start_X1 hown hK hP 0 rfl rfl 0 (by decide) (hts (.fieldLink RX1 12 "TimeMachine$Assembler" "reader" "LTimeMachine$Reader;") (List.mem_of_getElem? (i := 1) rfl)) (fun _ h9 => h9) rfl dX1_start_1 ?_
  refine lv_aload_n hx hb dX1_start_4 rfl (lv_at hl 1 rfl) ?_
  obtain ⟨s2, hq, h⟩ := nd_b1_e h
  have hPc := dp_X1_3 hP
  have hDc := dd_X1_3 hD
  have hKc := dy_X1_3 hK
  have hFc := nd_rs hDc hS hA
  have hzA : ∀ q : Nat, H.size ≤ q → A q := fun q h => hA q (Nat.le_trans hS.1 h)
  refine nd_cVv (As := [.ref (a 11)]) (rest := []) (w' := dw_X9 (fun k => a (k + 3)) (fun k => ac (k + 3)) s2) ⟨hx, hb, hml, hown, hts⟩ (fun sz => dm_X9_open l hlt dC dI (fun k => a (k + 3)) (fun k => ac (k + 3)) n  s0.2 hq sz) (cwV 1 hts gi_dm_X1_start_0 rfl rfl rfl (by decide +kernel) ⟨Nat.le_of_ble_eq_true rfl, Nat.le_of_ble_eq_true rfl⟩) hPc hDc hKc hS hA hN (va_recv hKc hPc (ci := 10) (q0 := 0) rfl rfl) rfl hl.1 rfl (Nat.le_of_ble_eq_true rfl) dX1_start_5 (fun H locs hP1 hD1 hk1 hS => ?_)
  obtain ⟨hP, hD⟩ := dn_X1_3 hP hD hzA hk1 hP1 hD1
  obtain ⟨s4, es4, h⟩ := nd_let_e h
  have hP : va_P (dC, dI) vwCl (dw_X1 a ac s4) H := by rw [es4]; exact hP
  have hD : va_D A (dw_X1 a ac s4) := by rw [es4]; exact hD
  refine lv_aload_n hx hb dX1_start_8 rfl (lv_at hl 0 rfl) ?_
  refine lv_iconst (v := 0) hx hb dX1_start_9 (by decide) ?_
  refine va_put (D := (dC, dI)) (ci := 2) (v := .int 0) (ty := .int) (C := RX1) (T := TX1) (N := 13) hx hb hts hi_dm_X1_start_X1 tyX1 tyX1_ok nmX1 hown hK hP hD hS 0 rfl rfl 2 (by decide) (hts (.fieldLink RX1 65 "TimeMachine$Assembler" "statements" "I") (List.mem_of_getElem? (i := 6) rfl)) (fun _ h9 => h9) rfl (by decide +kernel) rfl rfl (Nat.le_of_ble_eq_true rfl) dX1_start_10 (fun H locs hP hD hS => ?_)
  obtain ⟨s5, es5, h⟩ := nd_let_e h
  have hP : va_P (dC, dI) vwCl (dw_X1 a ac s5) H := by rw [es5]; exact hP
  have hD : va_D A (dw_X1 a ac s5) := by rw [es5]; exact hD
  refine lv_aload_n hx hb dX1_start_13 rfl (lv_at hl 0 rfl) ?_
  refine lv_iconst (v := 0) hx hb dX1_start_14 (by decide) ?_
  refine va_put (D := (dC, dI)) (ci := 2) (v := .int 0) (ty := .int) (C := RX1) (T := TX1) (N := 13) hx hb hts hi_dm_X1_start_X1 tyX1 tyX1_ok nmX1 hown hK hP hD hS 0 rfl rfl 4 (by decide) (hts (.fieldLink RX1 68 "TimeMachine$Assembler" "lettersUsed" "I") (List.mem_of_getElem? (i := 7) rfl)) (fun _ h9 => h9) rfl (by decide +kernel) rfl rfl (Nat.le_of_ble_eq_true rfl) dX1_start_15 (fun H locs hP hD hS => ?_)
  obtain ⟨s6, es6, h⟩ := nd_let_e h
  have hP : va_P (dC, dI) vwCl (dw_X1 a ac s6) H := by rw [es6]; exact hP
  have hD : va_D A (dw_X1 a ac s6) := by rw [es6]; exact hD
  refine lv_aload_n hx hb dX1_start_18 rfl (lv_at hl 0 rfl) ?_
  refine lv_iconst (v := 0) hx hb dX1_start_19 (by decide) ?_
  refine va_put (D := (dC, dI)) (ci := 2) (v := .int 0) (ty := .int) (C := RX1) (T := TX1) (N := 13) hx hb hts hi_dm_X1_start_X1 tyX1 tyX1_ok nmX1 hown hK hP hD hS 0 rfl rfl 5 (by decide) (hts (.fieldLink RX1 32 "TimeMachine$Assembler" "fault" "I") (List.mem_of_getElem? (i := 8) rfl)) (fun _ h9 => h9) rfl (by decide +kernel) rfl rfl (Nat.le_of_ble_eq_true rfl) dX1_start_20 (fun H locs hP hD hS => ?_)
  obtain ⟨s7, es7, h⟩ := nd_let_e h
  have hP : va_P (dC, dI) vwCl (dw_X1 a ac s7) H := by rw [es7]; exact hP
  have hD : va_D A (dw_X1 a ac s7) := by rw [es7]; exact hD
  refine lv_aload_n hx hb dX1_start_23 rfl (lv_at hl 0 rfl) ?_
  refine lv_iconst (v := 0) hx hb dX1_start_24 (by decide) ?_
  refine va_put (D := (dC, dI)) (ci := 2) (v := .int 0) (ty := .int) (C := RX1) (T := TX1) (N := 13) hx hb hts hi_dm_X1_start_X1 tyX1 tyX1_ok nmX1 hown hK hP hD hS 0 rfl rfl 6 (by decide) (hts (.fieldLink RX1 36 "TimeMachine$Assembler" "line" "I") (List.mem_of_getElem? (i := 9) rfl)) (fun _ h9 => h9) rfl (by decide +kernel) rfl rfl (Nat.le_of_ble_eq_true rfl) dX1_start_25 (fun H locs hP hD hS => ?_)
  obtain ⟨s8, es8, h⟩ := nd_let_e h
  have hP : va_P (dC, dI) vwCl (dw_X1 a ac s8) H := by rw [es8]; exact hP
  have hD : va_D A (dw_X1 a ac s8) := by rw [es8]; exact hD
  refine lv_aload_n hx hb dX1_start_28 rfl (lv_at hl 0 rfl) ?_
  refine lv_iconst (v := 0) hx hb dX1_start_29 (by decide) ?_
  refine va_put (D := (dC, dI)) (ci := 2) (v := .int 0) (ty := .int) (C := RX1) (T := TX1) (N := 13) hx hb hts hi_dm_X1_start_X1 tyX1 tyX1_ok nmX1 hown hK hP hD hS 0 rfl rfl 7 (by decide) (hts (.fieldLink RX1 71 "TimeMachine$Assembler" "section" "I") (List.mem_of_getElem? (i := 10) rfl)) (fun _ h9 => h9) rfl (by decide +kernel) rfl rfl (Nat.le_of_ble_eq_true rfl) dX1_start_30 (fun H locs hP hD hS => ?_)
  obtain ⟨s9, es9, h⟩ := nd_let_e h
  have hP : va_P (dC, dI) vwCl (dw_X1 a ac s9) H := by rw [es9]; exact hP
  have hD : va_D A (dw_X1 a ac s9) := by rw [es9]; exact hD
  refine lv_aload_n hx hb dX1_start_33 rfl (lv_at hl 0 rfl) ?_
  refine lv_iconst (v := 0) hx hb dX1_start_34 (by decide) ?_
  refine va_put (D := (dC, dI)) (ci := 2) (v := .int 0) (ty := .int) (C := RX1) (T := TX1) (N := 13) hx hb hts hi_dm_X1_start_X1 tyX1 tyX1_ok nmX1 hown hK hP hD hS 0 rfl rfl 9 (by decide) (hts (.fieldLink RX1 74 "TimeMachine$Assembler" "constants" "I") (List.mem_of_getElem? (i := 11) rfl)) (fun _ h9 => h9) rfl (by decide +kernel) rfl rfl (Nat.le_of_ble_eq_true rfl) dX1_start_35 (fun H locs hP hD hS => ?_)
  obtain ⟨s10, es10, h⟩ := nd_let_e h
  have hP : va_P (dC, dI) vwCl (dw_X1 a ac s10) H := by rw [es10]; exact hP
  have hD : va_D A (dw_X1 a ac s10) := by rw [es10]; exact hD
  refine lv_iconst (v := 1) hx hb dX1_start_38 (by decide) ?_
  refine lv_istore_n (lv' := [(3, .int 1), (0, .ref (a 0)), (1, .ref (a 11)), (2, .int v1)]) hx hb dX1_start_39 rfl hl (by decide) rfl (fun ls hl => ?_)
  refine lv_iconst (v := 0) hx hb dX1_start_40 (by decide) ?_
  refine lv_istore (lv' := [(4, .int 0), (3, .int 1), (0, .ref (a 0)), (1, .ref (a 11)), (2, .int v1)]) hx hb dX1_start_41 hl (by decide) rfl (fun ls hl => ?_)
  exact (db_X1_start_43 C K n) (v1) (1) (0) s10 _ _ _ h hP hD hS (lv_sub hl [2, 3, 4, 1, 0] rfl)
set_option maxHeartbeats 40000000 in
set_option maxRecDepth 100000 in
theorem dm_X1_start (l : Launch) (hlt : l.stackTraces = false) (dC : Nat → ClassId) (dI : Nat → Nat → Nat) (a : Nat → Nat) (ac : Nat → ClassId) (n : Nat) (v1 : Int32) (s0 : St × (St)) {r : St × (St)} (h : df_X1_start n v1 s0 = some r) (sz : Nat) : Met l yX1_start ow_dm_X1_start ({ frames := 2, cells := 0, slots := 0, locals := 44 }) (va_Pc [.ref (a 0), .ref (a 11), .int v1] (fun U => U.heap.size = sz ∧ va_P (dC, dI) vwCl (dw_X1 a ac s0) U.heap ∧ va_K (dC, dI) vwCl (dk_X1 ac) U ∧ va_D (fun _ => True) (dw_X1 a ac s0) ∧ nv_E dI (va_A (dw_X1 a ac s0) sz) U)) (va_Qv (fun _ => True) (fun (_ : Unit) t => va_P (dC, dI) vwCl (dw_X1 a ac r) t.heap ∧ va_K (dC, dI) vwCl (dk_X1 ac) t ∧ va_D (va_A (dw_X1 a ac s0) sz) (dw_X1 a ac r)) (va_A (dw_X1 a ac s0) sz)) 0 0 (va_A (dw_X1 a ac s0) sz) := by
  refine Met.ofW (cc := cX1_start) (maxL := 6) (ret := none) (by decide) rfl ?_
  intro p e s m args below meth c s₁ B hml hv
  obtain ⟨rfl, hsz, hP, hK, hD0, hN⟩ := hv
  have hx := B.exec
  have hb := B.bytes
  have hr := B.returns
  have hts := atoms_spec (ws := ow_dm_X1_start) B.pre
  have hown : s.vm.findClass RX1 = some m.cls := findClass_of_methodNamed B.named
  have hlocks := B.notSynchronized
  subst hsz
  have hD := hD0.self (sz := s.heap.size)
  generalize hAe : va_A (dw_X1 a ac s0) s.heap.size = A at hD hN ⊢
  have hA : ∀ q : Nat, s.heap.size ≤ q → A q := fun q h => by rw [← hAe]; exact Or.inr h
  have hl := lv_entry ([.ref (a 0), .ref (a 11), .int v1]) (n := 6) (Nat.le_of_ble_eq_true rfl)
  rw [lg_entry_eq]
  generalize (lg_sl ([.ref (a 0), .ref (a 11), .int v1]) ++ List.replicate (6 - (lg_sl ([.ref (a 0), .ref (a 11), .int v1])).length) Slot.unset).toArray = ls at hl ⊢
  have hl : lv_has ls 6 [(0, .ref (a 0)), (1, .ref (a 11)), (2, .int v1)] := hl
  exact db_X1_start_0 (dC := dC) (dI := dI) (a := a) (ac := ac) (n := n) (r := r) ⟨hlt, hx, hb, hml, hown, hts, hN, hA, hK⟩ (fun pc τ H locs ls d er hP hD hS => by subst er; exact W.vret hx hb hr (fun t ht hW => ⟨⟨(), rfl, trivial, by rw [ht]; exact hP, va_K.moved hW.alike hK, hD⟩, hS.F ht⟩) hS.2.2 d) v1 s0 _ _ _ h hP hD va_S.rf (lv_sub hl [0, 1, 2] rfl)
def ow_dm_X1_describe : List Cond := Cond.code yX1_describe cX1_describe 3 none :: ([Cond.fieldLink RX1 284 "TimeMachine$Assembler" "textSize" "I", Cond.fieldLink RX1 287 "TimeMachine$Assembler" "dataStart" "I", Cond.fieldLink RX1 50 "TimeMachine$Assembler" "size" "I", Cond.methodLink RX1 357 yX8_startDescription, Cond.instanceMethod yX8_startDescription, Cond.selects RX8 yX8_startDescription yX8_startDescription, Cond.initialized RX8, Cond.fieldLink RX1 74 "TimeMachine$Assembler" "constants" "I", Cond.fieldLink RX1 360 "TimeMachine$Program" "constants" "I", Cond.fieldLink RX1 65 "TimeMachine$Assembler" "statements" "I", Cond.fieldLink RX1 12 "TimeMachine$Assembler" "reader" "LTimeMachine$Reader;", Cond.fieldLink RX1 274 "TimeMachine$Reader" "labels" "I", Cond.fieldLink RX1 293 "TimeMachine$Reader" "label" "[I", Cond.methodLink RX1 364 yX8_addLabel, Cond.instanceMethod yX8_addLabel, Cond.selects RX8 yX8_addLabel yX8_addLabel, Cond.fieldLink RX1 19 "TimeMachine$Assembler" "statement" "[I", Cond.methodLink RX1 361 yX8_addStatement, Cond.instanceMethod yX8_addStatement, Cond.selects RX8 yX8_addStatement yX8_addStatement] ++ (u_ws RX1 TX1 13 ++ (u_ws RX8 TX8 10 ++ (u_ws RX9 TX9 20 ++ (ow_dm_X8_startDescription ++ (ow_dm_X8_addLabel ++ (ow_dm_X8_addStatement ++ [])))))))
theorem gd_dm_X1_describe : ∀ w ∈ ow_dm_X1_describe, (w.onTables && w.keeps) = true ∨ ∃ ty, w = Cond.arrayClass ty := List.forall_mem_cons.mpr ⟨good_of_word rfl, List.forall_mem_append.mpr ⟨fun w h => good_of_word (List.all_eq_true.mp (by decide +kernel) w h), List.forall_mem_append.mpr ⟨gu_X1, List.forall_mem_append.mpr ⟨gu_X8, List.forall_mem_append.mpr ⟨gu_X9, List.forall_mem_append.mpr ⟨gd_dm_X8_startDescription, List.forall_mem_append.mpr ⟨gd_dm_X8_addLabel, List.forall_mem_append.mpr ⟨gd_dm_X8_addStatement, fun _ h => nomatch h⟩⟩⟩⟩⟩⟩⟩⟩
theorem hi_dm_X1_describe_X1 : ∀ w ∈ u_ws RX1 TX1 13, w ∈ ow_dm_X1_describe := fun w h => List.mem_cons_of_mem _ (List.mem_append_right _ (List.mem_append_left _ h))
theorem hi_dm_X1_describe_X8 : ∀ w ∈ u_ws RX8 TX8 10, w ∈ ow_dm_X1_describe := fun w h => List.mem_cons_of_mem _ (List.mem_append_right _ (List.mem_append_right _ (List.mem_append_left _ h)))
theorem hi_dm_X1_describe_X9 : ∀ w ∈ u_ws RX9 TX9 20, w ∈ ow_dm_X1_describe := fun w h => List.mem_cons_of_mem _ (List.mem_append_right _ (List.mem_append_right _ (List.mem_append_right _ (List.mem_append_left _ h))))
theorem gi_dm_X1_describe_0 : GoodIn ow_dm_X1_describe (wsV RX1 357 RX8 yX8_startDescription ow_dm_X8_startDescription) := goodIn_app (goodIn_of _ (by decide +kernel)) (fun w h => ⟨List.mem_cons_of_mem _ (List.mem_append_right _ (List.mem_append_right _ (List.mem_append_right _ (List.mem_append_right _ (List.mem_append_left _ h))))), gd_dm_X8_startDescription w h⟩)
theorem gi_dm_X1_describe_1 : GoodIn ow_dm_X1_describe (wsV RX1 364 RX8 yX8_addLabel ow_dm_X8_addLabel) := goodIn_app (goodIn_of _ (by decide +kernel)) (fun w h => ⟨List.mem_cons_of_mem _ (List.mem_append_right _ (List.mem_append_right _ (List.mem_append_right _ (List.mem_append_right _ (List.mem_append_right _ (List.mem_append_left _ h)))))), gd_dm_X8_addLabel w h⟩)
theorem gi_dm_X1_describe_2 : GoodIn ow_dm_X1_describe (wsV RX1 361 RX8 yX8_addStatement ow_dm_X8_addStatement) := goodIn_app (goodIn_of _ (by decide +kernel)) (fun w h => ⟨List.mem_cons_of_mem _ (List.mem_append_right _ (List.mem_append_right _ (List.mem_append_right _ (List.mem_append_right _ (List.mem_append_right _ (List.mem_append_right _ (List.mem_append_left _ h))))))), gd_dm_X8_addStatement w h⟩)
def dj_X1_describe_119 (p : Program) (l : Launch) (e : Env) (s : State) (m : MethodId) (args : Array Value) (below : List Frame) (meth : Method) (c : Code) (Q : State → Prop) (A : Nat → Prop) (dC : Nat → ClassId) (dI : Nat → Nat → Nat) (a : Nat → Nat) (ac : Nat → ClassId) (g : Int32 → (St × (St × (St)) × (St)) → Option (St × (St × (St)) × (St))) (r : St × (St × (St)) × (St)) : Prop := ∀ (x2 : Int32) (s0 : St × (St × (St)) × (St)) (H : Heap) (locs : List Loc) (ls : Array Slot), g x2 s0 = some r → va_P (dC, dI) vwCl (dw_X1p a ac s0) H → va_D A (dw_X1p a ac s0) → va_S A s.heap H locs → lv_has ls 3 [(0, .ref (a 5)), (1, .ref (a 0)), (2, .int x2)] → W p l e (headSpec ow_dm_X1_describe ({ frames := 1, cells := 0, slots := 0, locals := 23 })).room s m args below meth c H locs 0 0 Q (F0 m 119 ls [])
def dj_X1_describe_76 (p : Program) (l : Launch) (e : Env) (s : State) (m : MethodId) (args : Array Value) (below : List Frame) (meth : Method) (c : Code) (Q : State → Prop) (A : Nat → Prop) (dC : Nat → ClassId) (dI : Nat → Nat → Nat) (a : Nat → Nat) (ac : Nat → ClassId) (g : Int32 → (St × (St × (St)) × (St)) → Option (St × (St × (St)) × (St))) (r : St × (St × (St)) × (St)) : Prop := ∀ (x2 : Int32) (s0 : St × (St × (St)) × (St)) (H : Heap) (locs : List Loc) (ls : Array Slot), g x2 s0 = some r → va_P (dC, dI) vwCl (dw_X1p a ac s0) H → va_D A (dw_X1p a ac s0) → va_S A s.heap H locs → lv_has ls 3 [(0, .ref (a 5)), (1, .ref (a 0)), (2, .int x2)] → W p l e (headSpec ow_dm_X1_describe ({ frames := 1, cells := 0, slots := 0, locals := 23 })).room s m args below meth c H locs 0 0 Q (F0 m 76 ls [])
def dj_X1_describe_68 (p : Program) (l : Launch) (e : Env) (s : State) (m : MethodId) (args : Array Value) (below : List Frame) (meth : Method) (c : Code) (Q : State → Prop) (A : Nat → Prop) (dC : Nat → ClassId) (dI : Nat → Nat → Nat) (a : Nat → Nat) (ac : Nat → ClassId) (g : Int32 → (St × (St × (St)) × (St)) → Option (St × (St × (St)) × (St))) (r : St × (St × (St)) × (St)) : Prop := ∀ (x2 : Int32) (s0 : St × (St × (St)) × (St)) (H : Heap) (locs : List Loc) (ls : Array Slot), g x2 s0 = some r → va_P (dC, dI) vwCl (dw_X1p a ac s0) H → va_D A (dw_X1p a ac s0) → va_S A s.heap H locs → lv_has ls 3 [(0, .ref (a 5)), (1, .ref (a 0)), (2, .int x2)] → W p l e (headSpec ow_dm_X1_describe ({ frames := 1, cells := 0, slots := 0, locals := 23 })).room s m args below meth c H locs 0 0 Q (F0 m 68 ls [])
def dj_X1_describe_26 (p : Program) (l : Launch) (e : Env) (s : State) (m : MethodId) (args : Array Value) (below : List Frame) (meth : Method) (c : Code) (Q : State → Prop) (A : Nat → Prop) (dC : Nat → ClassId) (dI : Nat → Nat → Nat) (a : Nat → Nat) (ac : Nat → ClassId) (g : Int32 → (St × (St × (St)) × (St)) → Option (St × (St × (St)) × (St))) (r : St × (St × (St)) × (St)) : Prop := ∀ (x2 : Int32) (s0 : St × (St × (St)) × (St)) (H : Heap) (locs : List Loc) (ls : Array Slot), g x2 s0 = some r → va_P (dC, dI) vwCl (dw_X1p a ac s0) H → va_D A (dw_X1p a ac s0) → va_S A s.heap H locs → lv_has ls 3 [(0, .ref (a 5)), (1, .ref (a 0)), (2, .int x2)] → W p l e (headSpec ow_dm_X1_describe ({ frames := 1, cells := 0, slots := 0, locals := 23 })).room s m args below meth c H locs 0 0 Q (F0 m 26 ls [])
def dj_X1_describe_0 (p : Program) (l : Launch) (e : Env) (s : State) (m : MethodId) (args : Array Value) (below : List Frame) (meth : Method) (c : Code) (Q : State → Prop) (A : Nat → Prop) (dC : Nat → ClassId) (dI : Nat → Nat → Nat) (a : Nat → Nat) (ac : Nat → ClassId) (g : (St × (St × (St)) × (St)) → Option (St × (St × (St)) × (St))) (r : St × (St × (St)) × (St)) : Prop := ∀ (s0 : St × (St × (St)) × (St)) (H : Heap) (locs : List Loc) (ls : Array Slot), g s0 = some r → va_P (dC, dI) vwCl (dw_X1p a ac s0) H → va_D A (dw_X1p a ac s0) → va_S A s.heap H locs → lv_has ls 3 [(0, .ref (a 5)), (1, .ref (a 0))] → W p l e (headSpec ow_dm_X1_describe ({ frames := 1, cells := 0, slots := 0, locals := 23 })).room s m args below meth c H locs 0 0 Q (F0 m 0 ls [])
set_option maxHeartbeats 40000000 in
set_option maxRecDepth 100000 in
theorem db_X1_describe_119 {p : Program} {l : Launch} {e : Env} {s : State} {m : MethodId} {args : Array Value} {below : List Frame} {meth : Method} {c : Code} {Q : State → Prop} {A : Nat → Prop} {dC : Nat → ClassId} {dI : Nat → Nat → Nat} {a : Nat → Nat} {ac : Nat → ClassId} {n : Nat} {r : St × (St × (St)) × (St)} (C : nd_C p l s m args c A (dC, dI) cX1_describe 3 RX1 ow_dm_X1_describe (dk_X1p ac)) (K : nd_Kv p l e (headSpec ow_dm_X1_describe ({ frames := 1, cells := 0, slots := 0, locals := 23 })).room s m args below meth c Q A (dC, dI) cX1_describe (St × (St × (St)) × (St)) (dw_X1p a ac) r) {g76 : Int32 → (St × (St × (St)) × (St)) → Option (St × (St × (St)) × (St))} (J76 : dj_X1_describe_76 p l e s m args below meth c Q A dC dI a ac g76 r) : dj_X1_describe_119 p l e s m args below meth c Q A dC dI a ac (df_X1_describe_119 n g76) r := by
  obtain ⟨hlt, hx, hb, hml, hown, hts, hN, hA, hK⟩ := id C
  intro x2 s0 H locs ls h hP hD hS hl
  unfold df_X1_describe_119 at h
  obtain ⟨z10, ez10, h⟩ := nd_let_e h
  refine lv_iinc (v := z10) (lv' := [(2, .int z10), (0, .ref (a 5)), (1, .ref (a 0))]) hx hb dX1_describe_119 hl (k := 2) rfl (by rw [ez10]) (by decide) rfl (fun ls hl => ?_)
  refine lv_goto (tgt := 76) hx hb dX1_describe_122 (by decide) ?_
  exact (J76) (z10) s0 _ _ _ h hP hD hS (lv_sub hl [1, 2, 0] rfl)
set_option maxHeartbeats 40000000 in
set_option maxRecDepth 100000 in
theorem dB_X1_describe_76 {p : Program} {l : Launch} {e : Env} {s : State} {m : MethodId} {args : Array Value} {below : List Frame} {meth : Method} {c : Code} {Q : State → Prop} {A : Nat → Prop} {dC : Nat → ClassId} {dI : Nat → Nat → Nat} {a : Nat → Nat} {ac : Nat → ClassId} {n : Nat} {r : St × (St × (St)) × (St)} (C : nd_C p l s m args c A (dC, dI) cX1_describe 3 RX1 ow_dm_X1_describe (dk_X1p ac)) (K : nd_Kv p l e (headSpec ow_dm_X1_describe ({ frames := 1, cells := 0, slots := 0, locals := 23 })).room s m args below meth c Q A (dC, dI) cX1_describe (St × (St × (St)) × (St)) (dw_X1p a ac) r) {g76 : Int32 → (St × (St × (St)) × (St)) → Option (St × (St × (St)) × (St))} (J76 : dj_X1_describe_76 p l e s m args below meth c Q A dC dI a ac g76 r) : dj_X1_describe_76 p l e s m args below meth c Q A dC dI a ac (dF_X1_describe_76 n g76) r := by
  obtain ⟨hlt, hx, hb, hml, hown, hts, hN, hA, hK⟩ := id C
  intro x2 s0 H locs ls h hP hD hS hl
  unfold dF_X1_describe_76 at h
  refine lv_iload_n hx hb dX1_describe_76 rfl (lv_at hl 2 rfl) ?_
  refine lv_aload_n hx hb dX1_describe_77 rfl (lv_at hl 0 rfl) ?_
  refine va_get (D := (dC, dI)) (ci := 2) (v := .ref (a 8)) (C := RX1) (T := TX1) (N := 13) hx hb hts hi_dm_X1_describe_X1 hown hK hP 0 rfl rfl 0 (by decide) (hts (.fieldLink RX1 12 "TimeMachine$Assembler" "reader" "LTimeMachine$Reader;") (List.mem_of_getElem? (i := 11) rfl)) (fun _ h9 => h9) rfl dX1_describe_78 ?_
  refine va_get (D := (dC, dI)) (ci := 10) (v := .int (sI s0.2.1.2 9)) (C := RX9) (T := TX9) (N := 20) hx hb hts hi_dm_X1_describe_X9 hown hK hP 3 rfl rfl 17 (by decide) (hts (.fieldLink RX1 274 "TimeMachine$Reader" "labels" "I") (List.mem_of_getElem? (i := 12) rfl)) (fun _ h9 => h9) rfl dX1_describe_81 ?_
  refine lv_iconst (v := 5) hx hb dX1_describe_84 (by decide) ?_
  refine lv_imul hx hb dX1_describe_85 ?_
  refine lv_icmp_ge (tgt := 125) hx hb dX1_describe_86 (by decide) (fun c7 => ?_) (fun c7 => ?_)
  · have h := nd_pos h c7
    exact K _ _ _ _ _ dX1_describe_125 (Option.some.inj h).symm hP hD hS
  · have h := nd_neg h c7
    refine lv_aload_n hx hb dX1_describe_89 rfl (lv_at hl 0 rfl) ?_
    refine va_get (D := (dC, dI)) (ci := 2) (v := .ref (a 8)) (C := RX1) (T := TX1) (N := 13) hx hb hts hi_dm_X1_describe_X1 hown hK hP 0 rfl rfl 0 (by decide) (hts (.fieldLink RX1 12 "TimeMachine$Assembler" "reader" "LTimeMachine$Reader;") (List.mem_of_getElem? (i := 11) rfl)) (fun _ h9 => h9) rfl dX1_describe_90 ?_
    refine va_get (D := (dC, dI)) (ci := 10) (v := .ref (a 15)) (C := RX9) (T := TX9) (N := 20) hx hb hts hi_dm_X1_describe_X9 hown hK hP 3 rfl rfl 16 (by decide) (hts (.fieldLink RX1 293 "TimeMachine$Reader" "label" "[I") (List.mem_of_getElem? (i := 13) rfl)) (fun _ h9 => h9) rfl dX1_describe_93 ?_
    refine lv_iload_n hx hb dX1_describe_96 rfl (lv_at hl 2 rfl) ?_
    refine lv_iconst (v := 4) hx hb dX1_describe_97 (by decide) ?_
    refine lv_iadd hx hb dX1_describe_98 ?_
    obtain ⟨i8, h⟩ := nd_ck_e h
    refine va_iald (i := (x2 + 4)) hx hb hK hP 10 8 rfl rfl i8 dX1_describe_99 ?_
    refine lv_iconst (v := 1) hx hb dX1_describe_100 (by decide) ?_
    refine lv_icmp_ne (tgt := 119) hx hb dX1_describe_101 (by decide) (fun c9 => ?_) (fun c9 => ?_)
    · have h := nd_neg h c9
      exact (db_X1_describe_119 C K J76) (x2) s0 _ _ _ h hP hD hS (lv_sub hl [0, 1, 2] rfl)
    · have h := nd_pos h c9
      refine lv_aload_n hx hb dX1_describe_104 rfl (lv_at hl 1 rfl) ?_
      refine lv_aload_n hx hb dX1_describe_105 rfl (lv_at hl 0 rfl) ?_
      refine va_get (D := (dC, dI)) (ci := 2) (v := .ref (a 8)) (C := RX1) (T := TX1) (N := 13) hx hb hts hi_dm_X1_describe_X1 hown hK hP 0 rfl rfl 0 (by decide) (hts (.fieldLink RX1 12 "TimeMachine$Assembler" "reader" "LTimeMachine$Reader;") (List.mem_of_getElem? (i := 11) rfl)) (fun _ h9 => h9) rfl dX1_describe_106 ?_
      refine va_get (D := (dC, dI)) (ci := 10) (v := .ref (a 15)) (C := RX9) (T := TX9) (N := 20) hx hb hts hi_dm_X1_describe_X9 hown hK hP 3 rfl rfl 16 (by decide) (hts (.fieldLink RX1 293 "TimeMachine$Reader" "label" "[I") (List.mem_of_getElem? (i := 13) rfl)) (fun _ h9 => h9) rfl dX1_describe_109 ?_
      refine lv_iload_n hx hb dX1_describe_112 rfl (lv_at hl 2 rfl) ?_
      refine lv_iconst (v := 2) hx hb dX1_describe_113 (by decide) ?_
      refine lv_iadd hx hb dX1_describe_114 ?_
      obtain ⟨i11, h⟩ := nd_ck_e h
      refine va_iald (i := (x2 + 2)) hx hb hK hP 10 8 rfl rfl i11 dX1_describe_115 ?_
      obtain ⟨s13, hq, h⟩ := nd_b1_e h
      have hPc := dp_X1p_0 hP
      have hDc := dd_X1p_0 hD
      have hKc := dy_X1p_0 hK
      have hFc := nd_rs hDc hS hA
      have hzA : ∀ q : Nat, H.size ≤ q → A q := fun q h => hA q (Nat.le_trans hS.1 h)
      refine nd_cVv (As := [.int (sR s0.2.1.2 6 (Int32.toNatClampNeg (x2 + 2)))]) (rest := []) (w' := dw_X8 (fun k => a (k + 0)) (fun k => ac (k + 0)) s13) ⟨hx, hb, hml, hown, hts⟩ (fun sz => dm_X8_addLabel l hlt dC dI (fun k => a (k + 0)) (fun k => ac (k + 0)) n ((sR s0.2.1.2 6 (Int32.toNatClampNeg (x2 + 2)))) s0.2.2 hq sz) (cwV 1 hts gi_dm_X1_describe_1 rfl rfl rfl (by decide +kernel) ⟨Nat.le_of_ble_eq_true rfl, Nat.le_of_ble_eq_true rfl⟩) hPc hDc hKc hS hA hN (va_recv hKc hPc (ci := 9) (q0 := 0) rfl rfl) rfl hl.1 rfl (Nat.le_of_ble_eq_true rfl) dX1_describe_116 (fun H locs hP1 hD1 hk1 hS => ?_)
      obtain ⟨hP, hD⟩ := dn_X1p_0 hP hD hzA hk1 hP1 hD1
      obtain ⟨s15, es15, h⟩ := nd_let_e h
      have hP : va_P (dC, dI) vwCl (dw_X1p a ac s15) H := by rw [es15]; exact hP
      have hD : va_D A (dw_X1p a ac s15) := by rw [es15]; exact hD
      exact (db_X1_describe_119 C K J76) (x2) s15 _ _ _ h hP hD hS (lv_sub hl [0, 1, 2] rfl)
set_option maxHeartbeats 40000000 in
set_option maxRecDepth 100000 in
theorem db_X1_describe_76 {p : Program} {l : Launch} {e : Env} {s : State} {m : MethodId} {args : Array Value} {below : List Frame} {meth : Method} {c : Code} {Q : State → Prop} {A : Nat → Prop} {dC : Nat → ClassId} {dI : Nat → Nat → Nat} {a : Nat → Nat} {ac : Nat → ClassId} {n : Nat} {r : St × (St × (St)) × (St)} (C : nd_C p l s m args c A (dC, dI) cX1_describe 3 RX1 ow_dm_X1_describe (dk_X1p ac)) (K : nd_Kv p l e (headSpec ow_dm_X1_describe ({ frames := 1, cells := 0, slots := 0, locals := 23 })).room s m args below meth c Q A (dC, dI) cX1_describe (St × (St × (St)) × (St)) (dw_X1p a ac) r) (k : Nat) : dj_X1_describe_76 p l e s m args below meth c Q A dC dI a ac (df_X1_describe_76 n k) r := by
  induction k with
  | zero => intro x2 s0 H locs ls h; exact nomatch (show (none : Option (St × (St × (St)) × (St))) = some r from h)
  | succ k ih => exact dB_X1_describe_76 C K ih
set_option maxHeartbeats 40000000 in
set_option maxRecDepth 100000 in
theorem db_X1_describe_68 {p : Program} {l : Launch} {e : Env} {s : State} {m : MethodId} {args : Array Value} {below : List Frame} {meth : Method} {c : Code} {Q : State → Prop} {A : Nat → Prop} {dC : Nat → ClassId} {dI : Nat → Nat → Nat} {a : Nat → Nat} {ac : Nat → ClassId} {n : Nat} {r : St × (St × (St)) × (St)} (C : nd_C p l s m args c A (dC, dI) cX1_describe 3 RX1 ow_dm_X1_describe (dk_X1p ac)) (K : nd_Kv p l e (headSpec ow_dm_X1_describe ({ frames := 1, cells := 0, slots := 0, locals := 23 })).room s m args below meth c Q A (dC, dI) cX1_describe (St × (St × (St)) × (St)) (dw_X1p a ac) r) {g26 : Int32 → (St × (St × (St)) × (St)) → Option (St × (St × (St)) × (St))} (J26 : dj_X1_describe_26 p l e s m args below meth c Q A dC dI a ac g26 r) : dj_X1_describe_68 p l e s m args below meth c Q A dC dI a ac (df_X1_describe_68 n g26) r := by
  obtain ⟨hlt, hx, hb, hml, hown, hts, hN, hA, hK⟩ := id C
  intro x2 s0 H locs ls h hP hD hS hl
  unfold df_X1_describe_68 at h
  obtain ⟨z18, ez18, h⟩ := nd_let_e h
  refine lv_iinc (v := z18) (lv' := [(2, .int z18), (0, .ref (a 5)), (1, .ref (a 0))]) hx hb dX1_describe_68 hl (k := 2) rfl (by rw [ez18]) (by decide) rfl (fun ls hl => ?_)
  refine lv_goto (tgt := 26) hx hb dX1_describe_71 (by decide) ?_
  exact (J26) (z18) s0 _ _ _ h hP hD hS (lv_sub hl [1, 2, 0] rfl)
set_option maxHeartbeats 40000000 in
set_option maxRecDepth 100000 in
theorem dB_X1_describe_26 {p : Program} {l : Launch} {e : Env} {s : State} {m : MethodId} {args : Array Value} {below : List Frame} {meth : Method} {c : Code} {Q : State → Prop} {A : Nat → Prop} {dC : Nat → ClassId} {dI : Nat → Nat → Nat} {a : Nat → Nat} {ac : Nat → ClassId} {n : Nat} {r : St × (St × (St)) × (St)} (C : nd_C p l s m args c A (dC, dI) cX1_describe 3 RX1 ow_dm_X1_describe (dk_X1p ac)) (K : nd_Kv p l e (headSpec ow_dm_X1_describe ({ frames := 1, cells := 0, slots := 0, locals := 23 })).room s m args below meth c Q A (dC, dI) cX1_describe (St × (St × (St)) × (St)) (dw_X1p a ac) r) {g26 : Int32 → (St × (St × (St)) × (St)) → Option (St × (St × (St)) × (St))} (J26 : dj_X1_describe_26 p l e s m args below meth c Q A dC dI a ac g26 r) : dj_X1_describe_26 p l e s m args below meth c Q A dC dI a ac (dF_X1_describe_26 n g26) r := by
  obtain ⟨hlt, hx, hb, hml, hown, hts, hN, hA, hK⟩ := id C
  intro x2 s0 H locs ls h hP hD hS hl
  unfold dF_X1_describe_26 at h
  refine lv_iload_n hx hb dX1_describe_26 rfl (lv_at hl 2 rfl) ?_
  refine lv_aload_n hx hb dX1_describe_27 rfl (lv_at hl 0 rfl) ?_
  refine va_get (D := (dC, dI)) (ci := 2) (v := .int (sI s0.2.1.1 0)) (C := RX1) (T := TX1) (N := 13) hx hb hts hi_dm_X1_describe_X1 hown hK hP 0 rfl rfl 2 (by decide) (hts (.fieldLink RX1 65 "TimeMachine$Assembler" "statements" "I") (List.mem_of_getElem? (i := 10) rfl)) (fun _ h9 => h9) rfl dX1_describe_28 ?_
  refine lv_bipush (v := 8) hx hb dX1_describe_31 (by decide) ?_
  refine lv_imul hx hb dX1_describe_33 ?_
  refine lv_icmp_ge (tgt := 74) hx hb dX1_describe_34 (by decide) (fun c6 => ?_) (fun c6 => ?_)
  · have h := nd_pos h c6
    refine lv_iconst (v := 0) hx hb dX1_describe_74 (by decide) ?_
    refine lv_istore_n (lv' := [(2, .int 0), (0, .ref (a 5)), (1, .ref (a 0))]) hx hb dX1_describe_75 rfl hl (by decide) rfl (fun ls hl => ?_)
    exact (db_X1_describe_76 C K n) (0) s0 _ _ _ h hP hD hS (lv_sub hl [1, 2, 0] rfl)
  · have h := nd_neg h c6
    refine lv_aload_n hx hb dX1_describe_37 rfl (lv_at hl 0 rfl) ?_
    refine va_get (D := (dC, dI)) (ci := 2) (v := .ref (a 6)) (C := RX1) (T := TX1) (N := 13) hx hb hts hi_dm_X1_describe_X1 hown hK hP 0 rfl rfl 1 (by decide) (hts (.fieldLink RX1 19 "TimeMachine$Assembler" "statement" "[I") (List.mem_of_getElem? (i := 17) rfl)) (fun _ h9 => h9) rfl dX1_describe_38 ?_
    refine lv_iload_n hx hb dX1_describe_41 rfl (lv_at hl 2 rfl) ?_
    refine lv_iconst (v := 3) hx hb dX1_describe_42 (by decide) ?_
    refine lv_iadd hx hb dX1_describe_43 ?_
    obtain ⟨i16, h⟩ := nd_ck_e h
    refine va_iald (i := (x2 + 3)) hx hb hK hP 1 0 rfl rfl i16 dX1_describe_44 ?_
    refine lv_if_le (tgt := 68) hx hb dX1_describe_45 (by decide) (fun c17 => ?_) (fun c17 => ?_)
    · have h := nd_pos h c17
      exact (db_X1_describe_68 C K J26) (x2) s0 _ _ _ h hP hD hS (lv_sub hl [0, 1, 2] rfl)
    · have h := nd_neg h c17
      refine lv_aload_n hx hb dX1_describe_48 rfl (lv_at hl 1 rfl) ?_
      refine lv_aload_n hx hb dX1_describe_49 rfl (lv_at hl 0 rfl) ?_
      refine va_get (D := (dC, dI)) (ci := 2) (v := .ref (a 6)) (C := RX1) (T := TX1) (N := 13) hx hb hts hi_dm_X1_describe_X1 hown hK hP 0 rfl rfl 1 (by decide) (hts (.fieldLink RX1 19 "TimeMachine$Assembler" "statement" "[I") (List.mem_of_getElem? (i := 17) rfl)) (fun _ h9 => h9) rfl dX1_describe_50 ?_
      refine lv_iload_n hx hb dX1_describe_53 rfl (lv_at hl 2 rfl) ?_
      refine lv_iconst (v := 2) hx hb dX1_describe_54 (by decide) ?_
      refine lv_iadd hx hb dX1_describe_55 ?_
      obtain ⟨i19, h⟩ := nd_ck_e h
      refine va_iald (i := (x2 + 2)) hx hb hK hP 1 0 rfl rfl i19 dX1_describe_56 ?_
      refine lv_aload_n hx hb dX1_describe_57 rfl (lv_at hl 0 rfl) ?_
      refine va_get (D := (dC, dI)) (ci := 2) (v := .ref (a 6)) (C := RX1) (T := TX1) (N := 13) hx hb hts hi_dm_X1_describe_X1 hown hK hP 0 rfl rfl 1 (by decide) (hts (.fieldLink RX1 19 "TimeMachine$Assembler" "statement" "[I") (List.mem_of_getElem? (i := 17) rfl)) (fun _ h9 => h9) rfl dX1_describe_58 ?_
      refine lv_iload_n hx hb dX1_describe_61 rfl (lv_at hl 2 rfl) ?_
      refine lv_iconst (v := 0) hx hb dX1_describe_62 (by decide) ?_
      refine lv_iadd hx hb dX1_describe_63 ?_
      obtain ⟨i20, h⟩ := nd_ck_e h
      refine va_iald (i := (x2 + 0)) hx hb hK hP 1 0 rfl rfl i20 dX1_describe_64 ?_
      obtain ⟨s22, hq, h⟩ := nd_b1_e h
      have hPc := dp_X1p_0 hP
      have hDc := dd_X1p_0 hD
      have hKc := dy_X1p_0 hK
      have hFc := nd_rs hDc hS hA
      have hzA : ∀ q : Nat, H.size ≤ q → A q := fun q h => hA q (Nat.le_trans hS.1 h)
      refine nd_cVv (As := [.int (sR s0.2.1.1 0 (Int32.toNatClampNeg (x2 + 2))), .int (sR s0.2.1.1 0 (Int32.toNatClampNeg (x2 + 0)))]) (rest := []) (w' := dw_X8 (fun k => a (k + 0)) (fun k => ac (k + 0)) s22) ⟨hx, hb, hml, hown, hts⟩ (fun sz => dm_X8_addStatement l hlt dC dI (fun k => a (k + 0)) (fun k => ac (k + 0)) n ((sR s0.2.1.1 0 (Int32.toNatClampNeg (x2 + 2)))) ((sR s0.2.1.1 0 (Int32.toNatClampNeg (x2 + 0)))) s0.2.2 hq sz) (cwV 2 hts gi_dm_X1_describe_2 rfl rfl rfl (by decide +kernel) ⟨Nat.le_of_ble_eq_true rfl, Nat.le_of_ble_eq_true rfl⟩) hPc hDc hKc hS hA hN (va_recv hKc hPc (ci := 9) (q0 := 0) rfl rfl) rfl hl.1 rfl (Nat.le_of_ble_eq_true rfl) dX1_describe_65 (fun H locs hP1 hD1 hk1 hS => ?_)
      obtain ⟨hP, hD⟩ := dn_X1p_0 hP hD hzA hk1 hP1 hD1
      obtain ⟨s24, es24, h⟩ := nd_let_e h
      have hP : va_P (dC, dI) vwCl (dw_X1p a ac s24) H := by rw [es24]; exact hP
      have hD : va_D A (dw_X1p a ac s24) := by rw [es24]; exact hD
      exact (db_X1_describe_68 C K J26) (x2) s24 _ _ _ h hP hD hS (lv_sub hl [0, 1, 2] rfl)
set_option maxHeartbeats 40000000 in
set_option maxRecDepth 100000 in
theorem db_X1_describe_26 {p : Program} {l : Launch} {e : Env} {s : State} {m : MethodId} {args : Array Value} {below : List Frame} {meth : Method} {c : Code} {Q : State → Prop} {A : Nat → Prop} {dC : Nat → ClassId} {dI : Nat → Nat → Nat} {a : Nat → Nat} {ac : Nat → ClassId} {n : Nat} {r : St × (St × (St)) × (St)} (C : nd_C p l s m args c A (dC, dI) cX1_describe 3 RX1 ow_dm_X1_describe (dk_X1p ac)) (K : nd_Kv p l e (headSpec ow_dm_X1_describe ({ frames := 1, cells := 0, slots := 0, locals := 23 })).room s m args below meth c Q A (dC, dI) cX1_describe (St × (St × (St)) × (St)) (dw_X1p a ac) r) (k : Nat) : dj_X1_describe_26 p l e s m args below meth c Q A dC dI a ac (df_X1_describe_26 n k) r := by
  induction k with
  | zero => intro x2 s0 H locs ls h; exact nomatch (show (none : Option (St × (St × (St)) × (St))) = some r from h)
  | succ k ih => exact dB_X1_describe_26 C K ih
set_option maxHeartbeats 40000000 in
set_option maxRecDepth 100000 in
theorem db_X1_describe_0 {p : Program} {l : Launch} {e : Env} {s : State} {m : MethodId} {args : Array Value} {below : List Frame} {meth : Method} {c : Code} {Q : State → Prop} {A : Nat → Prop} {dC : Nat → ClassId} {dI : Nat → Nat → Nat} {a : Nat → Nat} {ac : Nat → ClassId} {n : Nat} {r : St × (St × (St)) × (St)} (C : nd_C p l s m args c A (dC, dI) cX1_describe 3 RX1 ow_dm_X1_describe (dk_X1p ac)) (K : nd_Kv p l e (headSpec ow_dm_X1_describe ({ frames := 1, cells := 0, slots := 0, locals := 23 })).room s m args below meth c Q A (dC, dI) cX1_describe (St × (St × (St)) × (St)) (dw_X1p a ac) r) : dj_X1_describe_0 p l e s m args below meth c Q A dC dI a ac (df_X1_describe_0 n) r := by
  obtain ⟨hlt, hx, hb, hml, hown, hts, hN, hA, hK⟩ := id C
  intro s0 H locs ls h hP hD hS hl
  unfold df_X1_describe_0 at h
  refine lv_aload_n hx hb dX1_describe_0 rfl (lv_at hl 1 rfl) ?_
  refine lv_aload_n hx hb dX1_describe_1 rfl (lv_at hl 0 rfl) ?_
  refine va_get (D := (dC, dI)) (ci := 2) (v := .int (sI s0.2.1.1 7)) (C := RX1) (T := TX1) (N := 13) hx hb hts hi_dm_X1_describe_X1 hown hK hP 0 rfl rfl 10 (by decide) (hts (.fieldLink RX1 284 "TimeMachine$Assembler" "textSize" "I") (List.mem_of_getElem? (i := 1) rfl)) (fun _ h9 => h9) rfl dX1_describe_2 ?_
  refine lv_aload_n hx hb dX1_describe_5 rfl (lv_at hl 0 rfl) ?_
  refine va_get (D := (dC, dI)) (ci := 2) (v := .int (sI s0.2.1.1 8)) (C := RX1) (T := TX1) (N := 13) hx hb hts hi_dm_X1_describe_X1 hown hK hP 0 rfl rfl 11 (by decide) (hts (.fieldLink RX1 287 "TimeMachine$Assembler" "dataStart" "I") (List.mem_of_getElem? (i := 2) rfl)) (fun _ h9 => h9) rfl dX1_describe_6 ?_
  refine lv_aload_n hx hb dX1_describe_9 rfl (lv_at hl 0 rfl) ?_
  refine va_get (D := (dC, dI)) (ci := 2) (v := .int (sI s0.2.1.1 9)) (C := RX1) (T := TX1) (N := 13) hx hb hts hi_dm_X1_describe_X1 hown hK hP 0 rfl rfl 12 (by decide) (hts (.fieldLink RX1 50 "TimeMachine$Assembler" "size" "I") (List.mem_of_getElem? (i := 3) rfl)) (fun _ h9 => h9) rfl dX1_describe_10 ?_
  obtain ⟨s2, hq, h⟩ := nd_b1_e h
  have hPc := dp_X1p_0 hP
  have hDc := dd_X1p_0 hD
  have hKc := dy_X1p_0 hK
  have hFc := nd_rs hDc hS hA
  have hzA : ∀ q : Nat, H.size ≤ q → A q := fun q h => hA q (Nat.le_trans hS.1 h)
  refine nd_cVv (As := [.int (sI s0.2.1.1 7), .int (sI s0.2.1.1 8), .int (sI s0.2.1.1 9)]) (rest := []) (w' := dw_X8 (fun k => a (k + 0)) (fun k => ac (k + 0)) s2) ⟨hx, hb, hml, hown, hts⟩ (fun sz => dm_X8_startDescription l hlt dC dI (fun k => a (k + 0)) (fun k => ac (k + 0)) n ((sI s0.2.1.1 7)) ((sI s0.2.1.1 8)) ((sI s0.2.1.1 9)) s0.2.2 hq sz) (cwV 3 hts gi_dm_X1_describe_0 rfl rfl rfl (by decide +kernel) ⟨Nat.le_of_ble_eq_true rfl, Nat.le_of_ble_eq_true rfl⟩) hPc hDc hKc hS hA hN (va_recv hKc hPc (ci := 9) (q0 := 0) rfl rfl) rfl hl.1 rfl (Nat.le_of_ble_eq_true rfl) dX1_describe_13 (fun H locs hP1 hD1 hk1 hS => ?_)
  obtain ⟨hP, hD⟩ := dn_X1p_0 hP hD hzA hk1 hP1 hD1
  obtain ⟨s4, es4, h⟩ := nd_let_e h
  have hP : va_P (dC, dI) vwCl (dw_X1p a ac s4) H := by rw [es4]; exact hP
  have hD : va_D A (dw_X1p a ac s4) := by rw [es4]; exact hD
  refine lv_aload_n hx hb dX1_describe_16 rfl (lv_at hl 1 rfl) ?_
  refine lv_aload_n hx hb dX1_describe_17 rfl (lv_at hl 0 rfl) ?_
  refine va_get (D := (dC, dI)) (ci := 2) (v := .int (sI s4.2.1.1 6)) (C := RX1) (T := TX1) (N := 13) hx hb hts hi_dm_X1_describe_X1 hown hK hP 0 rfl rfl 9 (by decide) (hts (.fieldLink RX1 74 "TimeMachine$Assembler" "constants" "I") (List.mem_of_getElem? (i := 8) rfl)) (fun _ h9 => h9) rfl dX1_describe_18 ?_
  refine va_put (D := (dC, dI)) (ci := 9) (v := .int (sI s4.2.1.1 6)) (ty := .int) (C := RX8) (T := TX8) (N := 10) hx hb hts hi_dm_X1_describe_X8 tyX8 tyX8_ok nmX8 hown hK hP hD hS 12 rfl rfl 4 (by decide) (hts (.fieldLink RX1 360 "TimeMachine$Program" "constants" "I") (List.mem_of_getElem? (i := 9) rfl)) (fun _ h9 => h9) rfl (by decide +kernel) rfl rfl (Nat.le_of_ble_eq_true rfl) dX1_describe_21 (fun H locs hP hD hS => ?_)
  obtain ⟨s5, es5, h⟩ := nd_let_e h
  have hP : va_P (dC, dI) vwCl (dw_X1p a ac s5) H := by rw [es5]; exact hP
  have hD : va_D A (dw_X1p a ac s5) := by rw [es5]; exact hD
  refine lv_iconst (v := 0) hx hb dX1_describe_24 (by decide) ?_
  refine lv_istore_n (lv' := [(2, .int 0), (0, .ref (a 5)), (1, .ref (a 0))]) hx hb dX1_describe_25 rfl hl (by decide) rfl (fun ls hl => ?_)
  exact (db_X1_describe_26 C K n) (0) s5 _ _ _ h hP hD hS (lv_sub hl [1, 2, 0] rfl)
set_option maxHeartbeats 40000000 in
set_option maxRecDepth 100000 in
theorem dm_X1_describe (l : Launch) (hlt : l.stackTraces = false) (dC : Nat → ClassId) (dI : Nat → Nat → Nat) (a : Nat → Nat) (ac : Nat → ClassId) (n : Nat) (s0 : St × (St × (St)) × (St)) {r : St × (St × (St)) × (St)} (h : df_X1_describe n s0 = some r) (sz : Nat) : Met l yX1_describe ow_dm_X1_describe ({ frames := 1, cells := 0, slots := 0, locals := 23 }) (va_Pc [.ref (a 5), .ref (a 0)] (fun U => U.heap.size = sz ∧ va_P (dC, dI) vwCl (dw_X1p a ac s0) U.heap ∧ va_K (dC, dI) vwCl (dk_X1p ac) U ∧ va_D (fun _ => True) (dw_X1p a ac s0) ∧ nv_E dI (va_A (dw_X1p a ac s0) sz) U)) (va_Qv (fun _ => True) (fun (_ : Unit) t => va_P (dC, dI) vwCl (dw_X1p a ac r) t.heap ∧ va_K (dC, dI) vwCl (dk_X1p ac) t ∧ va_D (va_A (dw_X1p a ac s0) sz) (dw_X1p a ac r)) (va_A (dw_X1p a ac s0) sz)) 0 0 (va_A (dw_X1p a ac s0) sz) := by
  refine Met.ofW (cc := cX1_describe) (maxL := 3) (ret := none) (by decide) rfl ?_
  intro p e s m args below meth c s₁ B hml hv
  obtain ⟨rfl, hsz, hP, hK, hD0, hN⟩ := hv
  have hx := B.exec
  have hb := B.bytes
  have hr := B.returns
  have hts := atoms_spec (ws := ow_dm_X1_describe) B.pre
  have hown : s.vm.findClass RX1 = some m.cls := findClass_of_methodNamed B.named
  have hlocks := B.notSynchronized
  subst hsz
  have hD := hD0.self (sz := s.heap.size)
  generalize hAe : va_A (dw_X1p a ac s0) s.heap.size = A at hD hN ⊢
  have hA : ∀ q : Nat, s.heap.size ≤ q → A q := fun q h => by rw [← hAe]; exact Or.inr h
  have hl := lv_entry ([.ref (a 5), .ref (a 0)]) (n := 3) (Nat.le_of_ble_eq_true rfl)
  rw [lg_entry_eq]
  generalize (lg_sl ([.ref (a 5), .ref (a 0)]) ++ List.replicate (3 - (lg_sl ([.ref (a 5), .ref (a 0)])).length) Slot.unset).toArray = ls at hl ⊢
  have hl : lv_has ls 3 [(0, .ref (a 5)), (1, .ref (a 0))] := hl
  exact db_X1_describe_0 (dC := dC) (dI := dI) (a := a) (ac := ac) (n := n) (r := r) ⟨hlt, hx, hb, hml, hown, hts, hN, hA, hK⟩ (fun pc τ H locs ls d er hP hD hS => by subst er; exact W.vret hx hb hr (fun t ht hW => ⟨⟨(), rfl, trivial, by rw [ht]; exact hP, va_K.moved hW.alike hK, hD⟩, hS.F ht⟩) hS.2.2 d) s0 _ _ _ h hP hD va_S.rf (lv_sub hl [0, 1] rfl)
def ow_dm_X1_moveData : List Cond := Cond.code yX1_moveData cX1_moveData 2 none :: ([Cond.fieldLink RX1 65 "TimeMachine$Assembler" "statements" "I", Cond.fieldLink RX1 12 "TimeMachine$Assembler" "reader" "LTimeMachine$Reader;", Cond.fieldLink RX1 274 "TimeMachine$Reader" "labels" "I", Cond.fieldLink RX1 293 "TimeMachine$Reader" "label" "[I", Cond.fieldLink RX1 287 "TimeMachine$Assembler" "dataStart" "I", Cond.fieldLink RX1 19 "TimeMachine$Assembler" "statement" "[I"] ++ (u_ws RX1 TX1 13 ++ (u_ws RX9 TX9 20 ++ [])))
theorem gd_dm_X1_moveData : ∀ w ∈ ow_dm_X1_moveData, (w.onTables && w.keeps) = true ∨ ∃ ty, w = Cond.arrayClass ty := List.forall_mem_cons.mpr ⟨good_of_word rfl, List.forall_mem_append.mpr ⟨fun w h => good_of_word (List.all_eq_true.mp (by decide +kernel) w h), List.forall_mem_append.mpr ⟨gu_X1, List.forall_mem_append.mpr ⟨gu_X9, fun _ h => nomatch h⟩⟩⟩⟩
theorem hi_dm_X1_moveData_X1 : ∀ w ∈ u_ws RX1 TX1 13, w ∈ ow_dm_X1_moveData := fun w h => List.mem_cons_of_mem _ (List.mem_append_right _ (List.mem_append_left _ h))
theorem hi_dm_X1_moveData_X9 : ∀ w ∈ u_ws RX9 TX9 20, w ∈ ow_dm_X1_moveData := fun w h => List.mem_cons_of_mem _ (List.mem_append_right _ (List.mem_append_right _ (List.mem_append_left _ h)))
def dj_X1_moveData_99 (p : Program) (l : Launch) (e : Env) (s : State) (m : MethodId) (args : Array Value) (below : List Frame) (meth : Method) (c : Code) (Q : State → Prop) (A : Nat → Prop) (dC : Nat → ClassId) (dI : Nat → Nat → Nat) (a : Nat → Nat) (ac : Nat → ClassId) (g : Int32 → (St × (St)) → Option (St × (St))) (r : St × (St)) : Prop := ∀ (x1 : Int32) (s0 : St × (St)) (H : Heap) (locs : List Loc) (ls : Array Slot), g x1 s0 = some r → va_P (dC, dI) vwCl (dw_X1 a ac s0) H → va_D A (dw_X1 a ac s0) → va_S A s.heap H locs → lv_has ls 2 [(0, .ref (a 0)), (1, .int x1)] → W p l e (headSpec ow_dm_X1_moveData ({ frames := 0, cells := 0, slots := 0, locals := 0 })).room s m args below meth c H locs 0 0 Q (F0 m 99 ls [])
def dj_X1_moveData_51 (p : Program) (l : Launch) (e : Env) (s : State) (m : MethodId) (args : Array Value) (below : List Frame) (meth : Method) (c : Code) (Q : State → Prop) (A : Nat → Prop) (dC : Nat → ClassId) (dI : Nat → Nat → Nat) (a : Nat → Nat) (ac : Nat → ClassId) (g : Int32 → (St × (St)) → Option (St × (St))) (r : St × (St)) : Prop := ∀ (x1 : Int32) (s0 : St × (St)) (H : Heap) (locs : List Loc) (ls : Array Slot), g x1 s0 = some r → va_P (dC, dI) vwCl (dw_X1 a ac s0) H → va_D A (dw_X1 a ac s0) → va_S A s.heap H locs → lv_has ls 2 [(0, .ref (a 0)), (1, .int x1)] → W p l e (headSpec ow_dm_X1_moveData ({ frames := 0, cells := 0, slots := 0, locals := 0 })).room s m args below meth c H locs 0 0 Q (F0 m 51 ls [])
def dj_X1_moveData_43 (p : Program) (l : Launch) (e : Env) (s : State) (m : MethodId) (args : Array Value) (below : List Frame) (meth : Method) (c : Code) (Q : State → Prop) (A : Nat → Prop) (dC : Nat → ClassId) (dI : Nat → Nat → Nat) (a : Nat → Nat) (ac : Nat → ClassId) (g : Int32 → (St × (St)) → Option (St × (St))) (r : St × (St)) : Prop := ∀ (x1 : Int32) (s0 : St × (St)) (H : Heap) (locs : List Loc) (ls : Array Slot), g x1 s0 = some r → va_P (dC, dI) vwCl (dw_X1 a ac s0) H → va_D A (dw_X1 a ac s0) → va_S A s.heap H locs → lv_has ls 2 [(0, .ref (a 0)), (1, .int x1)] → W p l e (headSpec ow_dm_X1_moveData ({ frames := 0, cells := 0, slots := 0, locals := 0 })).room s m args below meth c H locs 0 0 Q (F0 m 43 ls [])
def dj_X1_moveData_2 (p : Program) (l : Launch) (e : Env) (s : State) (m : MethodId) (args : Array Value) (below : List Frame) (meth : Method) (c : Code) (Q : State → Prop) (A : Nat → Prop) (dC : Nat → ClassId) (dI : Nat → Nat → Nat) (a : Nat → Nat) (ac : Nat → ClassId) (g : Int32 → (St × (St)) → Option (St × (St))) (r : St × (St)) : Prop := ∀ (x1 : Int32) (s0 : St × (St)) (H : Heap) (locs : List Loc) (ls : Array Slot), g x1 s0 = some r → va_P (dC, dI) vwCl (dw_X1 a ac s0) H → va_D A (dw_X1 a ac s0) → va_S A s.heap H locs → lv_has ls 2 [(0, .ref (a 0)), (1, .int x1)] → W p l e (headSpec ow_dm_X1_moveData ({ frames := 0, cells := 0, slots := 0, locals := 0 })).room s m args below meth c H locs 0 0 Q (F0 m 2 ls [])
def dj_X1_moveData_0 (p : Program) (l : Launch) (e : Env) (s : State) (m : MethodId) (args : Array Value) (below : List Frame) (meth : Method) (c : Code) (Q : State → Prop) (A : Nat → Prop) (dC : Nat → ClassId) (dI : Nat → Nat → Nat) (a : Nat → Nat) (ac : Nat → ClassId) (g : (St × (St)) → Option (St × (St))) (r : St × (St)) : Prop := ∀ (s0 : St × (St)) (H : Heap) (locs : List Loc) (ls : Array Slot), g s0 = some r → va_P (dC, dI) vwCl (dw_X1 a ac s0) H → va_D A (dw_X1 a ac s0) → va_S A s.heap H locs → lv_has ls 2 [(0, .ref (a 0))] → W p l e (headSpec ow_dm_X1_moveData ({ frames := 0, cells := 0, slots := 0, locals := 0 })).room s m args below meth c H locs 0 0 Q (F0 m 0 ls [])
set_option maxHeartbeats 40000000 in
set_option maxRecDepth 100000 in
theorem db_X1_moveData_99 {p : Program} {l : Launch} {e : Env} {s : State} {m : MethodId} {args : Array Value} {below : List Frame} {meth : Method} {c : Code} {Q : State → Prop} {A : Nat → Prop} {dC : Nat → ClassId} {dI : Nat → Nat → Nat} {a : Nat → Nat} {ac : Nat → ClassId} {n : Nat} {r : St × (St)} (C : nd_C p l s m args c A (dC, dI) cX1_moveData 2 RX1 ow_dm_X1_moveData (dk_X1 ac)) (K : nd_Kv p l e (headSpec ow_dm_X1_moveData ({ frames := 0, cells := 0, slots := 0, locals := 0 })).room s m args below meth c Q A (dC, dI) cX1_moveData (St × (St)) (dw_X1 a ac) r) {g51 : Int32 → (St × (St)) → Option (St × (St))} (J51 : dj_X1_moveData_51 p l e s m args below meth c Q A dC dI a ac g51 r) : dj_X1_moveData_99 p l e s m args below meth c Q A dC dI a ac (df_X1_moveData_99 n g51) r := by
  obtain ⟨hlt, hx, hb, hml, hown, hts, hN, hA, hK⟩ := id C
  intro x1 s0 H locs ls h hP hD hS hl
  unfold df_X1_moveData_99 at h
  obtain ⟨z5, ez5, h⟩ := nd_let_e h
  refine lv_iinc (v := z5) (lv' := [(1, .int z5), (0, .ref (a 0))]) hx hb dX1_moveData_99 hl (k := 1) rfl (by rw [ez5]) (by decide) rfl (fun ls hl => ?_)
  refine lv_goto (tgt := 51) hx hb dX1_moveData_102 (by decide) ?_
  exact (J51) (z5) s0 _ _ _ h hP hD hS (lv_sub hl [1, 0] rfl)
set_option maxHeartbeats 40000000 in
set_option maxRecDepth 100000 in
theorem dB_X1_moveData_51 {p : Program} {l : Launch} {e : Env} {s : State} {m : MethodId} {args : Array Value} {below : List Frame} {meth : Method} {c : Code} {Q : State → Prop} {A : Nat → Prop} {dC : Nat → ClassId} {dI : Nat → Nat → Nat} {a : Nat → Nat} {ac : Nat → ClassId} {n : Nat} {r : St × (St)} (C : nd_C p l s m args c A (dC, dI) cX1_moveData 2 RX1 ow_dm_X1_moveData (dk_X1 ac)) (K : nd_Kv p l e (headSpec ow_dm_X1_moveData ({ frames := 0, cells := 0, slots := 0, locals := 0 })).room s m args below meth c Q A (dC, dI) cX1_moveData (St × (St)) (dw_X1 a ac) r) {g51 : Int32 → (St × (St)) → Option (St × (St))} (J51 : dj_X1_moveData_51 p l e s m args below meth c Q A dC dI a ac g51 r) : dj_X1_moveData_51 p l e s m args below meth c Q A dC dI a ac (dF_X1_moveData_51 n g51) r := by
  obtain ⟨hlt, hx, hb, hml, hown, hts, hN, hA, hK⟩ := id C
  intro x1 s0 H locs ls h hP hD hS hl
  unfold dF_X1_moveData_51 at h
  refine lv_iload_n hx hb dX1_moveData_51 rfl (lv_at hl 1 rfl) ?_
  refine lv_aload_n hx hb dX1_moveData_52 rfl (lv_at hl 0 rfl) ?_
  refine va_get (D := (dC, dI)) (ci := 2) (v := .ref (a 3)) (C := RX1) (T := TX1) (N := 13) hx hb hts hi_dm_X1_moveData_X1 hown hK hP 0 rfl rfl 0 (by decide) (hts (.fieldLink RX1 12 "TimeMachine$Assembler" "reader" "LTimeMachine$Reader;") (List.mem_of_getElem? (i := 2) rfl)) (fun _ h9 => h9) rfl dX1_moveData_53 ?_
  refine va_get (D := (dC, dI)) (ci := 10) (v := .int (sI s0.2 9)) (C := RX9) (T := TX9) (N := 20) hx hb hts hi_dm_X1_moveData_X9 hown hK hP 3 rfl rfl 17 (by decide) (hts (.fieldLink RX1 274 "TimeMachine$Reader" "labels" "I") (List.mem_of_getElem? (i := 3) rfl)) (fun _ h9 => h9) rfl dX1_moveData_56 ?_
  refine lv_icmp_ge (tgt := 105) hx hb dX1_moveData_59 (by decide) (fun c2 => ?_) (fun c2 => ?_)
  · have h := nd_pos h c2
    exact K _ _ _ _ _ dX1_moveData_105 (Option.some.inj h).symm hP hD hS
  · have h := nd_neg h c2
    refine lv_aload_n hx hb dX1_moveData_62 rfl (lv_at hl 0 rfl) ?_
    refine va_get (D := (dC, dI)) (ci := 2) (v := .ref (a 3)) (C := RX1) (T := TX1) (N := 13) hx hb hts hi_dm_X1_moveData_X1 hown hK hP 0 rfl rfl 0 (by decide) (hts (.fieldLink RX1 12 "TimeMachine$Assembler" "reader" "LTimeMachine$Reader;") (List.mem_of_getElem? (i := 2) rfl)) (fun _ h9 => h9) rfl dX1_moveData_63 ?_
    refine va_get (D := (dC, dI)) (ci := 10) (v := .ref (a 10)) (C := RX9) (T := TX9) (N := 20) hx hb hts hi_dm_X1_moveData_X9 hown hK hP 3 rfl rfl 16 (by decide) (hts (.fieldLink RX1 293 "TimeMachine$Reader" "label" "[I") (List.mem_of_getElem? (i := 4) rfl)) (fun _ h9 => h9) rfl dX1_moveData_66 ?_
    refine lv_iload_n hx hb dX1_moveData_69 rfl (lv_at hl 1 rfl) ?_
    refine lv_iconst (v := 5) hx hb dX1_moveData_70 (by decide) ?_
    refine lv_imul hx hb dX1_moveData_71 ?_
    refine lv_iconst (v := 1) hx hb dX1_moveData_72 (by decide) ?_
    refine lv_iadd hx hb dX1_moveData_73 ?_
    obtain ⟨i3, h⟩ := nd_ck_e h
    refine va_iald (i := ((x1 * 5) + 1)) hx hb hK hP 10 8 rfl rfl i3 dX1_moveData_74 ?_
    refine lv_iconst (v := 1) hx hb dX1_moveData_75 (by decide) ?_
    refine lv_icmp_ne (tgt := 99) hx hb dX1_moveData_76 (by decide) (fun c4 => ?_) (fun c4 => ?_)
    · have h := nd_neg h c4
      exact (db_X1_moveData_99 C K J51) (x1) s0 _ _ _ h hP hD hS (lv_sub hl [0, 1] rfl)
    · have h := nd_pos h c4
      refine lv_aload_n hx hb dX1_moveData_79 rfl (lv_at hl 0 rfl) ?_
      refine va_get (D := (dC, dI)) (ci := 2) (v := .ref (a 3)) (C := RX1) (T := TX1) (N := 13) hx hb hts hi_dm_X1_moveData_X1 hown hK hP 0 rfl rfl 0 (by decide) (hts (.fieldLink RX1 12 "TimeMachine$Assembler" "reader" "LTimeMachine$Reader;") (List.mem_of_getElem? (i := 2) rfl)) (fun _ h9 => h9) rfl dX1_moveData_80 ?_
      refine va_get (D := (dC, dI)) (ci := 10) (v := .ref (a 10)) (C := RX9) (T := TX9) (N := 20) hx hb hts hi_dm_X1_moveData_X9 hown hK hP 3 rfl rfl 16 (by decide) (hts (.fieldLink RX1 293 "TimeMachine$Reader" "label" "[I") (List.mem_of_getElem? (i := 4) rfl)) (fun _ h9 => h9) rfl dX1_moveData_83 ?_
      refine lv_iload_n hx hb dX1_moveData_86 rfl (lv_at hl 1 rfl) ?_
      refine lv_iconst (v := 5) hx hb dX1_moveData_87 (by decide) ?_
      refine lv_imul hx hb dX1_moveData_88 ?_
      refine lv_iconst (v := 2) hx hb dX1_moveData_89 (by decide) ?_
      refine lv_iadd hx hb dX1_moveData_90 ?_
      refine lv_dup2_11 hx hb dX1_moveData_91 rfl rfl ?_
      obtain ⟨i6, h⟩ := nd_ck_e h
      refine va_iald (i := ((x1 * 5) + 2)) hx hb hK hP 10 8 rfl rfl i6 dX1_moveData_92 ?_
      refine lv_aload_n hx hb dX1_moveData_93 rfl (lv_at hl 0 rfl) ?_
      refine va_get (D := (dC, dI)) (ci := 2) (v := .int (sI s0.1 8)) (C := RX1) (T := TX1) (N := 13) hx hb hts hi_dm_X1_moveData_X1 hown hK hP 0 rfl rfl 11 (by decide) (hts (.fieldLink RX1 287 "TimeMachine$Assembler" "dataStart" "I") (List.mem_of_getElem? (i := 5) rfl)) (fun _ h9 => h9) rfl dX1_moveData_94 ?_
      refine lv_iadd hx hb dX1_moveData_97 ?_
      obtain ⟨i7, h⟩ := nd_ck_e h
      refine va_iast (i := ((x1 * 5) + 2)) (x := ((sR s0.2 6 (Int32.toNatClampNeg ((x1 * 5) + 2))) + (sI s0.1 8))) hx hb hK hP hD hS 10 8 rfl rfl i7 dX1_moveData_98 (fun H locs hP hD hS => ?_)
      obtain ⟨s8, es8, h⟩ := nd_let_e h
      have hP : va_P (dC, dI) vwCl (dw_X1 a ac s8) H := by rw [es8]; exact hP
      have hD : va_D A (dw_X1 a ac s8) := by rw [es8]; exact hD
      exact (db_X1_moveData_99 C K J51) (x1) s8 _ _ _ h hP hD hS (lv_sub hl [0, 1] rfl)
set_option maxHeartbeats 40000000 in
set_option maxRecDepth 100000 in
theorem db_X1_moveData_51 {p : Program} {l : Launch} {e : Env} {s : State} {m : MethodId} {args : Array Value} {below : List Frame} {meth : Method} {c : Code} {Q : State → Prop} {A : Nat → Prop} {dC : Nat → ClassId} {dI : Nat → Nat → Nat} {a : Nat → Nat} {ac : Nat → ClassId} {n : Nat} {r : St × (St)} (C : nd_C p l s m args c A (dC, dI) cX1_moveData 2 RX1 ow_dm_X1_moveData (dk_X1 ac)) (K : nd_Kv p l e (headSpec ow_dm_X1_moveData ({ frames := 0, cells := 0, slots := 0, locals := 0 })).room s m args below meth c Q A (dC, dI) cX1_moveData (St × (St)) (dw_X1 a ac) r) (k : Nat) : dj_X1_moveData_51 p l e s m args below meth c Q A dC dI a ac (df_X1_moveData_51 n k) r := by
  induction k with
  | zero => intro x1 s0 H locs ls h; exact nomatch (show (none : Option (St × (St))) = some r from h)
  | succ k ih => exact dB_X1_moveData_51 C K ih
set_option maxHeartbeats 40000000 in
set_option maxRecDepth 100000 in
theorem db_X1_moveData_43 {p : Program} {l : Launch} {e : Env} {s : State} {m : MethodId} {args : Array Value} {below : List Frame} {meth : Method} {c : Code} {Q : State → Prop} {A : Nat → Prop} {dC : Nat → ClassId} {dI : Nat → Nat → Nat} {a : Nat → Nat} {ac : Nat → ClassId} {n : Nat} {r : St × (St)} (C : nd_C p l s m args c A (dC, dI) cX1_moveData 2 RX1 ow_dm_X1_moveData (dk_X1 ac)) (K : nd_Kv p l e (headSpec ow_dm_X1_moveData ({ frames := 0, cells := 0, slots := 0, locals := 0 })).room s m args below meth c Q A (dC, dI) cX1_moveData (St × (St)) (dw_X1 a ac) r) {g2 : Int32 → (St × (St)) → Option (St × (St))} (J2 : dj_X1_moveData_2 p l e s m args below meth c Q A dC dI a ac g2 r) : dj_X1_moveData_43 p l e s m args below meth c Q A dC dI a ac (df_X1_moveData_43 n g2) r := by
  obtain ⟨hlt, hx, hb, hml, hown, hts, hN, hA, hK⟩ := id C
  intro x1 s0 H locs ls h hP hD hS hl
  unfold df_X1_moveData_43 at h
  obtain ⟨z11, ez11, h⟩ := nd_let_e h
  refine lv_iinc (v := z11) (lv' := [(1, .int z11), (0, .ref (a 0))]) hx hb dX1_moveData_43 hl (k := 1) rfl (by rw [ez11]) (by decide) rfl (fun ls hl => ?_)
  refine lv_goto (tgt := 2) hx hb dX1_moveData_46 (by decide) ?_
  exact (J2) (z11) s0 _ _ _ h hP hD hS (lv_sub hl [1, 0] rfl)
set_option maxHeartbeats 40000000 in
set_option maxRecDepth 100000 in
theorem dB_X1_moveData_2 {p : Program} {l : Launch} {e : Env} {s : State} {m : MethodId} {args : Array Value} {below : List Frame} {meth : Method} {c : Code} {Q : State → Prop} {A : Nat → Prop} {dC : Nat → ClassId} {dI : Nat → Nat → Nat} {a : Nat → Nat} {ac : Nat → ClassId} {n : Nat} {r : St × (St)} (C : nd_C p l s m args c A (dC, dI) cX1_moveData 2 RX1 ow_dm_X1_moveData (dk_X1 ac)) (K : nd_Kv p l e (headSpec ow_dm_X1_moveData ({ frames := 0, cells := 0, slots := 0, locals := 0 })).room s m args below meth c Q A (dC, dI) cX1_moveData (St × (St)) (dw_X1 a ac) r) {g2 : Int32 → (St × (St)) → Option (St × (St))} (J2 : dj_X1_moveData_2 p l e s m args below meth c Q A dC dI a ac g2 r) : dj_X1_moveData_2 p l e s m args below meth c Q A dC dI a ac (dF_X1_moveData_2 n g2) r := by
  obtain ⟨hlt, hx, hb, hml, hown, hts, hN, hA, hK⟩ := id C
  intro x1 s0 H locs ls h hP hD hS hl
  unfold dF_X1_moveData_2 at h
  refine lv_iload_n hx hb dX1_moveData_2 rfl (lv_at hl 1 rfl) ?_
  refine lv_aload_n hx hb dX1_moveData_3 rfl (lv_at hl 0 rfl) ?_
  refine va_get (D := (dC, dI)) (ci := 2) (v := .int (sI s0.1 0)) (C := RX1) (T := TX1) (N := 13) hx hb hts hi_dm_X1_moveData_X1 hown hK hP 0 rfl rfl 2 (by decide) (hts (.fieldLink RX1 65 "TimeMachine$Assembler" "statements" "I") (List.mem_of_getElem? (i := 1) rfl)) (fun _ h9 => h9) rfl dX1_moveData_4 ?_
  refine lv_icmp_ge (tgt := 49) hx hb dX1_moveData_7 (by decide) (fun c1 => ?_) (fun c1 => ?_)
  · have h := nd_pos h c1
    refine lv_iconst (v := 0) hx hb dX1_moveData_49 (by decide) ?_
    refine lv_istore_n (lv' := [(1, .int 0), (0, .ref (a 0))]) hx hb dX1_moveData_50 rfl hl (by decide) rfl (fun ls hl => ?_)
    exact (db_X1_moveData_51 C K n) (0) s0 _ _ _ h hP hD hS (lv_sub hl [1, 0] rfl)
  · have h := nd_neg h c1
    refine lv_aload_n hx hb dX1_moveData_10 rfl (lv_at hl 0 rfl) ?_
    refine va_get (D := (dC, dI)) (ci := 2) (v := .ref (a 1)) (C := RX1) (T := TX1) (N := 13) hx hb hts hi_dm_X1_moveData_X1 hown hK hP 0 rfl rfl 1 (by decide) (hts (.fieldLink RX1 19 "TimeMachine$Assembler" "statement" "[I") (List.mem_of_getElem? (i := 6) rfl)) (fun _ h9 => h9) rfl dX1_moveData_11 ?_
    refine lv_iload_n hx hb dX1_moveData_14 rfl (lv_at hl 1 rfl) ?_
    refine lv_bipush (v := 8) hx hb dX1_moveData_15 (by decide) ?_
    refine lv_imul hx hb dX1_moveData_17 ?_
    refine lv_iconst (v := 1) hx hb dX1_moveData_18 (by decide) ?_
    refine lv_iadd hx hb dX1_moveData_19 ?_
    obtain ⟨i9, h⟩ := nd_ck_e h
    refine va_iald (i := ((x1 * 8) + 1)) hx hb hK hP 1 0 rfl rfl i9 dX1_moveData_20 ?_
    refine lv_iconst (v := 1) hx hb dX1_moveData_21 (by decide) ?_
    refine lv_icmp_ne (tgt := 43) hx hb dX1_moveData_22 (by decide) (fun c10 => ?_) (fun c10 => ?_)
    · have h := nd_neg h c10
      exact (db_X1_moveData_43 C K J2) (x1) s0 _ _ _ h hP hD hS (lv_sub hl [0, 1] rfl)
    · have h := nd_pos h c10
      refine lv_aload_n hx hb dX1_moveData_25 rfl (lv_at hl 0 rfl) ?_
      refine va_get (D := (dC, dI)) (ci := 2) (v := .ref (a 1)) (C := RX1) (T := TX1) (N := 13) hx hb hts hi_dm_X1_moveData_X1 hown hK hP 0 rfl rfl 1 (by decide) (hts (.fieldLink RX1 19 "TimeMachine$Assembler" "statement" "[I") (List.mem_of_getElem? (i := 6) rfl)) (fun _ h9 => h9) rfl dX1_moveData_26 ?_
      refine lv_iload_n hx hb dX1_moveData_29 rfl (lv_at hl 1 rfl) ?_
      refine lv_bipush (v := 8) hx hb dX1_moveData_30 (by decide) ?_
      refine lv_imul hx hb dX1_moveData_32 ?_
      refine lv_iconst (v := 2) hx hb dX1_moveData_33 (by decide) ?_
      refine lv_iadd hx hb dX1_moveData_34 ?_
      refine lv_dup2_11 hx hb dX1_moveData_35 rfl rfl ?_
      obtain ⟨i12, h⟩ := nd_ck_e h
      refine va_iald (i := ((x1 * 8) + 2)) hx hb hK hP 1 0 rfl rfl i12 dX1_moveData_36 ?_
      refine lv_aload_n hx hb dX1_moveData_37 rfl (lv_at hl 0 rfl) ?_
      refine va_get (D := (dC, dI)) (ci := 2) (v := .int (sI s0.1 8)) (C := RX1) (T := TX1) (N := 13) hx hb hts hi_dm_X1_moveData_X1 hown hK hP 0 rfl rfl 11 (by decide) (hts (.fieldLink RX1 287 "TimeMachine$Assembler" "dataStart" "I") (List.mem_of_getElem? (i := 5) rfl)) (fun _ h9 => h9) rfl dX1_moveData_38 ?_
      refine lv_iadd hx hb dX1_moveData_41 ?_
      obtain ⟨i13, h⟩ := nd_ck_e h
      refine va_iast (i := ((x1 * 8) + 2)) (x := ((sR s0.1 0 (Int32.toNatClampNeg ((x1 * 8) + 2))) + (sI s0.1 8))) hx hb hK hP hD hS 1 0 rfl rfl i13 dX1_moveData_42 (fun H locs hP hD hS => ?_)
      obtain ⟨s14, es14, h⟩ := nd_let_e h
      have hP : va_P (dC, dI) vwCl (dw_X1 a ac s14) H := by rw [es14]; exact hP
      have hD : va_D A (dw_X1 a ac s14) := by rw [es14]; exact hD
      exact (db_X1_moveData_43 C K J2) (x1) s14 _ _ _ h hP hD hS (lv_sub hl [0, 1] rfl)
set_option maxHeartbeats 40000000 in
set_option maxRecDepth 100000 in
theorem db_X1_moveData_2 {p : Program} {l : Launch} {e : Env} {s : State} {m : MethodId} {args : Array Value} {below : List Frame} {meth : Method} {c : Code} {Q : State → Prop} {A : Nat → Prop} {dC : Nat → ClassId} {dI : Nat → Nat → Nat} {a : Nat → Nat} {ac : Nat → ClassId} {n : Nat} {r : St × (St)} (C : nd_C p l s m args c A (dC, dI) cX1_moveData 2 RX1 ow_dm_X1_moveData (dk_X1 ac)) (K : nd_Kv p l e (headSpec ow_dm_X1_moveData ({ frames := 0, cells := 0, slots := 0, locals := 0 })).room s m args below meth c Q A (dC, dI) cX1_moveData (St × (St)) (dw_X1 a ac) r) (k : Nat) : dj_X1_moveData_2 p l e s m args below meth c Q A dC dI a ac (df_X1_moveData_2 n k) r := by
  induction k with
  | zero => intro x1 s0 H locs ls h; exact nomatch (show (none : Option (St × (St))) = some r from h)
  | succ k ih => exact dB_X1_moveData_2 C K ih
set_option maxHeartbeats 40000000 in
set_option maxRecDepth 100000 in
theorem db_X1_moveData_0 {p : Program} {l : Launch} {e : Env} {s : State} {m : MethodId} {args : Array Value} {below : List Frame} {meth : Method} {c : Code} {Q : State → Prop} {A : Nat → Prop} {dC : Nat → ClassId} {dI : Nat → Nat → Nat} {a : Nat → Nat} {ac : Nat → ClassId} {n : Nat} {r : St × (St)} (C : nd_C p l s m args c A (dC, dI) cX1_moveData 2 RX1 ow_dm_X1_moveData (dk_X1 ac)) (K : nd_Kv p l e (headSpec ow_dm_X1_moveData ({ frames := 0, cells := 0, slots := 0, locals := 0 })).room s m args below meth c Q A (dC, dI) cX1_moveData (St × (St)) (dw_X1 a ac) r) : dj_X1_moveData_0 p l e s m args below meth c Q A dC dI a ac (df_X1_moveData_0 n) r := by
  obtain ⟨hlt, hx, hb, hml, hown, hts, hN, hA, hK⟩ := id C
  intro s0 H locs ls h hP hD hS hl
  unfold df_X1_moveData_0 at h
  refine lv_iconst (v := 0) hx hb dX1_moveData_0 (by decide) ?_
  refine lv_istore_n (lv' := [(1, .int 0), (0, .ref (a 0))]) hx hb dX1_moveData_1 rfl hl (by decide) rfl (fun ls hl => ?_)
  exact (db_X1_moveData_2 C K n) (0) s0 _ _ _ h hP hD hS (lv_sub hl [1, 0] rfl)
set_option maxHeartbeats 40000000 in
set_option maxRecDepth 100000 in
theorem dm_X1_moveData (l : Launch) (hlt : l.stackTraces = false) (dC : Nat → ClassId) (dI : Nat → Nat → Nat) (a : Nat → Nat) (ac : Nat → ClassId) (n : Nat) (s0 : St × (St)) {r : St × (St)} (h : df_X1_moveData n s0 = some r) (sz : Nat) : Met l yX1_moveData ow_dm_X1_moveData ({ frames := 0, cells := 0, slots := 0, locals := 0 }) (va_Pc [.ref (a 0)] (fun U => U.heap.size = sz ∧ va_P (dC, dI) vwCl (dw_X1 a ac s0) U.heap ∧ va_K (dC, dI) vwCl (dk_X1 ac) U ∧ va_D (fun _ => True) (dw_X1 a ac s0) ∧ nv_E dI (va_A (dw_X1 a ac s0) sz) U)) (va_Qv (fun _ => True) (fun (_ : Unit) t => va_P (dC, dI) vwCl (dw_X1 a ac r) t.heap ∧ va_K (dC, dI) vwCl (dk_X1 ac) t ∧ va_D (va_A (dw_X1 a ac s0) sz) (dw_X1 a ac r)) (va_A (dw_X1 a ac s0) sz)) 0 0 (va_A (dw_X1 a ac s0) sz) := by
  refine Met.ofW (cc := cX1_moveData) (maxL := 2) (ret := none) (by decide) rfl ?_
  intro p e s m args below meth c s₁ B hml hv
  obtain ⟨rfl, hsz, hP, hK, hD0, hN⟩ := hv
  have hx := B.exec
  have hb := B.bytes
  have hr := B.returns
  have hts := atoms_spec (ws := ow_dm_X1_moveData) B.pre
  have hown : s.vm.findClass RX1 = some m.cls := findClass_of_methodNamed B.named
  have hlocks := B.notSynchronized
  subst hsz
  have hD := hD0.self (sz := s.heap.size)
  generalize hAe : va_A (dw_X1 a ac s0) s.heap.size = A at hD hN ⊢
  have hA : ∀ q : Nat, s.heap.size ≤ q → A q := fun q h => by rw [← hAe]; exact Or.inr h
  have hl := lv_entry ([.ref (a 0)]) (n := 2) (Nat.le_of_ble_eq_true rfl)
  rw [lg_entry_eq]
  generalize (lg_sl ([.ref (a 0)]) ++ List.replicate (2 - (lg_sl ([.ref (a 0)])).length) Slot.unset).toArray = ls at hl ⊢
  have hl : lv_has ls 2 [(0, .ref (a 0))] := hl
  exact db_X1_moveData_0 (dC := dC) (dI := dI) (a := a) (ac := ac) (n := n) (r := r) ⟨hlt, hx, hb, hml, hown, hts, hN, hA, hK⟩ (fun pc τ H locs ls d er hP hD hS => by subst er; exact W.vret hx hb hr (fun t ht hW => ⟨⟨(), rfl, trivial, by rw [ht]; exact hP, va_K.moved hW.alike hK, hD⟩, hS.F ht⟩) hS.2.2 d) s0 _ _ _ h hP hD va_S.rf (lv_sub hl [0] rfl)
def ow_dm_X9_standsBefore : List Cond := Cond.code yX9_standsBefore cX9_standsBefore 3 (some .boolean) :: ([Cond.fieldLink RX9 36 "TimeMachine$Reader" "label" "[I"] ++ (u_ws RX9 TX9 20 ++ []))
theorem gd_dm_X9_standsBefore : ∀ w ∈ ow_dm_X9_standsBefore, (w.onTables && w.keeps) = true ∨ ∃ ty, w = Cond.arrayClass ty := List.forall_mem_cons.mpr ⟨good_of_word rfl, List.forall_mem_append.mpr ⟨fun w h => good_of_word (List.all_eq_true.mp (by decide +kernel) w h), List.forall_mem_append.mpr ⟨gu_X9, fun _ h => nomatch h⟩⟩⟩
theorem hi_dm_X9_standsBefore_X9 : ∀ w ∈ u_ws RX9 TX9 20, w ∈ ow_dm_X9_standsBefore := fun w h => List.mem_cons_of_mem _ (List.mem_append_right _ (List.mem_append_left _ h))
def dj_X9_standsBefore_19 (p : Program) (l : Launch) (e : Env) (s : State) (m : MethodId) (args : Array Value) (below : List Frame) (meth : Method) (c : Code) (Q : State → Prop) (A : Nat → Prop) (dC : Nat → ClassId) (dI : Nat → Nat → Nat) (a : Nat → Nat) (ac : Nat → ClassId) (g : Int32 → (St) → Option (Int32 × (St))) (r : Int32 × (St)) : Prop := ∀ (y0 : Int32) (s0 : St) (H : Heap) (locs : List Loc) (ls : Array Slot), g y0 s0 = some r → va_P (dC, dI) vwCl (dw_X9 a ac s0) H → va_D A (dw_X9 a ac s0) → va_S A s.heap H locs → lv_has ls 3 [] → W p l e (headSpec ow_dm_X9_standsBefore ({ frames := 0, cells := 0, slots := 0, locals := 0 })).room s m args below meth c H locs 0 0 Q (F0 m 19 ls [.int y0])
def dj_X9_standsBefore_0 (p : Program) (l : Launch) (e : Env) (s : State) (m : MethodId) (args : Array Value) (below : List Frame) (meth : Method) (c : Code) (Q : State → Prop) (A : Nat → Prop) (dC : Nat → ClassId) (dI : Nat → Nat → Nat) (a : Nat → Nat) (ac : Nat → ClassId) (g : Int32 → Int32 → (St) → Option (Int32 × (St))) (r : Int32 × (St)) : Prop := ∀ (v0 : Int32) (v1 : Int32) (s0 : St) (H : Heap) (locs : List Loc) (ls : Array Slot), g v0 v1 s0 = some r → va_P (dC, dI) vwCl (dw_X9 a ac s0) H → va_D A (dw_X9 a ac s0) → va_S A s.heap H locs → lv_has ls 3 [(0, .ref (a 0)), (1, .int v0), (2, .int v1)] → W p l e (headSpec ow_dm_X9_standsBefore ({ frames := 0, cells := 0, slots := 0, locals := 0 })).room s m args below meth c H locs 0 0 Q (F0 m 0 ls [])
set_option maxHeartbeats 40000000 in
set_option maxRecDepth 100000 in
theorem db_X9_standsBefore_19 {p : Program} {l : Launch} {e : Env} {s : State} {m : MethodId} {args : Array Value} {below : List Frame} {meth : Method} {c : Code} {Q : State → Prop} {A : Nat → Prop} {dC : Nat → ClassId} {dI : Nat → Nat → Nat} {a : Nat → Nat} {ac : Nat → ClassId} {n : Nat} {r : Int32 × (St)} (C : nd_C p l s m args c A (dC, dI) cX9_standsBefore 3 RX9 ow_dm_X9_standsBefore (dk_X9 ac)) (K : nd_Ki p l e (headSpec ow_dm_X9_standsBefore ({ frames := 0, cells := 0, slots := 0, locals := 0 })).room s m args below meth c Q A (dC, dI) cX9_standsBefore .boolean (St) (dw_X9 a ac) r) : dj_X9_standsBefore_19 p l e s m args below meth c Q A dC dI a ac (df_X9_standsBefore_19 n) r := by
  obtain ⟨hlt, hx, hb, hml, hown, hts, hN, hA, hK⟩ := id C
  intro y0 s0 H locs ls h hP hD hS hl
  unfold df_X9_standsBefore_19 at h
  obtain ⟨n3, h⟩ := nd_z_e ⟨_, rfl⟩ h
  exact K _ _ _ _ _ _ dX9_standsBefore_19 n3 (Option.some.inj h).symm hP hD hS
set_option maxHeartbeats 40000000 in
set_option maxRecDepth 100000 in
theorem db_X9_standsBefore_0 {p : Program} {l : Launch} {e : Env} {s : State} {m : MethodId} {args : Array Value} {below : List Frame} {meth : Method} {c : Code} {Q : State → Prop} {A : Nat → Prop} {dC : Nat → ClassId} {dI : Nat → Nat → Nat} {a : Nat → Nat} {ac : Nat → ClassId} {n : Nat} {r : Int32 × (St)} (C : nd_C p l s m args c A (dC, dI) cX9_standsBefore 3 RX9 ow_dm_X9_standsBefore (dk_X9 ac)) (K : nd_Ki p l e (headSpec ow_dm_X9_standsBefore ({ frames := 0, cells := 0, slots := 0, locals := 0 })).room s m args below meth c Q A (dC, dI) cX9_standsBefore .boolean (St) (dw_X9 a ac) r) : dj_X9_standsBefore_0 p l e s m args below meth c Q A dC dI a ac (df_X9_standsBefore_0 n) r := by
  obtain ⟨hlt, hx, hb, hml, hown, hts, hN, hA, hK⟩ := id C
  intro v0 v1 s0 H locs ls h hP hD hS hl
  unfold df_X9_standsBefore_0 at h
  refine lv_aload_n hx hb dX9_standsBefore_0 rfl (lv_at hl 0 rfl) ?_
  refine va_get (D := (dC, dI)) (ci := 10) (v := .ref (a 7)) (C := RX9) (T := TX9) (N := 20) hx hb hts hi_dm_X9_standsBefore_X9 hown hK hP 0 rfl rfl 16 (by decide) (hts (.fieldLink RX9 36 "TimeMachine$Reader" "label" "[I") (List.mem_of_getElem? (i := 1) rfl)) (fun _ h9 => h9) rfl dX9_standsBefore_1 ?_
  refine lv_iload_n hx hb dX9_standsBefore_4 rfl (lv_at hl 1 rfl) ?_
  refine lv_iconst (v := 5) hx hb dX9_standsBefore_5 (by decide) ?_
  refine lv_imul hx hb dX9_standsBefore_6 ?_
  refine lv_iconst (v := 0) hx hb dX9_standsBefore_7 (by decide) ?_
  refine lv_iadd hx hb dX9_standsBefore_8 ?_
  obtain ⟨i1, h⟩ := nd_ck_e h
  refine va_iald (i := ((v0 * 5) + 0)) hx hb hK hP 7 6 rfl rfl i1 dX9_standsBefore_9 ?_
  refine lv_iload_n hx hb dX9_standsBefore_10 rfl (lv_at hl 2 rfl) ?_
  refine lv_icmp_ne (tgt := 18) hx hb dX9_standsBefore_11 (by decide) (fun c2 => ?_) (fun c2 => ?_)
  · have h := nd_neg h c2
    refine lv_iconst (v := 0) hx hb dX9_standsBefore_18 (by decide) ?_
    exact (db_X9_standsBefore_19 C K) (0) s0 _ _ _ h hP hD hS (lv_sub hl [] rfl)
  · have h := nd_pos h c2
    refine lv_iconst (v := 1) hx hb dX9_standsBefore_14 (by decide) ?_
    refine lv_goto (tgt := 19) hx hb dX9_standsBefore_15 (by decide) ?_
    exact (db_X9_standsBefore_19 C K) (1) s0 _ _ _ h hP hD hS (lv_sub hl [] rfl)
set_option maxHeartbeats 40000000 in
set_option maxRecDepth 100000 in
theorem dm_X9_standsBefore (l : Launch) (hlt : l.stackTraces = false) (dC : Nat → ClassId) (dI : Nat → Nat → Nat) (a : Nat → Nat) (ac : Nat → ClassId) (n : Nat) (v0 : Int32) (v1 : Int32) (s0 : St) {r : Int32 × (St)} (h : df_X9_standsBefore n v0 v1 s0 = some r) (sz : Nat) : Met l yX9_standsBefore ow_dm_X9_standsBefore ({ frames := 0, cells := 0, slots := 0, locals := 0 }) (va_Pc [.ref (a 0), .int v0, .int v1] (fun U => U.heap.size = sz ∧ va_P (dC, dI) vwCl (dw_X9 a ac s0) U.heap ∧ va_K (dC, dI) vwCl (dk_X9 ac) U ∧ va_D (fun _ => True) (dw_X9 a ac s0) ∧ nv_E dI (va_A (dw_X9 a ac s0) sz) U)) (va_Qi (fun x _ => x = r.1) (fun (_ : Unit) t => va_P (dC, dI) vwCl (dw_X9 a ac r.2) t.heap ∧ va_K (dC, dI) vwCl (dk_X9 ac) t ∧ va_D (va_A (dw_X9 a ac s0) sz) (dw_X9 a ac r.2)) (va_A (dw_X9 a ac s0) sz)) 0 0 (va_A (dw_X9 a ac s0) sz) := by
  refine Met.ofW (cc := cX9_standsBefore) (maxL := 3) (ret := (some .boolean)) (by decide) rfl ?_
  intro p e s m args below meth c s₁ B hml hv
  obtain ⟨rfl, hsz, hP, hK, hD0, hN⟩ := hv
  have hx := B.exec
  have hb := B.bytes
  have hr := B.returns
  have hts := atoms_spec (ws := ow_dm_X9_standsBefore) B.pre
  have hown : s.vm.findClass RX9 = some m.cls := findClass_of_methodNamed B.named
  have hlocks := B.notSynchronized
  subst hsz
  have hD := hD0.self (sz := s.heap.size)
  generalize hAe : va_A (dw_X9 a ac s0) s.heap.size = A at hD hN ⊢
  have hA : ∀ q : Nat, s.heap.size ≤ q → A q := fun q h => by rw [← hAe]; exact Or.inr h
  have hl := lv_entry ([.ref (a 0), .int v0, .int v1]) (n := 3) (Nat.le_of_ble_eq_true rfl)
  rw [lg_entry_eq]
  generalize (lg_sl ([.ref (a 0), .int v0, .int v1]) ++ List.replicate (3 - (lg_sl ([.ref (a 0), .int v0, .int v1])).length) Slot.unset).toArray = ls at hl ⊢
  have hl : lv_has ls 3 [(0, .ref (a 0)), (1, .int v0), (2, .int v1)] := hl
  exact db_X9_standsBefore_0 (dC := dC) (dI := dI) (a := a) (ac := ac) (n := n) (r := r) ⟨hlt, hx, hb, hml, hown, hts, hN, hA, hK⟩ (fun pc v τ H locs ls d z er hP hD hS => by subst er; exact W.zret (v := v) hx hb hr z (fun t ht hW => ⟨⟨v, (), rfl, rfl, by rw [ht]; exact hP, va_K.moved hW.alike hK, hD⟩, hS.F ht⟩) hS.2.2 d) v0 v1 s0 _ _ _ h hP hD va_S.rf (lv_sub hl [0, 1, 2] rfl)
def ow_dm_X9_place : List Cond := Cond.code yX9_place cX9_place 4 none :: ([Cond.fieldLink RX9 36 "TimeMachine$Reader" "label" "[I"] ++ (u_ws RX9 TX9 20 ++ []))
theorem gd_dm_X9_place : ∀ w ∈ ow_dm_X9_place, (w.onTables && w.keeps) = true ∨ ∃ ty, w = Cond.arrayClass ty := List.forall_mem_cons.mpr ⟨good_of_word rfl, List.forall_mem_append.mpr ⟨fun w h => good_of_word (List.all_eq_true.mp (by decide +kernel) w h), List.forall_mem_append.mpr ⟨gu_X9, fun _ h => nomatch h⟩⟩⟩
theorem hi_dm_X9_place_X9 : ∀ w ∈ u_ws RX9 TX9 20, w ∈ ow_dm_X9_place := fun w h => List.mem_cons_of_mem _ (List.mem_append_right _ (List.mem_append_left _ h))
def dj_X9_place_27 (p : Program) (l : Launch) (e : Env) (s : State) (m : MethodId) (args : Array Value) (below : List Frame) (meth : Method) (c : Code) (Q : State → Prop) (A : Nat → Prop) (dC : Nat → ClassId) (dI : Nat → Nat → Nat) (a : Nat → Nat) (ac : Nat → ClassId) (g : Int32 → Int32 → (St) → Option (St)) (r : St) : Prop := ∀ (y1 : Int32) (y2 : Int32) (s0 : St) (H : Heap) (locs : List Loc) (ls : Array Slot), g y1 y2 s0 = some r → va_P (dC, dI) vwCl (dw_X9 a ac s0) H → va_D A (dw_X9 a ac s0) → va_S A s.heap H locs → lv_has ls 4 [] → W p l e (headSpec ow_dm_X9_place ({ frames := 0, cells := 0, slots := 0, locals := 0 })).room s m args below meth c H locs 0 0 Q (F0 m 27 ls [.int y2, .int y1, .ref (a 7)])
def dj_X9_place_0 (p : Program) (l : Launch) (e : Env) (s : State) (m : MethodId) (args : Array Value) (below : List Frame) (meth : Method) (c : Code) (Q : State → Prop) (A : Nat → Prop) (dC : Nat → ClassId) (dI : Nat → Nat → Nat) (a : Nat → Nat) (ac : Nat → ClassId) (g : Int32 → Int32 → Int32 → (St) → Option (St)) (r : St) : Prop := ∀ (v0 : Int32) (v1 : Int32) (v2 : Int32) (s0 : St) (H : Heap) (locs : List Loc) (ls : Array Slot), g v0 v1 v2 s0 = some r → va_P (dC, dI) vwCl (dw_X9 a ac s0) H → va_D A (dw_X9 a ac s0) → va_S A s.heap H locs → lv_has ls 4 [(0, .ref (a 0)), (1, .int v0), (2, .int v1), (3, .int v2)] → W p l e (headSpec ow_dm_X9_place ({ frames := 0, cells := 0, slots := 0, locals := 0 })).room s m args below meth c H locs 0 0 Q (F0 m 0 ls [])
set_option maxHeartbeats 40000000 in
set_option maxRecDepth 100000 in
theorem db_X9_place_27 {p : Program} {l : Launch} {e : Env} {s : State} {m : MethodId} {args : Array Value} {below : List Frame} {meth : Method} {c : Code} {Q : State → Prop} {A : Nat → Prop} {dC : Nat → ClassId} {dI : Nat → Nat → Nat} {a : Nat → Nat} {ac : Nat → ClassId} {n : Nat} {r : St} (C : nd_C p l s m args c A (dC, dI) cX9_place 4 RX9 ow_dm_X9_place (dk_X9 ac)) (K : nd_Kv p l e (headSpec ow_dm_X9_place ({ frames := 0, cells := 0, slots := 0, locals := 0 })).room s m args below meth c Q A (dC, dI) cX9_place (St) (dw_X9 a ac) r) : dj_X9_place_27 p l e s m args below meth c Q A dC dI a ac (df_X9_place_27 n) r := by
  obtain ⟨hlt, hx, hb, hml, hown, hts, hN, hA, hK⟩ := id C
  intro y1 y2 s0 H locs ls h hP hD hS hl
  unfold df_X9_place_27 at h
  obtain ⟨i3, h⟩ := nd_ck_e h
  refine va_iast (i := y1) (x := y2) hx hb hK hP hD hS 7 6 rfl rfl i3 dX9_place_27 (fun H locs hP hD hS => ?_)
  obtain ⟨s4, es4, h⟩ := nd_let_e h
  have hP : va_P (dC, dI) vwCl (dw_X9 a ac s4) H := by rw [es4]; exact hP
  have hD : va_D A (dw_X9 a ac s4) := by rw [es4]; exact hD
  exact K _ _ _ _ _ dX9_place_28 (Option.some.inj h).symm hP hD hS
set_option maxHeartbeats 40000000 in
set_option maxRecDepth 100000 in
theorem db_X9_place_0 {p : Program} {l : Launch} {e : Env} {s : State} {m : MethodId} {args : Array Value} {below : List Frame} {meth : Method} {c : Code} {Q : State → Prop} {A : Nat → Prop} {dC : Nat → ClassId} {dI : Nat → Nat → Nat} {a : Nat → Nat} {ac : Nat → ClassId} {n : Nat} {r : St} (C : nd_C p l s m args c A (dC, dI) cX9_place 4 RX9 ow_dm_X9_place (dk_X9 ac)) (K : nd_Kv p l e (headSpec ow_dm_X9_place ({ frames := 0, cells := 0, slots := 0, locals := 0 })).room s m args below meth c Q A (dC, dI) cX9_place (St) (dw_X9 a ac) r) : dj_X9_place_0 p l e s m args below meth c Q A dC dI a ac (df_X9_place_0 n) r := by
  obtain ⟨hlt, hx, hb, hml, hown, hts, hN, hA, hK⟩ := id C
  intro v0 v1 v2 s0 H locs ls h hP hD hS hl
  unfold df_X9_place_0 at h
  refine lv_aload_n hx hb dX9_place_0 rfl (lv_at hl 0 rfl) ?_
  refine va_get (D := (dC, dI)) (ci := 10) (v := .ref (a 7)) (C := RX9) (T := TX9) (N := 20) hx hb hts hi_dm_X9_place_X9 hown hK hP 0 rfl rfl 16 (by decide) (hts (.fieldLink RX9 36 "TimeMachine$Reader" "label" "[I") (List.mem_of_getElem? (i := 1) rfl)) (fun _ h9 => h9) rfl dX9_place_1 ?_
  refine lv_iload_n hx hb dX9_place_4 rfl (lv_at hl 1 rfl) ?_
  refine lv_iconst (v := 5) hx hb dX9_place_5 (by decide) ?_
  refine lv_imul hx hb dX9_place_6 ?_
  refine lv_iconst (v := 2) hx hb dX9_place_7 (by decide) ?_
  refine lv_iadd hx hb dX9_place_8 ?_
  refine lv_aload_n hx hb dX9_place_9 rfl (lv_at hl 0 rfl) ?_
  refine va_get (D := (dC, dI)) (ci := 10) (v := .ref (a 7)) (C := RX9) (T := TX9) (N := 20) hx hb hts hi_dm_X9_place_X9 hown hK hP 0 rfl rfl 16 (by decide) (hts (.fieldLink RX9 36 "TimeMachine$Reader" "label" "[I") (List.mem_of_getElem? (i := 1) rfl)) (fun _ h9 => h9) rfl dX9_place_10 ?_
  refine lv_iload_n hx hb dX9_place_13 rfl (lv_at hl 1 rfl) ?_
  refine lv_iconst (v := 5) hx hb dX9_place_14 (by decide) ?_
  refine lv_imul hx hb dX9_place_15 ?_
  refine lv_iconst (v := 1) hx hb dX9_place_16 (by decide) ?_
  refine lv_iadd hx hb dX9_place_17 ?_
  obtain ⟨i1, h⟩ := nd_ck_e h
  refine va_iald (i := ((v0 * 5) + 1)) hx hb hK hP 7 6 rfl rfl i1 dX9_place_18 ?_
  refine lv_if_ne (tgt := 26) hx hb dX9_place_19 (by decide) (fun c2 => ?_) (fun c2 => ?_)
  · have h := nd_neg h c2
    refine lv_iload_n hx hb dX9_place_26 rfl (lv_at hl 3 rfl) ?_
    exact (db_X9_place_27 C K) (((v0 * 5) + 2)) (v2) s0 _ _ _ h hP hD hS (lv_sub hl [] rfl)
  · have h := nd_pos h c2
    refine lv_iload_n hx hb dX9_place_22 rfl (lv_at hl 2 rfl) ?_
    refine lv_goto (tgt := 27) hx hb dX9_place_23 (by decide) ?_
    exact (db_X9_place_27 C K) (((v0 * 5) + 2)) (v1) s0 _ _ _ h hP hD hS (lv_sub hl [] rfl)
set_option maxHeartbeats 40000000 in
set_option maxRecDepth 100000 in
theorem dm_X9_place (l : Launch) (hlt : l.stackTraces = false) (dC : Nat → ClassId) (dI : Nat → Nat → Nat) (a : Nat → Nat) (ac : Nat → ClassId) (n : Nat) (v0 : Int32) (v1 : Int32) (v2 : Int32) (s0 : St) {r : St} (h : df_X9_place n v0 v1 v2 s0 = some r) (sz : Nat) : Met l yX9_place ow_dm_X9_place ({ frames := 0, cells := 0, slots := 0, locals := 0 }) (va_Pc [.ref (a 0), .int v0, .int v1, .int v2] (fun U => U.heap.size = sz ∧ va_P (dC, dI) vwCl (dw_X9 a ac s0) U.heap ∧ va_K (dC, dI) vwCl (dk_X9 ac) U ∧ va_D (fun _ => True) (dw_X9 a ac s0) ∧ nv_E dI (va_A (dw_X9 a ac s0) sz) U)) (va_Qv (fun _ => True) (fun (_ : Unit) t => va_P (dC, dI) vwCl (dw_X9 a ac r) t.heap ∧ va_K (dC, dI) vwCl (dk_X9 ac) t ∧ va_D (va_A (dw_X9 a ac s0) sz) (dw_X9 a ac r)) (va_A (dw_X9 a ac s0) sz)) 0 0 (va_A (dw_X9 a ac s0) sz) := by
  refine Met.ofW (cc := cX9_place) (maxL := 4) (ret := none) (by decide) rfl ?_
  intro p e s m args below meth c s₁ B hml hv
  obtain ⟨rfl, hsz, hP, hK, hD0, hN⟩ := hv
  have hx := B.exec
  have hb := B.bytes
  have hr := B.returns
  have hts := atoms_spec (ws := ow_dm_X9_place) B.pre
  have hown : s.vm.findClass RX9 = some m.cls := findClass_of_methodNamed B.named
  have hlocks := B.notSynchronized
  subst hsz
  have hD := hD0.self (sz := s.heap.size)
  generalize hAe : va_A (dw_X9 a ac s0) s.heap.size = A at hD hN ⊢
  have hA : ∀ q : Nat, s.heap.size ≤ q → A q := fun q h => by rw [← hAe]; exact Or.inr h
  have hl := lv_entry ([.ref (a 0), .int v0, .int v1, .int v2]) (n := 4) (Nat.le_of_ble_eq_true rfl)
  rw [lg_entry_eq]
  generalize (lg_sl ([.ref (a 0), .int v0, .int v1, .int v2]) ++ List.replicate (4 - (lg_sl ([.ref (a 0), .int v0, .int v1, .int v2])).length) Slot.unset).toArray = ls at hl ⊢
  have hl : lv_has ls 4 [(0, .ref (a 0)), (1, .int v0), (2, .int v1), (3, .int v2)] := hl
  exact db_X9_place_0 (dC := dC) (dI := dI) (a := a) (ac := ac) (n := n) (r := r) ⟨hlt, hx, hb, hml, hown, hts, hN, hA, hK⟩ (fun pc τ H locs ls d er hP hD hS => by subst er; exact W.vret hx hb hr (fun t ht hW => ⟨⟨(), rfl, trivial, by rw [ht]; exact hP, va_K.moved hW.alike hK, hD⟩, hS.F ht⟩) hS.2.2 d) v0 v1 v2 s0 _ _ _ h hP hD va_S.rf (lv_sub hl [0, 1, 2, 3] rfl)
def ow_dm_X1_findAddresses : List Cond := Cond.code yX1_findAddresses cX1_findAddresses 7 none :: ([Cond.fieldLink RX1 65 "TimeMachine$Assembler" "statements" "I", Cond.fieldLink RX1 284 "TimeMachine$Assembler" "textSize" "I", Cond.fieldLink RX1 287 "TimeMachine$Assembler" "dataStart" "I", Cond.fieldLink RX1 50 "TimeMachine$Assembler" "size" "I", Cond.methodLink RX1 290 yX1_moveData, Cond.instanceMethod yX1_moveData, Cond.selects RX1 yX1_moveData yX1_moveData, Cond.initialized RX1, Cond.fieldLink RX1 12 "TimeMachine$Assembler" "reader" "LTimeMachine$Reader;", Cond.fieldLink RX1 274 "TimeMachine$Reader" "labels" "I", Cond.fieldLink RX1 19 "TimeMachine$Assembler" "statement" "[I", Cond.methodLink RX1 277 yX9_standsBefore, Cond.instanceMethod yX9_standsBefore, Cond.selects RX9 yX9_standsBefore yX9_standsBefore, Cond.initialized RX9, Cond.methodLink RX1 281 yX9_place, Cond.instanceMethod yX9_place, Cond.selects RX9 yX9_place yX9_place] ++ (u_ws RX1 TX1 13 ++ (u_ws RX9 TX9 20 ++ (ow_dm_X1_moveData ++ (ow_dm_X9_standsBefore ++ (ow_dm_X9_place ++ []))))))
theorem gd_dm_X1_findAddresses : ∀ w ∈ ow_dm_X1_findAddresses, (w.onTables && w.keeps) = true ∨ ∃ ty, w = Cond.arrayClass ty := List.forall_mem_cons.mpr ⟨good_of_word rfl, List.forall_mem_append.mpr ⟨fun w h => good_of_word (List.all_eq_true.mp (by decide +kernel) w h), List.forall_mem_append.mpr ⟨gu_X1, List.forall_mem_append.mpr ⟨gu_X9, List.forall_mem_append.mpr ⟨gd_dm_X1_moveData, List.forall_mem_append.mpr ⟨gd_dm_X9_standsBefore, List.forall_mem_append.mpr ⟨gd_dm_X9_place, fun _ h => nomatch h⟩⟩⟩⟩⟩⟩⟩
theorem hi_dm_X1_findAddresses_X1 : ∀ w ∈ u_ws RX1 TX1 13, w ∈ ow_dm_X1_findAddresses := fun w h => List.mem_cons_of_mem _ (List.mem_append_right _ (List.mem_append_left _ h))
theorem hi_dm_X1_findAddresses_X9 : ∀ w ∈ u_ws RX9 TX9 20, w ∈ ow_dm_X1_findAddresses := fun w h => List.mem_cons_of_mem _ (List.mem_append_right _ (List.mem_append_right _ (List.mem_append_left _ h)))
theorem gi_dm_X1_findAddresses_0 : GoodIn ow_dm_X1_findAddresses (wsV RX1 290 RX1 yX1_moveData ow_dm_X1_moveData) := goodIn_app (goodIn_of _ (by decide +kernel)) (fun w h => ⟨List.mem_cons_of_mem _ (List.mem_append_right _ (List.mem_append_right _ (List.mem_append_right _ (List.mem_append_left _ h)))), gd_dm_X1_moveData w h⟩)
theorem gi_dm_X1_findAddresses_1 : GoodIn ow_dm_X1_findAddresses (wsV RX1 277 RX9 yX9_standsBefore ow_dm_X9_standsBefore) := goodIn_app (goodIn_of _ (by decide +kernel)) (fun w h => ⟨List.mem_cons_of_mem _ (List.mem_append_right _ (List.mem_append_right _ (List.mem_append_right _ (List.mem_append_right _ (List.mem_append_left _ h))))), gd_dm_X9_standsBefore w h⟩)
theorem gi_dm_X1_findAddresses_2 : GoodIn ow_dm_X1_findAddresses (wsV RX1 281 RX9 yX9_place ow_dm_X9_place) := goodIn_app (goodIn_of _ (by decide +kernel)) (fun w h => ⟨List.mem_cons_of_mem _ (List.mem_append_right _ (List.mem_append_right _ (List.mem_append_right _ (List.mem_append_right _ (List.mem_append_right _ (List.mem_append_left _ h)))))), gd_dm_X9_place w h⟩)
def dj_X1_findAddresses_226 (p : Program) (l : Launch) (e : Env) (s : State) (m : MethodId) (args : Array Value) (below : List Frame) (meth : Method) (c : Code) (Q : State → Prop) (A : Nat → Prop) (dC : Nat → ClassId) (dI : Nat → Nat → Nat) (a : Nat → Nat) (ac : Nat → ClassId) (g : Int32 → (St × (St)) → Option (St × (St))) (r : St × (St)) : Prop := ∀ (y1 : Int32) (s0 : St × (St)) (H : Heap) (locs : List Loc) (ls : Array Slot), g y1 s0 = some r → va_P (dC, dI) vwCl (dw_X1 a ac s0) H → va_D A (dw_X1 a ac s0) → va_S A s.heap H locs → lv_has ls 7 [(0, .ref (a 0))] → W p l e (headSpec ow_dm_X1_findAddresses ({ frames := 1, cells := 0, slots := 0, locals := 23 })).room s m args below meth c H locs 0 0 Q (F0 m 226 ls [.int y1, .ref (a 0)])
def dj_X1_findAddresses_181 (p : Program) (l : Launch) (e : Env) (s : State) (m : MethodId) (args : Array Value) (below : List Frame) (meth : Method) (c : Code) (Q : State → Prop) (A : Nat → Prop) (dC : Nat → ClassId) (dI : Nat → Nat → Nat) (a : Nat → Nat) (ac : Nat → ClassId) (g : Int32 → Int32 → Int32 → Int32 → (St × (St)) → Option (St × (St))) (r : St × (St)) : Prop := ∀ (x1 : Int32) (x2 : Int32) (x3 : Int32) (x4 : Int32) (s0 : St × (St)) (H : Heap) (locs : List Loc) (ls : Array Slot), g x1 x2 x3 x4 s0 = some r → va_P (dC, dI) vwCl (dw_X1 a ac s0) H → va_D A (dw_X1 a ac s0) → va_S A s.heap H locs → lv_has ls 7 [(0, .ref (a 0)), (1, .int x1), (2, .int x2), (3, .int x3), (4, .int x4)] → W p l e (headSpec ow_dm_X1_findAddresses ({ frames := 1, cells := 0, slots := 0, locals := 23 })).room s m args below meth c H locs 0 0 Q (F0 m 181 ls [])
def dj_X1_findAddresses_142 (p : Program) (l : Launch) (e : Env) (s : State) (m : MethodId) (args : Array Value) (below : List Frame) (meth : Method) (c : Code) (Q : State → Prop) (A : Nat → Prop) (dC : Nat → ClassId) (dI : Nat → Nat → Nat) (a : Nat → Nat) (ac : Nat → ClassId) (g : Int32 → Int32 → Int32 → Int32 → Int32 → (St × (St)) → Option (St × (St))) (r : St × (St)) : Prop := ∀ (x1 : Int32) (x2 : Int32) (x3 : Int32) (x4 : Int32) (x5 : Int32) (s0 : St × (St)) (H : Heap) (locs : List Loc) (ls : Array Slot), g x1 x2 x3 x4 x5 s0 = some r → va_P (dC, dI) vwCl (dw_X1 a ac s0) H → va_D A (dw_X1 a ac s0) → va_S A s.heap H locs → lv_has ls 7 [(0, .ref (a 0)), (1, .int x1), (2, .int x2), (3, .int x3), (4, .int x4), (5, .int x5)] → W p l e (headSpec ow_dm_X1_findAddresses ({ frames := 1, cells := 0, slots := 0, locals := 23 })).room s m args below meth c H locs 0 0 Q (F0 m 142 ls [])
def dj_X1_findAddresses_91 (p : Program) (l : Launch) (e : Env) (s : State) (m : MethodId) (args : Array Value) (below : List Frame) (meth : Method) (c : Code) (Q : State → Prop) (A : Nat → Prop) (dC : Nat → ClassId) (dI : Nat → Nat → Nat) (a : Nat → Nat) (ac : Nat → ClassId) (g : Int32 → Int32 → Int32 → Int32 → Int32 → Int32 → (St × (St)) → Option (St × (St))) (r : St × (St)) : Prop := ∀ (x1 : Int32) (x2 : Int32) (x3 : Int32) (x4 : Int32) (x5 : Int32) (y0 : Int32) (s0 : St × (St)) (H : Heap) (locs : List Loc) (ls : Array Slot), g x1 x2 x3 x4 x5 y0 s0 = some r → va_P (dC, dI) vwCl (dw_X1 a ac s0) H → va_D A (dw_X1 a ac s0) → va_S A s.heap H locs → lv_has ls 7 [(0, .ref (a 0)), (1, .int x1), (2, .int x2), (3, .int x3), (4, .int x4), (5, .int x5)] → W p l e (headSpec ow_dm_X1_findAddresses ({ frames := 1, cells := 0, slots := 0, locals := 23 })).room s m args below meth c H locs 0 0 Q (F0 m 91 ls [.int y0])
def dj_X1_findAddresses_58 (p : Program) (l : Launch) (e : Env) (s : State) (m : MethodId) (args : Array Value) (below : List Frame) (meth : Method) (c : Code) (Q : State → Prop) (A : Nat → Prop) (dC : Nat → ClassId) (dI : Nat → Nat → Nat) (a : Nat → Nat) (ac : Nat → ClassId) (g : Int32 → Int32 → Int32 → Int32 → (St × (St)) → Option (St × (St))) (r : St × (St)) : Prop := ∀ (x1 : Int32) (x2 : Int32) (x3 : Int32) (x4 : Int32) (s0 : St × (St)) (H : Heap) (locs : List Loc) (ls : Array Slot), g x1 x2 x3 x4 s0 = some r → va_P (dC, dI) vwCl (dw_X1 a ac s0) H → va_D A (dw_X1 a ac s0) → va_S A s.heap H locs → lv_has ls 7 [(0, .ref (a 0)), (1, .int x1), (2, .int x2), (3, .int x3), (4, .int x4)] → W p l e (headSpec ow_dm_X1_findAddresses ({ frames := 1, cells := 0, slots := 0, locals := 23 })).room s m args below meth c H locs 0 0 Q (F0 m 58 ls [])
def dj_X1_findAddresses_18 (p : Program) (l : Launch) (e : Env) (s : State) (m : MethodId) (args : Array Value) (below : List Frame) (meth : Method) (c : Code) (Q : State → Prop) (A : Nat → Prop) (dC : Nat → ClassId) (dI : Nat → Nat → Nat) (a : Nat → Nat) (ac : Nat → ClassId) (g : Int32 → Int32 → Int32 → Int32 → (St × (St)) → Option (St × (St))) (r : St × (St)) : Prop := ∀ (x1 : Int32) (x2 : Int32) (x3 : Int32) (x4 : Int32) (s0 : St × (St)) (H : Heap) (locs : List Loc) (ls : Array Slot), g x1 x2 x3 x4 s0 = some r → va_P (dC, dI) vwCl (dw_X1 a ac s0) H → va_D A (dw_X1 a ac s0) → va_S A s.heap H locs → lv_has ls 7 [(0, .ref (a 0)), (1, .int x1), (2, .int x2), (3, .int x3), (4, .int x4)] → W p l e (headSpec ow_dm_X1_findAddresses ({ frames := 1, cells := 0, slots := 0, locals := 23 })).room s m args below meth c H locs 0 0 Q (F0 m 18 ls [])
def dj_X1_findAddresses_9 (p : Program) (l : Launch) (e : Env) (s : State) (m : MethodId) (args : Array Value) (below : List Frame) (meth : Method) (c : Code) (Q : State → Prop) (A : Nat → Prop) (dC : Nat → ClassId) (dI : Nat → Nat → Nat) (a : Nat → Nat) (ac : Nat → ClassId) (g : Int32 → Int32 → Int32 → Int32 → (St × (St)) → Option (St × (St))) (r : St × (St)) : Prop := ∀ (x1 : Int32) (x2 : Int32) (x3 : Int32) (x4 : Int32) (s0 : St × (St)) (H : Heap) (locs : List Loc) (ls : Array Slot), g x1 x2 x3 x4 s0 = some r → va_P (dC, dI) vwCl (dw_X1 a ac s0) H → va_D A (dw_X1 a ac s0) → va_S A s.heap H locs → lv_has ls 7 [(0, .ref (a 0)), (1, .int x1), (2, .int x2), (3, .int x3), (4, .int x4)] → W p l e (headSpec ow_dm_X1_findAddresses ({ frames := 1, cells := 0, slots := 0, locals := 23 })).room s m args below meth c H locs 0 0 Q (F0 m 9 ls [])
def dj_X1_findAddresses_0 (p : Program) (l : Launch) (e : Env) (s : State) (m : MethodId) (args : Array Value) (below : List Frame) (meth : Method) (c : Code) (Q : State → Prop) (A : Nat → Prop) (dC : Nat → ClassId) (dI : Nat → Nat → Nat) (a : Nat → Nat) (ac : Nat → ClassId) (g : (St × (St)) → Option (St × (St))) (r : St × (St)) : Prop := ∀ (s0 : St × (St)) (H : Heap) (locs : List Loc) (ls : Array Slot), g s0 = some r → va_P (dC, dI) vwCl (dw_X1 a ac s0) H → va_D A (dw_X1 a ac s0) → va_S A s.heap H locs → lv_has ls 7 [(0, .ref (a 0))] → W p l e (headSpec ow_dm_X1_findAddresses ({ frames := 1, cells := 0, slots := 0, locals := 23 })).room s m args below meth c H locs 0 0 Q (F0 m 0 ls [])
set_option maxHeartbeats 40000000 in
set_option maxRecDepth 100000 in
theorem db_X1_findAddresses_226 {p : Program} {l : Launch} {e : Env} {s : State} {m : MethodId} {args : Array Value} {below : List Frame} {meth : Method} {c : Code} {Q : State → Prop} {A : Nat → Prop} {dC : Nat → ClassId} {dI : Nat → Nat → Nat} {a : Nat → Nat} {ac : Nat → ClassId} {n : Nat} {r : St × (St)} (C : nd_C p l s m args c A (dC, dI) cX1_findAddresses 7 RX1 ow_dm_X1_findAddresses (dk_X1 ac)) (K : nd_Kv p l e (headSpec ow_dm_X1_findAddresses ({ frames := 1, cells := 0, slots := 0, locals := 23 })).room s m args below meth c Q A (dC, dI) cX1_findAddresses (St × (St)) (dw_X1 a ac) r) : dj_X1_findAddresses_226 p l e s m args below meth c Q A dC dI a ac (df_X1_findAddresses_226 n) r := by
  obtain ⟨hlt, hx, hb, hml, hown, hts, hN, hA, hK⟩ := id C
  intro y1 s0 H locs ls h hP hD hS hl
  unfold df_X1_findAddresses_226 at h
  refine va_put (D := (dC, dI)) (ci := 2) (v := .int y1) (ty := .int) (C := RX1) (T := TX1) (N := 13) hx hb hts hi_dm_X1_findAddresses_X1 tyX1 tyX1_ok nmX1 hown hK hP hD hS 0 rfl rfl 12 (by decide) (hts (.fieldLink RX1 50 "TimeMachine$Assembler" "size" "I") (List.mem_of_getElem? (i := 4) rfl)) (fun _ h9 => h9) rfl (by decide +kernel) rfl rfl (Nat.le_of_ble_eq_true rfl) dX1_findAddresses_226 (fun H locs hP hD hS => ?_)
  obtain ⟨s5, es5, h⟩ := nd_let_e h
  have hP : va_P (dC, dI) vwCl (dw_X1 a ac s5) H := by rw [es5]; exact hP
  have hD : va_D A (dw_X1 a ac s5) := by rw [es5]; exact hD
  refine lv_aload_n hx hb dX1_findAddresses_229 rfl (lv_at hl 0 rfl) ?_
  obtain ⟨s7, hq, h⟩ := nd_b1_e h
  have hPc := hP
  have hDc := hD
  have hKc := hK
  have hFc := nd_rs hD hS hA
  refine nd_cVv (As := []) (rest := []) (w' := dw_X1 a ac s7) ⟨hx, hb, hml, hown, hts⟩ (fun sz => dm_X1_moveData l hlt dC dI a ac n  s5 hq sz) (cwV 0 hts gi_dm_X1_findAddresses_0 rfl rfl rfl (by decide +kernel) ⟨Nat.le_of_ble_eq_true rfl, Nat.le_of_ble_eq_true rfl⟩) hPc hDc hKc hS hA hN (va_recv hKc hPc (ci := 2) (q0 := 0) rfl rfl) rfl hl.1 rfl (Nat.le_of_ble_eq_true rfl) dX1_findAddresses_230 (fun H locs hP1 hD1 hk1 hS => ?_)
  have hP := hP1
  have hD := hD1.weaken (fun k q _ h => hFc q.1 h)
  exact K _ _ _ _ _ dX1_findAddresses_233 (Option.some.inj h).symm hP hD hS
set_option maxHeartbeats 40000000 in
set_option maxRecDepth 100000 in
theorem db_X1_findAddresses_181 {p : Program} {l : Launch} {e : Env} {s : State} {m : MethodId} {args : Array Value} {below : List Frame} {meth : Method} {c : Code} {Q : State → Prop} {A : Nat → Prop} {dC : Nat → ClassId} {dI : Nat → Nat → Nat} {a : Nat → Nat} {ac : Nat → ClassId} {n : Nat} {r : St × (St)} (C : nd_C p l s m args c A (dC, dI) cX1_findAddresses 7 RX1 ow_dm_X1_findAddresses (dk_X1 ac)) (K : nd_Kv p l e (headSpec ow_dm_X1_findAddresses ({ frames := 1, cells := 0, slots := 0, locals := 23 })).room s m args below meth c Q A (dC, dI) cX1_findAddresses (St × (St)) (dw_X1 a ac) r) {g9 : Int32 → Int32 → Int32 → Int32 → (St × (St)) → Option (St × (St))} (J9 : dj_X1_findAddresses_9 p l e s m args below meth c Q A dC dI a ac g9 r) : dj_X1_findAddresses_181 p l e s m args below meth c Q A dC dI a ac (df_X1_findAddresses_181 n g9) r := by
  obtain ⟨hlt, hx, hb, hml, hown, hts, hN, hA, hK⟩ := id C
  intro x1 x2 x3 x4 s0 H locs ls h hP hD hS hl
  unfold df_X1_findAddresses_181 at h
  obtain ⟨z11, ez11, h⟩ := nd_let_e h
  refine lv_iinc (v := z11) (lv' := [(4, .int z11), (0, .ref (a 0)), (1, .int x1), (2, .int x2), (3, .int x3)]) hx hb dX1_findAddresses_181 hl (k := 4) rfl (by rw [ez11]) (by decide) rfl (fun ls hl => ?_)
  refine lv_goto (tgt := 9) hx hb dX1_findAddresses_184 (by decide) ?_
  exact (J9) (x1) (x2) (x3) (z11) s0 _ _ _ h hP hD hS (lv_sub hl [1, 2, 3, 4, 0] rfl)
set_option maxHeartbeats 40000000 in
set_option maxRecDepth 100000 in
theorem db_X1_findAddresses_142 {p : Program} {l : Launch} {e : Env} {s : State} {m : MethodId} {args : Array Value} {below : List Frame} {meth : Method} {c : Code} {Q : State → Prop} {A : Nat → Prop} {dC : Nat → ClassId} {dI : Nat → Nat → Nat} {a : Nat → Nat} {ac : Nat → ClassId} {n : Nat} {r : St × (St)} (C : nd_C p l s m args c A (dC, dI) cX1_findAddresses 7 RX1 ow_dm_X1_findAddresses (dk_X1 ac)) (K : nd_Kv p l e (headSpec ow_dm_X1_findAddresses ({ frames := 1, cells := 0, slots := 0, locals := 23 })).room s m args below meth c Q A (dC, dI) cX1_findAddresses (St × (St)) (dw_X1 a ac) r) {g9 : Int32 → Int32 → Int32 → Int32 → (St × (St)) → Option (St × (St))} (J9 : dj_X1_findAddresses_9 p l e s m args below meth c Q A dC dI a ac g9 r) : dj_X1_findAddresses_142 p l e s m args below meth c Q A dC dI a ac (df_X1_findAddresses_142 n g9) r := by
  obtain ⟨hlt, hx, hb, hml, hown, hts, hN, hA, hK⟩ := id C
  intro x1 x2 x3 x4 x5 s0 H locs ls h hP hD hS hl
  unfold df_X1_findAddresses_142 at h
  refine lv_aload_n hx hb dX1_findAddresses_142 rfl (lv_at hl 0 rfl) ?_
  refine va_get (D := (dC, dI)) (ci := 2) (v := .ref (a 1)) (C := RX1) (T := TX1) (N := 13) hx hb hts hi_dm_X1_findAddresses_X1 hown hK hP 0 rfl rfl 1 (by decide) (hts (.fieldLink RX1 19 "TimeMachine$Assembler" "statement" "[I") (List.mem_of_getElem? (i := 11) rfl)) (fun _ h9 => h9) rfl dX1_findAddresses_143 ?_
  refine lv_iload hx hb dX1_findAddresses_146 (lv_at hl 5 rfl) ?_
  refine lv_iconst (v := 1) hx hb dX1_findAddresses_148 (by decide) ?_
  refine lv_iadd hx hb dX1_findAddresses_149 ?_
  obtain ⟨i19, h⟩ := nd_ck_e h
  refine va_iald (i := (x5 + 1)) hx hb hK hP 1 0 rfl rfl i19 dX1_findAddresses_150 ?_
  refine lv_if_ne (tgt := 169) hx hb dX1_findAddresses_151 (by decide) (fun c20 => ?_) (fun c20 => ?_)
  · have h := nd_neg h c20
    refine lv_iload_n hx hb dX1_findAddresses_169 rfl (lv_at hl 2 rfl) ?_
    refine lv_aload_n hx hb dX1_findAddresses_170 rfl (lv_at hl 0 rfl) ?_
    refine va_get (D := (dC, dI)) (ci := 2) (v := .ref (a 1)) (C := RX1) (T := TX1) (N := 13) hx hb hts hi_dm_X1_findAddresses_X1 hown hK hP 0 rfl rfl 1 (by decide) (hts (.fieldLink RX1 19 "TimeMachine$Assembler" "statement" "[I") (List.mem_of_getElem? (i := 11) rfl)) (fun _ h9 => h9) rfl dX1_findAddresses_171 ?_
    refine lv_iload hx hb dX1_findAddresses_174 (lv_at hl 5 rfl) ?_
    refine lv_iconst (v := 3) hx hb dX1_findAddresses_176 (by decide) ?_
    refine lv_iadd hx hb dX1_findAddresses_177 ?_
    obtain ⟨i21, h⟩ := nd_ck_e h
    refine va_iald (i := (x5 + 3)) hx hb hK hP 1 0 rfl rfl i21 dX1_findAddresses_178 ?_
    refine lv_iadd hx hb dX1_findAddresses_179 ?_
    refine lv_topi (fun z22 ez22 => ?_)
    have h := nd_at h ez22
    refine lv_istore_n (lv' := [(2, .int z22), (0, .ref (a 0)), (1, .int x1), (3, .int x3), (4, .int x4), (5, .int x5)]) hx hb dX1_findAddresses_180 rfl hl (by decide) rfl (fun ls hl => ?_)
    exact (db_X1_findAddresses_181 C K J9) (x1) (z22) (x3) (x4) s0 _ _ _ h hP hD hS (lv_sub hl [1, 2, 0, 3, 4] rfl)
  · have h := nd_pos h c20
    refine lv_iload_n hx hb dX1_findAddresses_154 rfl (lv_at hl 1 rfl) ?_
    refine lv_aload_n hx hb dX1_findAddresses_155 rfl (lv_at hl 0 rfl) ?_
    refine va_get (D := (dC, dI)) (ci := 2) (v := .ref (a 1)) (C := RX1) (T := TX1) (N := 13) hx hb hts hi_dm_X1_findAddresses_X1 hown hK hP 0 rfl rfl 1 (by decide) (hts (.fieldLink RX1 19 "TimeMachine$Assembler" "statement" "[I") (List.mem_of_getElem? (i := 11) rfl)) (fun _ h9 => h9) rfl dX1_findAddresses_156 ?_
    refine lv_iload hx hb dX1_findAddresses_159 (lv_at hl 5 rfl) ?_
    refine lv_iconst (v := 3) hx hb dX1_findAddresses_161 (by decide) ?_
    refine lv_iadd hx hb dX1_findAddresses_162 ?_
    obtain ⟨i23, h⟩ := nd_ck_e h
    refine va_iald (i := (x5 + 3)) hx hb hK hP 1 0 rfl rfl i23 dX1_findAddresses_163 ?_
    refine lv_iadd hx hb dX1_findAddresses_164 ?_
    refine lv_topi (fun z24 ez24 => ?_)
    have h := nd_at h ez24
    refine lv_istore_n (lv' := [(1, .int z24), (0, .ref (a 0)), (2, .int x2), (3, .int x3), (4, .int x4), (5, .int x5)]) hx hb dX1_findAddresses_165 rfl hl (by decide) rfl (fun ls hl => ?_)
    refine lv_goto (tgt := 181) hx hb dX1_findAddresses_166 (by decide) ?_
    exact (db_X1_findAddresses_181 C K J9) (z24) (x2) (x3) (x4) s0 _ _ _ h hP hD hS (lv_sub hl [1, 0, 2, 3, 4] rfl)
set_option maxHeartbeats 40000000 in
set_option maxRecDepth 100000 in
theorem db_X1_findAddresses_91 {p : Program} {l : Launch} {e : Env} {s : State} {m : MethodId} {args : Array Value} {below : List Frame} {meth : Method} {c : Code} {Q : State → Prop} {A : Nat → Prop} {dC : Nat → ClassId} {dI : Nat → Nat → Nat} {a : Nat → Nat} {ac : Nat → ClassId} {n : Nat} {r : St × (St)} (C : nd_C p l s m args c A (dC, dI) cX1_findAddresses 7 RX1 ow_dm_X1_findAddresses (dk_X1 ac)) (K : nd_Kv p l e (headSpec ow_dm_X1_findAddresses ({ frames := 1, cells := 0, slots := 0, locals := 23 })).room s m args below meth c Q A (dC, dI) cX1_findAddresses (St × (St)) (dw_X1 a ac) r) {g9 : Int32 → Int32 → Int32 → Int32 → (St × (St)) → Option (St × (St))} (J9 : dj_X1_findAddresses_9 p l e s m args below meth c Q A dC dI a ac g9 r) : dj_X1_findAddresses_91 p l e s m args below meth c Q A dC dI a ac (df_X1_findAddresses_91 n g9) r := by
  obtain ⟨hlt, hx, hb, hml, hown, hts, hN, hA, hK⟩ := id C
  intro x1 x2 x3 x4 x5 y0 s0 H locs ls h hP hD hS hl
  unfold df_X1_findAddresses_91 at h
  refine lv_istore (lv' := [(6, .int y0), (0, .ref (a 0)), (1, .int x1), (2, .int x2), (3, .int x3), (4, .int x4), (5, .int x5)]) hx hb dX1_findAddresses_91 hl (by decide) rfl (fun ls hl => ?_)
  refine lv_aload_n hx hb dX1_findAddresses_93 rfl (lv_at hl 1 rfl) ?_
  refine va_get (D := (dC, dI)) (ci := 2) (v := .ref (a 1)) (C := RX1) (T := TX1) (N := 13) hx hb hts hi_dm_X1_findAddresses_X1 hown hK hP 0 rfl rfl 1 (by decide) (hts (.fieldLink RX1 19 "TimeMachine$Assembler" "statement" "[I") (List.mem_of_getElem? (i := 11) rfl)) (fun _ h9 => h9) rfl dX1_findAddresses_94 ?_
  refine lv_iload hx hb dX1_findAddresses_97 (lv_at hl 6 rfl) ?_
  refine lv_iconst (v := 2) hx hb dX1_findAddresses_99 (by decide) ?_
  refine lv_iadd hx hb dX1_findAddresses_100 ?_
  refine lv_iload hx hb dX1_findAddresses_101 (lv_at hl 0 rfl) ?_
  obtain ⟨i15, h⟩ := nd_ck_e h
  refine va_iast (i := (x5 + 2)) (x := y0) hx hb hK hP hD hS 1 0 rfl rfl i15 dX1_findAddresses_103 (fun H locs hP hD hS => ?_)
  obtain ⟨s16, es16, h⟩ := nd_let_e h
  have hP : va_P (dC, dI) vwCl (dw_X1 a ac s16) H := by rw [es16]; exact hP
  have hD : va_D A (dw_X1 a ac s16) := by rw [es16]; exact hD
  refine lv_aload_n hx hb dX1_findAddresses_104 rfl (lv_at hl 1 rfl) ?_
  refine va_get (D := (dC, dI)) (ci := 2) (v := .ref (a 1)) (C := RX1) (T := TX1) (N := 13) hx hb hts hi_dm_X1_findAddresses_X1 hown hK hP 0 rfl rfl 1 (by decide) (hts (.fieldLink RX1 19 "TimeMachine$Assembler" "statement" "[I") (List.mem_of_getElem? (i := 11) rfl)) (fun _ h9 => h9) rfl dX1_findAddresses_105 ?_
  refine lv_iload hx hb dX1_findAddresses_108 (lv_at hl 6 rfl) ?_
  refine lv_iconst (v := 4) hx hb dX1_findAddresses_110 (by decide) ?_
  refine lv_iadd hx hb dX1_findAddresses_111 ?_
  obtain ⟨i17, h⟩ := nd_ck_e h
  refine va_iald (i := (x5 + 4)) hx hb hK hP 1 0 rfl rfl i17 dX1_findAddresses_112 ?_
  refine lv_bipush (v := 8) hx hb dX1_findAddresses_113 (by decide) ?_
  refine lv_icmp_ne (tgt := 142) hx hb dX1_findAddresses_115 (by decide) (fun c18 => ?_) (fun c18 => ?_)
  · have h := nd_neg h c18
    exact (db_X1_findAddresses_142 C K J9) (x1) (x2) (x3) (x4) (x5) s16 _ _ _ h hP hD hS (lv_sub hl [1, 2, 3, 4, 5, 6] rfl)
  · have h := nd_pos h c18
    refine lv_aload_n hx hb dX1_findAddresses_118 rfl (lv_at hl 1 rfl) ?_
    refine va_get (D := (dC, dI)) (ci := 2) (v := .ref (a 1)) (C := RX1) (T := TX1) (N := 13) hx hb hts hi_dm_X1_findAddresses_X1 hown hK hP 0 rfl rfl 1 (by decide) (hts (.fieldLink RX1 19 "TimeMachine$Assembler" "statement" "[I") (List.mem_of_getElem? (i := 11) rfl)) (fun _ h9 => h9) rfl dX1_findAddresses_119 ?_
    refine lv_iload hx hb dX1_findAddresses_122 (lv_at hl 6 rfl) ?_
    refine lv_iconst (v := 3) hx hb dX1_findAddresses_124 (by decide) ?_
    refine lv_iadd hx hb dX1_findAddresses_125 ?_
    refine lv_iload hx hb dX1_findAddresses_126 (lv_at hl 0 rfl) ?_
    refine lv_ineg hx hb dX1_findAddresses_128 ?_
    refine lv_aload_n hx hb dX1_findAddresses_129 rfl (lv_at hl 1 rfl) ?_
    refine va_get (D := (dC, dI)) (ci := 2) (v := .ref (a 1)) (C := RX1) (T := TX1) (N := 13) hx hb hts hi_dm_X1_findAddresses_X1 hown hK hP 0 rfl rfl 1 (by decide) (hts (.fieldLink RX1 19 "TimeMachine$Assembler" "statement" "[I") (List.mem_of_getElem? (i := 11) rfl)) (fun _ h9 => h9) rfl dX1_findAddresses_130 ?_
    refine lv_iload hx hb dX1_findAddresses_133 (lv_at hl 6 rfl) ?_
    refine lv_iconst (v := 5) hx hb dX1_findAddresses_135 (by decide) ?_
    refine lv_iadd hx hb dX1_findAddresses_136 ?_
    obtain ⟨i25, h⟩ := nd_ck_e h
    refine va_iald (i := (x5 + 5)) hx hb hK hP 1 0 rfl rfl i25 dX1_findAddresses_137 ?_
    refine lv_iconst (v := 1) hx hb dX1_findAddresses_138 (by decide) ?_
    refine lv_isub hx hb dX1_findAddresses_139 ?_
    refine lv_iand hx hb dX1_findAddresses_140 ?_
    obtain ⟨i26, h⟩ := nd_ck_e h
    refine va_iast (i := (x5 + 3)) (x := ((-y0) &&& ((sR s16.1 0 (Int32.toNatClampNeg (x5 + 5))) - 1))) hx hb hK hP hD hS 1 0 rfl rfl i26 dX1_findAddresses_141 (fun H locs hP hD hS => ?_)
    obtain ⟨s27, es27, h⟩ := nd_let_e h
    have hP : va_P (dC, dI) vwCl (dw_X1 a ac s27) H := by rw [es27]; exact hP
    have hD : va_D A (dw_X1 a ac s27) := by rw [es27]; exact hD
    exact (db_X1_findAddresses_142 C K J9) (x1) (x2) (x3) (x4) (x5) s27 _ _ _ h hP hD hS (lv_sub hl [1, 2, 3, 4, 5, 6] rfl)
set_option maxHeartbeats 40000000 in
set_option maxRecDepth 100000 in
theorem db_X1_findAddresses_58 {p : Program} {l : Launch} {e : Env} {s : State} {m : MethodId} {args : Array Value} {below : List Frame} {meth : Method} {c : Code} {Q : State → Prop} {A : Nat → Prop} {dC : Nat → ClassId} {dI : Nat → Nat → Nat} {a : Nat → Nat} {ac : Nat → ClassId} {n : Nat} {r : St × (St)} (C : nd_C p l s m args c A (dC, dI) cX1_findAddresses 7 RX1 ow_dm_X1_findAddresses (dk_X1 ac)) (K : nd_Kv p l e (headSpec ow_dm_X1_findAddresses ({ frames := 1, cells := 0, slots := 0, locals := 23 })).room s m args below meth c Q A (dC, dI) cX1_findAddresses (St × (St)) (dw_X1 a ac) r) {g9 : Int32 → Int32 → Int32 → Int32 → (St × (St)) → Option (St × (St))} (J9 : dj_X1_findAddresses_9 p l e s m args below meth c Q A dC dI a ac g9 r) : dj_X1_findAddresses_58 p l e s m args below meth c Q A dC dI a ac (df_X1_findAddresses_58 n g9) r := by
  obtain ⟨hlt, hx, hb, hml, hown, hts, hN, hA, hK⟩ := id C
  intro x1 x2 x3 x4 s0 H locs ls h hP hD hS hl
  unfold df_X1_findAddresses_58 at h
  refine lv_iload hx hb dX1_findAddresses_58 (lv_at hl 4 rfl) ?_
  refine lv_aload_n hx hb dX1_findAddresses_60 rfl (lv_at hl 0 rfl) ?_
  refine va_get (D := (dC, dI)) (ci := 2) (v := .int (sI s0.1 0)) (C := RX1) (T := TX1) (N := 13) hx hb hts hi_dm_X1_findAddresses_X1 hown hK hP 0 rfl rfl 2 (by decide) (hts (.fieldLink RX1 65 "TimeMachine$Assembler" "statements" "I") (List.mem_of_getElem? (i := 1) rfl)) (fun _ h9 => h9) rfl dX1_findAddresses_61 ?_
  refine lv_icmp_ge (tgt := 181) hx hb dX1_findAddresses_64 (by decide) (fun c10 => ?_) (fun c10 => ?_)
  · have h := nd_pos h c10
    exact (db_X1_findAddresses_181 C K J9) (x1) (x2) (x3) (x4) s0 _ _ _ h hP hD hS (lv_sub hl [0, 1, 2, 3, 4] rfl)
  · have h := nd_neg h c10
    refine lv_iload hx hb dX1_findAddresses_67 (lv_at hl 4 rfl) ?_
    refine lv_bipush (v := 8) hx hb dX1_findAddresses_69 (by decide) ?_
    refine lv_imul hx hb dX1_findAddresses_71 ?_
    refine lv_topi (fun z12 ez12 => ?_)
    have h := nd_at h ez12
    refine lv_istore (lv' := [(5, .int z12), (0, .ref (a 0)), (1, .int x1), (2, .int x2), (3, .int x3), (4, .int x4)]) hx hb dX1_findAddresses_72 hl (by decide) rfl (fun ls hl => ?_)
    refine lv_aload_n hx hb dX1_findAddresses_74 rfl (lv_at hl 1 rfl) ?_
    refine va_get (D := (dC, dI)) (ci := 2) (v := .ref (a 1)) (C := RX1) (T := TX1) (N := 13) hx hb hts hi_dm_X1_findAddresses_X1 hown hK hP 0 rfl rfl 1 (by decide) (hts (.fieldLink RX1 19 "TimeMachine$Assembler" "statement" "[I") (List.mem_of_getElem? (i := 11) rfl)) (fun _ h9 => h9) rfl dX1_findAddresses_75 ?_
    refine lv_iload hx hb dX1_findAddresses_78 (lv_at hl 0 rfl) ?_
    refine lv_iconst (v := 1) hx hb dX1_findAddresses_80 (by decide) ?_
    refine lv_iadd hx hb dX1_findAddresses_81 ?_
    obtain ⟨i13, h⟩ := nd_ck_e h
    refine va_iald (i := (z12 + 1)) hx hb hK hP 1 0 rfl rfl i13 dX1_findAddresses_82 ?_
    refine lv_if_ne (tgt := 90) hx hb dX1_findAddresses_83 (by decide) (fun c14 => ?_) (fun c14 => ?_)
    · have h := nd_neg h c14
      refine lv_iload_n hx hb dX1_findAddresses_90 rfl (lv_at hl 3 rfl) ?_
      exact (db_X1_findAddresses_91 C K J9) (x1) (x2) (x3) (x4) (z12) (x2) s0 _ _ _ h hP hD hS (lv_sub hl [1, 2, 3, 4, 5, 0] rfl)
    · have h := nd_pos h c14
      refine lv_iload_n hx hb dX1_findAddresses_86 rfl (lv_at hl 2 rfl) ?_
      refine lv_goto (tgt := 91) hx hb dX1_findAddresses_87 (by decide) ?_
      exact (db_X1_findAddresses_91 C K J9) (x1) (x2) (x3) (x4) (z12) (x1) s0 _ _ _ h hP hD hS (lv_sub hl [1, 2, 3, 4, 5, 0] rfl)
set_option maxHeartbeats 40000000 in
set_option maxRecDepth 100000 in
theorem dB_X1_findAddresses_18 {p : Program} {l : Launch} {e : Env} {s : State} {m : MethodId} {args : Array Value} {below : List Frame} {meth : Method} {c : Code} {Q : State → Prop} {A : Nat → Prop} {dC : Nat → ClassId} {dI : Nat → Nat → Nat} {a : Nat → Nat} {ac : Nat → ClassId} {n : Nat} {r : St × (St)} (C : nd_C p l s m args c A (dC, dI) cX1_findAddresses 7 RX1 ow_dm_X1_findAddresses (dk_X1 ac)) (K : nd_Kv p l e (headSpec ow_dm_X1_findAddresses ({ frames := 1, cells := 0, slots := 0, locals := 23 })).room s m args below meth c Q A (dC, dI) cX1_findAddresses (St × (St)) (dw_X1 a ac) r) {g9 : Int32 → Int32 → Int32 → Int32 → (St × (St)) → Option (St × (St))} (J9 : dj_X1_findAddresses_9 p l e s m args below meth c Q A dC dI a ac g9 r) {g18 : Int32 → Int32 → Int32 → Int32 → (St × (St)) → Option (St × (St))} (J18 : dj_X1_findAddresses_18 p l e s m args below meth c Q A dC dI a ac g18 r) : dj_X1_findAddresses_18 p l e s m args below meth c Q A dC dI a ac (dF_X1_findAddresses_18 n g9 g18) r := by
  obtain ⟨hlt, hx, hb, hml, hown, hts, hN, hA, hK⟩ := id C
  intro x1 x2 x3 x4 s0 H locs ls h hP hD hS hl
  unfold dF_X1_findAddresses_18 at h
  refine lv_iload_n hx hb dX1_findAddresses_18 rfl (lv_at hl 3 rfl) ?_
  refine lv_aload_n hx hb dX1_findAddresses_19 rfl (lv_at hl 0 rfl) ?_
  refine va_get (D := (dC, dI)) (ci := 2) (v := .ref (a 3)) (C := RX1) (T := TX1) (N := 13) hx hb hts hi_dm_X1_findAddresses_X1 hown hK hP 0 rfl rfl 0 (by decide) (hts (.fieldLink RX1 12 "TimeMachine$Assembler" "reader" "LTimeMachine$Reader;") (List.mem_of_getElem? (i := 9) rfl)) (fun _ h9 => h9) rfl dX1_findAddresses_20 ?_
  refine va_get (D := (dC, dI)) (ci := 10) (v := .int (sI s0.2 9)) (C := RX9) (T := TX9) (N := 20) hx hb hts hi_dm_X1_findAddresses_X9 hown hK hP 3 rfl rfl 17 (by decide) (hts (.fieldLink RX1 274 "TimeMachine$Reader" "labels" "I") (List.mem_of_getElem? (i := 10) rfl)) (fun _ h9 => h9) rfl dX1_findAddresses_23 ?_
  refine lv_icmp_ge (tgt := 58) hx hb dX1_findAddresses_26 (by decide) (fun c9 => ?_) (fun c9 => ?_)
  · have h := nd_pos h c9
    exact (db_X1_findAddresses_58 C K J9) (x1) (x2) (x3) (x4) s0 _ _ _ h hP hD hS (lv_sub hl [0, 1, 2, 3, 4] rfl)
  · have h := nd_neg h c9
    refine lv_aload_n hx hb dX1_findAddresses_29 rfl (lv_at hl 0 rfl) ?_
    refine va_get (D := (dC, dI)) (ci := 2) (v := .ref (a 3)) (C := RX1) (T := TX1) (N := 13) hx hb hts hi_dm_X1_findAddresses_X1 hown hK hP 0 rfl rfl 0 (by decide) (hts (.fieldLink RX1 12 "TimeMachine$Assembler" "reader" "LTimeMachine$Reader;") (List.mem_of_getElem? (i := 9) rfl)) (fun _ h9 => h9) rfl dX1_findAddresses_30 ?_
    refine lv_iload_n hx hb dX1_findAddresses_33 rfl (lv_at hl 3 rfl) ?_
    refine lv_iload hx hb dX1_findAddresses_34 (lv_at hl 4 rfl) ?_
    obtain ⟨q28, s29, hq, h⟩ := nd_b2_e h
    have hPc := dp_X1_3 hP
    have hDc := dd_X1_3 hD
    have hKc := dy_X1_3 hK
    have hFc := nd_rs hDc hS hA
    have hzA : ∀ q : Nat, H.size ≤ q → A q := fun q h => hA q (Nat.le_trans hS.1 h)
    refine nd_cVi (As := [.int x3, .int x4]) (rest := []) (q := q28) (w' := dw_X9 (fun k => a (k + 3)) (fun k => ac (k + 3)) s29) ⟨hx, hb, hml, hown, hts⟩ (fun sz => dm_X9_standsBefore l hlt dC dI (fun k => a (k + 3)) (fun k => ac (k + 3)) n (x3) (x4) s0.2 hq sz) (cwV 2 hts gi_dm_X1_findAddresses_1 rfl rfl rfl (by decide +kernel) ⟨Nat.le_of_ble_eq_true rfl, Nat.le_of_ble_eq_true rfl⟩) hPc hDc hKc hS hA hN (va_recv hKc hPc (ci := 10) (q0 := 0) rfl rfl) rfl hl.1 rfl (Nat.le_of_ble_eq_true rfl) dX1_findAddresses_36 (fun H locs hP1 hD1 hk1 hS => ?_)
    obtain ⟨hP, hD⟩ := dn_X1_3 hP hD hzA hk1 hP1 hD1
    obtain ⟨s31, es31, h⟩ := nd_let_e h
    have hP : va_P (dC, dI) vwCl (dw_X1 a ac s31) H := by rw [es31]; exact hP
    have hD : va_D A (dw_X1 a ac s31) := by rw [es31]; exact hD
    refine lv_if_eq (tgt := 58) hx hb dX1_findAddresses_39 (by decide) (fun c32 => ?_) (fun c32 => ?_)
    · have h := nd_pos h c32
      exact (db_X1_findAddresses_58 C K J9) (x1) (x2) (x3) (x4) s31 _ _ _ h hP hD hS (lv_sub hl [0, 1, 2, 3, 4] rfl)
    · have h := nd_neg h c32
      refine lv_aload_n hx hb dX1_findAddresses_42 rfl (lv_at hl 0 rfl) ?_
      refine va_get (D := (dC, dI)) (ci := 2) (v := .ref (a 3)) (C := RX1) (T := TX1) (N := 13) hx hb hts hi_dm_X1_findAddresses_X1 hown hK hP 0 rfl rfl 0 (by decide) (hts (.fieldLink RX1 12 "TimeMachine$Assembler" "reader" "LTimeMachine$Reader;") (List.mem_of_getElem? (i := 9) rfl)) (fun _ h9 => h9) rfl dX1_findAddresses_43 ?_
      refine lv_iload_n hx hb dX1_findAddresses_46 rfl (lv_at hl 3 rfl) ?_
      refine lv_iload_n hx hb dX1_findAddresses_47 rfl (lv_at hl 1 rfl) ?_
      refine lv_iload_n hx hb dX1_findAddresses_48 rfl (lv_at hl 2 rfl) ?_
      obtain ⟨s34, hq, h⟩ := nd_b1_e h
      have hPc := dp_X1_3 hP
      have hDc := dd_X1_3 hD
      have hKc := dy_X1_3 hK
      have hFc := nd_rs hDc hS hA
      have hzA : ∀ q : Nat, H.size ≤ q → A q := fun q h => hA q (Nat.le_trans hS.1 h)
      refine nd_cVv (As := [.int x3, .int x1, .int x2]) (rest := []) (w' := dw_X9 (fun k => a (k + 3)) (fun k => ac (k + 3)) s34) ⟨hx, hb, hml, hown, hts⟩ (fun sz => dm_X9_place l hlt dC dI (fun k => a (k + 3)) (fun k => ac (k + 3)) n (x3) (x1) (x2) s31.2 hq sz) (cwV 3 hts gi_dm_X1_findAddresses_2 rfl rfl rfl (by decide +kernel) ⟨Nat.le_of_ble_eq_true rfl, Nat.le_of_ble_eq_true rfl⟩) hPc hDc hKc hS hA hN (va_recv hKc hPc (ci := 10) (q0 := 0) rfl rfl) rfl hl.1 rfl (Nat.le_of_ble_eq_true rfl) dX1_findAddresses_49 (fun H locs hP1 hD1 hk1 hS => ?_)
      obtain ⟨hP, hD⟩ := dn_X1_3 hP hD hzA hk1 hP1 hD1
      obtain ⟨s36, es36, h⟩ := nd_let_e h
      have hP : va_P (dC, dI) vwCl (dw_X1 a ac s36) H := by rw [es36]; exact hP
      have hD : va_D A (dw_X1 a ac s36) := by rw [es36]; exact hD
      obtain ⟨z37, ez37, h⟩ := nd_let_e h
      refine lv_iinc (v := z37) (lv' := [(3, .int z37), (0, .ref (a 0)), (1, .int x1), (2, .int x2), (4, .int x4)]) hx hb dX1_findAddresses_52 hl (k := 3) rfl (by rw [ez37]) (by decide) rfl (fun ls hl => ?_)
      refine lv_goto (tgt := 18) hx hb dX1_findAddresses_55 (by decide) ?_
      exact (J18) (x1) (x2) (z37) (x4) s36 _ _ _ h hP hD hS (lv_sub hl [1, 2, 3, 0, 4] rfl)
set_option maxHeartbeats 40000000 in
set_option maxRecDepth 100000 in
theorem db_X1_findAddresses_18 {p : Program} {l : Launch} {e : Env} {s : State} {m : MethodId} {args : Array Value} {below : List Frame} {meth : Method} {c : Code} {Q : State → Prop} {A : Nat → Prop} {dC : Nat → ClassId} {dI : Nat → Nat → Nat} {a : Nat → Nat} {ac : Nat → ClassId} {n : Nat} {r : St × (St)} (C : nd_C p l s m args c A (dC, dI) cX1_findAddresses 7 RX1 ow_dm_X1_findAddresses (dk_X1 ac)) (K : nd_Kv p l e (headSpec ow_dm_X1_findAddresses ({ frames := 1, cells := 0, slots := 0, locals := 23 })).room s m args below meth c Q A (dC, dI) cX1_findAddresses (St × (St)) (dw_X1 a ac) r) {g9 : Int32 → Int32 → Int32 → Int32 → (St × (St)) → Option (St × (St))} (J9 : dj_X1_findAddresses_9 p l e s m args below meth c Q A dC dI a ac g9 r) (k : Nat) : dj_X1_findAddresses_18 p l e s m args below meth c Q A dC dI a ac (df_X1_findAddresses_18 n g9 k) r := by
  induction k with
  | zero => intro x1 x2 x3 x4 s0 H locs ls h; exact nomatch (show (none : Option (St × (St))) = some r from h)
  | succ k ih => exact dB_X1_findAddresses_18 C K J9 ih
set_option maxHeartbeats 40000000 in
set_option maxRecDepth 100000 in
theorem dB_X1_findAddresses_9 {p : Program} {l : Launch} {e : Env} {s : State} {m : MethodId} {args : Array Value} {below : List Frame} {meth : Method} {c : Code} {Q : State → Prop} {A : Nat → Prop} {dC : Nat → ClassId} {dI : Nat → Nat → Nat} {a : Nat → Nat} {ac : Nat → ClassId} {n : Nat} {r : St × (St)} (C : nd_C p l s m args c A (dC, dI) cX1_findAddresses 7 RX1 ow_dm_X1_findAddresses (dk_X1 ac)) (K : nd_Kv p l e (headSpec ow_dm_X1_findAddresses ({ frames := 1, cells := 0, slots := 0, locals := 23 })).room s m args below meth c Q A (dC, dI) cX1_findAddresses (St × (St)) (dw_X1 a ac) r) {g9 : Int32 → Int32 → Int32 → Int32 → (St × (St)) → Option (St × (St))} (J9 : dj_X1_findAddresses_9 p l e s m args below meth c Q A dC dI a ac g9 r) : dj_X1_findAddresses_9 p l e s m args below meth c Q A dC dI a ac (dF_X1_findAddresses_9 n g9) r := by
  obtain ⟨hlt, hx, hb, hml, hown, hts, hN, hA, hK⟩ := id C
  intro x1 x2 x3 x4 s0 H locs ls h hP hD hS hl
  unfold dF_X1_findAddresses_9 at h
  refine lv_iload hx hb dX1_findAddresses_9 (lv_at hl 4 rfl) ?_
  refine lv_aload_n hx hb dX1_findAddresses_11 rfl (lv_at hl 0 rfl) ?_
  refine va_get (D := (dC, dI)) (ci := 2) (v := .int (sI s0.1 0)) (C := RX1) (T := TX1) (N := 13) hx hb hts hi_dm_X1_findAddresses_X1 hown hK hP 0 rfl rfl 2 (by decide) (hts (.fieldLink RX1 65 "TimeMachine$Assembler" "statements" "I") (List.mem_of_getElem? (i := 1) rfl)) (fun _ h9 => h9) rfl dX1_findAddresses_12 ?_
  refine lv_icmp_gt (tgt := 187) hx hb dX1_findAddresses_15 (by decide) (fun c1 => ?_) (fun c1 => ?_)
  · have h := nd_pos h c1
    refine lv_aload_n hx hb dX1_findAddresses_187 rfl (lv_at hl 0 rfl) ?_
    refine lv_iload_n hx hb dX1_findAddresses_188 rfl (lv_at hl 1 rfl) ?_
    refine va_put (D := (dC, dI)) (ci := 2) (v := .int x1) (ty := .int) (C := RX1) (T := TX1) (N := 13) hx hb hts hi_dm_X1_findAddresses_X1 tyX1 tyX1_ok nmX1 hown hK hP hD hS 0 rfl rfl 10 (by decide) (hts (.fieldLink RX1 284 "TimeMachine$Assembler" "textSize" "I") (List.mem_of_getElem? (i := 2) rfl)) (fun _ h9 => h9) rfl (by decide +kernel) rfl rfl (Nat.le_of_ble_eq_true rfl) dX1_findAddresses_189 (fun H locs hP hD hS => ?_)
    obtain ⟨s2, es2, h⟩ := nd_let_e h
    have hP : va_P (dC, dI) vwCl (dw_X1 a ac s2) H := by rw [es2]; exact hP
    have hD : va_D A (dw_X1 a ac s2) := by rw [es2]; exact hD
    refine lv_aload_n hx hb dX1_findAddresses_192 rfl (lv_at hl 0 rfl) ?_
    refine lv_iload_n hx hb dX1_findAddresses_193 rfl (lv_at hl 1 rfl) ?_
    refine lv_sipush (v := 1024) hx hb dX1_findAddresses_194 (by decide) ?_
    refine lv_iadd hx hb dX1_findAddresses_197 ?_
    refine lv_iconst (v := 1) hx hb dX1_findAddresses_198 (by decide) ?_
    refine lv_isub hx hb dX1_findAddresses_199 ?_
    refine lv_sipush (v := 1024) hx hb dX1_findAddresses_200 (by decide) ?_
    refine lv_idiv hx hb dX1_findAddresses_203 (by decide) ?_
    refine lv_sipush (v := 1024) hx hb dX1_findAddresses_204 (by decide) ?_
    refine lv_imul hx hb dX1_findAddresses_207 ?_
    refine va_put (D := (dC, dI)) (ci := 2) (v := .int (((((x1 + 1024) - 1) : Int32) / 1024) * 1024)) (ty := .int) (C := RX1) (T := TX1) (N := 13) hx hb hts hi_dm_X1_findAddresses_X1 tyX1 tyX1_ok nmX1 hown hK hP hD hS 0 rfl rfl 11 (by decide) (hts (.fieldLink RX1 287 "TimeMachine$Assembler" "dataStart" "I") (List.mem_of_getElem? (i := 3) rfl)) (fun _ h9 => h9) rfl (by decide +kernel) rfl rfl (Nat.le_of_ble_eq_true rfl) dX1_findAddresses_208 (fun H locs hP hD hS => ?_)
    obtain ⟨s3, es3, h⟩ := nd_let_e h
    have hP : va_P (dC, dI) vwCl (dw_X1 a ac s3) H := by rw [es3]; exact hP
    have hD : va_D A (dw_X1 a ac s3) := by rw [es3]; exact hD
    refine lv_aload_n hx hb dX1_findAddresses_211 rfl (lv_at hl 0 rfl) ?_
    refine lv_iload_n hx hb dX1_findAddresses_212 rfl (lv_at hl 2 rfl) ?_
    refine lv_if_le (tgt := 225) hx hb dX1_findAddresses_213 (by decide) (fun c4 => ?_) (fun c4 => ?_)
    · have h := nd_pos h c4
      refine lv_iload_n hx hb dX1_findAddresses_225 rfl (lv_at hl 1 rfl) ?_
      exact (db_X1_findAddresses_226 C K) (x1) s3 _ _ _ h hP hD hS (lv_sub hl [0] rfl)
    · have h := nd_neg h c4
      refine lv_aload_n hx hb dX1_findAddresses_216 rfl (lv_at hl 0 rfl) ?_
      refine va_get (D := (dC, dI)) (ci := 2) (v := .int (sI s3.1 8)) (C := RX1) (T := TX1) (N := 13) hx hb hts hi_dm_X1_findAddresses_X1 hown hK hP 0 rfl rfl 11 (by decide) (hts (.fieldLink RX1 287 "TimeMachine$Assembler" "dataStart" "I") (List.mem_of_getElem? (i := 3) rfl)) (fun _ h9 => h9) rfl dX1_findAddresses_217 ?_
      refine lv_iload_n hx hb dX1_findAddresses_220 rfl (lv_at hl 2 rfl) ?_
      refine lv_iadd hx hb dX1_findAddresses_221 ?_
      refine lv_goto (tgt := 226) hx hb dX1_findAddresses_222 (by decide) ?_
      exact (db_X1_findAddresses_226 C K) (((sI s3.1 8) + x2)) s3 _ _ _ h hP hD hS (lv_sub hl [0] rfl)
  · have h := nd_neg h c1
    exact (db_X1_findAddresses_18 C K J9 n) (x1) (x2) (x3) (x4) s0 _ _ _ h hP hD hS (lv_sub hl [0, 1, 2, 3, 4] rfl)
set_option maxHeartbeats 40000000 in
set_option maxRecDepth 100000 in
theorem db_X1_findAddresses_9 {p : Program} {l : Launch} {e : Env} {s : State} {m : MethodId} {args : Array Value} {below : List Frame} {meth : Method} {c : Code} {Q : State → Prop} {A : Nat → Prop} {dC : Nat → ClassId} {dI : Nat → Nat → Nat} {a : Nat → Nat} {ac : Nat → ClassId} {n : Nat} {r : St × (St)} (C : nd_C p l s m args c A (dC, dI) cX1_findAddresses 7 RX1 ow_dm_X1_findAddresses (dk_X1 ac)) (K : nd_Kv p l e (headSpec ow_dm_X1_findAddresses ({ frames := 1, cells := 0, slots := 0, locals := 23 })).room s m args below meth c Q A (dC, dI) cX1_findAddresses (St × (St)) (dw_X1 a ac) r) (k : Nat) : dj_X1_findAddresses_9 p l e s m args below meth c Q A dC dI a ac (df_X1_findAddresses_9 n k) r := by
  induction k with
  | zero => intro x1 x2 x3 x4 s0 H locs ls h; exact nomatch (show (none : Option (St × (St))) = some r from h)
  | succ k ih => exact dB_X1_findAddresses_9 C K ih
set_option maxHeartbeats 40000000 in
set_option maxRecDepth 100000 in
theorem db_X1_findAddresses_0 {p : Program} {l : Launch} {e : Env} {s : State} {m : MethodId} {args : Array Value} {below : List Frame} {meth : Method} {c : Code} {Q : State → Prop} {A : Nat → Prop} {dC : Nat → ClassId} {dI : Nat → Nat → Nat} {a : Nat → Nat} {ac : Nat → ClassId} {n : Nat} {r : St × (St)} (C : nd_C p l s m args c A (dC, dI) cX1_findAddresses 7 RX1 ow_dm_X1_findAddresses (dk_X1 ac)) (K : nd_Kv p l e (headSpec ow_dm_X1_findAddresses ({ frames := 1, cells := 0, slots := 0, locals := 23 })).room s m args below meth c Q A (dC, dI) cX1_findAddresses (St × (St)) (dw_X1 a ac) r) : dj_X1_findAddresses_0 p l e s m args below meth c Q A dC dI a ac (df_X1_findAddresses_0 n) r := by
  obtain ⟨hlt, hx, hb, hml, hown, hts, hN, hA, hK⟩ := id C
  intro s0 H locs ls h hP hD hS hl
  unfold df_X1_findAddresses_0 at h
  refine lv_iconst (v := 0) hx hb dX1_findAddresses_0 (by decide) ?_
  refine lv_istore_n (lv' := [(1, .int 0), (0, .ref (a 0))]) hx hb dX1_findAddresses_1 rfl hl (by decide) rfl (fun ls hl => ?_)
  refine lv_iconst (v := 0) hx hb dX1_findAddresses_2 (by decide) ?_
  refine lv_istore_n (lv' := [(2, .int 0), (1, .int 0), (0, .ref (a 0))]) hx hb dX1_findAddresses_3 rfl hl (by decide) rfl (fun ls hl => ?_)
  refine lv_iconst (v := 0) hx hb dX1_findAddresses_4 (by decide) ?_
  refine lv_istore_n (lv' := [(3, .int 0), (2, .int 0), (1, .int 0), (0, .ref (a 0))]) hx hb dX1_findAddresses_5 rfl hl (by decide) rfl (fun ls hl => ?_)
  refine lv_iconst (v := 0) hx hb dX1_findAddresses_6 (by decide) ?_
  refine lv_istore (lv' := [(4, .int 0), (3, .int 0), (2, .int 0), (1, .int 0), (0, .ref (a 0))]) hx hb dX1_findAddresses_7 hl (by decide) rfl (fun ls hl => ?_)
  exact (db_X1_findAddresses_9 C K n) (0) (0) (0) (0) s0 _ _ _ h hP hD hS (lv_sub hl [4, 3, 2, 1, 0] rfl)
set_option maxHeartbeats 40000000 in
set_option maxRecDepth 100000 in
theorem dm_X1_findAddresses (l : Launch) (hlt : l.stackTraces = false) (dC : Nat → ClassId) (dI : Nat → Nat → Nat) (a : Nat → Nat) (ac : Nat → ClassId) (n : Nat) (s0 : St × (St)) {r : St × (St)} (h : df_X1_findAddresses n s0 = some r) (sz : Nat) : Met l yX1_findAddresses ow_dm_X1_findAddresses ({ frames := 1, cells := 0, slots := 0, locals := 23 }) (va_Pc [.ref (a 0)] (fun U => U.heap.size = sz ∧ va_P (dC, dI) vwCl (dw_X1 a ac s0) U.heap ∧ va_K (dC, dI) vwCl (dk_X1 ac) U ∧ va_D (fun _ => True) (dw_X1 a ac s0) ∧ nv_E dI (va_A (dw_X1 a ac s0) sz) U)) (va_Qv (fun _ => True) (fun (_ : Unit) t => va_P (dC, dI) vwCl (dw_X1 a ac r) t.heap ∧ va_K (dC, dI) vwCl (dk_X1 ac) t ∧ va_D (va_A (dw_X1 a ac s0) sz) (dw_X1 a ac r)) (va_A (dw_X1 a ac s0) sz)) 0 0 (va_A (dw_X1 a ac s0) sz) := by
  refine Met.ofW (cc := cX1_findAddresses) (maxL := 7) (ret := none) (by decide) rfl ?_
  intro p e s m args below meth c s₁ B hml hv
  obtain ⟨rfl, hsz, hP, hK, hD0, hN⟩ := hv
  have hx := B.exec
  have hb := B.bytes
  have hr := B.returns
  have hts := atoms_spec (ws := ow_dm_X1_findAddresses) B.pre
  have hown : s.vm.findClass RX1 = some m.cls := findClass_of_methodNamed B.named
  have hlocks := B.notSynchronized
  subst hsz
  have hD := hD0.self (sz := s.heap.size)
  generalize hAe : va_A (dw_X1 a ac s0) s.heap.size = A at hD hN ⊢
  have hA : ∀ q : Nat, s.heap.size ≤ q → A q := fun q h => by rw [← hAe]; exact Or.inr h
  have hl := lv_entry ([.ref (a 0)]) (n := 7) (Nat.le_of_ble_eq_true rfl)
  rw [lg_entry_eq]
  generalize (lg_sl ([.ref (a 0)]) ++ List.replicate (7 - (lg_sl ([.ref (a 0)])).length) Slot.unset).toArray = ls at hl ⊢
  have hl : lv_has ls 7 [(0, .ref (a 0))] := hl
  exact db_X1_findAddresses_0 (dC := dC) (dI := dI) (a := a) (ac := ac) (n := n) (r := r) ⟨hlt, hx, hb, hml, hown, hts, hN, hA, hK⟩ (fun pc τ H locs ls d er hP hD hS => by subst er; exact W.vret hx hb hr (fun t ht hW => ⟨⟨(), rfl, trivial, by rw [ht]; exact hP, va_K.moved hW.alike hK, hD⟩, hS.F ht⟩) hS.2.2 d) s0 _ _ _ h hP hD va_S.rf (lv_sub hl [0] rfl)
def ow_dm_X9_joined : List Cond := Cond.code yX9_joined cX9_joined 4 (some .int) :: ([Cond.fieldLink RX9 166 "TimeMachine$Reader" "trouble" "I"] ++ (u_ws RX9 TX9 20 ++ []))
theorem gd_dm_X9_joined : ∀ w ∈ ow_dm_X9_joined, (w.onTables && w.keeps) = true ∨ ∃ ty, w = Cond.arrayClass ty := List.forall_mem_cons.mpr ⟨good_of_word rfl, List.forall_mem_append.mpr ⟨fun w h => good_of_word (List.all_eq_true.mp (by decide +kernel) w h), List.forall_mem_append.mpr ⟨gu_X9, fun _ h => nomatch h⟩⟩⟩
theorem hi_dm_X9_joined_X9 : ∀ w ∈ u_ws RX9 TX9 20, w ∈ ow_dm_X9_joined := fun w h => List.mem_cons_of_mem _ (List.mem_append_right _ (List.mem_append_left _ h))
def dj_X9_joined_102 (p : Program) (l : Launch) (e : Env) (s : State) (m : MethodId) (args : Array Value) (below : List Frame) (meth : Method) (c : Code) (Q : State → Prop) (A : Nat → Prop) (dC : Nat → ClassId) (dI : Nat → Nat → Nat) (a : Nat → Nat) (ac : Nat → ClassId) (g : Int32 → (St) → Option (Int32 × (St))) (r : Int32 × (St)) : Prop := ∀ (y0 : Int32) (s0 : St) (H : Heap) (locs : List Loc) (ls : Array Slot), g y0 s0 = some r → va_P (dC, dI) vwCl (dw_X9 a ac s0) H → va_D A (dw_X9 a ac s0) → va_S A s.heap H locs → lv_has ls 4 [] → W p l e (headSpec ow_dm_X9_joined ({ frames := 0, cells := 0, slots := 0, locals := 0 })).room s m args below meth c H locs 0 0 Q (F0 m 102 ls [.int y0])
def dj_X9_joined_80 (p : Program) (l : Launch) (e : Env) (s : State) (m : MethodId) (args : Array Value) (below : List Frame) (meth : Method) (c : Code) (Q : State → Prop) (A : Nat → Prop) (dC : Nat → ClassId) (dI : Nat → Nat → Nat) (a : Nat → Nat) (ac : Nat → ClassId) (g : Int32 → Int32 → Int32 → (St) → Option (Int32 × (St))) (r : Int32 × (St)) : Prop := ∀ (x1 : Int32) (x2 : Int32) (x3 : Int32) (s0 : St) (H : Heap) (locs : List Loc) (ls : Array Slot), g x1 x2 x3 s0 = some r → va_P (dC, dI) vwCl (dw_X9 a ac s0) H → va_D A (dw_X9 a ac s0) → va_S A s.heap H locs → lv_has ls 4 [(1, .int x1), (2, .int x2), (3, .int x3)] → W p l e (headSpec ow_dm_X9_joined ({ frames := 0, cells := 0, slots := 0, locals := 0 })).room s m args below meth c H locs 0 0 Q (F0 m 80 ls [])
def dj_X9_joined_77 (p : Program) (l : Launch) (e : Env) (s : State) (m : MethodId) (args : Array Value) (below : List Frame) (meth : Method) (c : Code) (Q : State → Prop) (A : Nat → Prop) (dC : Nat → ClassId) (dI : Nat → Nat → Nat) (a : Nat → Nat) (ac : Nat → ClassId) (g : Int32 → Int32 → Int32 → Int32 → (St) → Option (Int32 × (St))) (r : Int32 × (St)) : Prop := ∀ (x1 : Int32) (x2 : Int32) (x3 : Int32) (y1 : Int32) (s0 : St) (H : Heap) (locs : List Loc) (ls : Array Slot), g x1 x2 x3 y1 s0 = some r → va_P (dC, dI) vwCl (dw_X9 a ac s0) H → va_D A (dw_X9 a ac s0) → va_S A s.heap H locs → lv_has ls 4 [(1, .int x1), (2, .int x2), (3, .int x3)] → W p l e (headSpec ow_dm_X9_joined ({ frames := 0, cells := 0, slots := 0, locals := 0 })).room s m args below meth c H locs 0 0 Q (F0 m 77 ls [.int y1, .ref (a 0)])
def dj_X9_joined_56 (p : Program) (l : Launch) (e : Env) (s : State) (m : MethodId) (args : Array Value) (below : List Frame) (meth : Method) (c : Code) (Q : State → Prop) (A : Nat → Prop) (dC : Nat → ClassId) (dI : Nat → Nat → Nat) (a : Nat → Nat) (ac : Nat → ClassId) (g : Int32 → Int32 → Int32 → (St) → Option (Int32 × (St))) (r : Int32 × (St)) : Prop := ∀ (x1 : Int32) (x2 : Int32) (x3 : Int32) (s0 : St) (H : Heap) (locs : List Loc) (ls : Array Slot), g x1 x2 x3 s0 = some r → va_P (dC, dI) vwCl (dw_X9 a ac s0) H → va_D A (dw_X9 a ac s0) → va_S A s.heap H locs → lv_has ls 4 [(0, .ref (a 0)), (1, .int x1), (2, .int x2), (3, .int x3)] → W p l e (headSpec ow_dm_X9_joined ({ frames := 0, cells := 0, slots := 0, locals := 0 })).room s m args below meth c H locs 0 0 Q (F0 m 56 ls [])
def dj_X9_joined_0 (p : Program) (l : Launch) (e : Env) (s : State) (m : MethodId) (args : Array Value) (below : List Frame) (meth : Method) (c : Code) (Q : State → Prop) (A : Nat → Prop) (dC : Nat → ClassId) (dI : Nat → Nat → Nat) (a : Nat → Nat) (ac : Nat → ClassId) (g : Int32 → Int32 → Int32 → (St) → Option (Int32 × (St))) (r : Int32 × (St)) : Prop := ∀ (v0 : Int32) (v1 : Int32) (v2 : Int32) (s0 : St) (H : Heap) (locs : List Loc) (ls : Array Slot), g v0 v1 v2 s0 = some r → va_P (dC, dI) vwCl (dw_X9 a ac s0) H → va_D A (dw_X9 a ac s0) → va_S A s.heap H locs → lv_has ls 4 [(0, .ref (a 0)), (1, .int v0), (2, .int v1), (3, .int v2)] → W p l e (headSpec ow_dm_X9_joined ({ frames := 0, cells := 0, slots := 0, locals := 0 })).room s m args below meth c H locs 0 0 Q (F0 m 0 ls [])
set_option maxHeartbeats 40000000 in
set_option maxRecDepth 100000 in
theorem db_X9_joined_102 {p : Program} {l : Launch} {e : Env} {s : State} {m : MethodId} {args : Array Value} {below : List Frame} {meth : Method} {c : Code} {Q : State → Prop} {A : Nat → Prop} {dC : Nat → ClassId} {dI : Nat → Nat → Nat} {a : Nat → Nat} {ac : Nat → ClassId} {n : Nat} {r : Int32 × (St)} (C : nd_C p l s m args c A (dC, dI) cX9_joined 4 RX9 ow_dm_X9_joined (dk_X9 ac)) (K : nd_Ki p l e (headSpec ow_dm_X9_joined ({ frames := 0, cells := 0, slots := 0, locals := 0 })).room s m args below meth c Q A (dC, dI) cX9_joined .int (St) (dw_X9 a ac) r) : dj_X9_joined_102 p l e s m args below meth c Q A dC dI a ac (df_X9_joined_102 n) r := by
  obtain ⟨hlt, hx, hb, hml, hown, hts, hN, hA, hK⟩ := id C
  intro y0 s0 H locs ls h hP hD hS hl
  unfold df_X9_joined_102 at h
  exact K _ _ _ _ _ _ dX9_joined_102 rfl (Option.some.inj h).symm hP hD hS
set_option maxHeartbeats 40000000 in
set_option maxRecDepth 100000 in
theorem db_X9_joined_80 {p : Program} {l : Launch} {e : Env} {s : State} {m : MethodId} {args : Array Value} {below : List Frame} {meth : Method} {c : Code} {Q : State → Prop} {A : Nat → Prop} {dC : Nat → ClassId} {dI : Nat → Nat → Nat} {a : Nat → Nat} {ac : Nat → ClassId} {n : Nat} {r : Int32 × (St)} (C : nd_C p l s m args c A (dC, dI) cX9_joined 4 RX9 ow_dm_X9_joined (dk_X9 ac)) (K : nd_Ki p l e (headSpec ow_dm_X9_joined ({ frames := 0, cells := 0, slots := 0, locals := 0 })).room s m args below meth c Q A (dC, dI) cX9_joined .int (St) (dw_X9 a ac) r) : dj_X9_joined_80 p l e s m args below meth c Q A dC dI a ac (df_X9_joined_80 n) r := by
  obtain ⟨hlt, hx, hb, hml, hown, hts, hN, hA, hK⟩ := id C
  intro x1 x2 x3 s0 H locs ls h hP hD hS hl
  unfold df_X9_joined_80 at h
  refine lv_iload_n hx hb dX9_joined_80 rfl (lv_at hl 2 rfl) ?_
  refine lv_if_ne (tgt := 88) hx hb dX9_joined_81 (by decide) (fun c4 => ?_) (fun c4 => ?_)
  · have h := nd_neg h c4
    refine lv_iload_n hx hb dX9_joined_88 rfl (lv_at hl 0 rfl) ?_
    refine lv_iconst (v := 2) hx hb dX9_joined_89 (by decide) ?_
    refine lv_icmp_ne (tgt := 99) hx hb dX9_joined_90 (by decide) (fun c5 => ?_) (fun c5 => ?_)
    · have h := nd_neg h c5
      refine lv_iload_n hx hb dX9_joined_99 rfl (lv_at hl 1 rfl) ?_
      refine lv_iload_n hx hb dX9_joined_100 rfl (lv_at hl 2 rfl) ?_
      obtain ⟨i6, h⟩ := nd_nz_e h
      refine lv_irem hx hb dX9_joined_101 i6 ?_
      exact (db_X9_joined_102 C K) (((x2 : Int32) - x2 / x3 * x3)) s0 _ _ _ h hP hD hS (lv_sub hl [] rfl)
    · have h := nd_pos h c5
      refine lv_iload_n hx hb dX9_joined_93 rfl (lv_at hl 1 rfl) ?_
      refine lv_iload_n hx hb dX9_joined_94 rfl (lv_at hl 2 rfl) ?_
      obtain ⟨i7, h⟩ := nd_nz_e h
      refine lv_idiv hx hb dX9_joined_95 i7 ?_
      refine lv_goto (tgt := 102) hx hb dX9_joined_96 (by decide) ?_
      exact (db_X9_joined_102 C K) (((x2 : Int32) / x3)) s0 _ _ _ h hP hD hS (lv_sub hl [] rfl)
  · have h := nd_pos h c4
    refine lv_iconst (v := 0) hx hb dX9_joined_84 (by decide) ?_
    refine lv_goto (tgt := 102) hx hb dX9_joined_85 (by decide) ?_
    exact (db_X9_joined_102 C K) (0) s0 _ _ _ h hP hD hS (lv_sub hl [] rfl)
set_option maxHeartbeats 40000000 in
set_option maxRecDepth 100000 in
theorem db_X9_joined_77 {p : Program} {l : Launch} {e : Env} {s : State} {m : MethodId} {args : Array Value} {below : List Frame} {meth : Method} {c : Code} {Q : State → Prop} {A : Nat → Prop} {dC : Nat → ClassId} {dI : Nat → Nat → Nat} {a : Nat → Nat} {ac : Nat → ClassId} {n : Nat} {r : Int32 × (St)} (C : nd_C p l s m args c A (dC, dI) cX9_joined 4 RX9 ow_dm_X9_joined (dk_X9 ac)) (K : nd_Ki p l e (headSpec ow_dm_X9_joined ({ frames := 0, cells := 0, slots := 0, locals := 0 })).room s m args below meth c Q A (dC, dI) cX9_joined .int (St) (dw_X9 a ac) r) : dj_X9_joined_77 p l e s m args below meth c Q A dC dI a ac (df_X9_joined_77 n) r := by
  obtain ⟨hlt, hx, hb, hml, hown, hts, hN, hA, hK⟩ := id C
  intro x1 x2 x3 y1 s0 H locs ls h hP hD hS hl
  unfold df_X9_joined_77 at h
  refine va_put (D := (dC, dI)) (ci := 10) (v := .int y1) (ty := .int) (C := RX9) (T := TX9) (N := 20) hx hb hts hi_dm_X9_joined_X9 tyX9 tyX9_ok nmX9 hown hK hP hD hS 0 rfl rfl 19 (by decide) (hts (.fieldLink RX9 166 "TimeMachine$Reader" "trouble" "I") (List.mem_of_getElem? (i := 1) rfl)) (fun _ h9 => h9) rfl (by decide +kernel) rfl rfl (Nat.le_of_ble_eq_true rfl) dX9_joined_77 (fun H locs hP hD hS => ?_)
  obtain ⟨s9, es9, h⟩ := nd_let_e h
  have hP : va_P (dC, dI) vwCl (dw_X9 a ac s9) H := by rw [es9]; exact hP
  have hD : va_D A (dw_X9 a ac s9) := by rw [es9]; exact hD
  exact (db_X9_joined_80 C K) (x1) (x2) (x3) s9 _ _ _ h hP hD hS (lv_sub hl [0, 1, 2] rfl)
set_option maxHeartbeats 40000000 in
set_option maxRecDepth 100000 in
theorem db_X9_joined_56 {p : Program} {l : Launch} {e : Env} {s : State} {m : MethodId} {args : Array Value} {below : List Frame} {meth : Method} {c : Code} {Q : State → Prop} {A : Nat → Prop} {dC : Nat → ClassId} {dI : Nat → Nat → Nat} {a : Nat → Nat} {ac : Nat → ClassId} {n : Nat} {r : Int32 × (St)} (C : nd_C p l s m args c A (dC, dI) cX9_joined 4 RX9 ow_dm_X9_joined (dk_X9 ac)) (K : nd_Ki p l e (headSpec ow_dm_X9_joined ({ frames := 0, cells := 0, slots := 0, locals := 0 })).room s m args below meth c Q A (dC, dI) cX9_joined .int (St) (dw_X9 a ac) r) : dj_X9_joined_56 p l e s m args below meth c Q A dC dI a ac (df_X9_joined_56 n) r := by
  obtain ⟨hlt, hx, hb, hml, hown, hts, hN, hA, hK⟩ := id C
  intro x1 x2 x3 s0 H locs ls h hP hD hS hl
  unfold df_X9_joined_56 at h
  refine lv_iload_n hx hb dX9_joined_56 rfl (lv_at hl 3 rfl) ?_
  refine lv_if_ne (tgt := 80) hx hb dX9_joined_57 (by decide) (fun c3 => ?_) (fun c3 => ?_)
  · have h := nd_neg h c3
    exact (db_X9_joined_80 C K) (x1) (x2) (x3) s0 _ _ _ h hP hD hS (lv_sub hl [1, 2, 3] rfl)
  · have h := nd_pos h c3
    refine lv_aload_n hx hb dX9_joined_60 rfl (lv_at hl 0 rfl) ?_
    refine lv_aload_n hx hb dX9_joined_61 rfl (lv_at hl 0 rfl) ?_
    refine va_get (D := (dC, dI)) (ci := 10) (v := .int (sI s0 11)) (C := RX9) (T := TX9) (N := 20) hx hb hts hi_dm_X9_joined_X9 hown hK hP 0 rfl rfl 19 (by decide) (hts (.fieldLink RX9 166 "TimeMachine$Reader" "trouble" "I") (List.mem_of_getElem? (i := 1) rfl)) (fun _ h9 => h9) rfl dX9_joined_62 ?_
    refine lv_if_ne (tgt := 73) hx hb dX9_joined_65 (by decide) (fun c8 => ?_) (fun c8 => ?_)
    · have h := nd_neg h c8
      refine lv_aload_n hx hb dX9_joined_73 rfl (lv_at hl 0 rfl) ?_
      refine va_get (D := (dC, dI)) (ci := 10) (v := .int (sI s0 11)) (C := RX9) (T := TX9) (N := 20) hx hb hts hi_dm_X9_joined_X9 hown hK hP 0 rfl rfl 19 (by decide) (hts (.fieldLink RX9 166 "TimeMachine$Reader" "trouble" "I") (List.mem_of_getElem? (i := 1) rfl)) (fun _ h9 => h9) rfl dX9_joined_74 ?_
      exact (db_X9_joined_77 C K) (x1) (x2) (x3) ((sI s0 11)) s0 _ _ _ h hP hD hS (lv_sub hl [1, 2, 3] rfl)
    · have h := nd_pos h c8
      refine lv_bipush (v := 9) hx hb dX9_joined_68 (by decide) ?_
      refine lv_goto (tgt := 77) hx hb dX9_joined_70 (by decide) ?_
      exact (db_X9_joined_77 C K) (x1) (x2) (x3) (9) s0 _ _ _ h hP hD hS (lv_sub hl [1, 2, 3] rfl)
set_option maxHeartbeats 40000000 in
set_option maxRecDepth 100000 in
theorem db_X9_joined_0 {p : Program} {l : Launch} {e : Env} {s : State} {m : MethodId} {args : Array Value} {below : List Frame} {meth : Method} {c : Code} {Q : State → Prop} {A : Nat → Prop} {dC : Nat → ClassId} {dI : Nat → Nat → Nat} {a : Nat → Nat} {ac : Nat → ClassId} {n : Nat} {r : Int32 × (St)} (C : nd_C p l s m args c A (dC, dI) cX9_joined 4 RX9 ow_dm_X9_joined (dk_X9 ac)) (K : nd_Ki p l e (headSpec ow_dm_X9_joined ({ frames := 0, cells := 0, slots := 0, locals := 0 })).room s m args below meth c Q A (dC, dI) cX9_joined .int (St) (dw_X9 a ac) r) : dj_X9_joined_0 p l e s m args below meth c Q A dC dI a ac (df_X9_joined_0 n) r := by
  obtain ⟨hlt, hx, hb, hml, hown, hts, hN, hA, hK⟩ := id C
  intro v0 v1 v2 s0 H locs ls h hP hD hS hl
  unfold df_X9_joined_0 at h
  refine lv_iload_n hx hb dX9_joined_0 rfl (lv_at hl 1 rfl) ?_
  by_cases c1 : v0 = 1
  · have h := nd_pos h c1
    refine lv_tableIn (off := 51) (tgt := 52) hx hb dX9_joined_1 (by rw [c1]; decide) (by rw [c1]; decide) (by rw [c1]; decide) (by decide) ?_
    refine lv_iload_n hx hb dX9_joined_52 rfl (lv_at hl 2 rfl) ?_
    refine lv_iload_n hx hb dX9_joined_53 rfl (lv_at hl 3 rfl) ?_
    refine lv_imul hx hb dX9_joined_54 ?_
    exact K _ _ _ _ _ _ dX9_joined_55 rfl (Option.some.inj h).symm hP hD hS
  have h := nd_neg h c1
  by_cases c2 : v0 = 2
  · have h := nd_pos h c2
    refine lv_tableIn (off := 55) (tgt := 56) hx hb dX9_joined_1 (by rw [c2]; decide) (by rw [c2]; decide) (by rw [c2]; decide) (by decide) ?_
    exact (db_X9_joined_56 C K) (v0) (v1) (v2) s0 _ _ _ h hP hD hS (lv_sub hl [0, 1, 2, 3] rfl)
  have h := nd_neg h c2
  by_cases c10 : v0 = 3
  · have h := nd_pos h c10
    refine lv_tableIn (off := 55) (tgt := 56) hx hb dX9_joined_1 (by rw [c10]; decide) (by rw [c10]; decide) (by rw [c10]; decide) (by decide) ?_
    exact (db_X9_joined_56 C K) (v0) (v1) (v2) s0 _ _ _ h hP hD hS (lv_sub hl [0, 1, 2, 3] rfl)
  have h := nd_neg h c10
  by_cases c11 : v0 = 4
  · have h := nd_pos h c11
    refine lv_tableIn (off := 102) (tgt := 103) hx hb dX9_joined_1 (by rw [c11]; decide) (by rw [c11]; decide) (by rw [c11]; decide) (by decide) ?_
    refine lv_iload_n hx hb dX9_joined_103 rfl (lv_at hl 2 rfl) ?_
    refine lv_iload_n hx hb dX9_joined_104 rfl (lv_at hl 3 rfl) ?_
    refine lv_iadd hx hb dX9_joined_105 ?_
    exact K _ _ _ _ _ _ dX9_joined_106 rfl (Option.some.inj h).symm hP hD hS
  have h := nd_neg h c11
  by_cases c12 : v0 = 5
  · have h := nd_pos h c12
    refine lv_tableIn (off := 106) (tgt := 107) hx hb dX9_joined_1 (by rw [c12]; decide) (by rw [c12]; decide) (by rw [c12]; decide) (by decide) ?_
    refine lv_iload_n hx hb dX9_joined_107 rfl (lv_at hl 2 rfl) ?_
    refine lv_iload_n hx hb dX9_joined_108 rfl (lv_at hl 3 rfl) ?_
    refine lv_isub hx hb dX9_joined_109 ?_
    exact K _ _ _ _ _ _ dX9_joined_110 rfl (Option.some.inj h).symm hP hD hS
  have h := nd_neg h c12
  by_cases c13 : v0 = 6
  · have h := nd_pos h c13
    refine lv_tableIn (off := 110) (tgt := 111) hx hb dX9_joined_1 (by rw [c13]; decide) (by rw [c13]; decide) (by rw [c13]; decide) (by decide) ?_
    refine lv_iload_n hx hb dX9_joined_111 rfl (lv_at hl 2 rfl) ?_
    refine lv_iload_n hx hb dX9_joined_112 rfl (lv_at hl 3 rfl) ?_
    refine lv_ishl hx hb dX9_joined_113 ?_
    exact K _ _ _ _ _ _ dX9_joined_114 rfl (Option.some.inj h).symm hP hD hS
  have h := nd_neg h c13
  by_cases c14 : v0 = 7
  · have h := nd_pos h c14
    refine lv_tableIn (off := 114) (tgt := 115) hx hb dX9_joined_1 (by rw [c14]; decide) (by rw [c14]; decide) (by rw [c14]; decide) (by decide) ?_
    refine lv_iload_n hx hb dX9_joined_115 rfl (lv_at hl 2 rfl) ?_
    refine lv_iload_n hx hb dX9_joined_116 rfl (lv_at hl 3 rfl) ?_
    refine lv_ishr hx hb dX9_joined_117 ?_
    exact K _ _ _ _ _ _ dX9_joined_118 rfl (Option.some.inj h).symm hP hD hS
  have h := nd_neg h c14
  by_cases c15 : v0 = 8
  · have h := nd_pos h c15
    refine lv_tableIn (off := 118) (tgt := 119) hx hb dX9_joined_1 (by rw [c15]; decide) (by rw [c15]; decide) (by rw [c15]; decide) (by decide) ?_
    refine lv_iload_n hx hb dX9_joined_119 rfl (lv_at hl 2 rfl) ?_
    refine lv_iload_n hx hb dX9_joined_120 rfl (lv_at hl 3 rfl) ?_
    refine lv_iand hx hb dX9_joined_121 ?_
    exact K _ _ _ _ _ _ dX9_joined_122 rfl (Option.some.inj h).symm hP hD hS
  have h := nd_neg h c15
  by_cases c16 : v0 = 9
  · have h := nd_pos h c16
    refine lv_tableIn (off := 122) (tgt := 123) hx hb dX9_joined_1 (by rw [c16]; decide) (by rw [c16]; decide) (by rw [c16]; decide) (by decide) ?_
    refine lv_iload_n hx hb dX9_joined_123 rfl (lv_at hl 2 rfl) ?_
    refine lv_iload_n hx hb dX9_joined_124 rfl (lv_at hl 3 rfl) ?_
    refine lv_ixor hx hb dX9_joined_125 ?_
    exact K _ _ _ _ _ _ dX9_joined_126 rfl (Option.some.inj h).symm hP hD hS
  have h := nd_neg h c16
  refine lv_tableOut (tgt := 127) hx hb dX9_joined_1 (by have g0 := nv_nei c1 (k := 1) (by decide); have g1 := nv_nei c2 (k := 2) (by decide); have g2 := nv_nei c10 (k := 3) (by decide); have g3 := nv_nei c11 (k := 4) (by decide); have g4 := nv_nei c12 (k := 5) (by decide); have g5 := nv_nei c13 (k := 6) (by decide); have g6 := nv_nei c14 (k := 7) (by decide); have g7 := nv_nei c15 (k := 8) (by decide); have g8 := nv_nei c16 (k := 9) (by decide); omega) (by decide) ?_
  refine lv_iload_n hx hb dX9_joined_127 rfl (lv_at hl 2 rfl) ?_
  refine lv_iload_n hx hb dX9_joined_128 rfl (lv_at hl 3 rfl) ?_
  refine lv_ior hx hb dX9_joined_129 ?_
  exact K _ _ _ _ _ _ dX9_joined_130 rfl (Option.some.inj h).symm hP hD hS
set_option maxHeartbeats 40000000 in
set_option maxRecDepth 100000 in
theorem dm_X9_joined (l : Launch) (hlt : l.stackTraces = false) (dC : Nat → ClassId) (dI : Nat → Nat → Nat) (a : Nat → Nat) (ac : Nat → ClassId) (n : Nat) (v0 : Int32) (v1 : Int32) (v2 : Int32) (s0 : St) {r : Int32 × (St)} (h : df_X9_joined n v0 v1 v2 s0 = some r) (sz : Nat) : Met l yX9_joined ow_dm_X9_joined ({ frames := 0, cells := 0, slots := 0, locals := 0 }) (va_Pc [.ref (a 0), .int v0, .int v1, .int v2] (fun U => U.heap.size = sz ∧ va_P (dC, dI) vwCl (dw_X9 a ac s0) U.heap ∧ va_K (dC, dI) vwCl (dk_X9 ac) U ∧ va_D (fun _ => True) (dw_X9 a ac s0) ∧ nv_E dI (va_A (dw_X9 a ac s0) sz) U)) (va_Qi (fun x _ => x = r.1) (fun (_ : Unit) t => va_P (dC, dI) vwCl (dw_X9 a ac r.2) t.heap ∧ va_K (dC, dI) vwCl (dk_X9 ac) t ∧ va_D (va_A (dw_X9 a ac s0) sz) (dw_X9 a ac r.2)) (va_A (dw_X9 a ac s0) sz)) 0 0 (va_A (dw_X9 a ac s0) sz) := by
  refine Met.ofW (cc := cX9_joined) (maxL := 4) (ret := (some .int)) (by decide) rfl ?_
  intro p e s m args below meth c s₁ B hml hv
  obtain ⟨rfl, hsz, hP, hK, hD0, hN⟩ := hv
  have hx := B.exec
  have hb := B.bytes
  have hr := B.returns
  have hts := atoms_spec (ws := ow_dm_X9_joined) B.pre
  have hown : s.vm.findClass RX9 = some m.cls := findClass_of_methodNamed B.named
  have hlocks := B.notSynchronized
  subst hsz
  have hD := hD0.self (sz := s.heap.size)
  generalize hAe : va_A (dw_X9 a ac s0) s.heap.size = A at hD hN ⊢
  have hA : ∀ q : Nat, s.heap.size ≤ q → A q := fun q h => by rw [← hAe]; exact Or.inr h
  have hl := lv_entry ([.ref (a 0), .int v0, .int v1, .int v2]) (n := 4) (Nat.le_of_ble_eq_true rfl)
  rw [lg_entry_eq]
  generalize (lg_sl ([.ref (a 0), .int v0, .int v1, .int v2]) ++ List.replicate (4 - (lg_sl ([.ref (a 0), .int v0, .int v1, .int v2])).length) Slot.unset).toArray = ls at hl ⊢
  have hl : lv_has ls 4 [(0, .ref (a 0)), (1, .int v0), (2, .int v1), (3, .int v2)] := hl
  exact db_X9_joined_0 (dC := dC) (dI := dI) (a := a) (ac := ac) (n := n) (r := r) ⟨hlt, hx, hb, hml, hown, hts, hN, hA, hK⟩ (fun pc v τ H locs ls d z er hP hD hS => by subst er; exact W.zret (v := v) hx hb hr z (fun t ht hW => ⟨⟨v, (), rfl, rfl, by rw [ht]; exact hP, va_K.moved hW.alike hK, hD⟩, hS.F ht⟩) hS.2.2 d) v0 v1 v2 s0 _ _ _ h hP hD va_S.rf (lv_sub hl [0, 1, 2, 3] rfl)
def ow_dm_X9_high : List Cond := Cond.code yX9_high cX9_high 1 (some .int) :: ([] ++ [])
theorem gd_dm_X9_high : ∀ w ∈ ow_dm_X9_high, (w.onTables && w.keeps) = true ∨ ∃ ty, w = Cond.arrayClass ty := List.forall_mem_cons.mpr ⟨good_of_word rfl, List.forall_mem_append.mpr ⟨fun w h => good_of_word (List.all_eq_true.mp (by decide +kernel) w h), fun _ h => nomatch h⟩⟩
def dj_X9_high_0 (p : Program) (l : Launch) (e : Env) (s : State) (m : MethodId) (args : Array Value) (below : List Frame) (meth : Method) (c : Code) (Q : State → Prop) (A : Nat → Prop) (dC : Nat → ClassId) (dI : Nat → Nat → Nat) (a : Nat → Nat) (ac : Nat → ClassId) (g : Int32 → (Unit) → Option (Int32 × (Unit))) (r : Int32 × (Unit)) : Prop := ∀ (v0 : Int32) (s0 : Unit) (H : Heap) (locs : List Loc) (ls : Array Slot), g v0 s0 = some r → va_P (dC, dI) vwCl (dw_P a ac s0) H → va_D A (dw_P a ac s0) → va_S A s.heap H locs → lv_has ls 1 [(0, .int v0)] → W p l e (headSpec ow_dm_X9_high ({ frames := 0, cells := 0, slots := 0, locals := 0 })).room s m args below meth c H locs 0 0 Q (F0 m 0 ls [])
set_option maxHeartbeats 40000000 in
set_option maxRecDepth 100000 in
theorem db_X9_high_0 {p : Program} {l : Launch} {e : Env} {s : State} {m : MethodId} {args : Array Value} {below : List Frame} {meth : Method} {c : Code} {Q : State → Prop} {A : Nat → Prop} {dC : Nat → ClassId} {dI : Nat → Nat → Nat} {a : Nat → Nat} {ac : Nat → ClassId} {n : Nat} {r : Int32 × (Unit)} (C : nd_C p l s m args c A (dC, dI) cX9_high 1 RX9 ow_dm_X9_high (dk_P ac)) (K : nd_Ki p l e (headSpec ow_dm_X9_high ({ frames := 0, cells := 0, slots := 0, locals := 0 })).room s m args below meth c Q A (dC, dI) cX9_high .int (Unit) (dw_P a ac) r) : dj_X9_high_0 p l e s m args below meth c Q A dC dI a ac (df_X9_high_0 n) r := by
  obtain ⟨hlt, hx, hb, hml, hown, hts, hN, hA, hK⟩ := id C
  intro v0 s0 H locs ls h hP hD hS hl
  unfold df_X9_high_0 at h
  refine lv_iload_n hx hb dX9_high_0 rfl (lv_at hl 0 rfl) ?_
  refine lv_sipush (v := 2048) hx hb dX9_high_1 (by decide) ?_
  refine lv_iadd hx hb dX9_high_4 ?_
  refine lv_bipush (v := 12) hx hb dX9_high_5 (by decide) ?_
  refine lv_iushr hx hb dX9_high_7 rfl ?_
  exact K _ _ _ _ _ _ dX9_high_8 rfl (Option.some.inj h).symm hP hD hS
set_option maxHeartbeats 40000000 in
set_option maxRecDepth 100000 in
theorem dm_X9_high (l : Launch) (hlt : l.stackTraces = false) (dC : Nat → ClassId) (dI : Nat → Nat → Nat) (a : Nat → Nat) (ac : Nat → ClassId) (n : Nat) (v0 : Int32) (s0 : Unit) {r : Int32 × (Unit)} (h : df_X9_high n v0 s0 = some r) (sz : Nat) : Met l yX9_high ow_dm_X9_high ({ frames := 0, cells := 0, slots := 0, locals := 0 }) (va_Pc [.int v0] (fun U => U.heap.size = sz ∧ va_P (dC, dI) vwCl (dw_P a ac s0) U.heap ∧ va_K (dC, dI) vwCl (dk_P ac) U ∧ va_D (fun _ => True) (dw_P a ac s0) ∧ nv_E dI (va_A (dw_P a ac s0) sz) U)) (va_Qi (fun x _ => x = r.1) (fun (_ : Unit) t => va_P (dC, dI) vwCl (dw_P a ac r.2) t.heap ∧ va_K (dC, dI) vwCl (dk_P ac) t ∧ va_D (va_A (dw_P a ac s0) sz) (dw_P a ac r.2)) (va_A (dw_P a ac s0) sz)) 0 0 (va_A (dw_P a ac s0) sz) := by
  refine Met.ofW (cc := cX9_high) (maxL := 1) (ret := (some .int)) (by decide) rfl ?_
  intro p e s m args below meth c s₁ B hml hv
  obtain ⟨rfl, hsz, hP, hK, hD0, hN⟩ := hv
  have hx := B.exec
  have hb := B.bytes
  have hr := B.returns
  have hts := atoms_spec (ws := ow_dm_X9_high) B.pre
  have hown : s.vm.findClass RX9 = some m.cls := findClass_of_methodNamed B.named
  have hlocks := B.notSynchronized
  subst hsz
  have hD := hD0.self (sz := s.heap.size)
  generalize hAe : va_A (dw_P a ac s0) s.heap.size = A at hD hN ⊢
  have hA : ∀ q : Nat, s.heap.size ≤ q → A q := fun q h => by rw [← hAe]; exact Or.inr h
  have hl := lv_entry ([.int v0]) (n := 1) (Nat.le_of_ble_eq_true rfl)
  rw [lg_entry_eq]
  generalize (lg_sl ([.int v0]) ++ List.replicate (1 - (lg_sl ([.int v0])).length) Slot.unset).toArray = ls at hl ⊢
  have hl : lv_has ls 1 [(0, .int v0)] := hl
  exact db_X9_high_0 (dC := dC) (dI := dI) (a := a) (ac := ac) (n := n) (r := r) ⟨hlt, hx, hb, hml, hown, hts, hN, hA, hK⟩ (fun pc v τ H locs ls d z er hP hD hS => by subst er; exact W.zret (v := v) hx hb hr z (fun t ht hW => ⟨⟨v, (), rfl, rfl, by rw [ht]; exact hP, va_K.moved hW.alike hK, hD⟩, hS.F ht⟩) hS.2.2 d) v0 s0 _ _ _ h hP hD va_S.rf (lv_sub hl [0] rfl)
def ow_dm_X9_low : List Cond := Cond.code yX9_low cX9_low 1 (some .int) :: ([] ++ [])
theorem gd_dm_X9_low : ∀ w ∈ ow_dm_X9_low, (w.onTables && w.keeps) = true ∨ ∃ ty, w = Cond.arrayClass ty := List.forall_mem_cons.mpr ⟨good_of_word rfl, List.forall_mem_append.mpr ⟨fun w h => good_of_word (List.all_eq_true.mp (by decide +kernel) w h), fun _ h => nomatch h⟩⟩
def dj_X9_low_0 (p : Program) (l : Launch) (e : Env) (s : State) (m : MethodId) (args : Array Value) (below : List Frame) (meth : Method) (c : Code) (Q : State → Prop) (A : Nat → Prop) (dC : Nat → ClassId) (dI : Nat → Nat → Nat) (a : Nat → Nat) (ac : Nat → ClassId) (g : Int32 → (Unit) → Option (Int32 × (Unit))) (r : Int32 × (Unit)) : Prop := ∀ (v0 : Int32) (s0 : Unit) (H : Heap) (locs : List Loc) (ls : Array Slot), g v0 s0 = some r → va_P (dC, dI) vwCl (dw_P a ac s0) H → va_D A (dw_P a ac s0) → va_S A s.heap H locs → lv_has ls 1 [(0, .int v0)] → W p l e (headSpec ow_dm_X9_low ({ frames := 0, cells := 0, slots := 0, locals := 0 })).room s m args below meth c H locs 0 0 Q (F0 m 0 ls [])
set_option maxHeartbeats 40000000 in
set_option maxRecDepth 100000 in
theorem db_X9_low_0 {p : Program} {l : Launch} {e : Env} {s : State} {m : MethodId} {args : Array Value} {below : List Frame} {meth : Method} {c : Code} {Q : State → Prop} {A : Nat → Prop} {dC : Nat → ClassId} {dI : Nat → Nat → Nat} {a : Nat → Nat} {ac : Nat → ClassId} {n : Nat} {r : Int32 × (Unit)} (C : nd_C p l s m args c A (dC, dI) cX9_low 1 RX9 ow_dm_X9_low (dk_P ac)) (K : nd_Ki p l e (headSpec ow_dm_X9_low ({ frames := 0, cells := 0, slots := 0, locals := 0 })).room s m args below meth c Q A (dC, dI) cX9_low .int (Unit) (dw_P a ac) r) : dj_X9_low_0 p l e s m args below meth c Q A dC dI a ac (df_X9_low_0 n) r := by
  obtain ⟨hlt, hx, hb, hml, hown, hts, hN, hA, hK⟩ := id C
  intro v0 s0 H locs ls h hP hD hS hl
  unfold df_X9_low_0 at h
  refine lv_iload_n hx hb dX9_low_0 rfl (lv_at hl 0 rfl) ?_
  refine lv_bipush (v := 20) hx hb dX9_low_1 (by decide) ?_
  refine lv_ishl hx hb dX9_low_3 ?_
  refine lv_bipush (v := 20) hx hb dX9_low_4 (by decide) ?_
  refine lv_ishr hx hb dX9_low_6 ?_
  exact K _ _ _ _ _ _ dX9_low_7 rfl (Option.some.inj h).symm hP hD hS
set_option maxHeartbeats 40000000 in
set_option maxRecDepth 100000 in
theorem dm_X9_low (l : Launch) (hlt : l.stackTraces = false) (dC : Nat → ClassId) (dI : Nat → Nat → Nat) (a : Nat → Nat) (ac : Nat → ClassId) (n : Nat) (v0 : Int32) (s0 : Unit) {r : Int32 × (Unit)} (h : df_X9_low n v0 s0 = some r) (sz : Nat) : Met l yX9_low ow_dm_X9_low ({ frames := 0, cells := 0, slots := 0, locals := 0 }) (va_Pc [.int v0] (fun U => U.heap.size = sz ∧ va_P (dC, dI) vwCl (dw_P a ac s0) U.heap ∧ va_K (dC, dI) vwCl (dk_P ac) U ∧ va_D (fun _ => True) (dw_P a ac s0) ∧ nv_E dI (va_A (dw_P a ac s0) sz) U)) (va_Qi (fun x _ => x = r.1) (fun (_ : Unit) t => va_P (dC, dI) vwCl (dw_P a ac r.2) t.heap ∧ va_K (dC, dI) vwCl (dk_P ac) t ∧ va_D (va_A (dw_P a ac s0) sz) (dw_P a ac r.2)) (va_A (dw_P a ac s0) sz)) 0 0 (va_A (dw_P a ac s0) sz) := by
  refine Met.ofW (cc := cX9_low) (maxL := 1) (ret := (some .int)) (by decide) rfl ?_
  intro p e s m args below meth c s₁ B hml hv
  obtain ⟨rfl, hsz, hP, hK, hD0, hN⟩ := hv
  have hx := B.exec
  have hb := B.bytes
  have hr := B.returns
  have hts := atoms_spec (ws := ow_dm_X9_low) B.pre
  have hown : s.vm.findClass RX9 = some m.cls := findClass_of_methodNamed B.named
  have hlocks := B.notSynchronized
  subst hsz
  have hD := hD0.self (sz := s.heap.size)
  generalize hAe : va_A (dw_P a ac s0) s.heap.size = A at hD hN ⊢
  have hA : ∀ q : Nat, s.heap.size ≤ q → A q := fun q h => by rw [← hAe]; exact Or.inr h
  have hl := lv_entry ([.int v0]) (n := 1) (Nat.le_of_ble_eq_true rfl)
  rw [lg_entry_eq]
  generalize (lg_sl ([.int v0]) ++ List.replicate (1 - (lg_sl ([.int v0])).length) Slot.unset).toArray = ls at hl ⊢
  have hl : lv_has ls 1 [(0, .int v0)] := hl
  exact db_X9_low_0 (dC := dC) (dI := dI) (a := a) (ac := ac) (n := n) (r := r) ⟨hlt, hx, hb, hml, hown, hts, hN, hA, hK⟩ (fun pc v τ H locs ls d z er hP hD hS => by subst er; exact W.zret (v := v) hx hb hr z (fun t ht hW => ⟨⟨v, (), rfl, rfl, by rw [ht]; exact hP, va_K.moved hW.alike hK, hD⟩, hS.F ht⟩) hS.2.2 d) v0 s0 _ _ _ h hP hD va_S.rf (lv_sub hl [0] rfl)
def ow_dm_X9_single : List Cond := Cond.code yX9_single cX9_single 2 (some .int) :: ([Cond.methodLink RX9 182 yX9_high, Cond.static yX9_high, Cond.initialized RX9, Cond.methodLink RX9 185 yX9_low, Cond.static yX9_low] ++ (ow_dm_X9_high ++ (ow_dm_X9_low ++ [])))
theorem gd_dm_X9_single : ∀ w ∈ ow_dm_X9_single, (w.onTables && w.keeps) = true ∨ ∃ ty, w = Cond.arrayClass ty := List.forall_mem_cons.mpr ⟨good_of_word rfl, List.forall_mem_append.mpr ⟨fun w h => good_of_word (List.all_eq_true.mp (by decide +kernel) w h), List.forall_mem_append.mpr ⟨gd_dm_X9_high, List.forall_mem_append.mpr ⟨gd_dm_X9_low, fun _ h => nomatch h⟩⟩⟩⟩
theorem gi_dm_X9_single_0 : GoodIn ow_dm_X9_single (wsS RX9 182 yX9_high ow_dm_X9_high) := goodIn_app (goodIn_of _ (by decide +kernel)) (fun w h => ⟨List.mem_cons_of_mem _ (List.mem_append_right _ (List.mem_append_left _ h)), gd_dm_X9_high w h⟩)
theorem gi_dm_X9_single_1 : GoodIn ow_dm_X9_single (wsS RX9 185 yX9_low ow_dm_X9_low) := goodIn_app (goodIn_of _ (by decide +kernel)) (fun w h => ⟨List.mem_cons_of_mem _ (List.mem_append_right _ (List.mem_append_right _ (List.mem_append_left _ h))), gd_dm_X9_low w h⟩)
def dj_X9_single_0 (p : Program) (l : Launch) (e : Env) (s : State) (m : MethodId) (args : Array Value) (below : List Frame) (meth : Method) (c : Code) (Q : State → Prop) (A : Nat → Prop) (dC : Nat → ClassId) (dI : Nat → Nat → Nat) (a : Nat → Nat) (ac : Nat → ClassId) (g : Int32 → Int32 → (Unit) → Option (Int32 × (Unit))) (r : Int32 × (Unit)) : Prop := ∀ (v0 : Int32) (v1 : Int32) (s0 : Unit) (H : Heap) (locs : List Loc) (ls : Array Slot), g v0 v1 s0 = some r → va_P (dC, dI) vwCl (dw_P a ac s0) H → va_D A (dw_P a ac s0) → va_S A s.heap H locs → lv_has ls 2 [(0, .int v0), (1, .int v1)] → W p l e (headSpec ow_dm_X9_single ({ frames := 1, cells := 0, slots := 0, locals := 20 })).room s m args below meth c H locs 0 0 Q (F0 m 0 ls [])
set_option maxHeartbeats 40000000 in
set_option maxRecDepth 100000 in
theorem db_X9_single_0 {p : Program} {l : Launch} {e : Env} {s : State} {m : MethodId} {args : Array Value} {below : List Frame} {meth : Method} {c : Code} {Q : State → Prop} {A : Nat → Prop} {dC : Nat → ClassId} {dI : Nat → Nat → Nat} {a : Nat → Nat} {ac : Nat → ClassId} {n : Nat} {r : Int32 × (Unit)} (C : nd_C p l s m args c A (dC, dI) cX9_single 2 RX9 ow_dm_X9_single (dk_P ac)) (K : nd_Ki p l e (headSpec ow_dm_X9_single ({ frames := 1, cells := 0, slots := 0, locals := 20 })).room s m args below meth c Q A (dC, dI) cX9_single .int (Unit) (dw_P a ac) r) : dj_X9_single_0 p l e s m args below meth c Q A dC dI a ac (df_X9_single_0 n) r := by
  obtain ⟨hlt, hx, hb, hml, hown, hts, hN, hA, hK⟩ := id C
  intro v0 v1 s0 H locs ls h hP hD hS hl
  unfold df_X9_single_0 at h
  refine lv_iload_n hx hb dX9_single_0 rfl (lv_at hl 0 rfl) ?_
  by_cases c1 : v0 = 11
  · have h := nd_pos h c1
    refine lv_tableIn (off := 27) (tgt := 28) hx hb dX9_single_1 (by rw [c1]; decide) (by rw [c1]; decide) (by rw [c1]; decide) (by decide) ?_
    refine lv_iload_n hx hb dX9_single_28 rfl (lv_at hl 1 rfl) ?_
    refine lv_ineg hx hb dX9_single_29 ?_
    exact K _ _ _ _ _ _ dX9_single_30 rfl (Option.some.inj h).symm hP hD hS
  have h := nd_neg h c1
  by_cases c2 : v0 = 12
  · have h := nd_pos h c2
    refine lv_tableIn (off := 30) (tgt := 31) hx hb dX9_single_1 (by rw [c2]; decide) (by rw [c2]; decide) (by rw [c2]; decide) (by decide) ?_
    refine lv_iload_n hx hb dX9_single_31 rfl (lv_at hl 1 rfl) ?_
    refine lv_iconst (v := (-1)) hx hb dX9_single_32 (by decide) ?_
    refine lv_ixor hx hb dX9_single_33 ?_
    exact K _ _ _ _ _ _ dX9_single_34 rfl (Option.some.inj h).symm hP hD hS
  have h := nd_neg h c2
  by_cases c3 : v0 = 13
  · have h := nd_pos h c3
    refine lv_tableIn (off := 34) (tgt := 35) hx hb dX9_single_1 (by rw [c3]; decide) (by rw [c3]; decide) (by rw [c3]; decide) (by decide) ?_
    refine lv_iload_n hx hb dX9_single_35 rfl (lv_at hl 1 rfl) ?_
    obtain ⟨q4, s5, hq, h⟩ := nd_b2_e h
    have hPc : va_P (dC, dI) vwCl (dw_P a ac ()) H := nd_p0
    have hDc : va_D A (dw_P a ac ()) := nd_d0
    have hKc : va_K (dC, dI) vwCl (dk_P ac) s := nd_y0 hK
    have hFc : ∀ q, va_A (dw_P a ac ()) H.size q → A q := nd_r0 hS hA
    refine nd_cSi (As := [.int v1]) (rest := []) (q := q4) (w' := dw_P a ac s5) ⟨hx, hb, hml, hown, hts⟩ (fun sz => dm_X9_high l hlt dC dI a ac n (v1) () hq sz) (cwS 1 hts gi_dm_X9_single_0 rfl rfl rfl (by decide +kernel) ⟨Nat.le_of_ble_eq_true rfl, Nat.le_of_ble_eq_true rfl⟩) hPc hDc hKc hS hA hN rfl hl.1 rfl (Nat.le_of_ble_eq_true rfl) dX9_single_36 (fun H locs hP1 hD1 hk1 hS => ?_)
    have hP := nd_n0 hP hk1
    exact K _ _ _ _ _ _ dX9_single_39 rfl (Option.some.inj h).symm hP hD hS
  have h := nd_neg h c3
  refine lv_tableOut (tgt := 40) hx hb dX9_single_1 (by have g0 := nv_nei c1 (k := 11) (by decide); have g1 := nv_nei c2 (k := 12) (by decide); have g2 := nv_nei c3 (k := 13) (by decide); omega) (by decide) ?_
  refine lv_iload_n hx hb dX9_single_40 rfl (lv_at hl 1 rfl) ?_
  obtain ⟨q7, s8, hq, h⟩ := nd_b2_e h
  have hPc : va_P (dC, dI) vwCl (dw_P a ac ()) H := nd_p0
  have hDc : va_D A (dw_P a ac ()) := nd_d0
  have hKc : va_K (dC, dI) vwCl (dk_P ac) s := nd_y0 hK
  have hFc : ∀ q, va_A (dw_P a ac ()) H.size q → A q := nd_r0 hS hA
  refine nd_cSi (As := [.int v1]) (rest := []) (q := q7) (w' := dw_P a ac s8) ⟨hx, hb, hml, hown, hts⟩ (fun sz => dm_X9_low l hlt dC dI a ac n (v1) () hq sz) (cwS 1 hts gi_dm_X9_single_1 rfl rfl rfl (by decide +kernel) ⟨Nat.le_of_ble_eq_true rfl, Nat.le_of_ble_eq_true rfl⟩) hPc hDc hKc hS hA hN rfl hl.1 rfl (Nat.le_of_ble_eq_true rfl) dX9_single_41 (fun H locs hP1 hD1 hk1 hS => ?_)
  have hP := nd_n0 hP hk1
  exact K _ _ _ _ _ _ dX9_single_44 rfl (Option.some.inj h).symm hP hD hS
set_option maxHeartbeats 40000000 in
set_option maxRecDepth 100000 in
theorem dm_X9_single (l : Launch) (hlt : l.stackTraces = false) (dC : Nat → ClassId) (dI : Nat → Nat → Nat) (a : Nat → Nat) (ac : Nat → ClassId) (n : Nat) (v0 : Int32) (v1 : Int32) (s0 : Unit) {r : Int32 × (Unit)} (h : df_X9_single n v0 v1 s0 = some r) (sz : Nat) : Met l yX9_single ow_dm_X9_single ({ frames := 1, cells := 0, slots := 0, locals := 20 }) (va_Pc [.int v0, .int v1] (fun U => U.heap.size = sz ∧ va_P (dC, dI) vwCl (dw_P a ac s0) U.heap ∧ va_K (dC, dI) vwCl (dk_P ac) U ∧ va_D (fun _ => True) (dw_P a ac s0) ∧ nv_E dI (va_A (dw_P a ac s0) sz) U)) (va_Qi (fun x _ => x = r.1) (fun (_ : Unit) t => va_P (dC, dI) vwCl (dw_P a ac r.2) t.heap ∧ va_K (dC, dI) vwCl (dk_P ac) t ∧ va_D (va_A (dw_P a ac s0) sz) (dw_P a ac r.2)) (va_A (dw_P a ac s0) sz)) 0 0 (va_A (dw_P a ac s0) sz) := by
  refine Met.ofW (cc := cX9_single) (maxL := 2) (ret := (some .int)) (by decide) rfl ?_
  intro p e s m args below meth c s₁ B hml hv
  obtain ⟨rfl, hsz, hP, hK, hD0, hN⟩ := hv
  have hx := B.exec
  have hb := B.bytes
  have hr := B.returns
  have hts := atoms_spec (ws := ow_dm_X9_single) B.pre
  have hown : s.vm.findClass RX9 = some m.cls := findClass_of_methodNamed B.named
  have hlocks := B.notSynchronized
  subst hsz
  have hD := hD0.self (sz := s.heap.size)
  generalize hAe : va_A (dw_P a ac s0) s.heap.size = A at hD hN ⊢
  have hA : ∀ q : Nat, s.heap.size ≤ q → A q := fun q h => by rw [← hAe]; exact Or.inr h
  have hl := lv_entry ([.int v0, .int v1]) (n := 2) (Nat.le_of_ble_eq_true rfl)
  rw [lg_entry_eq]
  generalize (lg_sl ([.int v0, .int v1]) ++ List.replicate (2 - (lg_sl ([.int v0, .int v1])).length) Slot.unset).toArray = ls at hl ⊢
  have hl : lv_has ls 2 [(0, .int v0), (1, .int v1)] := hl
  exact db_X9_single_0 (dC := dC) (dI := dI) (a := a) (ac := ac) (n := n) (r := r) ⟨hlt, hx, hb, hml, hown, hts, hN, hA, hK⟩ (fun pc v τ H locs ls d z er hP hD hS => by subst er; exact W.zret (v := v) hx hb hr z (fun t ht hW => ⟨⟨v, (), rfl, rfl, by rw [ht]; exact hP, va_K.moved hW.alike hK, hD⟩, hS.F ht⟩) hS.2.2 d) v0 v1 s0 _ _ _ h hP hD va_S.rf (lv_sub hl [0, 1] rfl)
def ow_dm_X9_operand : List Cond := Cond.code yX9_operand cX9_operand 6 (some .int) :: ([Cond.fieldLink RX9 36 "TimeMachine$Reader" "label" "[I", Cond.fieldLink RX9 166 "TimeMachine$Reader" "trouble" "I", Cond.fieldLink RX9 33 "TimeMachine$Reader" "near" "[I", Cond.fieldLink RX9 27 "TimeMachine$Reader" "name" "[I"] ++ (u_ws RX9 TX9 20 ++ []))
theorem gd_dm_X9_operand : ∀ w ∈ ow_dm_X9_operand, (w.onTables && w.keeps) = true ∨ ∃ ty, w = Cond.arrayClass ty := List.forall_mem_cons.mpr ⟨good_of_word rfl, List.forall_mem_append.mpr ⟨fun w h => good_of_word (List.all_eq_true.mp (by decide +kernel) w h), List.forall_mem_append.mpr ⟨gu_X9, fun _ h => nomatch h⟩⟩⟩
theorem hi_dm_X9_operand_X9 : ∀ w ∈ u_ws RX9 TX9 20, w ∈ ow_dm_X9_operand := fun w h => List.mem_cons_of_mem _ (List.mem_append_right _ (List.mem_append_left _ h))
def dj_X9_operand_117 (p : Program) (l : Launch) (e : Env) (s : State) (m : MethodId) (args : Array Value) (below : List Frame) (meth : Method) (c : Code) (Q : State → Prop) (A : Nat → Prop) (dC : Nat → ClassId) (dI : Nat → Nat → Nat) (a : Nat → Nat) (ac : Nat → ClassId) (g : Int32 → (St) → Option (Int32 × (St))) (r : Int32 × (St)) : Prop := ∀ (x4 : Int32) (s0 : St) (H : Heap) (locs : List Loc) (ls : Array Slot), g x4 s0 = some r → va_P (dC, dI) vwCl (dw_X9 a ac s0) H → va_D A (dw_X9 a ac s0) → va_S A s.heap H locs → lv_has ls 6 [(0, .ref (a 0)), (4, .int x4)] → W p l e (headSpec ow_dm_X9_operand ({ frames := 0, cells := 0, slots := 0, locals := 0 })).room s m args below meth c H locs 0 0 Q (F0 m 117 ls [])
def dj_X9_operand_113 (p : Program) (l : Launch) (e : Env) (s : State) (m : MethodId) (args : Array Value) (below : List Frame) (meth : Method) (c : Code) (Q : State → Prop) (A : Nat → Prop) (dC : Nat → ClassId) (dI : Nat → Nat → Nat) (a : Nat → Nat) (ac : Nat → ClassId) (g : Int32 → (St) → Option (Int32 × (St))) (r : Int32 × (St)) : Prop := ∀ (y0 : Int32) (s0 : St) (H : Heap) (locs : List Loc) (ls : Array Slot), g y0 s0 = some r → va_P (dC, dI) vwCl (dw_X9 a ac s0) H → va_D A (dw_X9 a ac s0) → va_S A s.heap H locs → lv_has ls 6 [(0, .ref (a 0))] → W p l e (headSpec ow_dm_X9_operand ({ frames := 0, cells := 0, slots := 0, locals := 0 })).room s m args below meth c H locs 0 0 Q (F0 m 113 ls [.int y0])
def dj_X9_operand_71 (p : Program) (l : Launch) (e : Env) (s : State) (m : MethodId) (args : Array Value) (below : List Frame) (meth : Method) (c : Code) (Q : State → Prop) (A : Nat → Prop) (dC : Nat → ClassId) (dI : Nat → Nat → Nat) (a : Nat → Nat) (ac : Nat → ClassId) (g : Int32 → (St) → Option (Int32 × (St))) (r : Int32 × (St)) : Prop := ∀ (y0 : Int32) (s0 : St) (H : Heap) (locs : List Loc) (ls : Array Slot), g y0 s0 = some r → va_P (dC, dI) vwCl (dw_X9 a ac s0) H → va_D A (dw_X9 a ac s0) → va_S A s.heap H locs → lv_has ls 6 [(0, .ref (a 0))] → W p l e (headSpec ow_dm_X9_operand ({ frames := 0, cells := 0, slots := 0, locals := 0 })).room s m args below meth c H locs 0 0 Q (F0 m 71 ls [.int y0])
def dj_X9_operand_0 (p : Program) (l : Launch) (e : Env) (s : State) (m : MethodId) (args : Array Value) (below : List Frame) (meth : Method) (c : Code) (Q : State → Prop) (A : Nat → Prop) (dC : Nat → ClassId) (dI : Nat → Nat → Nat) (a : Nat → Nat) (ac : Nat → ClassId) (g : Int32 → Int32 → Int32 → (St) → Option (Int32 × (St))) (r : Int32 × (St)) : Prop := ∀ (v0 : Int32) (v1 : Int32) (v2 : Int32) (s0 : St) (H : Heap) (locs : List Loc) (ls : Array Slot), g v0 v1 v2 s0 = some r → va_P (dC, dI) vwCl (dw_X9 a ac s0) H → va_D A (dw_X9 a ac s0) → va_S A s.heap H locs → lv_has ls 6 [(0, .ref (a 0)), (1, .int v0), (2, .int v1), (3, .int v2)] → W p l e (headSpec ow_dm_X9_operand ({ frames := 0, cells := 0, slots := 0, locals := 0 })).room s m args below meth c H locs 0 0 Q (F0 m 0 ls [])
set_option maxHeartbeats 40000000 in
set_option maxRecDepth 100000 in
theorem db_X9_operand_117 {p : Program} {l : Launch} {e : Env} {s : State} {m : MethodId} {args : Array Value} {below : List Frame} {meth : Method} {c : Code} {Q : State → Prop} {A : Nat → Prop} {dC : Nat → ClassId} {dI : Nat → Nat → Nat} {a : Nat → Nat} {ac : Nat → ClassId} {n : Nat} {r : Int32 × (St)} (C : nd_C p l s m args c A (dC, dI) cX9_operand 6 RX9 ow_dm_X9_operand (dk_X9 ac)) (K : nd_Ki p l e (headSpec ow_dm_X9_operand ({ frames := 0, cells := 0, slots := 0, locals := 0 })).room s m args below meth c Q A (dC, dI) cX9_operand .int (St) (dw_X9 a ac) r) : dj_X9_operand_117 p l e s m args below meth c Q A dC dI a ac (df_X9_operand_117 n) r := by
  obtain ⟨hlt, hx, hb, hml, hown, hts, hN, hA, hK⟩ := id C
  intro x4 s0 H locs ls h hP hD hS hl
  unfold df_X9_operand_117 at h
  refine lv_iload hx hb dX9_operand_117 (lv_at hl 1 rfl) ?_
  refine lv_if_ge (tgt := 130) hx hb dX9_operand_119 (by decide) (fun c8 => ?_) (fun c8 => ?_)
  · have h := nd_pos h c8
    refine lv_aload_n hx hb dX9_operand_130 rfl (lv_at hl 0 rfl) ?_
    refine va_get (D := (dC, dI)) (ci := 10) (v := .ref (a 7)) (C := RX9) (T := TX9) (N := 20) hx hb hts hi_dm_X9_operand_X9 hown hK hP 0 rfl rfl 16 (by decide) (hts (.fieldLink RX9 36 "TimeMachine$Reader" "label" "[I") (List.mem_of_getElem? (i := 1) rfl)) (fun _ h9 => h9) rfl dX9_operand_131 ?_
    refine lv_iload hx hb dX9_operand_134 (lv_at hl 1 rfl) ?_
    refine lv_iconst (v := 5) hx hb dX9_operand_136 (by decide) ?_
    refine lv_imul hx hb dX9_operand_137 ?_
    refine lv_iconst (v := 2) hx hb dX9_operand_138 (by decide) ?_
    refine lv_iadd hx hb dX9_operand_139 ?_
    obtain ⟨i9, h⟩ := nd_ck_e h
    refine va_iald (i := ((x4 * 5) + 2)) hx hb hK hP 7 6 rfl rfl i9 dX9_operand_140 ?_
    exact K _ _ _ _ _ _ dX9_operand_141 rfl (Option.some.inj h).symm hP hD hS
  · have h := nd_neg h c8
    refine lv_aload_n hx hb dX9_operand_122 rfl (lv_at hl 0 rfl) ?_
    refine lv_bipush (v := 8) hx hb dX9_operand_123 (by decide) ?_
    refine va_put (D := (dC, dI)) (ci := 10) (v := .int 8) (ty := .int) (C := RX9) (T := TX9) (N := 20) hx hb hts hi_dm_X9_operand_X9 tyX9 tyX9_ok nmX9 hown hK hP hD hS 0 rfl rfl 19 (by decide) (hts (.fieldLink RX9 166 "TimeMachine$Reader" "trouble" "I") (List.mem_of_getElem? (i := 2) rfl)) (fun _ h9 => h9) rfl (by decide +kernel) rfl rfl (Nat.le_of_ble_eq_true rfl) dX9_operand_125 (fun H locs hP hD hS => ?_)
    obtain ⟨s10, es10, h⟩ := nd_let_e h
    have hP : va_P (dC, dI) vwCl (dw_X9 a ac s10) H := by rw [es10]; exact hP
    have hD : va_D A (dw_X9 a ac s10) := by rw [es10]; exact hD
    refine lv_iconst (v := 0) hx hb dX9_operand_128 (by decide) ?_
    exact K _ _ _ _ _ _ dX9_operand_129 rfl (Option.some.inj h).symm hP hD hS
set_option maxHeartbeats 40000000 in
set_option maxRecDepth 100000 in
theorem db_X9_operand_113 {p : Program} {l : Launch} {e : Env} {s : State} {m : MethodId} {args : Array Value} {below : List Frame} {meth : Method} {c : Code} {Q : State → Prop} {A : Nat → Prop} {dC : Nat → ClassId} {dI : Nat → Nat → Nat} {a : Nat → Nat} {ac : Nat → ClassId} {n : Nat} {r : Int32 × (St)} (C : nd_C p l s m args c A (dC, dI) cX9_operand 6 RX9 ow_dm_X9_operand (dk_X9 ac)) (K : nd_Ki p l e (headSpec ow_dm_X9_operand ({ frames := 0, cells := 0, slots := 0, locals := 0 })).room s m args below meth c Q A (dC, dI) cX9_operand .int (St) (dw_X9 a ac) r) : dj_X9_operand_113 p l e s m args below meth c Q A dC dI a ac (df_X9_operand_113 n) r := by
  obtain ⟨hlt, hx, hb, hml, hown, hts, hN, hA, hK⟩ := id C
  intro y0 s0 H locs ls h hP hD hS hl
  unfold df_X9_operand_113 at h
  refine lv_iconst (v := 1) hx hb dX9_operand_113 (by decide) ?_
  refine lv_isub hx hb dX9_operand_114 ?_
  refine lv_topi (fun z7 ez7 => ?_)
  have h := nd_at h ez7
  refine lv_istore (lv' := [(4, .int z7), (0, .ref (a 0))]) hx hb dX9_operand_115 hl (by decide) rfl (fun ls hl => ?_)
  exact (db_X9_operand_117 C K) (z7) s0 _ _ _ h hP hD hS (lv_sub hl [1, 0] rfl)
set_option maxHeartbeats 40000000 in
set_option maxRecDepth 100000 in
theorem db_X9_operand_71 {p : Program} {l : Launch} {e : Env} {s : State} {m : MethodId} {args : Array Value} {below : List Frame} {meth : Method} {c : Code} {Q : State → Prop} {A : Nat → Prop} {dC : Nat → ClassId} {dI : Nat → Nat → Nat} {a : Nat → Nat} {ac : Nat → ClassId} {n : Nat} {r : Int32 × (St)} (C : nd_C p l s m args c A (dC, dI) cX9_operand 6 RX9 ow_dm_X9_operand (dk_X9 ac)) (K : nd_Ki p l e (headSpec ow_dm_X9_operand ({ frames := 0, cells := 0, slots := 0, locals := 0 })).room s m args below meth c Q A (dC, dI) cX9_operand .int (St) (dw_X9 a ac) r) : dj_X9_operand_71 p l e s m args below meth c Q A dC dI a ac (df_X9_operand_71 n) r := by
  obtain ⟨hlt, hx, hb, hml, hown, hts, hN, hA, hK⟩ := id C
  intro y0 s0 H locs ls h hP hD hS hl
  unfold df_X9_operand_71 at h
  refine lv_istore (lv' := [(4, .int y0), (0, .ref (a 0))]) hx hb dX9_operand_71 hl (by decide) rfl (fun ls hl => ?_)
  refine lv_goto (tgt := 117) hx hb dX9_operand_73 (by decide) ?_
  exact (db_X9_operand_117 C K) (y0) s0 _ _ _ h hP hD hS (lv_sub hl [1, 0] rfl)
set_option maxHeartbeats 40000000 in
set_option maxRecDepth 100000 in
theorem db_X9_operand_0 {p : Program} {l : Launch} {e : Env} {s : State} {m : MethodId} {args : Array Value} {below : List Frame} {meth : Method} {c : Code} {Q : State → Prop} {A : Nat → Prop} {dC : Nat → ClassId} {dI : Nat → Nat → Nat} {a : Nat → Nat} {ac : Nat → ClassId} {n : Nat} {r : Int32 × (St)} (C : nd_C p l s m args c A (dC, dI) cX9_operand 6 RX9 ow_dm_X9_operand (dk_X9 ac)) (K : nd_Ki p l e (headSpec ow_dm_X9_operand ({ frames := 0, cells := 0, slots := 0, locals := 0 })).room s m args below meth c Q A (dC, dI) cX9_operand .int (St) (dw_X9 a ac) r) : dj_X9_operand_0 p l e s m args below meth c Q A dC dI a ac (df_X9_operand_0 n) r := by
  obtain ⟨hlt, hx, hb, hml, hown, hts, hN, hA, hK⟩ := id C
  intro v0 v1 v2 s0 H locs ls h hP hD hS hl
  unfold df_X9_operand_0 at h
  refine lv_iload_n hx hb dX9_operand_0 rfl (lv_at hl 1 rfl) ?_
  refine lv_bipush (v := 16) hx hb dX9_operand_1 (by decide) ?_
  refine lv_icmp_ne (tgt := 8) hx hb dX9_operand_3 (by decide) (fun c1 => ?_) (fun c1 => ?_)
  · have h := nd_neg h c1
    refine lv_iload_n hx hb dX9_operand_8 rfl (lv_at hl 1 rfl) ?_
    refine lv_bipush (v := 18) hx hb dX9_operand_9 (by decide) ?_
    refine lv_icmp_ne (tgt := 16) hx hb dX9_operand_11 (by decide) (fun c2 => ?_) (fun c2 => ?_)
    · have h := nd_neg h c2
      refine lv_iload_n hx hb dX9_operand_16 rfl (lv_at hl 1 rfl) ?_
      refine lv_bipush (v := 17) hx hb dX9_operand_17 (by decide) ?_
      refine lv_icmp_ne (tgt := 76) hx hb dX9_operand_19 (by decide) (fun c3 => ?_) (fun c3 => ?_)
      · have h := nd_neg h c3
        refine lv_iload_n hx hb dX9_operand_76 rfl (lv_at hl 1 rfl) ?_
        refine lv_bipush (v := 20) hx hb dX9_operand_77 (by decide) ?_
        refine lv_icmp_ne (tgt := 88) hx hb dX9_operand_79 (by decide) (fun c4 => ?_) (fun c4 => ?_)
        · have h := nd_neg h c4
          refine lv_iload_n hx hb dX9_operand_88 rfl (lv_at hl 2 rfl) ?_
          refine lv_if_ge (tgt := 103) hx hb dX9_operand_89 (by decide) (fun c5 => ?_) (fun c5 => ?_)
          · have h := nd_pos h c5
            refine lv_aload_n hx hb dX9_operand_103 rfl (lv_at hl 0 rfl) ?_
            refine va_get (D := (dC, dI)) (ci := 10) (v := .ref (a 7)) (C := RX9) (T := TX9) (N := 20) hx hb hts hi_dm_X9_operand_X9 hown hK hP 0 rfl rfl 16 (by decide) (hts (.fieldLink RX9 36 "TimeMachine$Reader" "label" "[I") (List.mem_of_getElem? (i := 1) rfl)) (fun _ h9 => h9) rfl dX9_operand_104 ?_
            refine lv_iload_n hx hb dX9_operand_107 rfl (lv_at hl 2 rfl) ?_
            refine lv_iconst (v := 5) hx hb dX9_operand_108 (by decide) ?_
            refine lv_imul hx hb dX9_operand_109 ?_
            refine lv_iconst (v := 3) hx hb dX9_operand_110 (by decide) ?_
            refine lv_iadd hx hb dX9_operand_111 ?_
            obtain ⟨i6, h⟩ := nd_ck_e h
            refine va_iald (i := ((v1 * 5) + 3)) hx hb hK hP 7 6 rfl rfl i6 dX9_operand_112 ?_
            exact (db_X9_operand_113 C K) ((sR s0 6 (Int32.toNatClampNeg ((v1 * 5) + 3)))) s0 _ _ _ h hP hD hS (lv_sub hl [0] rfl)
          · have h := nd_neg h c5
            refine lv_aload_n hx hb dX9_operand_92 rfl (lv_at hl 0 rfl) ?_
            refine va_get (D := (dC, dI)) (ci := 10) (v := .ref (a 6)) (C := RX9) (T := TX9) (N := 20) hx hb hts hi_dm_X9_operand_X9 hown hK hP 0 rfl rfl 15 (by decide) (hts (.fieldLink RX9 33 "TimeMachine$Reader" "near" "[I") (List.mem_of_getElem? (i := 3) rfl)) (fun _ h9 => h9) rfl dX9_operand_93 ?_
            refine lv_iconst (v := (-1)) hx hb dX9_operand_96 (by decide) ?_
            refine lv_iload_n hx hb dX9_operand_97 rfl (lv_at hl 2 rfl) ?_
            refine lv_isub hx hb dX9_operand_98 ?_
            obtain ⟨i11, h⟩ := nd_ck_e h
            refine va_iald (i := ((-1) - v1)) hx hb hK hP 6 5 rfl rfl i11 dX9_operand_99 ?_
            refine lv_goto (tgt := 113) hx hb dX9_operand_100 (by decide) ?_
            exact (db_X9_operand_113 C K) ((sR s0 5 (Int32.toNatClampNeg ((-1) - v1)))) s0 _ _ _ h hP hD hS (lv_sub hl [0] rfl)
        · have h := nd_pos h c4
          refine lv_iload_n hx hb dX9_operand_82 rfl (lv_at hl 2 rfl) ?_
          refine lv_istore (lv' := [(4, .int v1), (0, .ref (a 0)), (1, .int v0), (2, .int v1), (3, .int v2)]) hx hb dX9_operand_83 hl (by decide) rfl (fun ls hl => ?_)
          refine lv_goto (tgt := 117) hx hb dX9_operand_85 (by decide) ?_
          exact (db_X9_operand_117 C K) (v1) s0 _ _ _ h hP hD hS (lv_sub hl [1, 0] rfl)
      · have h := nd_pos h c3
        refine lv_aload_n hx hb dX9_operand_22 rfl (lv_at hl 0 rfl) ?_
        refine va_get (D := (dC, dI)) (ci := 10) (v := .ref (a 4)) (C := RX9) (T := TX9) (N := 20) hx hb hts hi_dm_X9_operand_X9 hown hK hP 0 rfl rfl 12 (by decide) (hts (.fieldLink RX9 27 "TimeMachine$Reader" "name" "[I") (List.mem_of_getElem? (i := 4) rfl)) (fun _ h9 => h9) rfl dX9_operand_23 ?_
        refine lv_iload_n hx hb dX9_operand_26 rfl (lv_at hl 2 rfl) ?_
        refine lv_iconst (v := 5) hx hb dX9_operand_27 (by decide) ?_
        refine lv_imul hx hb dX9_operand_28 ?_
        refine lv_iconst (v := 2) hx hb dX9_operand_29 (by decide) ?_
        refine lv_iadd hx hb dX9_operand_30 ?_
        obtain ⟨i12, h⟩ := nd_ck_e h
        refine va_iald (i := ((v1 * 5) + 2)) hx hb hK hP 4 3 rfl rfl i12 dX9_operand_31 ?_
        refine lv_topi (fun z13 ez13 => ?_)
        have h := nd_at h ez13
        refine lv_istore (lv' := [(5, .int z13), (0, .ref (a 0)), (1, .int v0), (2, .int v1), (3, .int v2)]) hx hb dX9_operand_32 hl (by decide) rfl (fun ls hl => ?_)
        refine lv_iload hx hb dX9_operand_34 (lv_at hl 0 rfl) ?_
        refine lv_iconst (v := 1) hx hb dX9_operand_36 (by decide) ?_
        refine lv_icmp_ne (tgt := 51) hx hb dX9_operand_37 (by decide) (fun c14 => ?_) (fun c14 => ?_)
        · have h := nd_neg h c14
          refine lv_iload hx hb dX9_operand_51 (lv_at hl 0 rfl) ?_
          refine lv_iconst (v := 2) hx hb dX9_operand_53 (by decide) ?_
          refine lv_icmp_ne (tgt := 70) hx hb dX9_operand_54 (by decide) (fun c15 => ?_) (fun c15 => ?_)
          · have h := nd_neg h c15
            refine lv_iconst (v := (-1)) hx hb dX9_operand_70 (by decide) ?_
            exact (db_X9_operand_71 C K) ((-1)) s0 _ _ _ h hP hD hS (lv_sub hl [1] rfl)
          · have h := nd_pos h c15
            refine lv_aload_n hx hb dX9_operand_57 rfl (lv_at hl 1 rfl) ?_
            refine va_get (D := (dC, dI)) (ci := 10) (v := .ref (a 4)) (C := RX9) (T := TX9) (N := 20) hx hb hts hi_dm_X9_operand_X9 hown hK hP 0 rfl rfl 12 (by decide) (hts (.fieldLink RX9 27 "TimeMachine$Reader" "name" "[I") (List.mem_of_getElem? (i := 4) rfl)) (fun _ h9 => h9) rfl dX9_operand_58 ?_
            refine lv_iload_n hx hb dX9_operand_61 rfl (lv_at hl 3 rfl) ?_
            refine lv_iconst (v := 5) hx hb dX9_operand_62 (by decide) ?_
            refine lv_imul hx hb dX9_operand_63 ?_
            refine lv_iconst (v := 3) hx hb dX9_operand_64 (by decide) ?_
            refine lv_iadd hx hb dX9_operand_65 ?_
            obtain ⟨i16, h⟩ := nd_ck_e h
            refine va_iald (i := ((v1 * 5) + 3)) hx hb hK hP 4 3 rfl rfl i16 dX9_operand_66 ?_
            refine lv_goto (tgt := 71) hx hb dX9_operand_67 (by decide) ?_
            exact (db_X9_operand_71 C K) ((sR s0 3 (Int32.toNatClampNeg ((v1 * 5) + 3)))) s0 _ _ _ h hP hD hS (lv_sub hl [1] rfl)
        · have h := nd_pos h c14
          refine lv_aload_n hx hb dX9_operand_40 rfl (lv_at hl 1 rfl) ?_
          refine va_get (D := (dC, dI)) (ci := 10) (v := .ref (a 4)) (C := RX9) (T := TX9) (N := 20) hx hb hts hi_dm_X9_operand_X9 hown hK hP 0 rfl rfl 12 (by decide) (hts (.fieldLink RX9 27 "TimeMachine$Reader" "name" "[I") (List.mem_of_getElem? (i := 4) rfl)) (fun _ h9 => h9) rfl dX9_operand_41 ?_
          refine lv_iload_n hx hb dX9_operand_44 rfl (lv_at hl 3 rfl) ?_
          refine lv_iconst (v := 5) hx hb dX9_operand_45 (by decide) ?_
          refine lv_imul hx hb dX9_operand_46 ?_
          refine lv_iconst (v := 3) hx hb dX9_operand_47 (by decide) ?_
          refine lv_iadd hx hb dX9_operand_48 ?_
          obtain ⟨i17, h⟩ := nd_ck_e h
          refine va_iald (i := ((v1 * 5) + 3)) hx hb hK hP 4 3 rfl rfl i17 dX9_operand_49 ?_
          exact K _ _ _ _ _ _ dX9_operand_50 rfl (Option.some.inj h).symm hP hD hS
    · have h := nd_pos h c2
      refine lv_iload_n hx hb dX9_operand_14 rfl (lv_at hl 3 rfl) ?_
      exact K _ _ _ _ _ _ dX9_operand_15 rfl (Option.some.inj h).symm hP hD hS
  · have h := nd_pos h c1
    refine lv_iload_n hx hb dX9_operand_6 rfl (lv_at hl 2 rfl) ?_
    exact K _ _ _ _ _ _ dX9_operand_7 rfl (Option.some.inj h).symm hP hD hS
set_option maxHeartbeats 40000000 in
set_option maxRecDepth 100000 in
theorem dm_X9_operand (l : Launch) (hlt : l.stackTraces = false) (dC : Nat → ClassId) (dI : Nat → Nat → Nat) (a : Nat → Nat) (ac : Nat → ClassId) (n : Nat) (v0 : Int32) (v1 : Int32) (v2 : Int32) (s0 : St) {r : Int32 × (St)} (h : df_X9_operand n v0 v1 v2 s0 = some r) (sz : Nat) : Met l yX9_operand ow_dm_X9_operand ({ frames := 0, cells := 0, slots := 0, locals := 0 }) (va_Pc [.ref (a 0), .int v0, .int v1, .int v2] (fun U => U.heap.size = sz ∧ va_P (dC, dI) vwCl (dw_X9 a ac s0) U.heap ∧ va_K (dC, dI) vwCl (dk_X9 ac) U ∧ va_D (fun _ => True) (dw_X9 a ac s0) ∧ nv_E dI (va_A (dw_X9 a ac s0) sz) U)) (va_Qi (fun x _ => x = r.1) (fun (_ : Unit) t => va_P (dC, dI) vwCl (dw_X9 a ac r.2) t.heap ∧ va_K (dC, dI) vwCl (dk_X9 ac) t ∧ va_D (va_A (dw_X9 a ac s0) sz) (dw_X9 a ac r.2)) (va_A (dw_X9 a ac s0) sz)) 0 0 (va_A (dw_X9 a ac s0) sz) := by
  refine Met.ofW (cc := cX9_operand) (maxL := 6) (ret := (some .int)) (by decide) rfl ?_
  intro p e s m args below meth c s₁ B hml hv
  obtain ⟨rfl, hsz, hP, hK, hD0, hN⟩ := hv
  have hx := B.exec
  have hb := B.bytes
  have hr := B.returns
  have hts := atoms_spec (ws := ow_dm_X9_operand) B.pre
  have hown : s.vm.findClass RX9 = some m.cls := findClass_of_methodNamed B.named
  have hlocks := B.notSynchronized
  subst hsz
  have hD := hD0.self (sz := s.heap.size)
  generalize hAe : va_A (dw_X9 a ac s0) s.heap.size = A at hD hN ⊢
  have hA : ∀ q : Nat, s.heap.size ≤ q → A q := fun q h => by rw [← hAe]; exact Or.inr h
  have hl := lv_entry ([.ref (a 0), .int v0, .int v1, .int v2]) (n := 6) (Nat.le_of_ble_eq_true rfl)
  rw [lg_entry_eq]
  generalize (lg_sl ([.ref (a 0), .int v0, .int v1, .int v2]) ++ List.replicate (6 - (lg_sl ([.ref (a 0), .int v0, .int v1, .int v2])).length) Slot.unset).toArray = ls at hl ⊢
  have hl : lv_has ls 6 [(0, .ref (a 0)), (1, .int v0), (2, .int v1), (3, .int v2)] := hl
  exact db_X9_operand_0 (dC := dC) (dI := dI) (a := a) (ac := ac) (n := n) (r := r) ⟨hlt, hx, hb, hml, hown, hts, hN, hA, hK⟩ (fun pc v τ H locs ls d z er hP hD hS => by subst er; exact W.zret (v := v) hx hb hr z (fun t ht hW => ⟨⟨v, (), rfl, rfl, by rw [ht]; exact hP, va_K.moved hW.alike hK, hD⟩, hS.F ht⟩) hS.2.2 d) v0 v1 v2 s0 _ _ _ h hP hD va_S.rf (lv_sub hl [0, 1, 2, 3] rfl)
def ow_dm_X9_push : List Cond := Cond.code yX9_push cX9_push 2 none :: ([Cond.fieldLink RX9 112 "TimeMachine$Reader" "top" "I", Cond.fieldLink RX9 23 "TimeMachine$Reader" "stack" "[I"] ++ (u_ws RX9 TX9 20 ++ []))
theorem gd_dm_X9_push : ∀ w ∈ ow_dm_X9_push, (w.onTables && w.keeps) = true ∨ ∃ ty, w = Cond.arrayClass ty := List.forall_mem_cons.mpr ⟨good_of_word rfl, List.forall_mem_append.mpr ⟨fun w h => good_of_word (List.all_eq_true.mp (by decide +kernel) w h), List.forall_mem_append.mpr ⟨gu_X9, fun _ h => nomatch h⟩⟩⟩
theorem hi_dm_X9_push_X9 : ∀ w ∈ u_ws RX9 TX9 20, w ∈ ow_dm_X9_push := fun w h => List.mem_cons_of_mem _ (List.mem_append_right _ (List.mem_append_left _ h))
def dj_X9_push_32 (p : Program) (l : Launch) (e : Env) (s : State) (m : MethodId) (args : Array Value) (below : List Frame) (meth : Method) (c : Code) (Q : State → Prop) (A : Nat → Prop) (dC : Nat → ClassId) (dI : Nat → Nat → Nat) (a : Nat → Nat) (ac : Nat → ClassId) (g : (St) → Option (St)) (r : St) : Prop := ∀ (s0 : St) (H : Heap) (locs : List Loc) (ls : Array Slot), g s0 = some r → va_P (dC, dI) vwCl (dw_X9 a ac s0) H → va_D A (dw_X9 a ac s0) → va_S A s.heap H locs → lv_has ls 2 [] → W p l e (headSpec ow_dm_X9_push ({ frames := 0, cells := 0, slots := 0, locals := 0 })).room s m args below meth c H locs 0 0 Q (F0 m 32 ls [])
def dj_X9_push_0 (p : Program) (l : Launch) (e : Env) (s : State) (m : MethodId) (args : Array Value) (below : List Frame) (meth : Method) (c : Code) (Q : State → Prop) (A : Nat → Prop) (dC : Nat → ClassId) (dI : Nat → Nat → Nat) (a : Nat → Nat) (ac : Nat → ClassId) (g : Int32 → (St) → Option (St)) (r : St) : Prop := ∀ (v0 : Int32) (s0 : St) (H : Heap) (locs : List Loc) (ls : Array Slot), g v0 s0 = some r → va_P (dC, dI) vwCl (dw_X9 a ac s0) H → va_D A (dw_X9 a ac s0) → va_S A s.heap H locs → lv_has ls 2 [(0, .ref (a 0)), (1, .int v0)] → W p l e (headSpec ow_dm_X9_push ({ frames := 0, cells := 0, slots := 0, locals := 0 })).room s m args below meth c H locs 0 0 Q (F0 m 0 ls [])
set_option maxHeartbeats 40000000 in
set_option maxRecDepth 100000 in
theorem db_X9_push_32 {p : Program} {l : Launch} {e : Env} {s : State} {m : MethodId} {args : Array Value} {below : List Frame} {meth : Method} {c : Code} {Q : State → Prop} {A : Nat → Prop} {dC : Nat → ClassId} {dI : Nat → Nat → Nat} {a : Nat → Nat} {ac : Nat → ClassId} {n : Nat} {r : St} (C : nd_C p l s m args c A (dC, dI) cX9_push 2 RX9 ow_dm_X9_push (dk_X9 ac)) (K : nd_Kv p l e (headSpec ow_dm_X9_push ({ frames := 0, cells := 0, slots := 0, locals := 0 })).room s m args below meth c Q A (dC, dI) cX9_push (St) (dw_X9 a ac) r) : dj_X9_push_32 p l e s m args below meth c Q A dC dI a ac (df_X9_push_32 n) r := by
  obtain ⟨hlt, hx, hb, hml, hown, hts, hN, hA, hK⟩ := id C
  intro s0 H locs ls h hP hD hS hl
  unfold df_X9_push_32 at h
  exact K _ _ _ _ _ dX9_push_32 (Option.some.inj h).symm hP hD hS
set_option maxHeartbeats 40000000 in
set_option maxRecDepth 100000 in
theorem db_X9_push_0 {p : Program} {l : Launch} {e : Env} {s : State} {m : MethodId} {args : Array Value} {below : List Frame} {meth : Method} {c : Code} {Q : State → Prop} {A : Nat → Prop} {dC : Nat → ClassId} {dI : Nat → Nat → Nat} {a : Nat → Nat} {ac : Nat → ClassId} {n : Nat} {r : St} (C : nd_C p l s m args c A (dC, dI) cX9_push 2 RX9 ow_dm_X9_push (dk_X9 ac)) (K : nd_Kv p l e (headSpec ow_dm_X9_push ({ frames := 0, cells := 0, slots := 0, locals := 0 })).room s m args below meth c Q A (dC, dI) cX9_push (St) (dw_X9 a ac) r) : dj_X9_push_0 p l e s m args below meth c Q A dC dI a ac (df_X9_push_0 n) r := by
  obtain ⟨hlt, hx, hb, hml, hown, hts, hN, hA, hK⟩ := id C
  intro v0 s0 H locs ls h hP hD hS hl
  unfold df_X9_push_0 at h
  refine lv_aload_n hx hb dX9_push_0 rfl (lv_at hl 0 rfl) ?_
  refine va_get (D := (dC, dI)) (ci := 10) (v := .int (sI s0 6)) (C := RX9) (T := TX9) (N := 20) hx hb hts hi_dm_X9_push_X9 hown hK hP 0 rfl rfl 10 (by decide) (hts (.fieldLink RX9 112 "TimeMachine$Reader" "top" "I") (List.mem_of_getElem? (i := 1) rfl)) (fun _ h9 => h9) rfl dX9_push_1 ?_
  refine lv_aload_n hx hb dX9_push_4 rfl (lv_at hl 0 rfl) ?_
  refine va_get (D := (dC, dI)) (ci := 10) (v := .ref (a 3)) (C := RX9) (T := TX9) (N := 20) hx hb hts hi_dm_X9_push_X9 hown hK hP 0 rfl rfl 9 (by decide) (hts (.fieldLink RX9 23 "TimeMachine$Reader" "stack" "[I") (List.mem_of_getElem? (i := 2) rfl)) (fun _ h9 => h9) rfl dX9_push_5 ?_
  refine va_alen (v := 32832) hx hb hK hP 3 2 rfl rfl (show Int32.ofNat 32832 = 32832 by decide) dX9_push_8 ?_
  refine lv_icmp_ge (tgt := 32) hx hb dX9_push_9 (by decide) (fun c1 => ?_) (fun c1 => ?_)
  · have h := nd_pos h c1
    exact (db_X9_push_32 C K)  s0 _ _ _ h hP hD hS (lv_sub hl [] rfl)
  · have h := nd_neg h c1
    refine lv_aload_n hx hb dX9_push_12 rfl (lv_at hl 0 rfl) ?_
    refine va_get (D := (dC, dI)) (ci := 10) (v := .ref (a 3)) (C := RX9) (T := TX9) (N := 20) hx hb hts hi_dm_X9_push_X9 hown hK hP 0 rfl rfl 9 (by decide) (hts (.fieldLink RX9 23 "TimeMachine$Reader" "stack" "[I") (List.mem_of_getElem? (i := 2) rfl)) (fun _ h9 => h9) rfl dX9_push_13 ?_
    refine lv_aload_n hx hb dX9_push_16 rfl (lv_at hl 0 rfl) ?_
    refine va_get (D := (dC, dI)) (ci := 10) (v := .int (sI s0 6)) (C := RX9) (T := TX9) (N := 20) hx hb hts hi_dm_X9_push_X9 hown hK hP 0 rfl rfl 10 (by decide) (hts (.fieldLink RX9 112 "TimeMachine$Reader" "top" "I") (List.mem_of_getElem? (i := 1) rfl)) (fun _ h9 => h9) rfl dX9_push_17 ?_
    refine lv_iload_n hx hb dX9_push_20 rfl (lv_at hl 1 rfl) ?_
    obtain ⟨i2, h⟩ := nd_ck_e h
    refine va_iast (i := (sI s0 6)) (x := v0) hx hb hK hP hD hS 3 2 rfl rfl i2 dX9_push_21 (fun H locs hP hD hS => ?_)
    obtain ⟨s3, es3, h⟩ := nd_let_e h
    have hP : va_P (dC, dI) vwCl (dw_X9 a ac s3) H := by rw [es3]; exact hP
    have hD : va_D A (dw_X9 a ac s3) := by rw [es3]; exact hD
    refine lv_aload_n hx hb dX9_push_22 rfl (lv_at hl 0 rfl) ?_
    refine lv_dup hx hb dX9_push_23 rfl ?_
    refine va_get (D := (dC, dI)) (ci := 10) (v := .int (sI s3 6)) (C := RX9) (T := TX9) (N := 20) hx hb hts hi_dm_X9_push_X9 hown hK hP 0 rfl rfl 10 (by decide) (hts (.fieldLink RX9 112 "TimeMachine$Reader" "top" "I") (List.mem_of_getElem? (i := 1) rfl)) (fun _ h9 => h9) rfl dX9_push_24 ?_
    refine lv_iconst (v := 1) hx hb dX9_push_27 (by decide) ?_
    refine lv_iadd hx hb dX9_push_28 ?_
    refine va_put (D := (dC, dI)) (ci := 10) (v := .int ((sI s3 6) + 1)) (ty := .int) (C := RX9) (T := TX9) (N := 20) hx hb hts hi_dm_X9_push_X9 tyX9 tyX9_ok nmX9 hown hK hP hD hS 0 rfl rfl 10 (by decide) (hts (.fieldLink RX9 112 "TimeMachine$Reader" "top" "I") (List.mem_of_getElem? (i := 1) rfl)) (fun _ h9 => h9) rfl (by decide +kernel) rfl rfl (Nat.le_of_ble_eq_true rfl) dX9_push_29 (fun H locs hP hD hS => ?_)
    obtain ⟨s4, es4, h⟩ := nd_let_e h
    have hP : va_P (dC, dI) vwCl (dw_X9 a ac s4) H := by rw [es4]; exact hP
    have hD : va_D A (dw_X9 a ac s4) := by rw [es4]; exact hD
    exact (db_X9_push_32 C K)  s4 _ _ _ h hP hD hS (lv_sub hl [] rfl)
set_option maxHeartbeats 40000000 in
set_option maxRecDepth 100000 in
theorem dm_X9_push (l : Launch) (hlt : l.stackTraces = false) (dC : Nat → ClassId) (dI : Nat → Nat → Nat) (a : Nat → Nat) (ac : Nat → ClassId) (n : Nat) (v0 : Int32) (s0 : St) {r : St} (h : df_X9_push n v0 s0 = some r) (sz : Nat) : Met l yX9_push ow_dm_X9_push ({ frames := 0, cells := 0, slots := 0, locals := 0 }) (va_Pc [.ref (a 0), .int v0] (fun U => U.heap.size = sz ∧ va_P (dC, dI) vwCl (dw_X9 a ac s0) U.heap ∧ va_K (dC, dI) vwCl (dk_X9 ac) U ∧ va_D (fun _ => True) (dw_X9 a ac s0) ∧ nv_E dI (va_A (dw_X9 a ac s0) sz) U)) (va_Qv (fun _ => True) (fun (_ : Unit) t => va_P (dC, dI) vwCl (dw_X9 a ac r) t.heap ∧ va_K (dC, dI) vwCl (dk_X9 ac) t ∧ va_D (va_A (dw_X9 a ac s0) sz) (dw_X9 a ac r)) (va_A (dw_X9 a ac s0) sz)) 0 0 (va_A (dw_X9 a ac s0) sz) := by
  refine Met.ofW (cc := cX9_push) (maxL := 2) (ret := none) (by decide) rfl ?_
  intro p e s m args below meth c s₁ B hml hv
  obtain ⟨rfl, hsz, hP, hK, hD0, hN⟩ := hv
  have hx := B.exec
  have hb := B.bytes
  have hr := B.returns
  have hts := atoms_spec (ws := ow_dm_X9_push) B.pre
  have hown : s.vm.findClass RX9 = some m.cls := findClass_of_methodNamed B.named
  have hlocks := B.notSynchronized
  subst hsz
  have hD := hD0.self (sz := s.heap.size)
  generalize hAe : va_A (dw_X9 a ac s0) s.heap.size = A at hD hN ⊢
  have hA : ∀ q : Nat, s.heap.size ≤ q → A q := fun q h => by rw [← hAe]; exact Or.inr h
  have hl := lv_entry ([.ref (a 0), .int v0]) (n := 2) (Nat.le_of_ble_eq_true rfl)
  rw [lg_entry_eq]
  generalize (lg_sl ([.ref (a 0), .int v0]) ++ List.replicate (2 - (lg_sl ([.ref (a 0), .int v0])).length) Slot.unset).toArray = ls at hl ⊢
  have hl : lv_has ls 2 [(0, .ref (a 0)), (1, .int v0)] := hl
  exact db_X9_push_0 (dC := dC) (dI := dI) (a := a) (ac := ac) (n := n) (r := r) ⟨hlt, hx, hb, hml, hown, hts, hN, hA, hK⟩ (fun pc τ H locs ls d er hP hD hS => by subst er; exact W.vret hx hb hr (fun t ht hW => ⟨⟨(), rfl, trivial, by rw [ht]; exact hP, va_K.moved hW.alike hK, hD⟩, hS.F ht⟩) hS.2.2 d) v0 s0 _ _ _ h hP hD va_S.rf (lv_sub hl [0, 1] rfl)
def ow_dm_X9_evaluate : List Cond := Cond.code yX9_evaluate cX9_evaluate 4 (some .int) :: ([Cond.fieldLink RX9 166 "TimeMachine$Reader" "trouble" "I", Cond.fieldLink RX9 112 "TimeMachine$Reader" "top" "I", Cond.methodLink RX9 169 Lib.Math.max.name, Cond.static Lib.Math.max.name, Cond.initialized "java/lang/Math", Cond.code Lib.Math.max.name Lib.Math.max.code 2 (some .int), Cond.fieldLink RX9 39 "TimeMachine$Reader" "codes" "I", Cond.fieldLink RX9 23 "TimeMachine$Reader" "stack" "[I", Cond.fieldLink RX9 16 "TimeMachine$Reader" "code" "[I", Cond.methodLink RX9 179 yX9_joined, Cond.instanceMethod yX9_joined, Cond.selects RX9 yX9_joined yX9_joined, Cond.initialized RX9, Cond.methodLink RX9 176 yX9_single, Cond.static yX9_single, Cond.fieldLink RX9 20 "TimeMachine$Reader" "argument" "[I", Cond.methodLink RX9 172 yX9_operand, Cond.instanceMethod yX9_operand, Cond.selects RX9 yX9_operand yX9_operand, Cond.methodLink RX9 141 yX9_push, Cond.instanceMethod yX9_push, Cond.selects RX9 yX9_push yX9_push] ++ (u_ws RX9 TX9 20 ++ (ow_dm_X9_joined ++ (ow_dm_X9_single ++ (ow_dm_X9_operand ++ (ow_dm_X9_push ++ []))))))
theorem gd_dm_X9_evaluate : ∀ w ∈ ow_dm_X9_evaluate, (w.onTables && w.keeps) = true ∨ ∃ ty, w = Cond.arrayClass ty := List.forall_mem_cons.mpr ⟨good_of_word rfl, List.forall_mem_append.mpr ⟨fun w h => good_of_word (List.all_eq_true.mp (by decide +kernel) w h), List.forall_mem_append.mpr ⟨gu_X9, List.forall_mem_append.mpr ⟨gd_dm_X9_joined, List.forall_mem_append.mpr ⟨gd_dm_X9_single, List.forall_mem_append.mpr ⟨gd_dm_X9_operand, List.forall_mem_append.mpr ⟨gd_dm_X9_push, fun _ h => nomatch h⟩⟩⟩⟩⟩⟩⟩
theorem hi_dm_X9_evaluate_X9 : ∀ w ∈ u_ws RX9 TX9 20, w ∈ ow_dm_X9_evaluate := fun w h => List.mem_cons_of_mem _ (List.mem_append_right _ (List.mem_append_left _ h))
theorem gi_dm_X9_evaluate_0 : GoodIn ow_dm_X9_evaluate (wsV RX9 179 RX9 yX9_joined ow_dm_X9_joined) := goodIn_app (goodIn_of _ (by decide +kernel)) (fun w h => ⟨List.mem_cons_of_mem _ (List.mem_append_right _ (List.mem_append_right _ (List.mem_append_left _ h))), gd_dm_X9_joined w h⟩)
theorem gi_dm_X9_evaluate_1 : GoodIn ow_dm_X9_evaluate (wsS RX9 176 yX9_single ow_dm_X9_single) := goodIn_app (goodIn_of _ (by decide +kernel)) (fun w h => ⟨List.mem_cons_of_mem _ (List.mem_append_right _ (List.mem_append_right _ (List.mem_append_right _ (List.mem_append_left _ h)))), gd_dm_X9_single w h⟩)
theorem gi_dm_X9_evaluate_2 : GoodIn ow_dm_X9_evaluate (wsV RX9 172 RX9 yX9_operand ow_dm_X9_operand) := goodIn_app (goodIn_of _ (by decide +kernel)) (fun w h => ⟨List.mem_cons_of_mem _ (List.mem_append_right _ (List.mem_append_right _ (List.mem_append_right _ (List.mem_append_right _ (List.mem_append_left _ h))))), gd_dm_X9_operand w h⟩)
theorem gi_dm_X9_evaluate_3 : GoodIn ow_dm_X9_evaluate (wsV RX9 141 RX9 yX9_push ow_dm_X9_push) := goodIn_app (goodIn_of _ (by decide +kernel)) (fun w h => ⟨List.mem_cons_of_mem _ (List.mem_append_right _ (List.mem_append_right _ (List.mem_append_right _ (List.mem_append_right _ (List.mem_append_right _ (List.mem_append_left _ h)))))), gd_dm_X9_push w h⟩)
def dj_X9_evaluate_204 (p : Program) (l : Launch) (e : Env) (s : State) (m : MethodId) (args : Array Value) (below : List Frame) (meth : Method) (c : Code) (Q : State → Prop) (A : Nat → Prop) (dC : Nat → ClassId) (dI : Nat → Nat → Nat) (a : Nat → Nat) (ac : Nat → ClassId) (g : Int32 → (St) → Option (Int32 × (St))) (r : Int32 × (St)) : Prop := ∀ (y0 : Int32) (s0 : St) (H : Heap) (locs : List Loc) (ls : Array Slot), g y0 s0 = some r → va_P (dC, dI) vwCl (dw_X9 a ac s0) H → va_D A (dw_X9 a ac s0) → va_S A s.heap H locs → lv_has ls 4 [] → W p l e (headSpec ow_dm_X9_evaluate ({ frames := 2, cells := 0, slots := 0, locals := 41 })).room s m args below meth c H locs 0 0 Q (F0 m 204 ls [.int y0])
def dj_X9_evaluate_187 (p : Program) (l : Launch) (e : Env) (s : State) (m : MethodId) (args : Array Value) (below : List Frame) (meth : Method) (c : Code) (Q : State → Prop) (A : Nat → Prop) (dC : Nat → ClassId) (dI : Nat → Nat → Nat) (a : Nat → Nat) (ac : Nat → ClassId) (g : (St) → Option (Int32 × (St))) (r : Int32 × (St)) : Prop := ∀ (s0 : St) (H : Heap) (locs : List Loc) (ls : Array Slot), g s0 = some r → va_P (dC, dI) vwCl (dw_X9 a ac s0) H → va_D A (dw_X9 a ac s0) → va_S A s.heap H locs → lv_has ls 4 [(0, .ref (a 0))] → W p l e (headSpec ow_dm_X9_evaluate ({ frames := 2, cells := 0, slots := 0, locals := 41 })).room s m args below meth c H locs 0 0 Q (F0 m 187 ls [])
def dj_X9_evaluate_181 (p : Program) (l : Launch) (e : Env) (s : State) (m : MethodId) (args : Array Value) (below : List Frame) (meth : Method) (c : Code) (Q : State → Prop) (A : Nat → Prop) (dC : Nat → ClassId) (dI : Nat → Nat → Nat) (a : Nat → Nat) (ac : Nat → ClassId) (g : Int32 → Int32 → (St) → Option (Int32 × (St))) (r : Int32 × (St)) : Prop := ∀ (x2 : Int32) (x3 : Int32) (s0 : St) (H : Heap) (locs : List Loc) (ls : Array Slot), g x2 x3 s0 = some r → va_P (dC, dI) vwCl (dw_X9 a ac s0) H → va_D A (dw_X9 a ac s0) → va_S A s.heap H locs → lv_has ls 4 [(0, .ref (a 0)), (2, .int x2), (3, .int x3)] → W p l e (headSpec ow_dm_X9_evaluate ({ frames := 2, cells := 0, slots := 0, locals := 41 })).room s m args below meth c H locs 0 0 Q (F0 m 181 ls [])
def dj_X9_evaluate_122 (p : Program) (l : Launch) (e : Env) (s : State) (m : MethodId) (args : Array Value) (below : List Frame) (meth : Method) (c : Code) (Q : State → Prop) (A : Nat → Prop) (dC : Nat → ClassId) (dI : Nat → Nat → Nat) (a : Nat → Nat) (ac : Nat → ClassId) (g : Int32 → Int32 → (St) → Option (Int32 × (St))) (r : Int32 × (St)) : Prop := ∀ (x2 : Int32) (x3 : Int32) (s0 : St) (H : Heap) (locs : List Loc) (ls : Array Slot), g x2 x3 s0 = some r → va_P (dC, dI) vwCl (dw_X9 a ac s0) H → va_D A (dw_X9 a ac s0) → va_S A s.heap H locs → lv_has ls 4 [(0, .ref (a 0)), (2, .int x2), (3, .int x3)] → W p l e (headSpec ow_dm_X9_evaluate ({ frames := 2, cells := 0, slots := 0, locals := 41 })).room s m args below meth c H locs 0 0 Q (F0 m 122 ls [])
def dj_X9_evaluate_16 (p : Program) (l : Launch) (e : Env) (s : State) (m : MethodId) (args : Array Value) (below : List Frame) (meth : Method) (c : Code) (Q : State → Prop) (A : Nat → Prop) (dC : Nat → ClassId) (dI : Nat → Nat → Nat) (a : Nat → Nat) (ac : Nat → ClassId) (g : Int32 → Int32 → (St) → Option (Int32 × (St))) (r : Int32 × (St)) : Prop := ∀ (x2 : Int32) (x3 : Int32) (s0 : St) (H : Heap) (locs : List Loc) (ls : Array Slot), g x2 x3 s0 = some r → va_P (dC, dI) vwCl (dw_X9 a ac s0) H → va_D A (dw_X9 a ac s0) → va_S A s.heap H locs → lv_has ls 4 [(0, .ref (a 0)), (2, .int x2), (3, .int x3)] → W p l e (headSpec ow_dm_X9_evaluate ({ frames := 2, cells := 0, slots := 0, locals := 41 })).room s m args below meth c H locs 0 0 Q (F0 m 16 ls [])
def dj_X9_evaluate_0 (p : Program) (l : Launch) (e : Env) (s : State) (m : MethodId) (args : Array Value) (below : List Frame) (meth : Method) (c : Code) (Q : State → Prop) (A : Nat → Prop) (dC : Nat → ClassId) (dI : Nat → Nat → Nat) (a : Nat → Nat) (ac : Nat → ClassId) (g : Int32 → Int32 → (St) → Option (Int32 × (St))) (r : Int32 × (St)) : Prop := ∀ (v0 : Int32) (v1 : Int32) (s0 : St) (H : Heap) (locs : List Loc) (ls : Array Slot), g v0 v1 s0 = some r → va_P (dC, dI) vwCl (dw_X9 a ac s0) H → va_D A (dw_X9 a ac s0) → va_S A s.heap H locs → lv_has ls 4 [(0, .ref (a 0)), (1, .int v0), (2, .int v1)] → W p l e (headSpec ow_dm_X9_evaluate ({ frames := 2, cells := 0, slots := 0, locals := 41 })).room s m args below meth c H locs 0 0 Q (F0 m 0 ls [])
set_option maxHeartbeats 40000000 in
set_option maxRecDepth 100000 in
theorem db_X9_evaluate_204 {p : Program} {l : Launch} {e : Env} {s : State} {m : MethodId} {args : Array Value} {below : List Frame} {meth : Method} {c : Code} {Q : State → Prop} {A : Nat → Prop} {dC : Nat → ClassId} {dI : Nat → Nat → Nat} {a : Nat → Nat} {ac : Nat → ClassId} {n : Nat} {r : Int32 × (St)} (C : nd_C p l s m args c A (dC, dI) cX9_evaluate 4 RX9 ow_dm_X9_evaluate (dk_X9 ac)) (K : nd_Ki p l e (headSpec ow_dm_X9_evaluate ({ frames := 2, cells := 0, slots := 0, locals := 41 })).room s m args below meth c Q A (dC, dI) cX9_evaluate .int (St) (dw_X9 a ac) r) : dj_X9_evaluate_204 p l e s m args below meth c Q A dC dI a ac (df_X9_evaluate_204 n) r := by
  obtain ⟨hlt, hx, hb, hml, hown, hts, hN, hA, hK⟩ := id C
  intro y0 s0 H locs ls h hP hD hS hl
  unfold df_X9_evaluate_204 at h
  exact K _ _ _ _ _ _ dX9_evaluate_204 rfl (Option.some.inj h).symm hP hD hS
set_option maxHeartbeats 40000000 in
set_option maxRecDepth 100000 in
theorem db_X9_evaluate_187 {p : Program} {l : Launch} {e : Env} {s : State} {m : MethodId} {args : Array Value} {below : List Frame} {meth : Method} {c : Code} {Q : State → Prop} {A : Nat → Prop} {dC : Nat → ClassId} {dI : Nat → Nat → Nat} {a : Nat → Nat} {ac : Nat → ClassId} {n : Nat} {r : Int32 × (St)} (C : nd_C p l s m args c A (dC, dI) cX9_evaluate 4 RX9 ow_dm_X9_evaluate (dk_X9 ac)) (K : nd_Ki p l e (headSpec ow_dm_X9_evaluate ({ frames := 2, cells := 0, slots := 0, locals := 41 })).room s m args below meth c Q A (dC, dI) cX9_evaluate .int (St) (dw_X9 a ac) r) : dj_X9_evaluate_187 p l e s m args below meth c Q A dC dI a ac (df_X9_evaluate_187 n) r := by
  obtain ⟨hlt, hx, hb, hml, hown, hts, hN, hA, hK⟩ := id C
  intro s0 H locs ls h hP hD hS hl
  unfold df_X9_evaluate_187 at h
  refine lv_aload_n hx hb dX9_evaluate_187 rfl (lv_at hl 0 rfl) ?_
  refine va_get (D := (dC, dI)) (ci := 10) (v := .int (sI s0 6)) (C := RX9) (T := TX9) (N := 20) hx hb hts hi_dm_X9_evaluate_X9 hown hK hP 0 rfl rfl 10 (by decide) (hts (.fieldLink RX9 112 "TimeMachine$Reader" "top" "I") (List.mem_of_getElem? (i := 2) rfl)) (fun _ h9 => h9) rfl dX9_evaluate_188 ?_
  refine lv_if_le (tgt := 203) hx hb dX9_evaluate_191 (by decide) (fun c5 => ?_) (fun c5 => ?_)
  · have h := nd_pos h c5
    refine lv_iconst (v := 0) hx hb dX9_evaluate_203 (by decide) ?_
    exact (db_X9_evaluate_204 C K) (0) s0 _ _ _ h hP hD hS (lv_sub hl [] rfl)
  · have h := nd_neg h c5
    refine lv_aload_n hx hb dX9_evaluate_194 rfl (lv_at hl 0 rfl) ?_
    refine va_get (D := (dC, dI)) (ci := 10) (v := .ref (a 3)) (C := RX9) (T := TX9) (N := 20) hx hb hts hi_dm_X9_evaluate_X9 hown hK hP 0 rfl rfl 9 (by decide) (hts (.fieldLink RX9 23 "TimeMachine$Reader" "stack" "[I") (List.mem_of_getElem? (i := 8) rfl)) (fun _ h9 => h9) rfl dX9_evaluate_195 ?_
    refine lv_iconst (v := 0) hx hb dX9_evaluate_198 (by decide) ?_
    refine va_iald (i := 0) hx hb hK hP 3 2 rfl rfl (vp_in_iff.mpr ⟨by decide, by decide⟩) dX9_evaluate_199 ?_
    refine lv_goto (tgt := 204) hx hb dX9_evaluate_200 (by decide) ?_
    exact (db_X9_evaluate_204 C K) ((sR s0 2 (Int32.toNatClampNeg 0))) s0 _ _ _ h hP hD hS (lv_sub hl [] rfl)
set_option maxHeartbeats 40000000 in
set_option maxRecDepth 100000 in
theorem db_X9_evaluate_181 {p : Program} {l : Launch} {e : Env} {s : State} {m : MethodId} {args : Array Value} {below : List Frame} {meth : Method} {c : Code} {Q : State → Prop} {A : Nat → Prop} {dC : Nat → ClassId} {dI : Nat → Nat → Nat} {a : Nat → Nat} {ac : Nat → ClassId} {n : Nat} {r : Int32 × (St)} (C : nd_C p l s m args c A (dC, dI) cX9_evaluate 4 RX9 ow_dm_X9_evaluate (dk_X9 ac)) (K : nd_Ki p l e (headSpec ow_dm_X9_evaluate ({ frames := 2, cells := 0, slots := 0, locals := 41 })).room s m args below meth c Q A (dC, dI) cX9_evaluate .int (St) (dw_X9 a ac) r) {g16 : Int32 → Int32 → (St) → Option (Int32 × (St))} (J16 : dj_X9_evaluate_16 p l e s m args below meth c Q A dC dI a ac g16 r) : dj_X9_evaluate_181 p l e s m args below meth c Q A dC dI a ac (df_X9_evaluate_181 n g16) r := by
  obtain ⟨hlt, hx, hb, hml, hown, hts, hN, hA, hK⟩ := id C
  intro x2 x3 s0 H locs ls h hP hD hS hl
  unfold df_X9_evaluate_181 at h
  obtain ⟨z13, ez13, h⟩ := nd_let_e h
  refine lv_iinc (v := z13) (lv' := [(3, .int z13), (0, .ref (a 0)), (2, .int x2)]) hx hb dX9_evaluate_181 hl (k := 2) rfl (by rw [ez13]) (by decide) rfl (fun ls hl => ?_)
  refine lv_goto (tgt := 16) hx hb dX9_evaluate_184 (by decide) ?_
  exact (J16) (x2) (z13) s0 _ _ _ h hP hD hS (lv_sub hl [1, 2, 0] rfl)
set_option maxHeartbeats 40000000 in
set_option maxRecDepth 100000 in
theorem db_X9_evaluate_122 {p : Program} {l : Launch} {e : Env} {s : State} {m : MethodId} {args : Array Value} {below : List Frame} {meth : Method} {c : Code} {Q : State → Prop} {A : Nat → Prop} {dC : Nat → ClassId} {dI : Nat → Nat → Nat} {a : Nat → Nat} {ac : Nat → ClassId} {n : Nat} {r : Int32 × (St)} (C : nd_C p l s m args c A (dC, dI) cX9_evaluate 4 RX9 ow_dm_X9_evaluate (dk_X9 ac)) (K : nd_Ki p l e (headSpec ow_dm_X9_evaluate ({ frames := 2, cells := 0, slots := 0, locals := 41 })).room s m args below meth c Q A (dC, dI) cX9_evaluate .int (St) (dw_X9 a ac) r) {g16 : Int32 → Int32 → (St) → Option (Int32 × (St))} (J16 : dj_X9_evaluate_16 p l e s m args below meth c Q A dC dI a ac g16 r) : dj_X9_evaluate_122 p l e s m args below meth c Q A dC dI a ac (df_X9_evaluate_122 n g16) r := by
  obtain ⟨hlt, hx, hb, hml, hown, hts, hN, hA, hK⟩ := id C
  intro x2 x3 s0 H locs ls h hP hD hS hl
  unfold df_X9_evaluate_122 at h
  refine lv_aload_n hx hb dX9_evaluate_122 rfl (lv_at hl 0 rfl) ?_
  refine va_get (D := (dC, dI)) (ci := 10) (v := .int (sI s0 6)) (C := RX9) (T := TX9) (N := 20) hx hb hts hi_dm_X9_evaluate_X9 hown hK hP 0 rfl rfl 10 (by decide) (hts (.fieldLink RX9 112 "TimeMachine$Reader" "top" "I") (List.mem_of_getElem? (i := 2) rfl)) (fun _ h9 => h9) rfl dX9_evaluate_123 ?_
  refine lv_iconst (v := 1) hx hb dX9_evaluate_126 (by decide) ?_
  refine lv_icmp_le (tgt := 181) hx hb dX9_evaluate_127 (by decide) (fun c12 => ?_) (fun c12 => ?_)
  · have h := nd_pos h c12
    exact (db_X9_evaluate_181 C K J16) (x2) (x3) s0 _ _ _ h hP hD hS (lv_sub hl [0, 1, 2] rfl)
  · have h := nd_neg h c12
    refine lv_aload_n hx hb dX9_evaluate_130 rfl (lv_at hl 0 rfl) ?_
    refine lv_dup hx hb dX9_evaluate_131 rfl ?_
    refine va_get (D := (dC, dI)) (ci := 10) (v := .int (sI s0 6)) (C := RX9) (T := TX9) (N := 20) hx hb hts hi_dm_X9_evaluate_X9 hown hK hP 0 rfl rfl 10 (by decide) (hts (.fieldLink RX9 112 "TimeMachine$Reader" "top" "I") (List.mem_of_getElem? (i := 2) rfl)) (fun _ h9 => h9) rfl dX9_evaluate_132 ?_
    refine lv_iconst (v := 1) hx hb dX9_evaluate_135 (by decide) ?_
    refine lv_isub hx hb dX9_evaluate_136 ?_
    refine va_put (D := (dC, dI)) (ci := 10) (v := .int ((sI s0 6) - 1)) (ty := .int) (C := RX9) (T := TX9) (N := 20) hx hb hts hi_dm_X9_evaluate_X9 tyX9 tyX9_ok nmX9 hown hK hP hD hS 0 rfl rfl 10 (by decide) (hts (.fieldLink RX9 112 "TimeMachine$Reader" "top" "I") (List.mem_of_getElem? (i := 2) rfl)) (fun _ h9 => h9) rfl (by decide +kernel) rfl rfl (Nat.le_of_ble_eq_true rfl) dX9_evaluate_137 (fun H locs hP hD hS => ?_)
    obtain ⟨s14, es14, h⟩ := nd_let_e h
    have hP : va_P (dC, dI) vwCl (dw_X9 a ac s14) H := by rw [es14]; exact hP
    have hD : va_D A (dw_X9 a ac s14) := by rw [es14]; exact hD
    refine lv_aload_n hx hb dX9_evaluate_140 rfl (lv_at hl 0 rfl) ?_
    refine va_get (D := (dC, dI)) (ci := 10) (v := .ref (a 3)) (C := RX9) (T := TX9) (N := 20) hx hb hts hi_dm_X9_evaluate_X9 hown hK hP 0 rfl rfl 9 (by decide) (hts (.fieldLink RX9 23 "TimeMachine$Reader" "stack" "[I") (List.mem_of_getElem? (i := 8) rfl)) (fun _ h9 => h9) rfl dX9_evaluate_141 ?_
    refine lv_aload_n hx hb dX9_evaluate_144 rfl (lv_at hl 0 rfl) ?_
    refine va_get (D := (dC, dI)) (ci := 10) (v := .int (sI s14 6)) (C := RX9) (T := TX9) (N := 20) hx hb hts hi_dm_X9_evaluate_X9 hown hK hP 0 rfl rfl 10 (by decide) (hts (.fieldLink RX9 112 "TimeMachine$Reader" "top" "I") (List.mem_of_getElem? (i := 2) rfl)) (fun _ h9 => h9) rfl dX9_evaluate_145 ?_
    refine lv_iconst (v := 1) hx hb dX9_evaluate_148 (by decide) ?_
    refine lv_isub hx hb dX9_evaluate_149 ?_
    refine lv_aload_n hx hb dX9_evaluate_150 rfl (lv_at hl 0 rfl) ?_
    refine lv_aload_n hx hb dX9_evaluate_151 rfl (lv_at hl 0 rfl) ?_
    refine va_get (D := (dC, dI)) (ci := 10) (v := .ref (a 1)) (C := RX9) (T := TX9) (N := 20) hx hb hts hi_dm_X9_evaluate_X9 hown hK hP 0 rfl rfl 6 (by decide) (hts (.fieldLink RX9 16 "TimeMachine$Reader" "code" "[I") (List.mem_of_getElem? (i := 9) rfl)) (fun _ h9 => h9) rfl dX9_evaluate_152 ?_
    refine lv_iload_n hx hb dX9_evaluate_155 rfl (lv_at hl 2 rfl) ?_
    obtain ⟨i15, h⟩ := nd_ck_e h
    refine va_iald (i := x3) hx hb hK hP 1 0 rfl rfl i15 dX9_evaluate_156 ?_
    refine lv_aload_n hx hb dX9_evaluate_157 rfl (lv_at hl 0 rfl) ?_
    refine va_get (D := (dC, dI)) (ci := 10) (v := .ref (a 3)) (C := RX9) (T := TX9) (N := 20) hx hb hts hi_dm_X9_evaluate_X9 hown hK hP 0 rfl rfl 9 (by decide) (hts (.fieldLink RX9 23 "TimeMachine$Reader" "stack" "[I") (List.mem_of_getElem? (i := 8) rfl)) (fun _ h9 => h9) rfl dX9_evaluate_158 ?_
    refine lv_aload_n hx hb dX9_evaluate_161 rfl (lv_at hl 0 rfl) ?_
    refine va_get (D := (dC, dI)) (ci := 10) (v := .int (sI s14 6)) (C := RX9) (T := TX9) (N := 20) hx hb hts hi_dm_X9_evaluate_X9 hown hK hP 0 rfl rfl 10 (by decide) (hts (.fieldLink RX9 112 "TimeMachine$Reader" "top" "I") (List.mem_of_getElem? (i := 2) rfl)) (fun _ h9 => h9) rfl dX9_evaluate_162 ?_
    refine lv_iconst (v := 1) hx hb dX9_evaluate_165 (by decide) ?_
    refine lv_isub hx hb dX9_evaluate_166 ?_
    obtain ⟨i16, h⟩ := nd_ck_e h
    refine va_iald (i := ((sI s14 6) - 1)) hx hb hK hP 3 2 rfl rfl i16 dX9_evaluate_167 ?_
    refine lv_aload_n hx hb dX9_evaluate_168 rfl (lv_at hl 0 rfl) ?_
    refine va_get (D := (dC, dI)) (ci := 10) (v := .ref (a 3)) (C := RX9) (T := TX9) (N := 20) hx hb hts hi_dm_X9_evaluate_X9 hown hK hP 0 rfl rfl 9 (by decide) (hts (.fieldLink RX9 23 "TimeMachine$Reader" "stack" "[I") (List.mem_of_getElem? (i := 8) rfl)) (fun _ h9 => h9) rfl dX9_evaluate_169 ?_
    refine lv_aload_n hx hb dX9_evaluate_172 rfl (lv_at hl 0 rfl) ?_
    refine va_get (D := (dC, dI)) (ci := 10) (v := .int (sI s14 6)) (C := RX9) (T := TX9) (N := 20) hx hb hts hi_dm_X9_evaluate_X9 hown hK hP 0 rfl rfl 10 (by decide) (hts (.fieldLink RX9 112 "TimeMachine$Reader" "top" "I") (List.mem_of_getElem? (i := 2) rfl)) (fun _ h9 => h9) rfl dX9_evaluate_173 ?_
    obtain ⟨i17, h⟩ := nd_ck_e h
    refine va_iald (i := (sI s14 6)) hx hb hK hP 3 2 rfl rfl i17 dX9_evaluate_176 ?_
    obtain ⟨q18, s19, hq, h⟩ := nd_b2_e h
    have hPc := hP
    have hDc := hD
    have hKc := hK
    have hFc := nd_rs hD hS hA
    refine nd_cVi (As := [.int (sR s14 0 (Int32.toNatClampNeg x3)), .int (sR s14 2 (Int32.toNatClampNeg ((sI s14 6) - 1))), .int (sR s14 2 (Int32.toNatClampNeg (sI s14 6)))]) (rest := [.int ((sI s14 6) - 1), .ref (a 3)]) (q := q18) (w' := dw_X9 a ac s19) ⟨hx, hb, hml, hown, hts⟩ (fun sz => dm_X9_joined l hlt dC dI a ac n ((sR s14 0 (Int32.toNatClampNeg x3))) ((sR s14 2 (Int32.toNatClampNeg ((sI s14 6) - 1)))) ((sR s14 2 (Int32.toNatClampNeg (sI s14 6)))) s14 hq sz) (cwV 3 hts gi_dm_X9_evaluate_0 rfl rfl rfl (by decide +kernel) ⟨Nat.le_of_ble_eq_true rfl, Nat.le_of_ble_eq_true rfl⟩) hPc hDc hKc hS hA hN (va_recv hKc hPc (ci := 10) (q0 := 0) rfl rfl) rfl hl.1 rfl (Nat.le_of_ble_eq_true rfl) dX9_evaluate_177 (fun H locs hP1 hD1 hk1 hS => ?_)
    have hP := hP1
    have hD := hD1.weaken (fun k q _ h => hFc q.1 h)
    obtain ⟨i21, h⟩ := nd_ck_e h
    refine va_iast (i := ((sI s14 6) - 1)) (x := q18) hx hb hK hP hD hS 3 2 rfl rfl i21 dX9_evaluate_180 (fun H locs hP hD hS => ?_)
    obtain ⟨s22, es22, h⟩ := nd_let_e h
    have hP : va_P (dC, dI) vwCl (dw_X9 a ac s22) H := by rw [es22]; exact hP
    have hD : va_D A (dw_X9 a ac s22) := by rw [es22]; exact hD
    exact (db_X9_evaluate_181 C K J16) (x2) (x3) s22 _ _ _ h hP hD hS (lv_sub hl [0, 1, 2] rfl)
set_option maxHeartbeats 40000000 in
set_option maxRecDepth 100000 in
theorem dB_X9_evaluate_16 {p : Program} {l : Launch} {e : Env} {s : State} {m : MethodId} {args : Array Value} {below : List Frame} {meth : Method} {c : Code} {Q : State → Prop} {A : Nat → Prop} {dC : Nat → ClassId} {dI : Nat → Nat → Nat} {a : Nat → Nat} {ac : Nat → ClassId} {n : Nat} {r : Int32 × (St)} (C : nd_C p l s m args c A (dC, dI) cX9_evaluate 4 RX9 ow_dm_X9_evaluate (dk_X9 ac)) (K : nd_Ki p l e (headSpec ow_dm_X9_evaluate ({ frames := 2, cells := 0, slots := 0, locals := 41 })).room s m args below meth c Q A (dC, dI) cX9_evaluate .int (St) (dw_X9 a ac) r) {g16 : Int32 → Int32 → (St) → Option (Int32 × (St))} (J16 : dj_X9_evaluate_16 p l e s m args below meth c Q A dC dI a ac g16 r) : dj_X9_evaluate_16 p l e s m args below meth c Q A dC dI a ac (dF_X9_evaluate_16 n g16) r := by
  obtain ⟨hlt, hx, hb, hml, hown, hts, hN, hA, hK⟩ := id C
  intro x2 x3 s0 H locs ls h hP hD hS hl
  unfold dF_X9_evaluate_16 at h
  refine lv_iload_n hx hb dX9_evaluate_16 rfl (lv_at hl 2 rfl) ?_
  refine lv_aload_n hx hb dX9_evaluate_17 rfl (lv_at hl 0 rfl) ?_
  refine va_get (D := (dC, dI)) (ci := 10) (v := .int (sI s0 5)) (C := RX9) (T := TX9) (N := 20) hx hb hts hi_dm_X9_evaluate_X9 hown hK hP 0 rfl rfl 8 (by decide) (hts (.fieldLink RX9 39 "TimeMachine$Reader" "codes" "I") (List.mem_of_getElem? (i := 7) rfl)) (fun _ h9 => h9) rfl dX9_evaluate_18 ?_
  refine lv_icmp_ge (tgt := 187) hx hb dX9_evaluate_21 (by decide) (fun c4 => ?_) (fun c4 => ?_)
  · have h := nd_pos h c4
    exact (db_X9_evaluate_187 C K)  s0 _ _ _ h hP hD hS (lv_sub hl [0] rfl)
  · have h := nd_neg h c4
    refine lv_aload_n hx hb dX9_evaluate_24 rfl (lv_at hl 0 rfl) ?_
    refine va_get (D := (dC, dI)) (ci := 10) (v := .ref (a 1)) (C := RX9) (T := TX9) (N := 20) hx hb hts hi_dm_X9_evaluate_X9 hown hK hP 0 rfl rfl 6 (by decide) (hts (.fieldLink RX9 16 "TimeMachine$Reader" "code" "[I") (List.mem_of_getElem? (i := 9) rfl)) (fun _ h9 => h9) rfl dX9_evaluate_25 ?_
    refine lv_iload_n hx hb dX9_evaluate_28 rfl (lv_at hl 2 rfl) ?_
    obtain ⟨i6, h⟩ := nd_ck_e h
    refine va_iald (i := x3) hx hb hK hP 1 0 rfl rfl i6 dX9_evaluate_29 ?_
    refine lv_bipush (v := 21) hx hb dX9_evaluate_30 (by decide) ?_
    refine lv_icmp_eq (tgt := 187) hx hb dX9_evaluate_32 (by decide) (fun c7 => ?_) (fun c7 => ?_)
    · have h := nd_pos h c7
      exact (db_X9_evaluate_187 C K)  s0 _ _ _ h hP hD hS (lv_sub hl [0] rfl)
    · have h := nd_neg h c7
      refine lv_aload_n hx hb dX9_evaluate_35 rfl (lv_at hl 0 rfl) ?_
      refine va_get (D := (dC, dI)) (ci := 10) (v := .ref (a 1)) (C := RX9) (T := TX9) (N := 20) hx hb hts hi_dm_X9_evaluate_X9 hown hK hP 0 rfl rfl 6 (by decide) (hts (.fieldLink RX9 16 "TimeMachine$Reader" "code" "[I") (List.mem_of_getElem? (i := 9) rfl)) (fun _ h9 => h9) rfl dX9_evaluate_36 ?_
      refine lv_iload_n hx hb dX9_evaluate_39 rfl (lv_at hl 2 rfl) ?_
      obtain ⟨i8, h⟩ := nd_ck_e h
      refine va_iald (i := x3) hx hb hK hP 1 0 rfl rfl i8 dX9_evaluate_40 ?_
      refine lv_bipush (v := 16) hx hb dX9_evaluate_41 (by decide) ?_
      refine lv_icmp_lt (tgt := 70) hx hb dX9_evaluate_43 (by decide) (fun c9 => ?_) (fun c9 => ?_)
      · have h := nd_pos h c9
        refine lv_aload_n hx hb dX9_evaluate_70 rfl (lv_at hl 0 rfl) ?_
        refine va_get (D := (dC, dI)) (ci := 10) (v := .ref (a 1)) (C := RX9) (T := TX9) (N := 20) hx hb hts hi_dm_X9_evaluate_X9 hown hK hP 0 rfl rfl 6 (by decide) (hts (.fieldLink RX9 16 "TimeMachine$Reader" "code" "[I") (List.mem_of_getElem? (i := 9) rfl)) (fun _ h9 => h9) rfl dX9_evaluate_71 ?_
        refine lv_iload_n hx hb dX9_evaluate_74 rfl (lv_at hl 2 rfl) ?_
        obtain ⟨i10, h⟩ := nd_ck_e h
        refine va_iald (i := x3) hx hb hK hP 1 0 rfl rfl i10 dX9_evaluate_75 ?_
        refine lv_bipush (v := 11) hx hb dX9_evaluate_76 (by decide) ?_
        refine lv_icmp_lt (tgt := 122) hx hb dX9_evaluate_78 (by decide) (fun c11 => ?_) (fun c11 => ?_)
        · have h := nd_pos h c11
          exact (db_X9_evaluate_122 C K J16) (x2) (x3) s0 _ _ _ h hP hD hS (lv_sub hl [0, 1, 2] rfl)
        · have h := nd_neg h c11
          refine lv_aload_n hx hb dX9_evaluate_81 rfl (lv_at hl 0 rfl) ?_
          refine va_get (D := (dC, dI)) (ci := 10) (v := .int (sI s0 6)) (C := RX9) (T := TX9) (N := 20) hx hb hts hi_dm_X9_evaluate_X9 hown hK hP 0 rfl rfl 10 (by decide) (hts (.fieldLink RX9 112 "TimeMachine$Reader" "top" "I") (List.mem_of_getElem? (i := 2) rfl)) (fun _ h9 => h9) rfl dX9_evaluate_82 ?_
          refine lv_if_le (tgt := 122) hx hb dX9_evaluate_85 (by decide) (fun c23 => ?_) (fun c23 => ?_)
          · have h := nd_pos h c23
            exact (db_X9_evaluate_122 C K J16) (x2) (x3) s0 _ _ _ h hP hD hS (lv_sub hl [0, 1, 2] rfl)
          · have h := nd_neg h c23
            refine lv_aload_n hx hb dX9_evaluate_88 rfl (lv_at hl 0 rfl) ?_
            refine va_get (D := (dC, dI)) (ci := 10) (v := .ref (a 3)) (C := RX9) (T := TX9) (N := 20) hx hb hts hi_dm_X9_evaluate_X9 hown hK hP 0 rfl rfl 9 (by decide) (hts (.fieldLink RX9 23 "TimeMachine$Reader" "stack" "[I") (List.mem_of_getElem? (i := 8) rfl)) (fun _ h9 => h9) rfl dX9_evaluate_89 ?_
            refine lv_aload_n hx hb dX9_evaluate_92 rfl (lv_at hl 0 rfl) ?_
            refine va_get (D := (dC, dI)) (ci := 10) (v := .int (sI s0 6)) (C := RX9) (T := TX9) (N := 20) hx hb hts hi_dm_X9_evaluate_X9 hown hK hP 0 rfl rfl 10 (by decide) (hts (.fieldLink RX9 112 "TimeMachine$Reader" "top" "I") (List.mem_of_getElem? (i := 2) rfl)) (fun _ h9 => h9) rfl dX9_evaluate_93 ?_
            refine lv_iconst (v := 1) hx hb dX9_evaluate_96 (by decide) ?_
            refine lv_isub hx hb dX9_evaluate_97 ?_
            refine lv_aload_n hx hb dX9_evaluate_98 rfl (lv_at hl 0 rfl) ?_
            refine va_get (D := (dC, dI)) (ci := 10) (v := .ref (a 1)) (C := RX9) (T := TX9) (N := 20) hx hb hts hi_dm_X9_evaluate_X9 hown hK hP 0 rfl rfl 6 (by decide) (hts (.fieldLink RX9 16 "TimeMachine$Reader" "code" "[I") (List.mem_of_getElem? (i := 9) rfl)) (fun _ h9 => h9) rfl dX9_evaluate_99 ?_
            refine lv_iload_n hx hb dX9_evaluate_102 rfl (lv_at hl 2 rfl) ?_
            obtain ⟨i24, h⟩ := nd_ck_e h
            refine va_iald (i := x3) hx hb hK hP 1 0 rfl rfl i24 dX9_evaluate_103 ?_
            refine lv_aload_n hx hb dX9_evaluate_104 rfl (lv_at hl 0 rfl) ?_
            refine va_get (D := (dC, dI)) (ci := 10) (v := .ref (a 3)) (C := RX9) (T := TX9) (N := 20) hx hb hts hi_dm_X9_evaluate_X9 hown hK hP 0 rfl rfl 9 (by decide) (hts (.fieldLink RX9 23 "TimeMachine$Reader" "stack" "[I") (List.mem_of_getElem? (i := 8) rfl)) (fun _ h9 => h9) rfl dX9_evaluate_105 ?_
            refine lv_aload_n hx hb dX9_evaluate_108 rfl (lv_at hl 0 rfl) ?_
            refine va_get (D := (dC, dI)) (ci := 10) (v := .int (sI s0 6)) (C := RX9) (T := TX9) (N := 20) hx hb hts hi_dm_X9_evaluate_X9 hown hK hP 0 rfl rfl 10 (by decide) (hts (.fieldLink RX9 112 "TimeMachine$Reader" "top" "I") (List.mem_of_getElem? (i := 2) rfl)) (fun _ h9 => h9) rfl dX9_evaluate_109 ?_
            refine lv_iconst (v := 1) hx hb dX9_evaluate_112 (by decide) ?_
            refine lv_isub hx hb dX9_evaluate_113 ?_
            obtain ⟨i25, h⟩ := nd_ck_e h
            refine va_iald (i := ((sI s0 6) - 1)) hx hb hK hP 3 2 rfl rfl i25 dX9_evaluate_114 ?_
            obtain ⟨q26, s27, hq, h⟩ := nd_b2_e h
            have hPc : va_P (dC, dI) vwCl (dw_P a ac ()) H := nd_p0
            have hDc : va_D A (dw_P a ac ()) := nd_d0
            have hKc : va_K (dC, dI) vwCl (dk_P ac) s := nd_y0 hK
            have hFc : ∀ q, va_A (dw_P a ac ()) H.size q → A q := nd_r0 hS hA
            refine nd_cSi (As := [.int (sR s0 0 (Int32.toNatClampNeg x3)), .int (sR s0 2 (Int32.toNatClampNeg ((sI s0 6) - 1)))]) (rest := [.int ((sI s0 6) - 1), .ref (a 3)]) (q := q26) (w' := dw_P a ac s27) ⟨hx, hb, hml, hown, hts⟩ (fun sz => dm_X9_single l hlt dC dI a ac n ((sR s0 0 (Int32.toNatClampNeg x3))) ((sR s0 2 (Int32.toNatClampNeg ((sI s0 6) - 1)))) () hq sz) (cwS 2 hts gi_dm_X9_evaluate_1 rfl rfl rfl (by decide +kernel) ⟨Nat.le_of_ble_eq_true rfl, Nat.le_of_ble_eq_true rfl⟩) hPc hDc hKc hS hA hN rfl hl.1 rfl (Nat.le_of_ble_eq_true rfl) dX9_evaluate_115 (fun H locs hP1 hD1 hk1 hS => ?_)
            have hP := nd_n0 hP hk1
            obtain ⟨i29, h⟩ := nd_ck_e h
            refine va_iast (i := ((sI s0 6) - 1)) (x := q26) hx hb hK hP hD hS 3 2 rfl rfl i29 dX9_evaluate_118 (fun H locs hP hD hS => ?_)
            obtain ⟨s30, es30, h⟩ := nd_let_e h
            have hP : va_P (dC, dI) vwCl (dw_X9 a ac s30) H := by rw [es30]; exact hP
            have hD : va_D A (dw_X9 a ac s30) := by rw [es30]; exact hD
            refine lv_goto (tgt := 181) hx hb dX9_evaluate_119 (by decide) ?_
            exact (db_X9_evaluate_181 C K J16) (x2) (x3) s30 _ _ _ h hP hD hS (lv_sub hl [0, 1, 2] rfl)
      · have h := nd_neg h c9
        refine lv_aload_n hx hb dX9_evaluate_46 rfl (lv_at hl 0 rfl) ?_
        refine lv_aload_n hx hb dX9_evaluate_47 rfl (lv_at hl 0 rfl) ?_
        refine lv_aload_n hx hb dX9_evaluate_48 rfl (lv_at hl 0 rfl) ?_
        refine va_get (D := (dC, dI)) (ci := 10) (v := .ref (a 1)) (C := RX9) (T := TX9) (N := 20) hx hb hts hi_dm_X9_evaluate_X9 hown hK hP 0 rfl rfl 6 (by decide) (hts (.fieldLink RX9 16 "TimeMachine$Reader" "code" "[I") (List.mem_of_getElem? (i := 9) rfl)) (fun _ h9 => h9) rfl dX9_evaluate_49 ?_
        refine lv_iload_n hx hb dX9_evaluate_52 rfl (lv_at hl 2 rfl) ?_
        obtain ⟨i31, h⟩ := nd_ck_e h
        refine va_iald (i := x3) hx hb hK hP 1 0 rfl rfl i31 dX9_evaluate_53 ?_
        refine lv_aload_n hx hb dX9_evaluate_54 rfl (lv_at hl 0 rfl) ?_
        refine va_get (D := (dC, dI)) (ci := 10) (v := .ref (a 2)) (C := RX9) (T := TX9) (N := 20) hx hb hts hi_dm_X9_evaluate_X9 hown hK hP 0 rfl rfl 7 (by decide) (hts (.fieldLink RX9 20 "TimeMachine$Reader" "argument" "[I") (List.mem_of_getElem? (i := 16) rfl)) (fun _ h9 => h9) rfl dX9_evaluate_55 ?_
        refine lv_iload_n hx hb dX9_evaluate_58 rfl (lv_at hl 2 rfl) ?_
        obtain ⟨i32, h⟩ := nd_ck_e h
        refine va_iald (i := x3) hx hb hK hP 2 1 rfl rfl i32 dX9_evaluate_59 ?_
        refine lv_iload_n hx hb dX9_evaluate_60 rfl (lv_at hl 1 rfl) ?_
        obtain ⟨q33, s34, hq, h⟩ := nd_b2_e h
        have hPc := hP
        have hDc := hD
        have hKc := hK
        have hFc := nd_rs hD hS hA
        refine nd_cVi (As := [.int (sR s0 0 (Int32.toNatClampNeg x3)), .int (sR s0 1 (Int32.toNatClampNeg x3)), .int x2]) (rest := [.ref (a 0)]) (q := q33) (w' := dw_X9 a ac s34) ⟨hx, hb, hml, hown, hts⟩ (fun sz => dm_X9_operand l hlt dC dI a ac n ((sR s0 0 (Int32.toNatClampNeg x3))) ((sR s0 1 (Int32.toNatClampNeg x3))) (x2) s0 hq sz) (cwV 3 hts gi_dm_X9_evaluate_2 rfl rfl rfl (by decide +kernel) ⟨Nat.le_of_ble_eq_true rfl, Nat.le_of_ble_eq_true rfl⟩) hPc hDc hKc hS hA hN (va_recv hKc hPc (ci := 10) (q0 := 0) rfl rfl) rfl hl.1 rfl (Nat.le_of_ble_eq_true rfl) dX9_evaluate_61 (fun H locs hP1 hD1 hk1 hS => ?_)
        have hP := hP1
        have hD := hD1.weaken (fun k q _ h => hFc q.1 h)
        obtain ⟨s37, hq, h⟩ := nd_b1_e h
        have hPc := hP
        have hDc := hD
        have hKc := hK
        have hFc := nd_rs hD hS hA
        refine nd_cVv (As := [.int q33]) (rest := []) (w' := dw_X9 a ac s37) ⟨hx, hb, hml, hown, hts⟩ (fun sz => dm_X9_push l hlt dC dI a ac n (q33) s34 hq sz) (cwV 1 hts gi_dm_X9_evaluate_3 rfl rfl rfl (by decide +kernel) ⟨Nat.le_of_ble_eq_true rfl, Nat.le_of_ble_eq_true rfl⟩) hPc hDc hKc hS hA hN (va_recv hKc hPc (ci := 10) (q0 := 0) rfl rfl) rfl hl.1 rfl (Nat.le_of_ble_eq_true rfl) dX9_evaluate_64 (fun H locs hP1 hD1 hk1 hS => ?_)
        have hP := hP1
        have hD := hD1.weaken (fun k q _ h => hFc q.1 h)
        refine lv_goto (tgt := 181) hx hb dX9_evaluate_67 (by decide) ?_
        exact (db_X9_evaluate_181 C K J16) (x2) (x3) s37 _ _ _ h hP hD hS (lv_sub hl [0, 1, 2] rfl)
set_option maxHeartbeats 40000000 in
set_option maxRecDepth 100000 in
theorem db_X9_evaluate_16 {p : Program} {l : Launch} {e : Env} {s : State} {m : MethodId} {args : Array Value} {below : List Frame} {meth : Method} {c : Code} {Q : State → Prop} {A : Nat → Prop} {dC : Nat → ClassId} {dI : Nat → Nat → Nat} {a : Nat → Nat} {ac : Nat → ClassId} {n : Nat} {r : Int32 × (St)} (C : nd_C p l s m args c A (dC, dI) cX9_evaluate 4 RX9 ow_dm_X9_evaluate (dk_X9 ac)) (K : nd_Ki p l e (headSpec ow_dm_X9_evaluate ({ frames := 2, cells := 0, slots := 0, locals := 41 })).room s m args below meth c Q A (dC, dI) cX9_evaluate .int (St) (dw_X9 a ac) r) (k : Nat) : dj_X9_evaluate_16 p l e s m args below meth c Q A dC dI a ac (df_X9_evaluate_16 n k) r := by
  induction k with
  | zero => intro x2 x3 s0 H locs ls h; exact nomatch (show (none : Option (Int32 × (St))) = some r from h)
  | succ k ih => exact dB_X9_evaluate_16 C K ih
set_option maxHeartbeats 40000000 in
set_option maxRecDepth 100000 in
theorem db_X9_evaluate_0 {p : Program} {l : Launch} {e : Env} {s : State} {m : MethodId} {args : Array Value} {below : List Frame} {meth : Method} {c : Code} {Q : State → Prop} {A : Nat → Prop} {dC : Nat → ClassId} {dI : Nat → Nat → Nat} {a : Nat → Nat} {ac : Nat → ClassId} {n : Nat} {r : Int32 × (St)} (C : nd_C p l s m args c A (dC, dI) cX9_evaluate 4 RX9 ow_dm_X9_evaluate (dk_X9 ac)) (K : nd_Ki p l e (headSpec ow_dm_X9_evaluate ({ frames := 2, cells := 0, slots := 0, locals := 41 })).room s m args below meth c Q A (dC, dI) cX9_evaluate .int (St) (dw_X9 a ac) r) : dj_X9_evaluate_0 p l e s m args below meth c Q A dC dI a ac (df_X9_evaluate_0 n) r := by
  obtain ⟨hlt, hx, hb, hml, hown, hts, hN, hA, hK⟩ := id C
  intro v0 v1 s0 H locs ls h hP hD hS hl
  unfold df_X9_evaluate_0 at h
  refine lv_aload_n hx hb dX9_evaluate_0 rfl (lv_at hl 0 rfl) ?_
  refine lv_iconst (v := 0) hx hb dX9_evaluate_1 (by decide) ?_
  refine va_put (D := (dC, dI)) (ci := 10) (v := .int 0) (ty := .int) (C := RX9) (T := TX9) (N := 20) hx hb hts hi_dm_X9_evaluate_X9 tyX9 tyX9_ok nmX9 hown hK hP hD hS 0 rfl rfl 19 (by decide) (hts (.fieldLink RX9 166 "TimeMachine$Reader" "trouble" "I") (List.mem_of_getElem? (i := 1) rfl)) (fun _ h9 => h9) rfl (by decide +kernel) rfl rfl (Nat.le_of_ble_eq_true rfl) dX9_evaluate_2 (fun H locs hP hD hS => ?_)
  obtain ⟨s1, es1, h⟩ := nd_let_e h
  have hP : va_P (dC, dI) vwCl (dw_X9 a ac s1) H := by rw [es1]; exact hP
  have hD : va_D A (dw_X9 a ac s1) := by rw [es1]; exact hD
  refine lv_aload_n hx hb dX9_evaluate_5 rfl (lv_at hl 0 rfl) ?_
  refine lv_iconst (v := 0) hx hb dX9_evaluate_6 (by decide) ?_
  refine va_put (D := (dC, dI)) (ci := 10) (v := .int 0) (ty := .int) (C := RX9) (T := TX9) (N := 20) hx hb hts hi_dm_X9_evaluate_X9 tyX9 tyX9_ok nmX9 hown hK hP hD hS 0 rfl rfl 10 (by decide) (hts (.fieldLink RX9 112 "TimeMachine$Reader" "top" "I") (List.mem_of_getElem? (i := 2) rfl)) (fun _ h9 => h9) rfl (by decide +kernel) rfl rfl (Nat.le_of_ble_eq_true rfl) dX9_evaluate_7 (fun H locs hP hD hS => ?_)
  obtain ⟨s2, es2, h⟩ := nd_let_e h
  have hP : va_P (dC, dI) vwCl (dw_X9 a ac s2) H := by rw [es2]; exact hP
  have hD : va_D A (dw_X9 a ac s2) := by rw [es2]; exact hD
  refine lv_iconst (v := 0) hx hb dX9_evaluate_10 (by decide) ?_
  refine lv_iload_n hx hb dX9_evaluate_11 rfl (lv_at hl 1 rfl) ?_
  refine va_mmax hx hb (by rw [hml]; exact hl.1.symm) hown (hts (.methodLink RX9 169 Lib.Math.max.name) (List.mem_of_getElem? (i := 3) rfl)) (hts (.static Lib.Math.max.name) (List.mem_of_getElem? (i := 4) rfl)) (hts (.initialized "java/lang/Math") (List.mem_of_getElem? (i := 5) rfl)) (hts (.code Lib.Math.max.name Lib.Math.max.code 2 (some .int)) (List.mem_of_getElem? (i := 6) rfl)) (Nat.le_of_ble_eq_true rfl) (Nat.le_of_ble_eq_true rfl) (by decide +kernel) (by decide +kernel) dX9_evaluate_12 ?_
  refine lv_topi (fun z3 ez3 => ?_)
  have h := nd_at h ez3
  refine lv_istore_n (lv' := [(3, .int z3), (0, .ref (a 0)), (1, .int v0), (2, .int v1)]) hx hb dX9_evaluate_15 rfl hl (by decide) rfl (fun ls hl => ?_)
  exact (db_X9_evaluate_16 C K n) (v1) (z3) s2 _ _ _ h hP hD hS (lv_sub hl [1, 3, 0] rfl)
set_option maxHeartbeats 40000000 in
set_option maxRecDepth 100000 in
theorem dm_X9_evaluate (l : Launch) (hlt : l.stackTraces = false) (dC : Nat → ClassId) (dI : Nat → Nat → Nat) (a : Nat → Nat) (ac : Nat → ClassId) (n : Nat) (v0 : Int32) (v1 : Int32) (s0 : St) {r : Int32 × (St)} (h : df_X9_evaluate n v0 v1 s0 = some r) (sz : Nat) : Met l yX9_evaluate ow_dm_X9_evaluate ({ frames := 2, cells := 0, slots := 0, locals := 41 }) (va_Pc [.ref (a 0), .int v0, .int v1] (fun U => U.heap.size = sz ∧ va_P (dC, dI) vwCl (dw_X9 a ac s0) U.heap ∧ va_K (dC, dI) vwCl (dk_X9 ac) U ∧ va_D (fun _ => True) (dw_X9 a ac s0) ∧ nv_E dI (va_A (dw_X9 a ac s0) sz) U)) (va_Qi (fun x _ => x = r.1) (fun (_ : Unit) t => va_P (dC, dI) vwCl (dw_X9 a ac r.2) t.heap ∧ va_K (dC, dI) vwCl (dk_X9 ac) t ∧ va_D (va_A (dw_X9 a ac s0) sz) (dw_X9 a ac r.2)) (va_A (dw_X9 a ac s0) sz)) 0 0 (va_A (dw_X9 a ac s0) sz) := by
  refine Met.ofW (cc := cX9_evaluate) (maxL := 4) (ret := (some .int)) (by decide) rfl ?_
  intro p e s m args below meth c s₁ B hml hv
  obtain ⟨rfl, hsz, hP, hK, hD0, hN⟩ := hv
  have hx := B.exec
  have hb := B.bytes
  have hr := B.returns
  have hts := atoms_spec (ws := ow_dm_X9_evaluate) B.pre
  have hown : s.vm.findClass RX9 = some m.cls := findClass_of_methodNamed B.named
  have hlocks := B.notSynchronized
  subst hsz
  have hD := hD0.self (sz := s.heap.size)
  generalize hAe : va_A (dw_X9 a ac s0) s.heap.size = A at hD hN ⊢
  have hA : ∀ q : Nat, s.heap.size ≤ q → A q := fun q h => by rw [← hAe]; exact Or.inr h
  have hl := lv_entry ([.ref (a 0), .int v0, .int v1]) (n := 4) (Nat.le_of_ble_eq_true rfl)
  rw [lg_entry_eq]
  generalize (lg_sl ([.ref (a 0), .int v0, .int v1]) ++ List.replicate (4 - (lg_sl ([.ref (a 0), .int v0, .int v1])).length) Slot.unset).toArray = ls at hl ⊢
  have hl : lv_has ls 4 [(0, .ref (a 0)), (1, .int v0), (2, .int v1)] := hl
  exact db_X9_evaluate_0 (dC := dC) (dI := dI) (a := a) (ac := ac) (n := n) (r := r) ⟨hlt, hx, hb, hml, hown, hts, hN, hA, hK⟩ (fun pc v τ H locs ls d z er hP hD hS => by subst er; exact W.zret (v := v) hx hb hr z (fun t ht hW => ⟨⟨v, (), rfl, rfl, by rw [ht]; exact hP, va_K.moved hW.alike hK, hD⟩, hS.F ht⟩) hS.2.2 d) v0 v1 s0 _ _ _ h hP hD va_S.rf (lv_sub hl [0, 1, 2] rfl)
def ow_dm_X1_growingLetter : List Cond := Cond.code yX1_growingLetter cX1_growingLetter 2 (some .char) :: ([] ++ [])
theorem gd_dm_X1_growingLetter : ∀ w ∈ ow_dm_X1_growingLetter, (w.onTables && w.keeps) = true ∨ ∃ ty, w = Cond.arrayClass ty := List.forall_mem_cons.mpr ⟨good_of_word rfl, List.forall_mem_append.mpr ⟨fun w h => good_of_word (List.all_eq_true.mp (by decide +kernel) w h), fun _ h => nomatch h⟩⟩
def dj_X1_growingLetter_40 (p : Program) (l : Launch) (e : Env) (s : State) (m : MethodId) (args : Array Value) (below : List Frame) (meth : Method) (c : Code) (Q : State → Prop) (A : Nat → Prop) (dC : Nat → ClassId) (dI : Nat → Nat → Nat) (a : Nat → Nat) (ac : Nat → ClassId) (g : Int32 → (Unit) → Option (Int32 × (Unit))) (r : Int32 × (Unit)) : Prop := ∀ (y0 : Int32) (s0 : Unit) (H : Heap) (locs : List Loc) (ls : Array Slot), g y0 s0 = some r → va_P (dC, dI) vwCl (dw_P a ac s0) H → va_D A (dw_P a ac s0) → va_S A s.heap H locs → lv_has ls 2 [] → W p l e (headSpec ow_dm_X1_growingLetter ({ frames := 0, cells := 0, slots := 0, locals := 0 })).room s m args below meth c H locs 0 0 Q (F0 m 40 ls [.int y0])
def dj_X1_growingLetter_17 (p : Program) (l : Launch) (e : Env) (s : State) (m : MethodId) (args : Array Value) (below : List Frame) (meth : Method) (c : Code) (Q : State → Prop) (A : Nat → Prop) (dC : Nat → ClassId) (dI : Nat → Nat → Nat) (a : Nat → Nat) (ac : Nat → ClassId) (g : Int32 → (Unit) → Option (Int32 × (Unit))) (r : Int32 × (Unit)) : Prop := ∀ (y0 : Int32) (s0 : Unit) (H : Heap) (locs : List Loc) (ls : Array Slot), g y0 s0 = some r → va_P (dC, dI) vwCl (dw_P a ac s0) H → va_D A (dw_P a ac s0) → va_S A s.heap H locs → lv_has ls 2 [] → W p l e (headSpec ow_dm_X1_growingLetter ({ frames := 0, cells := 0, slots := 0, locals := 0 })).room s m args below meth c H locs 0 0 Q (F0 m 17 ls [.int y0])
def dj_X1_growingLetter_0 (p : Program) (l : Launch) (e : Env) (s : State) (m : MethodId) (args : Array Value) (below : List Frame) (meth : Method) (c : Code) (Q : State → Prop) (A : Nat → Prop) (dC : Nat → ClassId) (dI : Nat → Nat → Nat) (a : Nat → Nat) (ac : Nat → ClassId) (g : Int32 → Int32 → (Unit) → Option (Int32 × (Unit))) (r : Int32 × (Unit)) : Prop := ∀ (v0 : Int32) (v1 : Int32) (s0 : Unit) (H : Heap) (locs : List Loc) (ls : Array Slot), g v0 v1 s0 = some r → va_P (dC, dI) vwCl (dw_P a ac s0) H → va_D A (dw_P a ac s0) → va_S A s.heap H locs → lv_has ls 2 [(0, .int v0), (1, .int v1)] → W p l e (headSpec ow_dm_X1_growingLetter ({ frames := 0, cells := 0, slots := 0, locals := 0 })).room s m args below meth c H locs 0 0 Q (F0 m 0 ls [])
set_option maxHeartbeats 40000000 in
set_option maxRecDepth 100000 in
theorem db_X1_growingLetter_40 {p : Program} {l : Launch} {e : Env} {s : State} {m : MethodId} {args : Array Value} {below : List Frame} {meth : Method} {c : Code} {Q : State → Prop} {A : Nat → Prop} {dC : Nat → ClassId} {dI : Nat → Nat → Nat} {a : Nat → Nat} {ac : Nat → ClassId} {n : Nat} {r : Int32 × (Unit)} (C : nd_C p l s m args c A (dC, dI) cX1_growingLetter 2 RX1 ow_dm_X1_growingLetter (dk_P ac)) (K : nd_Ki p l e (headSpec ow_dm_X1_growingLetter ({ frames := 0, cells := 0, slots := 0, locals := 0 })).room s m args below meth c Q A (dC, dI) cX1_growingLetter .char (Unit) (dw_P a ac) r) : dj_X1_growingLetter_40 p l e s m args below meth c Q A dC dI a ac (df_X1_growingLetter_40 n) r := by
  obtain ⟨hlt, hx, hb, hml, hown, hts, hN, hA, hK⟩ := id C
  intro y0 s0 H locs ls h hP hD hS hl
  unfold df_X1_growingLetter_40 at h
  obtain ⟨n4, h⟩ := nd_z_e ⟨_, rfl⟩ h
  exact K _ _ _ _ _ _ dX1_growingLetter_40 n4 (Option.some.inj h).symm hP hD hS
set_option maxHeartbeats 40000000 in
set_option maxRecDepth 100000 in
theorem db_X1_growingLetter_17 {p : Program} {l : Launch} {e : Env} {s : State} {m : MethodId} {args : Array Value} {below : List Frame} {meth : Method} {c : Code} {Q : State → Prop} {A : Nat → Prop} {dC : Nat → ClassId} {dI : Nat → Nat → Nat} {a : Nat → Nat} {ac : Nat → ClassId} {n : Nat} {r : Int32 × (Unit)} (C : nd_C p l s m args c A (dC, dI) cX1_growingLetter 2 RX1 ow_dm_X1_growingLetter (dk_P ac)) (K : nd_Ki p l e (headSpec ow_dm_X1_growingLetter ({ frames := 0, cells := 0, slots := 0, locals := 0 })).room s m args below meth c Q A (dC, dI) cX1_growingLetter .char (Unit) (dw_P a ac) r) : dj_X1_growingLetter_17 p l e s m args below meth c Q A dC dI a ac (df_X1_growingLetter_17 n) r := by
  obtain ⟨hlt, hx, hb, hml, hown, hts, hN, hA, hK⟩ := id C
  intro y0 s0 H locs ls h hP hD hS hl
  unfold df_X1_growingLetter_17 at h
  obtain ⟨n6, h⟩ := nd_z_e ⟨_, rfl⟩ h
  exact K _ _ _ _ _ _ dX1_growingLetter_17 n6 (Option.some.inj h).symm hP hD hS
set_option maxHeartbeats 40000000 in
set_option maxRecDepth 100000 in
theorem db_X1_growingLetter_0 {p : Program} {l : Launch} {e : Env} {s : State} {m : MethodId} {args : Array Value} {below : List Frame} {meth : Method} {c : Code} {Q : State → Prop} {A : Nat → Prop} {dC : Nat → ClassId} {dI : Nat → Nat → Nat} {a : Nat → Nat} {ac : Nat → ClassId} {n : Nat} {r : Int32 × (Unit)} (C : nd_C p l s m args c A (dC, dI) cX1_growingLetter 2 RX1 ow_dm_X1_growingLetter (dk_P ac)) (K : nd_Ki p l e (headSpec ow_dm_X1_growingLetter ({ frames := 0, cells := 0, slots := 0, locals := 0 })).room s m args below meth c Q A (dC, dI) cX1_growingLetter .char (Unit) (dw_P a ac) r) : dj_X1_growingLetter_0 p l e s m args below meth c Q A dC dI a ac (df_X1_growingLetter_0 n) r := by
  obtain ⟨hlt, hx, hb, hml, hown, hts, hN, hA, hK⟩ := id C
  intro v0 v1 s0 H locs ls h hP hD hS hl
  unfold df_X1_growingLetter_0 at h
  refine lv_iload_n hx hb dX1_growingLetter_0 rfl (lv_at hl 0 rfl) ?_
  refine lv_iconst (v := 1) hx hb dX1_growingLetter_1 (by decide) ?_
  refine lv_icmp_ne (tgt := 18) hx hb dX1_growingLetter_2 (by decide) (fun c1 => ?_) (fun c1 => ?_)
  · have h := nd_neg h c1
    refine lv_iload_n hx hb dX1_growingLetter_18 rfl (lv_at hl 1 rfl) ?_
    refine lv_iconst (v := 2) hx hb dX1_growingLetter_19 (by decide) ?_
    refine lv_icmp_ne (tgt := 28) hx hb dX1_growingLetter_20 (by decide) (fun c2 => ?_) (fun c2 => ?_)
    · have h := nd_neg h c2
      refine lv_iload_n hx hb dX1_growingLetter_28 rfl (lv_at hl 1 rfl) ?_
      refine lv_iconst (v := 4) hx hb dX1_growingLetter_29 (by decide) ?_
      refine lv_icmp_ne (tgt := 38) hx hb dX1_growingLetter_30 (by decide) (fun c3 => ?_) (fun c3 => ?_)
      · have h := nd_neg h c3
        refine lv_bipush (v := 74) hx hb dX1_growingLetter_38 (by decide) ?_
        exact (db_X1_growingLetter_40 C K) (74) s0 _ _ _ h hP hD hS (lv_sub hl [] rfl)
      · have h := nd_pos h c3
        refine lv_bipush (v := 84) hx hb dX1_growingLetter_33 (by decide) ?_
        refine lv_goto (tgt := 40) hx hb dX1_growingLetter_35 (by decide) ?_
        exact (db_X1_growingLetter_40 C K) (84) s0 _ _ _ h hP hD hS (lv_sub hl [] rfl)
    · have h := nd_pos h c2
      refine lv_bipush (v := 76) hx hb dX1_growingLetter_23 (by decide) ?_
      refine lv_goto (tgt := 40) hx hb dX1_growingLetter_25 (by decide) ?_
      exact (db_X1_growingLetter_40 C K) (76) s0 _ _ _ h hP hD hS (lv_sub hl [] rfl)
  · have h := nd_pos h c1
    refine lv_iload_n hx hb dX1_growingLetter_5 rfl (lv_at hl 1 rfl) ?_
    refine lv_iconst (v := 2) hx hb dX1_growingLetter_6 (by decide) ?_
    refine lv_icmp_ne (tgt := 15) hx hb dX1_growingLetter_7 (by decide) (fun c5 => ?_) (fun c5 => ?_)
    · have h := nd_neg h c5
      refine lv_bipush (v := 74) hx hb dX1_growingLetter_15 (by decide) ?_
      exact (db_X1_growingLetter_17 C K) (74) s0 _ _ _ h hP hD hS (lv_sub hl [] rfl)
    · have h := nd_pos h c5
      refine lv_bipush (v := 75) hx hb dX1_growingLetter_10 (by decide) ?_
      refine lv_goto (tgt := 17) hx hb dX1_growingLetter_12 (by decide) ?_
      exact (db_X1_growingLetter_17 C K) (75) s0 _ _ _ h hP hD hS (lv_sub hl [] rfl)
set_option maxHeartbeats 40000000 in
set_option maxRecDepth 100000 in
theorem dm_X1_growingLetter (l : Launch) (hlt : l.stackTraces = false) (dC : Nat → ClassId) (dI : Nat → Nat → Nat) (a : Nat → Nat) (ac : Nat → ClassId) (n : Nat) (v0 : Int32) (v1 : Int32) (s0 : Unit) {r : Int32 × (Unit)} (h : df_X1_growingLetter n v0 v1 s0 = some r) (sz : Nat) : Met l yX1_growingLetter ow_dm_X1_growingLetter ({ frames := 0, cells := 0, slots := 0, locals := 0 }) (va_Pc [.int v0, .int v1] (fun U => U.heap.size = sz ∧ va_P (dC, dI) vwCl (dw_P a ac s0) U.heap ∧ va_K (dC, dI) vwCl (dk_P ac) U ∧ va_D (fun _ => True) (dw_P a ac s0) ∧ nv_E dI (va_A (dw_P a ac s0) sz) U)) (va_Qi (fun x _ => x = r.1) (fun (_ : Unit) t => va_P (dC, dI) vwCl (dw_P a ac r.2) t.heap ∧ va_K (dC, dI) vwCl (dk_P ac) t ∧ va_D (va_A (dw_P a ac s0) sz) (dw_P a ac r.2)) (va_A (dw_P a ac s0) sz)) 0 0 (va_A (dw_P a ac s0) sz) := by
  refine Met.ofW (cc := cX1_growingLetter) (maxL := 2) (ret := (some .char)) (by decide) rfl ?_
  intro p e s m args below meth c s₁ B hml hv
  obtain ⟨rfl, hsz, hP, hK, hD0, hN⟩ := hv
  have hx := B.exec
  have hb := B.bytes
  have hr := B.returns
  have hts := atoms_spec (ws := ow_dm_X1_growingLetter) B.pre
  have hown : s.vm.findClass RX1 = some m.cls := findClass_of_methodNamed B.named
  have hlocks := B.notSynchronized
  subst hsz
  have hD := hD0.self (sz := s.heap.size)
  generalize hAe : va_A (dw_P a ac s0) s.heap.size = A at hD hN ⊢
  have hA : ∀ q : Nat, s.heap.size ≤ q → A q := fun q h => by rw [← hAe]; exact Or.inr h
  have hl := lv_entry ([.int v0, .int v1]) (n := 2) (Nat.le_of_ble_eq_true rfl)
  rw [lg_entry_eq]
  generalize (lg_sl ([.int v0, .int v1]) ++ List.replicate (2 - (lg_sl ([.int v0, .int v1])).length) Slot.unset).toArray = ls at hl ⊢
  have hl : lv_has ls 2 [(0, .int v0), (1, .int v1)] := hl
  exact db_X1_growingLetter_0 (dC := dC) (dI := dI) (a := a) (ac := ac) (n := n) (r := r) ⟨hlt, hx, hb, hml, hown, hts, hN, hA, hK⟩ (fun pc v τ H locs ls d z er hP hD hS => by subst er; exact W.zret (v := v) hx hb hr z (fun t ht hW => ⟨⟨v, (), rfl, rfl, by rw [ht]; exact hP, va_K.moved hW.alike hK, hD⟩, hS.F ht⟩) hS.2.2 d) v0 v1 s0 _ _ _ h hP hD va_S.rf (lv_sub hl [0, 1] rfl)
def ow_dm_X1_grow : List Cond := Cond.code yX1_grow cX1_grow 7 (some .boolean) :: ([Cond.fieldLink RX1 65 "TimeMachine$Assembler" "statements" "I", Cond.fieldLink RX1 19 "TimeMachine$Assembler" "statement" "[I", Cond.fieldLink RX1 12 "TimeMachine$Assembler" "reader" "LTimeMachine$Reader;", Cond.methodLink RX1 220 yX9_evaluate, Cond.instanceMethod yX9_evaluate, Cond.selects RX9 yX9_evaluate yX9_evaluate, Cond.initialized RX9, Cond.fieldLink RX1 223 "TimeMachine$Reader" "trouble" "I", Cond.methodLink RX1 296 yX1_growingLetter, Cond.static yX1_growingLetter, Cond.initialized RX1, Cond.methodLink RX1 257 yX7_fits, Cond.static yX7_fits, Cond.initialized RX7] ++ (u_ws RX1 TX1 13 ++ (u_ws RX9 TX9 20 ++ (ow_dm_X9_evaluate ++ (ow_dm_X1_growingLetter ++ (ow_dm_X7_fits ++ []))))))
theorem gd_dm_X1_grow : ∀ w ∈ ow_dm_X1_grow, (w.onTables && w.keeps) = true ∨ ∃ ty, w = Cond.arrayClass ty := List.forall_mem_cons.mpr ⟨good_of_word rfl, List.forall_mem_append.mpr ⟨fun w h => good_of_word (List.all_eq_true.mp (by decide +kernel) w h), List.forall_mem_append.mpr ⟨gu_X1, List.forall_mem_append.mpr ⟨gu_X9, List.forall_mem_append.mpr ⟨gd_dm_X9_evaluate, List.forall_mem_append.mpr ⟨gd_dm_X1_growingLetter, List.forall_mem_append.mpr ⟨gd_dm_X7_fits, fun _ h => nomatch h⟩⟩⟩⟩⟩⟩⟩
theorem hi_dm_X1_grow_X1 : ∀ w ∈ u_ws RX1 TX1 13, w ∈ ow_dm_X1_grow := fun w h => List.mem_cons_of_mem _ (List.mem_append_right _ (List.mem_append_left _ h))
theorem hi_dm_X1_grow_X9 : ∀ w ∈ u_ws RX9 TX9 20, w ∈ ow_dm_X1_grow := fun w h => List.mem_cons_of_mem _ (List.mem_append_right _ (List.mem_append_right _ (List.mem_append_left _ h)))
theorem gi_dm_X1_grow_0 : GoodIn ow_dm_X1_grow (wsV RX1 220 RX9 yX9_evaluate ow_dm_X9_evaluate) := goodIn_app (goodIn_of _ (by decide +kernel)) (fun w h => ⟨List.mem_cons_of_mem _ (List.mem_append_right _ (List.mem_append_right _ (List.mem_append_right _ (List.mem_append_left _ h)))), gd_dm_X9_evaluate w h⟩)
theorem gi_dm_X1_grow_1 : GoodIn ow_dm_X1_grow (wsS RX1 296 yX1_growingLetter ow_dm_X1_growingLetter) := goodIn_app (goodIn_of _ (by decide +kernel)) (fun w h => ⟨List.mem_cons_of_mem _ (List.mem_append_right _ (List.mem_append_right _ (List.mem_append_right _ (List.mem_append_right _ (List.mem_append_left _ h))))), gd_dm_X1_growingLetter w h⟩)
theorem gi_dm_X1_grow_2 : GoodIn ow_dm_X1_grow (va_wsS RX1 257 yX7_fits ow_dm_X7_fits) := goodIn_app (goodIn_of _ (by decide +kernel)) (fun w h => ⟨List.mem_cons_of_mem _ (List.mem_append_right _ (List.mem_append_right _ (List.mem_append_right _ (List.mem_append_right _ (List.mem_append_right _ (List.mem_append_left _ h)))))), gd_dm_X7_fits w h⟩)
def dj_X1_grow_136 (p : Program) (l : Launch) (e : Env) (s : State) (m : MethodId) (args : Array Value) (below : List Frame) (meth : Method) (c : Code) (Q : State → Prop) (A : Nat → Prop) (dC : Nat → ClassId) (dI : Nat → Nat → Nat) (a : Nat → Nat) (ac : Nat → ClassId) (g : Int32 → Int32 → (St × (St)) → Option (Int32 × (St × (St)))) (r : Int32 × (St × (St))) : Prop := ∀ (x1 : Int32) (x2 : Int32) (s0 : St × (St)) (H : Heap) (locs : List Loc) (ls : Array Slot), g x1 x2 s0 = some r → va_P (dC, dI) vwCl (dw_X1 a ac s0) H → va_D A (dw_X1 a ac s0) → va_S A s.heap H locs → lv_has ls 7 [(0, .ref (a 0)), (1, .int x1), (2, .int x2)] → W p l e (headSpec ow_dm_X1_grow ({ frames := 3, cells := 0, slots := 0, locals := 64 })).room s m args below meth c H locs 0 0 Q (F0 m 136 ls [])
def dj_X1_grow_62 (p : Program) (l : Launch) (e : Env) (s : State) (m : MethodId) (args : Array Value) (below : List Frame) (meth : Method) (c : Code) (Q : State → Prop) (A : Nat → Prop) (dC : Nat → ClassId) (dI : Nat → Nat → Nat) (a : Nat → Nat) (ac : Nat → ClassId) (g : Int32 → Int32 → Int32 → Int32 → Int32 → (St × (St)) → Option (Int32 × (St × (St)))) (r : Int32 × (St × (St))) : Prop := ∀ (x1 : Int32) (x2 : Int32) (x3 : Int32) (x4 : Int32) (x5 : Int32) (s0 : St × (St)) (H : Heap) (locs : List Loc) (ls : Array Slot), g x1 x2 x3 x4 x5 s0 = some r → va_P (dC, dI) vwCl (dw_X1 a ac s0) H → va_D A (dw_X1 a ac s0) → va_S A s.heap H locs → lv_has ls 7 [(0, .ref (a 0)), (1, .int x1), (2, .int x2), (3, .int x3), (4, .int x4), (5, .int x5)] → W p l e (headSpec ow_dm_X1_grow ({ frames := 3, cells := 0, slots := 0, locals := 64 })).room s m args below meth c H locs 0 0 Q (F0 m 62 ls [])
def dj_X1_grow_49 (p : Program) (l : Launch) (e : Env) (s : State) (m : MethodId) (args : Array Value) (below : List Frame) (meth : Method) (c : Code) (Q : State → Prop) (A : Nat → Prop) (dC : Nat → ClassId) (dI : Nat → Nat → Nat) (a : Nat → Nat) (ac : Nat → ClassId) (g : Int32 → Int32 → Int32 → Int32 → Int32 → (St × (St)) → Option (Int32 × (St × (St)))) (r : Int32 × (St × (St))) : Prop := ∀ (x1 : Int32) (x2 : Int32) (x3 : Int32) (x4 : Int32) (x5 : Int32) (s0 : St × (St)) (H : Heap) (locs : List Loc) (ls : Array Slot), g x1 x2 x3 x4 x5 s0 = some r → va_P (dC, dI) vwCl (dw_X1 a ac s0) H → va_D A (dw_X1 a ac s0) → va_S A s.heap H locs → lv_has ls 7 [(0, .ref (a 0)), (1, .int x1), (2, .int x2), (3, .int x3), (4, .int x4), (5, .int x5)] → W p l e (headSpec ow_dm_X1_grow ({ frames := 3, cells := 0, slots := 0, locals := 64 })).room s m args below meth c H locs 0 0 Q (F0 m 49 ls [])
def dj_X1_grow_4 (p : Program) (l : Launch) (e : Env) (s : State) (m : MethodId) (args : Array Value) (below : List Frame) (meth : Method) (c : Code) (Q : State → Prop) (A : Nat → Prop) (dC : Nat → ClassId) (dI : Nat → Nat → Nat) (a : Nat → Nat) (ac : Nat → ClassId) (g : Int32 → Int32 → (St × (St)) → Option (Int32 × (St × (St)))) (r : Int32 × (St × (St))) : Prop := ∀ (x1 : Int32) (x2 : Int32) (s0 : St × (St)) (H : Heap) (locs : List Loc) (ls : Array Slot), g x1 x2 s0 = some r → va_P (dC, dI) vwCl (dw_X1 a ac s0) H → va_D A (dw_X1 a ac s0) → va_S A s.heap H locs → lv_has ls 7 [(0, .ref (a 0)), (1, .int x1), (2, .int x2)] → W p l e (headSpec ow_dm_X1_grow ({ frames := 3, cells := 0, slots := 0, locals := 64 })).room s m args below meth c H locs 0 0 Q (F0 m 4 ls [])
def dj_X1_grow_0 (p : Program) (l : Launch) (e : Env) (s : State) (m : MethodId) (args : Array Value) (below : List Frame) (meth : Method) (c : Code) (Q : State → Prop) (A : Nat → Prop) (dC : Nat → ClassId) (dI : Nat → Nat → Nat) (a : Nat → Nat) (ac : Nat → ClassId) (g : (St × (St)) → Option (Int32 × (St × (St)))) (r : Int32 × (St × (St))) : Prop := ∀ (s0 : St × (St)) (H : Heap) (locs : List Loc) (ls : Array Slot), g s0 = some r → va_P (dC, dI) vwCl (dw_X1 a ac s0) H → va_D A (dw_X1 a ac s0) → va_S A s.heap H locs → lv_has ls 7 [(0, .ref (a 0))] → W p l e (headSpec ow_dm_X1_grow ({ frames := 3, cells := 0, slots := 0, locals := 64 })).room s m args below meth c H locs 0 0 Q (F0 m 0 ls [])
set_option maxHeartbeats 40000000 in
set_option maxRecDepth 100000 in
theorem db_X1_grow_136 {p : Program} {l : Launch} {e : Env} {s : State} {m : MethodId} {args : Array Value} {below : List Frame} {meth : Method} {c : Code} {Q : State → Prop} {A : Nat → Prop} {dC : Nat → ClassId} {dI : Nat → Nat → Nat} {a : Nat → Nat} {ac : Nat → ClassId} {n : Nat} {r : Int32 × (St × (St))} (C : nd_C p l s m args c A (dC, dI) cX1_grow 7 RX1 ow_dm_X1_grow (dk_X1 ac)) (K : nd_Ki p l e (headSpec ow_dm_X1_grow ({ frames := 3, cells := 0, slots := 0, locals := 64 })).room s m args below meth c Q A (dC, dI) cX1_grow .boolean (St × (St)) (dw_X1 a ac) r) {g4 : Int32 → Int32 → (St × (St)) → Option (Int32 × (St × (St)))} (J4 : dj_X1_grow_4 p l e s m args below meth c Q A dC dI a ac g4 r) : dj_X1_grow_136 p l e s m args below meth c Q A dC dI a ac (df_X1_grow_136 n g4) r := by
  obtain ⟨hlt, hx, hb, hml, hown, hts, hN, hA, hK⟩ := id C
  intro x1 x2 s0 H locs ls h hP hD hS hl
  unfold df_X1_grow_136 at h
  obtain ⟨z10, ez10, h⟩ := nd_let_e h
  refine lv_iinc (v := z10) (lv' := [(2, .int z10), (0, .ref (a 0)), (1, .int x1)]) hx hb dX1_grow_136 hl (k := 2) rfl (by rw [ez10]) (by decide) rfl (fun ls hl => ?_)
  refine lv_goto (tgt := 4) hx hb dX1_grow_139 (by decide) ?_
  exact (J4) (x1) (z10) s0 _ _ _ h hP hD hS (lv_sub hl [1, 2, 0] rfl)
set_option maxHeartbeats 40000000 in
set_option maxRecDepth 100000 in
theorem db_X1_grow_62 {p : Program} {l : Launch} {e : Env} {s : State} {m : MethodId} {args : Array Value} {below : List Frame} {meth : Method} {c : Code} {Q : State → Prop} {A : Nat → Prop} {dC : Nat → ClassId} {dI : Nat → Nat → Nat} {a : Nat → Nat} {ac : Nat → ClassId} {n : Nat} {r : Int32 × (St × (St))} (C : nd_C p l s m args c A (dC, dI) cX1_grow 7 RX1 ow_dm_X1_grow (dk_X1 ac)) (K : nd_Ki p l e (headSpec ow_dm_X1_grow ({ frames := 3, cells := 0, slots := 0, locals := 64 })).room s m args below meth c Q A (dC, dI) cX1_grow .boolean (St × (St)) (dw_X1 a ac) r) {g4 : Int32 → Int32 → (St × (St)) → Option (Int32 × (St × (St)))} (J4 : dj_X1_grow_4 p l e s m args below meth c Q A dC dI a ac g4 r) : dj_X1_grow_62 p l e s m args below meth c Q A dC dI a ac (df_X1_grow_62 n g4) r := by
  obtain ⟨hlt, hx, hb, hml, hown, hts, hN, hA, hK⟩ := id C
  intro x1 x2 x3 x4 x5 s0 H locs ls h hP hD hS hl
  unfold df_X1_grow_62 at h
  refine lv_aload_n hx hb dX1_grow_62 rfl (lv_at hl 0 rfl) ?_
  refine va_get (D := (dC, dI)) (ci := 2) (v := .ref (a 3)) (C := RX1) (T := TX1) (N := 13) hx hb hts hi_dm_X1_grow_X1 hown hK hP 0 rfl rfl 0 (by decide) (hts (.fieldLink RX1 12 "TimeMachine$Assembler" "reader" "LTimeMachine$Reader;") (List.mem_of_getElem? (i := 3) rfl)) (fun _ h9 => h9) rfl dX1_grow_63 ?_
  refine lv_aload_n hx hb dX1_grow_66 rfl (lv_at hl 0 rfl) ?_
  refine va_get (D := (dC, dI)) (ci := 2) (v := .ref (a 1)) (C := RX1) (T := TX1) (N := 13) hx hb hts hi_dm_X1_grow_X1 hown hK hP 0 rfl rfl 1 (by decide) (hts (.fieldLink RX1 19 "TimeMachine$Assembler" "statement" "[I") (List.mem_of_getElem? (i := 2) rfl)) (fun _ h9 => h9) rfl dX1_grow_67 ?_
  refine lv_iload_n hx hb dX1_grow_70 rfl (lv_at hl 3 rfl) ?_
  refine lv_bipush (v := 6) hx hb dX1_grow_71 (by decide) ?_
  refine lv_iadd hx hb dX1_grow_73 ?_
  obtain ⟨i12, h⟩ := nd_ck_e h
  refine va_iald (i := (x3 + 6)) hx hb hK hP 1 0 rfl rfl i12 dX1_grow_74 ?_
  refine lv_aload_n hx hb dX1_grow_75 rfl (lv_at hl 0 rfl) ?_
  refine va_get (D := (dC, dI)) (ci := 2) (v := .ref (a 1)) (C := RX1) (T := TX1) (N := 13) hx hb hts hi_dm_X1_grow_X1 hown hK hP 0 rfl rfl 1 (by decide) (hts (.fieldLink RX1 19 "TimeMachine$Assembler" "statement" "[I") (List.mem_of_getElem? (i := 2) rfl)) (fun _ h9 => h9) rfl dX1_grow_76 ?_
  refine lv_iload_n hx hb dX1_grow_79 rfl (lv_at hl 3 rfl) ?_
  refine lv_iconst (v := 2) hx hb dX1_grow_80 (by decide) ?_
  refine lv_iadd hx hb dX1_grow_81 ?_
  obtain ⟨i13, h⟩ := nd_ck_e h
  refine va_iald (i := (x3 + 2)) hx hb hK hP 1 0 rfl rfl i13 dX1_grow_82 ?_
  obtain ⟨q14, s15, hq, h⟩ := nd_b2_e h
  have hPc := dp_X1_3 hP
  have hDc := dd_X1_3 hD
  have hKc := dy_X1_3 hK
  have hFc := nd_rs hDc hS hA
  have hzA : ∀ q : Nat, H.size ≤ q → A q := fun q h => hA q (Nat.le_trans hS.1 h)
  refine nd_cVi (As := [.int (sR s0.1 0 (Int32.toNatClampNeg (x3 + 6))), .int (sR s0.1 0 (Int32.toNatClampNeg (x3 + 2)))]) (rest := []) (q := q14) (w' := dw_X9 (fun k => a (k + 3)) (fun k => ac (k + 3)) s15) ⟨hx, hb, hml, hown, hts⟩ (fun sz => dm_X9_evaluate l hlt dC dI (fun k => a (k + 3)) (fun k => ac (k + 3)) n ((sR s0.1 0 (Int32.toNatClampNeg (x3 + 6)))) ((sR s0.1 0 (Int32.toNatClampNeg (x3 + 2)))) s0.2 hq sz) (cwV 2 hts gi_dm_X1_grow_0 rfl rfl rfl (by decide +kernel) ⟨Nat.le_of_ble_eq_true rfl, Nat.le_of_ble_eq_true rfl⟩) hPc hDc hKc hS hA hN (va_recv hKc hPc (ci := 10) (q0 := 0) rfl rfl) rfl hl.1 rfl (Nat.le_of_ble_eq_true rfl) dX1_grow_83 (fun H locs hP1 hD1 hk1 hS => ?_)
  obtain ⟨hP, hD⟩ := dn_X1_3 hP hD hzA hk1 hP1 hD1
  obtain ⟨s17, es17, h⟩ := nd_let_e h
  have hP : va_P (dC, dI) vwCl (dw_X1 a ac s17) H := by rw [es17]; exact hP
  have hD : va_D A (dw_X1 a ac s17) := by rw [es17]; exact hD
  refine lv_aload_n hx hb dX1_grow_86 rfl (lv_at hl 0 rfl) ?_
  refine va_get (D := (dC, dI)) (ci := 2) (v := .ref (a 1)) (C := RX1) (T := TX1) (N := 13) hx hb hts hi_dm_X1_grow_X1 hown hK hP 0 rfl rfl 1 (by decide) (hts (.fieldLink RX1 19 "TimeMachine$Assembler" "statement" "[I") (List.mem_of_getElem? (i := 2) rfl)) (fun _ h9 => h9) rfl dX1_grow_87 ?_
  refine lv_iload_n hx hb dX1_grow_90 rfl (lv_at hl 3 rfl) ?_
  refine lv_iconst (v := 2) hx hb dX1_grow_91 (by decide) ?_
  refine lv_iadd hx hb dX1_grow_92 ?_
  obtain ⟨i18, h⟩ := nd_ck_e h
  refine va_iald (i := (x3 + 2)) hx hb hK hP 1 0 rfl rfl i18 dX1_grow_93 ?_
  refine lv_isub hx hb dX1_grow_94 ?_
  refine lv_topi (fun z19 ez19 => ?_)
  have h := nd_at h ez19
  refine lv_istore (lv' := [(6, .int z19), (0, .ref (a 0)), (1, .int x1), (2, .int x2), (3, .int x3), (4, .int x4), (5, .int x5)]) hx hb dX1_grow_95 hl (by decide) rfl (fun ls hl => ?_)
  refine lv_aload_n hx hb dX1_grow_97 rfl (lv_at hl 1 rfl) ?_
  refine va_get (D := (dC, dI)) (ci := 2) (v := .ref (a 3)) (C := RX1) (T := TX1) (N := 13) hx hb hts hi_dm_X1_grow_X1 hown hK hP 0 rfl rfl 0 (by decide) (hts (.fieldLink RX1 12 "TimeMachine$Assembler" "reader" "LTimeMachine$Reader;") (List.mem_of_getElem? (i := 3) rfl)) (fun _ h9 => h9) rfl dX1_grow_98 ?_
  refine va_get (D := (dC, dI)) (ci := 10) (v := .int (sI s17.2 11)) (C := RX9) (T := TX9) (N := 20) hx hb hts hi_dm_X1_grow_X9 hown hK hP 3 rfl rfl 19 (by decide) (hts (.fieldLink RX1 223 "TimeMachine$Reader" "trouble" "I") (List.mem_of_getElem? (i := 8) rfl)) (fun _ h9 => h9) rfl dX1_grow_101 ?_
  refine lv_if_ne (tgt := 136) hx hb dX1_grow_104 (by decide) (fun c20 => ?_) (fun c20 => ?_)
  · have h := nd_neg h c20
    exact (db_X1_grow_136 C K J4) (x1) (x2) s17 _ _ _ h hP hD hS (lv_sub hl [1, 2, 3] rfl)
  · have h := nd_pos h c20
    refine lv_iload hx hb dX1_grow_107 (lv_at hl 5 rfl) ?_
    refine lv_iload hx hb dX1_grow_109 (lv_at hl 6 rfl) ?_
    obtain ⟨q21, s22, hq, h⟩ := nd_b2_e h
    have hPc : va_P (dC, dI) vwCl (dw_P a ac ()) H := nd_p0
    have hDc : va_D A (dw_P a ac ()) := nd_d0
    have hKc : va_K (dC, dI) vwCl (dk_P ac) s := nd_y0 hK
    have hFc : ∀ q, va_A (dw_P a ac ()) H.size q → A q := nd_r0 hS hA
    refine nd_cSi (As := [.int x4, .int x5]) (rest := []) (q := q21) (w' := dw_P a ac s22) ⟨hx, hb, hml, hown, hts⟩ (fun sz => dm_X1_growingLetter l hlt dC dI a ac n (x4) (x5) () hq sz) (cwS 2 hts gi_dm_X1_grow_1 rfl rfl rfl (by decide +kernel) ⟨Nat.le_of_ble_eq_true rfl, Nat.le_of_ble_eq_true rfl⟩) hPc hDc hKc hS hA hN rfl hl.1 rfl (Nat.le_of_ble_eq_true rfl) dX1_grow_111 (fun H locs hP1 hD1 hk1 hS => ?_)
    have hP := nd_n0 hP hk1
    refine lv_iload hx hb dX1_grow_114 (lv_at hl 0 rfl) ?_
    obtain ⟨q24, s25, hq, h⟩ := nd_b2_e h
    have hPc : va_P (dC, dI) vwCl (dw_P a ac ()) H := nd_p0
    have hDc : va_D A (dw_P a ac ()) := nd_d0
    have hKc : va_K (dC, dI) vwCl (dk_P ac) s := nd_y0 hK
    have hFc : ∀ q, va_A (dw_P a ac ()) H.size q → A q := nd_r0 hS hA
    refine nd_cSi (As := [.int q21, .int z19]) (rest := []) (q := q24) (w' := dw_P a ac s25) ⟨hx, hb, hml, hown, hts⟩ (fun sz => dm_X7_fits l hlt dC dI a ac n (q21) (z19) () hq sz) (va_cwS 2 hts gi_dm_X1_grow_2 rfl rfl rfl (by decide +kernel) ⟨Nat.le_of_ble_eq_true rfl, Nat.le_of_ble_eq_true rfl⟩) hPc hDc hKc hS hA hN rfl hl.1 rfl (Nat.le_of_ble_eq_true rfl) dX1_grow_116 (fun H locs hP1 hD1 hk1 hS => ?_)
    have hP := nd_n0 hP hk1
    refine lv_if_ne (tgt := 136) hx hb dX1_grow_119 (by decide) (fun c27 => ?_) (fun c27 => ?_)
    · have h := nd_neg h c27
      exact (db_X1_grow_136 C K J4) (x1) (x2) s17 _ _ _ h hP hD hS (lv_sub hl [1, 2, 3] rfl)
    · have h := nd_pos h c27
      refine lv_aload_n hx hb dX1_grow_122 rfl (lv_at hl 1 rfl) ?_
      refine va_get (D := (dC, dI)) (ci := 2) (v := .ref (a 1)) (C := RX1) (T := TX1) (N := 13) hx hb hts hi_dm_X1_grow_X1 hown hK hP 0 rfl rfl 1 (by decide) (hts (.fieldLink RX1 19 "TimeMachine$Assembler" "statement" "[I") (List.mem_of_getElem? (i := 2) rfl)) (fun _ h9 => h9) rfl dX1_grow_123 ?_
      refine lv_iload_n hx hb dX1_grow_126 rfl (lv_at hl 4 rfl) ?_
      refine lv_iconst (v := 3) hx hb dX1_grow_127 (by decide) ?_
      refine lv_iadd hx hb dX1_grow_128 ?_
      refine lv_iload hx hb dX1_grow_129 (lv_at hl 6 rfl) ?_
      refine lv_iconst (v := 2) hx hb dX1_grow_131 (by decide) ?_
      refine lv_imul hx hb dX1_grow_132 ?_
      obtain ⟨i28, h⟩ := nd_ck_e h
      refine va_iast (i := (x3 + 3)) (x := (x5 * 2)) hx hb hK hP hD hS 1 0 rfl rfl i28 dX1_grow_133 (fun H locs hP hD hS => ?_)
      obtain ⟨s29, es29, h⟩ := nd_let_e h
      have hP : va_P (dC, dI) vwCl (dw_X1 a ac s29) H := by rw [es29]; exact hP
      have hD : va_D A (dw_X1 a ac s29) := by rw [es29]; exact hD
      refine lv_iconst (v := 1) hx hb dX1_grow_134 (by decide) ?_
      refine lv_istore_n (lv' := [(1, .int 1), (6, .int z19), (0, .ref (a 0)), (2, .int x2), (3, .int x3), (4, .int x4), (5, .int x5)]) hx hb dX1_grow_135 rfl hl (by decide) rfl (fun ls hl => ?_)
      exact (db_X1_grow_136 C K J4) (1) (x2) s29 _ _ _ h hP hD hS (lv_sub hl [2, 0, 3] rfl)
set_option maxHeartbeats 40000000 in
set_option maxRecDepth 100000 in
theorem db_X1_grow_49 {p : Program} {l : Launch} {e : Env} {s : State} {m : MethodId} {args : Array Value} {below : List Frame} {meth : Method} {c : Code} {Q : State → Prop} {A : Nat → Prop} {dC : Nat → ClassId} {dI : Nat → Nat → Nat} {a : Nat → Nat} {ac : Nat → ClassId} {n : Nat} {r : Int32 × (St × (St))} (C : nd_C p l s m args c A (dC, dI) cX1_grow 7 RX1 ow_dm_X1_grow (dk_X1 ac)) (K : nd_Ki p l e (headSpec ow_dm_X1_grow ({ frames := 3, cells := 0, slots := 0, locals := 64 })).room s m args below meth c Q A (dC, dI) cX1_grow .boolean (St × (St)) (dw_X1 a ac) r) {g4 : Int32 → Int32 → (St × (St)) → Option (Int32 × (St × (St)))} (J4 : dj_X1_grow_4 p l e s m args below meth c Q A dC dI a ac g4 r) : dj_X1_grow_49 p l e s m args below meth c Q A dC dI a ac (df_X1_grow_49 n g4) r := by
  obtain ⟨hlt, hx, hb, hml, hown, hts, hN, hA, hK⟩ := id C
  intro x1 x2 x3 x4 x5 s0 H locs ls h hP hD hS hl
  unfold df_X1_grow_49 at h
  refine lv_iload hx hb dX1_grow_49 (lv_at hl 4 rfl) ?_
  refine lv_iconst (v := 2) hx hb dX1_grow_51 (by decide) ?_
  refine lv_icmp_ne (tgt := 136) hx hb dX1_grow_52 (by decide) (fun c9 => ?_) (fun c9 => ?_)
  · have h := nd_neg h c9
    exact (db_X1_grow_136 C K J4) (x1) (x2) s0 _ _ _ h hP hD hS (lv_sub hl [0, 1, 2] rfl)
  · have h := nd_pos h c9
    refine lv_iload hx hb dX1_grow_55 (lv_at hl 5 rfl) ?_
    refine lv_bipush (v := 8) hx hb dX1_grow_57 (by decide) ?_
    refine lv_icmp_ge (tgt := 136) hx hb dX1_grow_59 (by decide) (fun c11 => ?_) (fun c11 => ?_)
    · have h := nd_pos h c11
      exact (db_X1_grow_136 C K J4) (x1) (x2) s0 _ _ _ h hP hD hS (lv_sub hl [0, 1, 2] rfl)
    · have h := nd_neg h c11
      exact (db_X1_grow_62 C K J4) (x1) (x2) (x3) (x4) (x5) s0 _ _ _ h hP hD hS (lv_sub hl [0, 1, 2, 3, 4, 5] rfl)
set_option maxHeartbeats 40000000 in
set_option maxRecDepth 100000 in
theorem dB_X1_grow_4 {p : Program} {l : Launch} {e : Env} {s : State} {m : MethodId} {args : Array Value} {below : List Frame} {meth : Method} {c : Code} {Q : State → Prop} {A : Nat → Prop} {dC : Nat → ClassId} {dI : Nat → Nat → Nat} {a : Nat → Nat} {ac : Nat → ClassId} {n : Nat} {r : Int32 × (St × (St))} (C : nd_C p l s m args c A (dC, dI) cX1_grow 7 RX1 ow_dm_X1_grow (dk_X1 ac)) (K : nd_Ki p l e (headSpec ow_dm_X1_grow ({ frames := 3, cells := 0, slots := 0, locals := 64 })).room s m args below meth c Q A (dC, dI) cX1_grow .boolean (St × (St)) (dw_X1 a ac) r) {g4 : Int32 → Int32 → (St × (St)) → Option (Int32 × (St × (St)))} (J4 : dj_X1_grow_4 p l e s m args below meth c Q A dC dI a ac g4 r) : dj_X1_grow_4 p l e s m args below meth c Q A dC dI a ac (dF_X1_grow_4 n g4) r := by
  obtain ⟨hlt, hx, hb, hml, hown, hts, hN, hA, hK⟩ := id C
  intro x1 x2 s0 H locs ls h hP hD hS hl
  unfold dF_X1_grow_4 at h
  refine lv_iload_n hx hb dX1_grow_4 rfl (lv_at hl 2 rfl) ?_
  refine lv_aload_n hx hb dX1_grow_5 rfl (lv_at hl 0 rfl) ?_
  refine va_get (D := (dC, dI)) (ci := 2) (v := .int (sI s0.1 0)) (C := RX1) (T := TX1) (N := 13) hx hb hts hi_dm_X1_grow_X1 hown hK hP 0 rfl rfl 2 (by decide) (hts (.fieldLink RX1 65 "TimeMachine$Assembler" "statements" "I") (List.mem_of_getElem? (i := 1) rfl)) (fun _ h9 => h9) rfl dX1_grow_6 ?_
  refine lv_icmp_ge (tgt := 142) hx hb dX1_grow_9 (by decide) (fun c1 => ?_) (fun c1 => ?_)
  · have h := nd_pos h c1
    refine lv_iload_n hx hb dX1_grow_142 rfl (lv_at hl 1 rfl) ?_
    obtain ⟨n2, h⟩ := nd_z_e ⟨_, rfl⟩ h
    exact K _ _ _ _ _ _ dX1_grow_143 n2 (Option.some.inj h).symm hP hD hS
  · have h := nd_neg h c1
    refine lv_iload_n hx hb dX1_grow_12 rfl (lv_at hl 2 rfl) ?_
    refine lv_bipush (v := 8) hx hb dX1_grow_13 (by decide) ?_
    refine lv_imul hx hb dX1_grow_15 ?_
    refine lv_topi (fun z3 ez3 => ?_)
    have h := nd_at h ez3
    refine lv_istore_n (lv' := [(3, .int z3), (0, .ref (a 0)), (1, .int x1), (2, .int x2)]) hx hb dX1_grow_16 rfl hl (by decide) rfl (fun ls hl => ?_)
    refine lv_aload_n hx hb dX1_grow_17 rfl (lv_at hl 1 rfl) ?_
    refine va_get (D := (dC, dI)) (ci := 2) (v := .ref (a 1)) (C := RX1) (T := TX1) (N := 13) hx hb hts hi_dm_X1_grow_X1 hown hK hP 0 rfl rfl 1 (by decide) (hts (.fieldLink RX1 19 "TimeMachine$Assembler" "statement" "[I") (List.mem_of_getElem? (i := 2) rfl)) (fun _ h9 => h9) rfl dX1_grow_18 ?_
    refine lv_iload_n hx hb dX1_grow_21 rfl (lv_at hl 0 rfl) ?_
    refine lv_iconst (v := 4) hx hb dX1_grow_22 (by decide) ?_
    refine lv_iadd hx hb dX1_grow_23 ?_
    obtain ⟨i4, h⟩ := nd_ck_e h
    refine va_iald (i := (z3 + 4)) hx hb hK hP 1 0 rfl rfl i4 dX1_grow_24 ?_
    refine lv_topi (fun z5 ez5 => ?_)
    have h := nd_at h ez5
    refine lv_istore (lv' := [(4, .int z5), (3, .int z3), (0, .ref (a 0)), (1, .int x1), (2, .int x2)]) hx hb dX1_grow_25 hl (by decide) rfl (fun ls hl => ?_)
    refine lv_aload_n hx hb dX1_grow_27 rfl (lv_at hl 2 rfl) ?_
    refine va_get (D := (dC, dI)) (ci := 2) (v := .ref (a 1)) (C := RX1) (T := TX1) (N := 13) hx hb hts hi_dm_X1_grow_X1 hown hK hP 0 rfl rfl 1 (by decide) (hts (.fieldLink RX1 19 "TimeMachine$Assembler" "statement" "[I") (List.mem_of_getElem? (i := 2) rfl)) (fun _ h9 => h9) rfl dX1_grow_28 ?_
    refine lv_iload_n hx hb dX1_grow_31 rfl (lv_at hl 1 rfl) ?_
    refine lv_iconst (v := 3) hx hb dX1_grow_32 (by decide) ?_
    refine lv_iadd hx hb dX1_grow_33 ?_
    obtain ⟨i6, h⟩ := nd_ck_e h
    refine va_iald (i := (z3 + 3)) hx hb hK hP 1 0 rfl rfl i6 dX1_grow_34 ?_
    refine lv_topi (fun z7 ez7 => ?_)
    have h := nd_at h ez7
    refine lv_istore (lv' := [(5, .int z7), (4, .int z5), (3, .int z3), (0, .ref (a 0)), (1, .int x1), (2, .int x2)]) hx hb dX1_grow_35 hl (by decide) rfl (fun ls hl => ?_)
    refine lv_iload hx hb dX1_grow_37 (lv_at hl 1 rfl) ?_
    refine lv_iconst (v := 1) hx hb dX1_grow_39 (by decide) ?_
    refine lv_icmp_ne (tgt := 49) hx hb dX1_grow_40 (by decide) (fun c8 => ?_) (fun c8 => ?_)
    · have h := nd_neg h c8
      exact (db_X1_grow_49 C K J4) (x1) (x2) (z3) (z5) (z7) s0 _ _ _ h hP hD hS (lv_sub hl [3, 4, 5, 2, 1, 0] rfl)
    · have h := nd_pos h c8
      refine lv_iload hx hb dX1_grow_43 (lv_at hl 0 rfl) ?_
      refine lv_iconst (v := 4) hx hb dX1_grow_45 (by decide) ?_
      refine lv_icmp_lt (tgt := 62) hx hb dX1_grow_46 (by decide) (fun c30 => ?_) (fun c30 => ?_)
      · have h := nd_pos h c30
        exact (db_X1_grow_62 C K J4) (x1) (x2) (z3) (z5) (z7) s0 _ _ _ h hP hD hS (lv_sub hl [3, 4, 5, 2, 1, 0] rfl)
      · have h := nd_neg h c30
        exact (db_X1_grow_49 C K J4) (x1) (x2) (z3) (z5) (z7) s0 _ _ _ h hP hD hS (lv_sub hl [3, 4, 5, 2, 1, 0] rfl)
set_option maxHeartbeats 40000000 in
set_option maxRecDepth 100000 in
theorem db_X1_grow_4 {p : Program} {l : Launch} {e : Env} {s : State} {m : MethodId} {args : Array Value} {below : List Frame} {meth : Method} {c : Code} {Q : State → Prop} {A : Nat → Prop} {dC : Nat → ClassId} {dI : Nat → Nat → Nat} {a : Nat → Nat} {ac : Nat → ClassId} {n : Nat} {r : Int32 × (St × (St))} (C : nd_C p l s m args c A (dC, dI) cX1_grow 7 RX1 ow_dm_X1_grow (dk_X1 ac)) (K : nd_Ki p l e (headSpec ow_dm_X1_grow ({ frames := 3, cells := 0, slots := 0, locals := 64 })).room s m args below meth c Q A (dC, dI) cX1_grow .boolean (St × (St)) (dw_X1 a ac) r) (k : Nat) : dj_X1_grow_4 p l e s m args below meth c Q A dC dI a ac (df_X1_grow_4 n k) r := by
  induction k with
  | zero => intro x1 x2 s0 H locs ls h; exact nomatch (show (none : Option (Int32 × (St × (St)))) = some r from h)
  | succ k ih => exact dB_X1_grow_4 C K ih
set_option maxHeartbeats 40000000 in
set_option maxRecDepth 100000 in
theorem db_X1_grow_0 {p : Program} {l : Launch} {e : Env} {s : State} {m : MethodId} {args : Array Value} {below : List Frame} {meth : Method} {c : Code} {Q : State → Prop} {A : Nat → Prop} {dC : Nat → ClassId} {dI : Nat → Nat → Nat} {a : Nat → Nat} {ac : Nat → ClassId} {n : Nat} {r : Int32 × (St × (St))} (C : nd_C p l s m args c A (dC, dI) cX1_grow 7 RX1 ow_dm_X1_grow (dk_X1 ac)) (K : nd_Ki p l e (headSpec ow_dm_X1_grow ({ frames := 3, cells := 0, slots := 0, locals := 64 })).room s m args below meth c Q A (dC, dI) cX1_grow .boolean (St × (St)) (dw_X1 a ac) r) : dj_X1_grow_0 p l e s m args below meth c Q A dC dI a ac (df_X1_grow_0 n) r := by
  obtain ⟨hlt, hx, hb, hml, hown, hts, hN, hA, hK⟩ := id C
  intro s0 H locs ls h hP hD hS hl
  unfold df_X1_grow_0 at h
  refine lv_iconst (v := 0) hx hb dX1_grow_0 (by decide) ?_
  refine lv_istore_n (lv' := [(1, .int 0), (0, .ref (a 0))]) hx hb dX1_grow_1 rfl hl (by decide) rfl (fun ls hl => ?_)
  refine lv_iconst (v := 0) hx hb dX1_grow_2 (by decide) ?_
  refine lv_istore_n (lv' := [(2, .int 0), (1, .int 0), (0, .ref (a 0))]) hx hb dX1_grow_3 rfl hl (by decide) rfl (fun ls hl => ?_)
  exact (db_X1_grow_4 C K n) (0) (0) s0 _ _ _ h hP hD hS (lv_sub hl [2, 1, 0] rfl)
set_option maxHeartbeats 40000000 in
set_option maxRecDepth 100000 in
theorem dm_X1_grow (l : Launch) (hlt : l.stackTraces = false) (dC : Nat → ClassId) (dI : Nat → Nat → Nat) (a : Nat → Nat) (ac : Nat → ClassId) (n : Nat) (s0 : St × (St)) {r : Int32 × (St × (St))} (h : df_X1_grow n s0 = some r) (sz : Nat) : Met l yX1_grow ow_dm_X1_grow ({ frames := 3, cells := 0, slots := 0, locals := 64 }) (va_Pc [.ref (a 0)] (fun U => U.heap.size = sz ∧ va_P (dC, dI) vwCl (dw_X1 a ac s0) U.heap ∧ va_K (dC, dI) vwCl (dk_X1 ac) U ∧ va_D (fun _ => True) (dw_X1 a ac s0) ∧ nv_E dI (va_A (dw_X1 a ac s0) sz) U)) (va_Qi (fun x _ => x = r.1) (fun (_ : Unit) t => va_P (dC, dI) vwCl (dw_X1 a ac r.2) t.heap ∧ va_K (dC, dI) vwCl (dk_X1 ac) t ∧ va_D (va_A (dw_X1 a ac s0) sz) (dw_X1 a ac r.2)) (va_A (dw_X1 a ac s0) sz)) 0 0 (va_A (dw_X1 a ac s0) sz) := by
  refine Met.ofW (cc := cX1_grow) (maxL := 7) (ret := (some .boolean)) (by decide) rfl ?_
  intro p e s m args below meth c s₁ B hml hv
  obtain ⟨rfl, hsz, hP, hK, hD0, hN⟩ := hv
  have hx := B.exec
  have hb := B.bytes
  have hr := B.returns
  have hts := atoms_spec (ws := ow_dm_X1_grow) B.pre
  have hown : s.vm.findClass RX1 = some m.cls := findClass_of_methodNamed B.named
  have hlocks := B.notSynchronized
  subst hsz
  have hD := hD0.self (sz := s.heap.size)
  generalize hAe : va_A (dw_X1 a ac s0) s.heap.size = A at hD hN ⊢
  have hA : ∀ q : Nat, s.heap.size ≤ q → A q := fun q h => by rw [← hAe]; exact Or.inr h
  have hl := lv_entry ([.ref (a 0)]) (n := 7) (Nat.le_of_ble_eq_true rfl)
  rw [lg_entry_eq]
  generalize (lg_sl ([.ref (a 0)]) ++ List.replicate (7 - (lg_sl ([.ref (a 0)])).length) Slot.unset).toArray = ls at hl ⊢
  have hl : lv_has ls 7 [(0, .ref (a 0))] := hl
  exact db_X1_grow_0 (dC := dC) (dI := dI) (a := a) (ac := ac) (n := n) (r := r) ⟨hlt, hx, hb, hml, hown, hts, hN, hA, hK⟩ (fun pc v τ H locs ls d z er hP hD hS => by subst er; exact W.zret (v := v) hx hb hr z (fun t ht hW => ⟨⟨v, (), rfl, rfl, by rw [ht]; exact hP, va_K.moved hW.alike hK, hD⟩, hS.F ht⟩) hS.2.2 d) s0 _ _ _ h hP hD va_S.rf (lv_sub hl [0] rfl)
def ow_dm_X1_layOut : List Cond := Cond.code yX1_layOut cX1_layOut 3 none :: ([Cond.fieldLink RX1 65 "TimeMachine$Assembler" "statements" "I", Cond.methodLink RX1 268 yX1_findAddresses, Cond.instanceMethod yX1_findAddresses, Cond.selects RX1 yX1_findAddresses yX1_findAddresses, Cond.initialized RX1, Cond.methodLink RX1 271 yX1_grow, Cond.instanceMethod yX1_grow, Cond.selects RX1 yX1_grow yX1_grow] ++ (u_ws RX1 TX1 13 ++ (ow_dm_X1_findAddresses ++ (ow_dm_X1_grow ++ []))))
theorem gd_dm_X1_layOut : ∀ w ∈ ow_dm_X1_layOut, (w.onTables && w.keeps) = true ∨ ∃ ty, w = Cond.arrayClass ty := List.forall_mem_cons.mpr ⟨good_of_word rfl, List.forall_mem_append.mpr ⟨fun w h => good_of_word (List.all_eq_true.mp (by decide +kernel) w h), List.forall_mem_append.mpr ⟨gu_X1, List.forall_mem_append.mpr ⟨gd_dm_X1_findAddresses, List.forall_mem_append.mpr ⟨gd_dm_X1_grow, fun _ h => nomatch h⟩⟩⟩⟩⟩
theorem hi_dm_X1_layOut_X1 : ∀ w ∈ u_ws RX1 TX1 13, w ∈ ow_dm_X1_layOut := fun w h => List.mem_cons_of_mem _ (List.mem_append_right _ (List.mem_append_left _ h))
theorem gi_dm_X1_layOut_0 : GoodIn ow_dm_X1_layOut (wsV RX1 268 RX1 yX1_findAddresses ow_dm_X1_findAddresses) := goodIn_app (goodIn_of _ (by decide +kernel)) (fun w h => ⟨List.mem_cons_of_mem _ (List.mem_append_right _ (List.mem_append_right _ (List.mem_append_left _ h))), gd_dm_X1_findAddresses w h⟩)
theorem gi_dm_X1_layOut_1 : GoodIn ow_dm_X1_layOut (wsV RX1 271 RX1 yX1_grow ow_dm_X1_grow) := goodIn_app (goodIn_of _ (by decide +kernel)) (fun w h => ⟨List.mem_cons_of_mem _ (List.mem_append_right _ (List.mem_append_right _ (List.mem_append_right _ (List.mem_append_left _ h)))), gd_dm_X1_grow w h⟩)
def dj_X1_layOut_32 (p : Program) (l : Launch) (e : Env) (s : State) (m : MethodId) (args : Array Value) (below : List Frame) (meth : Method) (c : Code) (Q : State → Prop) (A : Nat → Prop) (dC : Nat → ClassId) (dI : Nat → Nat → Nat) (a : Nat → Nat) (ac : Nat → ClassId) (g : (St × (St)) → Option (St × (St))) (r : St × (St)) : Prop := ∀ (s0 : St × (St)) (H : Heap) (locs : List Loc) (ls : Array Slot), g s0 = some r → va_P (dC, dI) vwCl (dw_X1 a ac s0) H → va_D A (dw_X1 a ac s0) → va_S A s.heap H locs → lv_has ls 3 [] → W p l e (headSpec ow_dm_X1_layOut ({ frames := 4, cells := 0, slots := 0, locals := 90 })).room s m args below meth c H locs 0 0 Q (F0 m 32 ls [])
def dj_X1_layOut_9 (p : Program) (l : Launch) (e : Env) (s : State) (m : MethodId) (args : Array Value) (below : List Frame) (meth : Method) (c : Code) (Q : State → Prop) (A : Nat → Prop) (dC : Nat → ClassId) (dI : Nat → Nat → Nat) (a : Nat → Nat) (ac : Nat → ClassId) (g : Int32 → Int32 → (St × (St)) → Option (St × (St))) (r : St × (St)) : Prop := ∀ (x1 : Int32) (x2 : Int32) (s0 : St × (St)) (H : Heap) (locs : List Loc) (ls : Array Slot), g x1 x2 s0 = some r → va_P (dC, dI) vwCl (dw_X1 a ac s0) H → va_D A (dw_X1 a ac s0) → va_S A s.heap H locs → lv_has ls 3 [(0, .ref (a 0)), (1, .int x1), (2, .int x2)] → W p l e (headSpec ow_dm_X1_layOut ({ frames := 4, cells := 0, slots := 0, locals := 90 })).room s m args below meth c H locs 0 0 Q (F0 m 9 ls [])
def dj_X1_layOut_0 (p : Program) (l : Launch) (e : Env) (s : State) (m : MethodId) (args : Array Value) (below : List Frame) (meth : Method) (c : Code) (Q : State → Prop) (A : Nat → Prop) (dC : Nat → ClassId) (dI : Nat → Nat → Nat) (a : Nat → Nat) (ac : Nat → ClassId) (g : (St × (St)) → Option (St × (St))) (r : St × (St)) : Prop := ∀ (s0 : St × (St)) (H : Heap) (locs : List Loc) (ls : Array Slot), g s0 = some r → va_P (dC, dI) vwCl (dw_X1 a ac s0) H → va_D A (dw_X1 a ac s0) → va_S A s.heap H locs → lv_has ls 3 [(0, .ref (a 0))] → W p l e (headSpec ow_dm_X1_layOut ({ frames := 4, cells := 0, slots := 0, locals := 90 })).room s m args below meth c H locs 0 0 Q (F0 m 0 ls [])
set_option maxHeartbeats 40000000 in
set_option maxRecDepth 100000 in
theorem db_X1_layOut_32 {p : Program} {l : Launch} {e : Env} {s : State} {m : MethodId} {args : Array Value} {below : List Frame} {meth : Method} {c : Code} {Q : State → Prop} {A : Nat → Prop} {dC : Nat → ClassId} {dI : Nat → Nat → Nat} {a : Nat → Nat} {ac : Nat → ClassId} {n : Nat} {r : St × (St)} (C : nd_C p l s m args c A (dC, dI) cX1_layOut 3 RX1 ow_dm_X1_layOut (dk_X1 ac)) (K : nd_Kv p l e (headSpec ow_dm_X1_layOut ({ frames := 4, cells := 0, slots := 0, locals := 90 })).room s m args below meth c Q A (dC, dI) cX1_layOut (St × (St)) (dw_X1 a ac) r) : dj_X1_layOut_32 p l e s m args below meth c Q A dC dI a ac (df_X1_layOut_32 n) r := by
  obtain ⟨hlt, hx, hb, hml, hown, hts, hN, hA, hK⟩ := id C
  intro s0 H locs ls h hP hD hS hl
  unfold df_X1_layOut_32 at h
  exact K _ _ _ _ _ dX1_layOut_32 (Option.some.inj h).symm hP hD hS
set_option maxHeartbeats 40000000 in
set_option maxRecDepth 100000 in
theorem dB_X1_layOut_9 {p : Program} {l : Launch} {e : Env} {s : State} {m : MethodId} {args : Array Value} {below : List Frame} {meth : Method} {c : Code} {Q : State → Prop} {A : Nat → Prop} {dC : Nat → ClassId} {dI : Nat → Nat → Nat} {a : Nat → Nat} {ac : Nat → ClassId} {n : Nat} {r : St × (St)} (C : nd_C p l s m args c A (dC, dI) cX1_layOut 3 RX1 ow_dm_X1_layOut (dk_X1 ac)) (K : nd_Kv p l e (headSpec ow_dm_X1_layOut ({ frames := 4, cells := 0, slots := 0, locals := 90 })).room s m args below meth c Q A (dC, dI) cX1_layOut (St × (St)) (dw_X1 a ac) r) {g9 : Int32 → Int32 → (St × (St)) → Option (St × (St))} (J9 : dj_X1_layOut_9 p l e s m args below meth c Q A dC dI a ac g9 r) : dj_X1_layOut_9 p l e s m args below meth c Q A dC dI a ac (dF_X1_layOut_9 n g9) r := by
  obtain ⟨hlt, hx, hb, hml, hown, hts, hN, hA, hK⟩ := id C
  intro x1 x2 s0 H locs ls h hP hD hS hl
  unfold dF_X1_layOut_9 at h
  refine lv_iload_n hx hb dX1_layOut_9 rfl (lv_at hl 1 rfl) ?_
  refine lv_if_eq (tgt := 32) hx hb dX1_layOut_10 (by decide) (fun c2 => ?_) (fun c2 => ?_)
  · have h := nd_pos h c2
    exact (db_X1_layOut_32 C K)  s0 _ _ _ h hP hD hS (lv_sub hl [] rfl)
  · have h := nd_neg h c2
    refine lv_iload_n hx hb dX1_layOut_13 rfl (lv_at hl 2 rfl) ?_
    refine lv_if_lt (tgt := 32) hx hb dX1_layOut_14 (by decide) (fun c3 => ?_) (fun c3 => ?_)
    · have h := nd_pos h c3
      exact (db_X1_layOut_32 C K)  s0 _ _ _ h hP hD hS (lv_sub hl [] rfl)
    · have h := nd_neg h c3
      refine lv_aload_n hx hb dX1_layOut_17 rfl (lv_at hl 0 rfl) ?_
      obtain ⟨s5, hq, h⟩ := nd_b1_e h
      have hPc := hP
      have hDc := hD
      have hKc := hK
      have hFc := nd_rs hD hS hA
      refine nd_cVv (As := []) (rest := []) (w' := dw_X1 a ac s5) ⟨hx, hb, hml, hown, hts⟩ (fun sz => dm_X1_findAddresses l hlt dC dI a ac n  s0 hq sz) (cwV 0 hts gi_dm_X1_layOut_0 rfl rfl rfl (by decide +kernel) ⟨Nat.le_of_ble_eq_true rfl, Nat.le_of_ble_eq_true rfl⟩) hPc hDc hKc hS hA hN (va_recv hKc hPc (ci := 2) (q0 := 0) rfl rfl) rfl hl.1 rfl (Nat.le_of_ble_eq_true rfl) dX1_layOut_18 (fun H locs hP1 hD1 hk1 hS => ?_)
      have hP := hP1
      have hD := hD1.weaken (fun k q _ h => hFc q.1 h)
      refine lv_aload_n hx hb dX1_layOut_21 rfl (lv_at hl 0 rfl) ?_
      obtain ⟨q7, s8, hq, h⟩ := nd_b2_e h
      have hPc := hP
      have hDc := hD
      have hKc := hK
      have hFc := nd_rs hD hS hA
      refine nd_cVi (As := []) (rest := []) (q := q7) (w' := dw_X1 a ac s8) ⟨hx, hb, hml, hown, hts⟩ (fun sz => dm_X1_grow l hlt dC dI a ac n  s5 hq sz) (cwV 0 hts gi_dm_X1_layOut_1 rfl rfl rfl (by decide +kernel) ⟨Nat.le_of_ble_eq_true rfl, Nat.le_of_ble_eq_true rfl⟩) hPc hDc hKc hS hA hN (va_recv hKc hPc (ci := 2) (q0 := 0) rfl rfl) rfl hl.1 rfl (Nat.le_of_ble_eq_true rfl) dX1_layOut_22 (fun H locs hP1 hD1 hk1 hS => ?_)
      have hP := hP1
      have hD := hD1.weaken (fun k q _ h => hFc q.1 h)
      refine lv_istore_n (lv' := [(1, .int q7), (0, .ref (a 0)), (2, .int x2)]) hx hb dX1_layOut_25 rfl hl (by decide) rfl (fun ls hl => ?_)
      obtain ⟨z10, ez10, h⟩ := nd_let_e h
      refine lv_iinc (v := z10) (lv' := [(2, .int z10), (1, .int q7), (0, .ref (a 0))]) hx hb dX1_layOut_26 hl (k := 2) rfl (by rw [ez10]) (by decide) rfl (fun ls hl => ?_)
      refine lv_goto (tgt := 9) hx hb dX1_layOut_29 (by decide) ?_
      exact (J9) (q7) (z10) s8 _ _ _ h hP hD hS (lv_sub hl [2, 1, 0] rfl)
set_option maxHeartbeats 40000000 in
set_option maxRecDepth 100000 in
theorem db_X1_layOut_9 {p : Program} {l : Launch} {e : Env} {s : State} {m : MethodId} {args : Array Value} {below : List Frame} {meth : Method} {c : Code} {Q : State → Prop} {A : Nat → Prop} {dC : Nat → ClassId} {dI : Nat → Nat → Nat} {a : Nat → Nat} {ac : Nat → ClassId} {n : Nat} {r : St × (St)} (C : nd_C p l s m args c A (dC, dI) cX1_layOut 3 RX1 ow_dm_X1_layOut (dk_X1 ac)) (K : nd_Kv p l e (headSpec ow_dm_X1_layOut ({ frames := 4, cells := 0, slots := 0, locals := 90 })).room s m args below meth c Q A (dC, dI) cX1_layOut (St × (St)) (dw_X1 a ac) r) (k : Nat) : dj_X1_layOut_9 p l e s m args below meth c Q A dC dI a ac (df_X1_layOut_9 n k) r := by
  induction k with
  | zero => intro x1 x2 s0 H locs ls h; exact nomatch (show (none : Option (St × (St))) = some r from h)
  | succ k ih => exact dB_X1_layOut_9 C K ih
set_option maxHeartbeats 40000000 in
set_option maxRecDepth 100000 in
theorem db_X1_layOut_0 {p : Program} {l : Launch} {e : Env} {s : State} {m : MethodId} {args : Array Value} {below : List Frame} {meth : Method} {c : Code} {Q : State → Prop} {A : Nat → Prop} {dC : Nat → ClassId} {dI : Nat → Nat → Nat} {a : Nat → Nat} {ac : Nat → ClassId} {n : Nat} {r : St × (St)} (C : nd_C p l s m args c A (dC, dI) cX1_layOut 3 RX1 ow_dm_X1_layOut (dk_X1 ac)) (K : nd_Kv p l e (headSpec ow_dm_X1_layOut ({ frames := 4, cells := 0, slots := 0, locals := 90 })).room s m args below meth c Q A (dC, dI) cX1_layOut (St × (St)) (dw_X1 a ac) r) : dj_X1_layOut_0 p l e s m args below meth c Q A dC dI a ac (df_X1_layOut_0 n) r := by
  obtain ⟨hlt, hx, hb, hml, hown, hts, hN, hA, hK⟩ := id C
  intro s0 H locs ls h hP hD hS hl
  unfold df_X1_layOut_0 at h
  refine lv_iconst (v := 1) hx hb dX1_layOut_0 (by decide) ?_
  refine lv_istore_n (lv' := [(1, .int 1), (0, .ref (a 0))]) hx hb dX1_layOut_1 rfl hl (by decide) rfl (fun ls hl => ?_)
  refine lv_iconst (v := 2) hx hb dX1_layOut_2 (by decide) ?_
  refine lv_aload_n hx hb dX1_layOut_3 rfl (lv_at hl 1 rfl) ?_
  refine va_get (D := (dC, dI)) (ci := 2) (v := .int (sI s0.1 0)) (C := RX1) (T := TX1) (N := 13) hx hb hts hi_dm_X1_layOut_X1 hown hK hP 0 rfl rfl 2 (by decide) (hts (.fieldLink RX1 65 "TimeMachine$Assembler" "statements" "I") (List.mem_of_getElem? (i := 1) rfl)) (fun _ h9 => h9) rfl dX1_layOut_4 ?_
  refine lv_imul hx hb dX1_layOut_7 ?_
  refine lv_topi (fun z1 ez1 => ?_)
  have h := nd_at h ez1
  refine lv_istore_n (lv' := [(2, .int z1), (1, .int 1), (0, .ref (a 0))]) hx hb dX1_layOut_8 rfl hl (by decide) rfl (fun ls hl => ?_)
  exact (db_X1_layOut_9 C K n) (1) (z1) s0 _ _ _ h hP hD hS (lv_sub hl [2, 1, 0] rfl)
set_option maxHeartbeats 40000000 in
set_option maxRecDepth 100000 in
theorem dm_X1_layOut (l : Launch) (hlt : l.stackTraces = false) (dC : Nat → ClassId) (dI : Nat → Nat → Nat) (a : Nat → Nat) (ac : Nat → ClassId) (n : Nat) (s0 : St × (St)) {r : St × (St)} (h : df_X1_layOut n s0 = some r) (sz : Nat) : Met l yX1_layOut ow_dm_X1_layOut ({ frames := 4, cells := 0, slots := 0, locals := 90 }) (va_Pc [.ref (a 0)] (fun U => U.heap.size = sz ∧ va_P (dC, dI) vwCl (dw_X1 a ac s0) U.heap ∧ va_K (dC, dI) vwCl (dk_X1 ac) U ∧ va_D (fun _ => True) (dw_X1 a ac s0) ∧ nv_E dI (va_A (dw_X1 a ac s0) sz) U)) (va_Qv (fun _ => True) (fun (_ : Unit) t => va_P (dC, dI) vwCl (dw_X1 a ac r) t.heap ∧ va_K (dC, dI) vwCl (dk_X1 ac) t ∧ va_D (va_A (dw_X1 a ac s0) sz) (dw_X1 a ac r)) (va_A (dw_X1 a ac s0) sz)) 0 0 (va_A (dw_X1 a ac s0) sz) := by
  refine Met.ofW (cc := cX1_layOut) (maxL := 3) (ret := none) (by decide) rfl ?_
  intro p e s m args below meth c s₁ B hml hv
  obtain ⟨rfl, hsz, hP, hK, hD0, hN⟩ := hv
  have hx := B.exec
  have hb := B.bytes
  have hr := B.returns
  have hts := atoms_spec (ws := ow_dm_X1_layOut) B.pre
  have hown : s.vm.findClass RX1 = some m.cls := findClass_of_methodNamed B.named
  have hlocks := B.notSynchronized
  subst hsz
  have hD := hD0.self (sz := s.heap.size)
  generalize hAe : va_A (dw_X1 a ac s0) s.heap.size = A at hD hN ⊢
  have hA : ∀ q : Nat, s.heap.size ≤ q → A q := fun q h => by rw [← hAe]; exact Or.inr h
  have hl := lv_entry ([.ref (a 0)]) (n := 3) (Nat.le_of_ble_eq_true rfl)
  rw [lg_entry_eq]
  generalize (lg_sl ([.ref (a 0)]) ++ List.replicate (3 - (lg_sl ([.ref (a 0)])).length) Slot.unset).toArray = ls at hl ⊢
  have hl : lv_has ls 3 [(0, .ref (a 0))] := hl
  exact db_X1_layOut_0 (dC := dC) (dI := dI) (a := a) (ac := ac) (n := n) (r := r) ⟨hlt, hx, hb, hml, hown, hts, hN, hA, hK⟩ (fun pc τ H locs ls d er hP hD hS => by subst er; exact W.vret hx hb hr (fun t ht hW => ⟨⟨(), rfl, trivial, by rw [ht]; exact hP, va_K.moved hW.alike hK, hD⟩, hS.F ht⟩) hS.2.2 d) s0 _ _ _ h hP hD va_S.rf (lv_sub hl [0] rfl)
def ow_dm_X1_put : List Cond := Cond.code yX1_put cX1_put 6 none :: ([Cond.fieldLink RX1 300 "TimeMachine$Program" "image" "[B"] ++ (u_ws RX8 TX8 10 ++ []))
theorem gd_dm_X1_put : ∀ w ∈ ow_dm_X1_put, (w.onTables && w.keeps) = true ∨ ∃ ty, w = Cond.arrayClass ty := List.forall_mem_cons.mpr ⟨good_of_word rfl, List.forall_mem_append.mpr ⟨fun w h => good_of_word (List.all_eq_true.mp (by decide +kernel) w h), List.forall_mem_append.mpr ⟨gu_X8, fun _ h => nomatch h⟩⟩⟩
theorem hi_dm_X1_put_X8 : ∀ w ∈ u_ws RX8 TX8 10, w ∈ ow_dm_X1_put := fun w h => List.mem_cons_of_mem _ (List.mem_append_right _ (List.mem_append_left _ h))
def dj_X1_put_46 (p : Program) (l : Launch) (e : Env) (s : State) (m : MethodId) (args : Array Value) (below : List Frame) (meth : Method) (c : Code) (Q : State → Prop) (A : Nat → Prop) (dC : Nat → ClassId) (dI : Nat → Nat → Nat) (a : Nat → Nat) (ac : Nat → ClassId) (g : Int32 → Int32 → Int32 → Int32 → (St × (St × (St)) × (St)) → Option (St × (St × (St)) × (St))) (r : St × (St × (St)) × (St)) : Prop := ∀ (x2 : Int32) (x3 : Int32) (x4 : Int32) (x5 : Int32) (s0 : St × (St × (St)) × (St)) (H : Heap) (locs : List Loc) (ls : Array Slot), g x2 x3 x4 x5 s0 = some r → va_P (dC, dI) vwCl (dw_X1p a ac s0) H → va_D A (dw_X1p a ac s0) → va_S A s.heap H locs → lv_has ls 6 [(1, .ref (a 0)), (2, .int x2), (3, .int x3), (4, .int x4), (5, .int x5)] → W p l e (headSpec ow_dm_X1_put ({ frames := 0, cells := 0, slots := 0, locals := 0 })).room s m args below meth c H locs 0 0 Q (F0 m 46 ls [])
def dj_X1_put_3 (p : Program) (l : Launch) (e : Env) (s : State) (m : MethodId) (args : Array Value) (below : List Frame) (meth : Method) (c : Code) (Q : State → Prop) (A : Nat → Prop) (dC : Nat → ClassId) (dI : Nat → Nat → Nat) (a : Nat → Nat) (ac : Nat → ClassId) (g : Int32 → Int32 → Int32 → Int32 → (St × (St × (St)) × (St)) → Option (St × (St × (St)) × (St))) (r : St × (St × (St)) × (St)) : Prop := ∀ (x2 : Int32) (x3 : Int32) (x4 : Int32) (x5 : Int32) (s0 : St × (St × (St)) × (St)) (H : Heap) (locs : List Loc) (ls : Array Slot), g x2 x3 x4 x5 s0 = some r → va_P (dC, dI) vwCl (dw_X1p a ac s0) H → va_D A (dw_X1p a ac s0) → va_S A s.heap H locs → lv_has ls 6 [(1, .ref (a 0)), (2, .int x2), (3, .int x3), (4, .int x4), (5, .int x5)] → W p l e (headSpec ow_dm_X1_put ({ frames := 0, cells := 0, slots := 0, locals := 0 })).room s m args below meth c H locs 0 0 Q (F0 m 3 ls [])
def dj_X1_put_0 (p : Program) (l : Launch) (e : Env) (s : State) (m : MethodId) (args : Array Value) (below : List Frame) (meth : Method) (c : Code) (Q : State → Prop) (A : Nat → Prop) (dC : Nat → ClassId) (dI : Nat → Nat → Nat) (a : Nat → Nat) (ac : Nat → ClassId) (g : Int32 → Int32 → Int32 → (St × (St × (St)) × (St)) → Option (St × (St × (St)) × (St))) (r : St × (St × (St)) × (St)) : Prop := ∀ (v1 : Int32) (v2 : Int32) (v3 : Int32) (s0 : St × (St × (St)) × (St)) (H : Heap) (locs : List Loc) (ls : Array Slot), g v1 v2 v3 s0 = some r → va_P (dC, dI) vwCl (dw_X1p a ac s0) H → va_D A (dw_X1p a ac s0) → va_S A s.heap H locs → lv_has ls 6 [(0, .ref (a 5)), (1, .ref (a 0)), (2, .int v1), (3, .int v2), (4, .int v3)] → W p l e (headSpec ow_dm_X1_put ({ frames := 0, cells := 0, slots := 0, locals := 0 })).room s m args below meth c H locs 0 0 Q (F0 m 0 ls [])
set_option maxHeartbeats 40000000 in
set_option maxRecDepth 100000 in
theorem db_X1_put_46 {p : Program} {l : Launch} {e : Env} {s : State} {m : MethodId} {args : Array Value} {below : List Frame} {meth : Method} {c : Code} {Q : State → Prop} {A : Nat → Prop} {dC : Nat → ClassId} {dI : Nat → Nat → Nat} {a : Nat → Nat} {ac : Nat → ClassId} {n : Nat} {r : St × (St × (St)) × (St)} (C : nd_C p l s m args c A (dC, dI) cX1_put 6 RX1 ow_dm_X1_put (dk_X1p ac)) (K : nd_Kv p l e (headSpec ow_dm_X1_put ({ frames := 0, cells := 0, slots := 0, locals := 0 })).room s m args below meth c Q A (dC, dI) cX1_put (St × (St × (St)) × (St)) (dw_X1p a ac) r) {g3 : Int32 → Int32 → Int32 → Int32 → (St × (St × (St)) × (St)) → Option (St × (St × (St)) × (St))} (J3 : dj_X1_put_3 p l e s m args below meth c Q A dC dI a ac g3 r) : dj_X1_put_46 p l e s m args below meth c Q A dC dI a ac (df_X1_put_46 n g3) r := by
  obtain ⟨hlt, hx, hb, hml, hown, hts, hN, hA, hK⟩ := id C
  intro x2 x3 x4 x5 s0 H locs ls h hP hD hS hl
  unfold df_X1_put_46 at h
  obtain ⟨z3, ez3, h⟩ := nd_let_e h
  refine lv_iinc (v := z3) (lv' := [(5, .int z3), (1, .ref (a 0)), (2, .int x2), (3, .int x3), (4, .int x4)]) hx hb dX1_put_46 hl (k := 4) rfl (by rw [ez3]) (by decide) rfl (fun ls hl => ?_)
  refine lv_goto (tgt := 3) hx hb dX1_put_49 (by decide) ?_
  exact (J3) (x2) (x3) (x4) (z3) s0 _ _ _ h hP hD hS (lv_sub hl [1, 2, 3, 4, 0] rfl)
set_option maxHeartbeats 40000000 in
set_option maxRecDepth 100000 in
theorem dB_X1_put_3 {p : Program} {l : Launch} {e : Env} {s : State} {m : MethodId} {args : Array Value} {below : List Frame} {meth : Method} {c : Code} {Q : State → Prop} {A : Nat → Prop} {dC : Nat → ClassId} {dI : Nat → Nat → Nat} {a : Nat → Nat} {ac : Nat → ClassId} {n : Nat} {r : St × (St × (St)) × (St)} (C : nd_C p l s m args c A (dC, dI) cX1_put 6 RX1 ow_dm_X1_put (dk_X1p ac)) (K : nd_Kv p l e (headSpec ow_dm_X1_put ({ frames := 0, cells := 0, slots := 0, locals := 0 })).room s m args below meth c Q A (dC, dI) cX1_put (St × (St × (St)) × (St)) (dw_X1p a ac) r) {g3 : Int32 → Int32 → Int32 → Int32 → (St × (St × (St)) × (St)) → Option (St × (St × (St)) × (St))} (J3 : dj_X1_put_3 p l e s m args below meth c Q A dC dI a ac g3 r) : dj_X1_put_3 p l e s m args below meth c Q A dC dI a ac (dF_X1_put_3 n g3) r := by
  obtain ⟨hlt, hx, hb, hml, hown, hts, hN, hA, hK⟩ := id C
  intro x2 x3 x4 x5 s0 H locs ls h hP hD hS hl
  unfold dF_X1_put_3 at h
  refine lv_iload hx hb dX1_put_3 (lv_at hl 4 rfl) ?_
  refine lv_iload_n hx hb dX1_put_5 rfl (lv_at hl 2 rfl) ?_
  refine lv_icmp_ge (tgt := 52) hx hb dX1_put_6 (by decide) (fun c1 => ?_) (fun c1 => ?_)
  · have h := nd_pos h c1
    exact K _ _ _ _ _ dX1_put_52 (Option.some.inj h).symm hP hD hS
  · have h := nd_neg h c1
    refine lv_iload_n hx hb dX1_put_9 rfl (lv_at hl 1 rfl) ?_
    refine lv_iload hx hb dX1_put_10 (lv_at hl 4 rfl) ?_
    refine lv_iadd hx hb dX1_put_12 ?_
    refine lv_if_lt (tgt := 46) hx hb dX1_put_13 (by decide) (fun c2 => ?_) (fun c2 => ?_)
    · have h := nd_pos h c2
      exact (db_X1_put_46 C K J3) (x2) (x3) (x4) (x5) s0 _ _ _ h hP hD hS (lv_sub hl [0, 1, 2, 3, 4] rfl)
    · have h := nd_neg h c2
      refine lv_iload_n hx hb dX1_put_16 rfl (lv_at hl 1 rfl) ?_
      refine lv_iload hx hb dX1_put_17 (lv_at hl 4 rfl) ?_
      refine lv_iadd hx hb dX1_put_19 ?_
      refine lv_aload_n hx hb dX1_put_20 rfl (lv_at hl 0 rfl) ?_
      refine va_get (D := (dC, dI)) (ci := 9) (v := .ref (a 1)) (C := RX8) (T := TX8) (N := 10) hx hb hts hi_dm_X1_put_X8 hown hK hP 12 rfl rfl 0 (by decide) (hts (.fieldLink RX1 300 "TimeMachine$Program" "image" "[B") (List.mem_of_getElem? (i := 1) rfl)) (fun _ h9 => h9) rfl dX1_put_21 ?_
      refine va_alen (v := 32768) hx hb hK hP 13 10 rfl rfl (show Int32.ofNat 32768 = 32768 by decide) dX1_put_24 ?_
      refine lv_icmp_ge (tgt := 46) hx hb dX1_put_25 (by decide) (fun c4 => ?_) (fun c4 => ?_)
      · have h := nd_pos h c4
        exact (db_X1_put_46 C K J3) (x2) (x3) (x4) (x5) s0 _ _ _ h hP hD hS (lv_sub hl [0, 1, 2, 3, 4] rfl)
      · have h := nd_neg h c4
        refine lv_aload_n hx hb dX1_put_28 rfl (lv_at hl 0 rfl) ?_
        refine va_get (D := (dC, dI)) (ci := 9) (v := .ref (a 1)) (C := RX8) (T := TX8) (N := 10) hx hb hts hi_dm_X1_put_X8 hown hK hP 12 rfl rfl 0 (by decide) (hts (.fieldLink RX1 300 "TimeMachine$Program" "image" "[B") (List.mem_of_getElem? (i := 1) rfl)) (fun _ h9 => h9) rfl dX1_put_29 ?_
        refine lv_iload_n hx hb dX1_put_32 rfl (lv_at hl 1 rfl) ?_
        refine lv_iload hx hb dX1_put_33 (lv_at hl 4 rfl) ?_
        refine lv_iadd hx hb dX1_put_35 ?_
        refine lv_iload hx hb dX1_put_36 (lv_at hl 3 rfl) ?_
        refine lv_bipush (v := 8) hx hb dX1_put_38 (by decide) ?_
        refine lv_iload hx hb dX1_put_40 (lv_at hl 4 rfl) ?_
        refine lv_imul hx hb dX1_put_42 ?_
        refine lv_ishr hx hb dX1_put_43 ?_
        refine lv_i2b hx hb dX1_put_44 rfl ?_
        obtain ⟨i5, h⟩ := nd_ck_e h
        refine va_bast (i := (x2 + x5)) (x := ((((x4 : Int32) >>> (((8 * x5) : Int32) &&& 31)) : Int32).toInt8.toInt32)) hx hb hK hP hD hS 13 10 rfl rfl i5 dX1_put_45 (fun H locs hP hD hS => ?_)
        obtain ⟨s6, es6, h⟩ := nd_let_e h
        have hP : va_P (dC, dI) vwCl (dw_X1p a ac s6) H := by rw [es6]; exact hP
        have hD : va_D A (dw_X1p a ac s6) := by rw [es6]; exact hD
        exact (db_X1_put_46 C K J3) (x2) (x3) (x4) (x5) s6 _ _ _ h hP hD hS (lv_sub hl [0, 1, 2, 3, 4] rfl)
set_option maxHeartbeats 40000000 in
set_option maxRecDepth 100000 in
theorem db_X1_put_3 {p : Program} {l : Launch} {e : Env} {s : State} {m : MethodId} {args : Array Value} {below : List Frame} {meth : Method} {c : Code} {Q : State → Prop} {A : Nat → Prop} {dC : Nat → ClassId} {dI : Nat → Nat → Nat} {a : Nat → Nat} {ac : Nat → ClassId} {n : Nat} {r : St × (St × (St)) × (St)} (C : nd_C p l s m args c A (dC, dI) cX1_put 6 RX1 ow_dm_X1_put (dk_X1p ac)) (K : nd_Kv p l e (headSpec ow_dm_X1_put ({ frames := 0, cells := 0, slots := 0, locals := 0 })).room s m args below meth c Q A (dC, dI) cX1_put (St × (St × (St)) × (St)) (dw_X1p a ac) r) (k : Nat) : dj_X1_put_3 p l e s m args below meth c Q A dC dI a ac (df_X1_put_3 n k) r := by
  induction k with
  | zero => intro x2 x3 x4 x5 s0 H locs ls h; exact nomatch (show (none : Option (St × (St × (St)) × (St))) = some r from h)
  | succ k ih => exact dB_X1_put_3 C K ih
set_option maxHeartbeats 40000000 in
set_option maxRecDepth 100000 in
theorem db_X1_put_0 {p : Program} {l : Launch} {e : Env} {s : State} {m : MethodId} {args : Array Value} {below : List Frame} {meth : Method} {c : Code} {Q : State → Prop} {A : Nat → Prop} {dC : Nat → ClassId} {dI : Nat → Nat → Nat} {a : Nat → Nat} {ac : Nat → ClassId} {n : Nat} {r : St × (St × (St)) × (St)} (C : nd_C p l s m args c A (dC, dI) cX1_put 6 RX1 ow_dm_X1_put (dk_X1p ac)) (K : nd_Kv p l e (headSpec ow_dm_X1_put ({ frames := 0, cells := 0, slots := 0, locals := 0 })).room s m args below meth c Q A (dC, dI) cX1_put (St × (St × (St)) × (St)) (dw_X1p a ac) r) : dj_X1_put_0 p l e s m args below meth c Q A dC dI a ac (df_X1_put_0 n) r := by
  obtain ⟨hlt, hx, hb, hml, hown, hts, hN, hA, hK⟩ := id C
  intro v1 v2 v3 s0 H locs ls h hP hD hS hl
  unfold df_X1_put_0 at h
  refine lv_iconst (v := 0) hx hb dX1_put_0 (by decide) ?_
  refine lv_istore (lv' := [(5, .int 0), (0, .ref (a 5)), (1, .ref (a 0)), (2, .int v1), (3, .int v2), (4, .int v3)]) hx hb dX1_put_1 hl (by decide) rfl (fun ls hl => ?_)
  exact (db_X1_put_3 C K n) (v1) (v2) (v3) (0) s0 _ _ _ h hP hD hS (lv_sub hl [2, 3, 4, 5, 0] rfl)
set_option maxHeartbeats 40000000 in
set_option maxRecDepth 100000 in
theorem dm_X1_put (l : Launch) (hlt : l.stackTraces = false) (dC : Nat → ClassId) (dI : Nat → Nat → Nat) (a : Nat → Nat) (ac : Nat → ClassId) (n : Nat) (v1 : Int32) (v2 : Int32) (v3 : Int32) (s0 : St × (St × (St)) × (St)) {r : St × (St × (St)) × (St)} (h : df_X1_put n v1 v2 v3 s0 = some r) (sz : Nat) : Met l yX1_put ow_dm_X1_put ({ frames := 0, cells := 0, slots := 0, locals := 0 }) (va_Pc [.ref (a 5), .ref (a 0), .int v1, .int v2, .int v3] (fun U => U.heap.size = sz ∧ va_P (dC, dI) vwCl (dw_X1p a ac s0) U.heap ∧ va_K (dC, dI) vwCl (dk_X1p ac) U ∧ va_D (fun _ => True) (dw_X1p a ac s0) ∧ nv_E dI (va_A (dw_X1p a ac s0) sz) U)) (va_Qv (fun _ => True) (fun (_ : Unit) t => va_P (dC, dI) vwCl (dw_X1p a ac r) t.heap ∧ va_K (dC, dI) vwCl (dk_X1p ac) t ∧ va_D (va_A (dw_X1p a ac s0) sz) (dw_X1p a ac r)) (va_A (dw_X1p a ac s0) sz)) 0 0 (va_A (dw_X1p a ac s0) sz) := by
  refine Met.ofW (cc := cX1_put) (maxL := 6) (ret := none) (by decide) rfl ?_
  intro p e s m args below meth c s₁ B hml hv
  obtain ⟨rfl, hsz, hP, hK, hD0, hN⟩ := hv
  have hx := B.exec
  have hb := B.bytes
  have hr := B.returns
  have hts := atoms_spec (ws := ow_dm_X1_put) B.pre
  have hown : s.vm.findClass RX1 = some m.cls := findClass_of_methodNamed B.named
  have hlocks := B.notSynchronized
  subst hsz
  have hD := hD0.self (sz := s.heap.size)
  generalize hAe : va_A (dw_X1p a ac s0) s.heap.size = A at hD hN ⊢
  have hA : ∀ q : Nat, s.heap.size ≤ q → A q := fun q h => by rw [← hAe]; exact Or.inr h
  have hl := lv_entry ([.ref (a 5), .ref (a 0), .int v1, .int v2, .int v3]) (n := 6) (Nat.le_of_ble_eq_true rfl)
  rw [lg_entry_eq]
  generalize (lg_sl ([.ref (a 5), .ref (a 0), .int v1, .int v2, .int v3]) ++ List.replicate (6 - (lg_sl ([.ref (a 5), .ref (a 0), .int v1, .int v2, .int v3])).length) Slot.unset).toArray = ls at hl ⊢
  have hl : lv_has ls 6 [(0, .ref (a 5)), (1, .ref (a 0)), (2, .int v1), (3, .int v2), (4, .int v3)] := hl
  exact db_X1_put_0 (dC := dC) (dI := dI) (a := a) (ac := ac) (n := n) (r := r) ⟨hlt, hx, hb, hml, hown, hts, hN, hA, hK⟩ (fun pc τ H locs ls d er hP hD hS => by subst er; exact W.vret hx hb hr (fun t ht hW => ⟨⟨(), rfl, trivial, by rw [ht]; exact hP, va_K.moved hW.alike hK, hD⟩, hS.F ht⟩) hS.2.2 d) v1 v2 v3 s0 _ _ _ h hP hD va_S.rf (lv_sub hl [0, 1, 2, 3, 4] rfl)
def ow_dm_X1_worked : List Cond := Cond.code yX1_worked cX1_worked 4 (some .int) :: ([Cond.fieldLink RX1 12 "TimeMachine$Assembler" "reader" "LTimeMachine$Reader;", Cond.methodLink RX1 220 yX9_evaluate, Cond.instanceMethod yX9_evaluate, Cond.selects RX9 yX9_evaluate yX9_evaluate, Cond.initialized RX9, Cond.fieldLink RX1 223 "TimeMachine$Reader" "trouble" "I", Cond.methodLink RX1 77 yX1_blame, Cond.instanceMethod yX1_blame, Cond.selects RX1 yX1_blame yX1_blame, Cond.initialized RX1] ++ (u_ws RX1 TX1 13 ++ (u_ws RX9 TX9 20 ++ (ow_dm_X9_evaluate ++ (ow_dm_X1_blame ++ [])))))
theorem gd_dm_X1_worked : ∀ w ∈ ow_dm_X1_worked, (w.onTables && w.keeps) = true ∨ ∃ ty, w = Cond.arrayClass ty := List.forall_mem_cons.mpr ⟨good_of_word rfl, List.forall_mem_append.mpr ⟨fun w h => good_of_word (List.all_eq_true.mp (by decide +kernel) w h), List.forall_mem_append.mpr ⟨gu_X1, List.forall_mem_append.mpr ⟨gu_X9, List.forall_mem_append.mpr ⟨gd_dm_X9_evaluate, List.forall_mem_append.mpr ⟨gd_dm_X1_blame, fun _ h => nomatch h⟩⟩⟩⟩⟩⟩
theorem hi_dm_X1_worked_X1 : ∀ w ∈ u_ws RX1 TX1 13, w ∈ ow_dm_X1_worked := fun w h => List.mem_cons_of_mem _ (List.mem_append_right _ (List.mem_append_left _ h))
theorem hi_dm_X1_worked_X9 : ∀ w ∈ u_ws RX9 TX9 20, w ∈ ow_dm_X1_worked := fun w h => List.mem_cons_of_mem _ (List.mem_append_right _ (List.mem_append_right _ (List.mem_append_left _ h)))
theorem gi_dm_X1_worked_0 : GoodIn ow_dm_X1_worked (wsV RX1 220 RX9 yX9_evaluate ow_dm_X9_evaluate) := goodIn_app (goodIn_of _ (by decide +kernel)) (fun w h => ⟨List.mem_cons_of_mem _ (List.mem_append_right _ (List.mem_append_right _ (List.mem_append_right _ (List.mem_append_left _ h)))), gd_dm_X9_evaluate w h⟩)
theorem gi_dm_X1_worked_1 : GoodIn ow_dm_X1_worked (wsV RX1 77 RX1 yX1_blame ow_dm_X1_blame) := goodIn_app (goodIn_of _ (by decide +kernel)) (fun w h => ⟨List.mem_cons_of_mem _ (List.mem_append_right _ (List.mem_append_right _ (List.mem_append_right _ (List.mem_append_right _ (List.mem_append_left _ h))))), gd_dm_X1_blame w h⟩)
def dj_X1_worked_31 (p : Program) (l : Launch) (e : Env) (s : State) (m : MethodId) (args : Array Value) (below : List Frame) (meth : Method) (c : Code) (Q : State → Prop) (A : Nat → Prop) (dC : Nat → ClassId) (dI : Nat → Nat → Nat) (a : Nat → Nat) (ac : Nat → ClassId) (g : Int32 → (St × (St)) → Option (Int32 × (St × (St)))) (r : Int32 × (St × (St))) : Prop := ∀ (x3 : Int32) (s0 : St × (St)) (H : Heap) (locs : List Loc) (ls : Array Slot), g x3 s0 = some r → va_P (dC, dI) vwCl (dw_X1 a ac s0) H → va_D A (dw_X1 a ac s0) → va_S A s.heap H locs → lv_has ls 4 [(3, .int x3)] → W p l e (headSpec ow_dm_X1_worked ({ frames := 3, cells := 0, slots := 0, locals := 64 })).room s m args below meth c H locs 0 0 Q (F0 m 31 ls [])
def dj_X1_worked_0 (p : Program) (l : Launch) (e : Env) (s : State) (m : MethodId) (args : Array Value) (below : List Frame) (meth : Method) (c : Code) (Q : State → Prop) (A : Nat → Prop) (dC : Nat → ClassId) (dI : Nat → Nat → Nat) (a : Nat → Nat) (ac : Nat → ClassId) (g : Int32 → Int32 → (St × (St)) → Option (Int32 × (St × (St)))) (r : Int32 × (St × (St))) : Prop := ∀ (v0 : Int32) (v1 : Int32) (s0 : St × (St)) (H : Heap) (locs : List Loc) (ls : Array Slot), g v0 v1 s0 = some r → va_P (dC, dI) vwCl (dw_X1 a ac s0) H → va_D A (dw_X1 a ac s0) → va_S A s.heap H locs → lv_has ls 4 [(0, .ref (a 0)), (1, .int v0), (2, .int v1)] → W p l e (headSpec ow_dm_X1_worked ({ frames := 3, cells := 0, slots := 0, locals := 64 })).room s m args below meth c H locs 0 0 Q (F0 m 0 ls [])
set_option maxHeartbeats 40000000 in
set_option maxRecDepth 100000 in
theorem db_X1_worked_31 {p : Program} {l : Launch} {e : Env} {s : State} {m : MethodId} {args : Array Value} {below : List Frame} {meth : Method} {c : Code} {Q : State → Prop} {A : Nat → Prop} {dC : Nat → ClassId} {dI : Nat → Nat → Nat} {a : Nat → Nat} {ac : Nat → ClassId} {n : Nat} {r : Int32 × (St × (St))} (C : nd_C p l s m args c A (dC, dI) cX1_worked 4 RX1 ow_dm_X1_worked (dk_X1 ac)) (K : nd_Ki p l e (headSpec ow_dm_X1_worked ({ frames := 3, cells := 0, slots := 0, locals := 64 })).room s m args below meth c Q A (dC, dI) cX1_worked .int (St × (St)) (dw_X1 a ac) r) : dj_X1_worked_31 p l e s m args below meth c Q A dC dI a ac (df_X1_worked_31 n) r := by
  obtain ⟨hlt, hx, hb, hml, hown, hts, hN, hA, hK⟩ := id C
  intro x3 s0 H locs ls h hP hD hS hl
  unfold df_X1_worked_31 at h
  refine lv_iload_n hx hb dX1_worked_31 rfl (lv_at hl 0 rfl) ?_
  exact K _ _ _ _ _ _ dX1_worked_32 rfl (Option.some.inj h).symm hP hD hS
set_option maxHeartbeats 40000000 in
set_option maxRecDepth 100000 in
theorem db_X1_worked_0 {p : Program} {l : Launch} {e : Env} {s : State} {m : MethodId} {args : Array Value} {below : List Frame} {meth : Method} {c : Code} {Q : State → Prop} {A : Nat → Prop} {dC : Nat → ClassId} {dI : Nat → Nat → Nat} {a : Nat → Nat} {ac : Nat → ClassId} {n : Nat} {r : Int32 × (St × (St))} (C : nd_C p l s m args c A (dC, dI) cX1_worked 4 RX1 ow_dm_X1_worked (dk_X1 ac)) (K : nd_Ki p l e (headSpec ow_dm_X1_worked ({ frames := 3, cells := 0, slots := 0, locals := 64 })).room s m args below meth c Q A (dC, dI) cX1_worked .int (St × (St)) (dw_X1 a ac) r) : dj_X1_worked_0 p l e s m args below meth c Q A dC dI a ac (df_X1_worked_0 n) r := by
  obtain ⟨hlt, hx, hb, hml, hown, hts, hN, hA, hK⟩ := id C
  intro v0 v1 s0 H locs ls h hP hD hS hl
  unfold df_X1_worked_0 at h
  refine lv_aload_n hx hb dX1_worked_0 rfl (lv_at hl 0 rfl) ?_
  refine va_get (D := (dC, dI)) (ci := 2) (v := .ref (a 3)) (C := RX1) (T := TX1) (N := 13) hx hb hts hi_dm_X1_worked_X1 hown hK hP 0 rfl rfl 0 (by decide) (hts (.fieldLink RX1 12 "TimeMachine$Assembler" "reader" "LTimeMachine$Reader;") (List.mem_of_getElem? (i := 1) rfl)) (fun _ h9 => h9) rfl dX1_worked_1 ?_
  refine lv_iload_n hx hb dX1_worked_4 rfl (lv_at hl 1 rfl) ?_
  refine lv_iload_n hx hb dX1_worked_5 rfl (lv_at hl 2 rfl) ?_
  obtain ⟨q1, s2, hq, h⟩ := nd_b2_e h
  have hPc := dp_X1_3 hP
  have hDc := dd_X1_3 hD
  have hKc := dy_X1_3 hK
  have hFc := nd_rs hDc hS hA
  have hzA : ∀ q : Nat, H.size ≤ q → A q := fun q h => hA q (Nat.le_trans hS.1 h)
  refine nd_cVi (As := [.int v0, .int v1]) (rest := []) (q := q1) (w' := dw_X9 (fun k => a (k + 3)) (fun k => ac (k + 3)) s2) ⟨hx, hb, hml, hown, hts⟩ (fun sz => dm_X9_evaluate l hlt dC dI (fun k => a (k + 3)) (fun k => ac (k + 3)) n (v0) (v1) s0.2 hq sz) (cwV 2 hts gi_dm_X1_worked_0 rfl rfl rfl (by decide +kernel) ⟨Nat.le_of_ble_eq_true rfl, Nat.le_of_ble_eq_true rfl⟩) hPc hDc hKc hS hA hN (va_recv hKc hPc (ci := 10) (q0 := 0) rfl rfl) rfl hl.1 rfl (Nat.le_of_ble_eq_true rfl) dX1_worked_6 (fun H locs hP1 hD1 hk1 hS => ?_)
  obtain ⟨hP, hD⟩ := dn_X1_3 hP hD hzA hk1 hP1 hD1
  obtain ⟨s4, es4, h⟩ := nd_let_e h
  have hP : va_P (dC, dI) vwCl (dw_X1 a ac s4) H := by rw [es4]; exact hP
  have hD : va_D A (dw_X1 a ac s4) := by rw [es4]; exact hD
  refine lv_istore_n (lv' := [(3, .int q1), (0, .ref (a 0)), (1, .int v0), (2, .int v1)]) hx hb dX1_worked_9 rfl hl (by decide) rfl (fun ls hl => ?_)
  refine lv_aload_n hx hb dX1_worked_10 rfl (lv_at hl 1 rfl) ?_
  refine va_get (D := (dC, dI)) (ci := 2) (v := .ref (a 3)) (C := RX1) (T := TX1) (N := 13) hx hb hts hi_dm_X1_worked_X1 hown hK hP 0 rfl rfl 0 (by decide) (hts (.fieldLink RX1 12 "TimeMachine$Assembler" "reader" "LTimeMachine$Reader;") (List.mem_of_getElem? (i := 1) rfl)) (fun _ h9 => h9) rfl dX1_worked_11 ?_
  refine va_get (D := (dC, dI)) (ci := 10) (v := .int (sI s4.2 11)) (C := RX9) (T := TX9) (N := 20) hx hb hts hi_dm_X1_worked_X9 hown hK hP 3 rfl rfl 19 (by decide) (hts (.fieldLink RX1 223 "TimeMachine$Reader" "trouble" "I") (List.mem_of_getElem? (i := 6) rfl)) (fun _ h9 => h9) rfl dX1_worked_14 ?_
  refine lv_if_eq (tgt := 31) hx hb dX1_worked_17 (by decide) (fun c5 => ?_) (fun c5 => ?_)
  · have h := nd_pos h c5
    exact (db_X1_worked_31 C K) (q1) s4 _ _ _ h hP hD hS (lv_sub hl [0] rfl)
  · have h := nd_neg h c5
    refine lv_aload_n hx hb dX1_worked_20 rfl (lv_at hl 1 rfl) ?_
    refine lv_aload_n hx hb dX1_worked_21 rfl (lv_at hl 1 rfl) ?_
    refine va_get (D := (dC, dI)) (ci := 2) (v := .ref (a 3)) (C := RX1) (T := TX1) (N := 13) hx hb hts hi_dm_X1_worked_X1 hown hK hP 0 rfl rfl 0 (by decide) (hts (.fieldLink RX1 12 "TimeMachine$Assembler" "reader" "LTimeMachine$Reader;") (List.mem_of_getElem? (i := 1) rfl)) (fun _ h9 => h9) rfl dX1_worked_22 ?_
    refine va_get (D := (dC, dI)) (ci := 10) (v := .int (sI s4.2 11)) (C := RX9) (T := TX9) (N := 20) hx hb hts hi_dm_X1_worked_X9 hown hK hP 3 rfl rfl 19 (by decide) (hts (.fieldLink RX1 223 "TimeMachine$Reader" "trouble" "I") (List.mem_of_getElem? (i := 6) rfl)) (fun _ h9 => h9) rfl dX1_worked_25 ?_
    obtain ⟨s7, hq, h⟩ := nd_b1_e h
    have hPc := hP
    have hDc := hD
    have hKc := hK
    have hFc := nd_rs hD hS hA
    refine nd_cVv (As := [.int (sI s4.2 11)]) (rest := []) (w' := dw_X1 a ac s7) ⟨hx, hb, hml, hown, hts⟩ (fun sz => dm_X1_blame l hlt dC dI a ac n ((sI s4.2 11)) s4 hq sz) (cwV 1 hts gi_dm_X1_worked_1 rfl rfl rfl (by decide +kernel) ⟨Nat.le_of_ble_eq_true rfl, Nat.le_of_ble_eq_true rfl⟩) hPc hDc hKc hS hA hN (va_recv hKc hPc (ci := 2) (q0 := 0) rfl rfl) rfl hl.1 rfl (Nat.le_of_ble_eq_true rfl) dX1_worked_28 (fun H locs hP1 hD1 hk1 hS => ?_)
    have hP := hP1
    have hD := hD1.weaken (fun k q _ h => hFc q.1 h)
    exact (db_X1_worked_31 C K) (q1) s7 _ _ _ h hP hD hS (lv_sub hl [0] rfl)
set_option maxHeartbeats 40000000 in
set_option maxRecDepth 100000 in
theorem dm_X1_worked (l : Launch) (hlt : l.stackTraces = false) (dC : Nat → ClassId) (dI : Nat → Nat → Nat) (a : Nat → Nat) (ac : Nat → ClassId) (n : Nat) (v0 : Int32) (v1 : Int32) (s0 : St × (St)) {r : Int32 × (St × (St))} (h : df_X1_worked n v0 v1 s0 = some r) (sz : Nat) : Met l yX1_worked ow_dm_X1_worked ({ frames := 3, cells := 0, slots := 0, locals := 64 }) (va_Pc [.ref (a 0), .int v0, .int v1] (fun U => U.heap.size = sz ∧ va_P (dC, dI) vwCl (dw_X1 a ac s0) U.heap ∧ va_K (dC, dI) vwCl (dk_X1 ac) U ∧ va_D (fun _ => True) (dw_X1 a ac s0) ∧ nv_E dI (va_A (dw_X1 a ac s0) sz) U)) (va_Qi (fun x _ => x = r.1) (fun (_ : Unit) t => va_P (dC, dI) vwCl (dw_X1 a ac r.2) t.heap ∧ va_K (dC, dI) vwCl (dk_X1 ac) t ∧ va_D (va_A (dw_X1 a ac s0) sz) (dw_X1 a ac r.2)) (va_A (dw_X1 a ac s0) sz)) 0 0 (va_A (dw_X1 a ac s0) sz) := by
  refine Met.ofW (cc := cX1_worked) (maxL := 4) (ret := (some .int)) (by decide) rfl ?_
  intro p e s m args below meth c s₁ B hml hv
  obtain ⟨rfl, hsz, hP, hK, hD0, hN⟩ := hv
  have hx := B.exec
  have hb := B.bytes
  have hr := B.returns
  have hts := atoms_spec (ws := ow_dm_X1_worked) B.pre
  have hown : s.vm.findClass RX1 = some m.cls := findClass_of_methodNamed B.named
  have hlocks := B.notSynchronized
  subst hsz
  have hD := hD0.self (sz := s.heap.size)
  generalize hAe : va_A (dw_X1 a ac s0) s.heap.size = A at hD hN ⊢
  have hA : ∀ q : Nat, s.heap.size ≤ q → A q := fun q h => by rw [← hAe]; exact Or.inr h
  have hl := lv_entry ([.ref (a 0), .int v0, .int v1]) (n := 4) (Nat.le_of_ble_eq_true rfl)
  rw [lg_entry_eq]
  generalize (lg_sl ([.ref (a 0), .int v0, .int v1]) ++ List.replicate (4 - (lg_sl ([.ref (a 0), .int v0, .int v1])).length) Slot.unset).toArray = ls at hl ⊢
  have hl : lv_has ls 4 [(0, .ref (a 0)), (1, .int v0), (2, .int v1)] := hl
  exact db_X1_worked_0 (dC := dC) (dI := dI) (a := a) (ac := ac) (n := n) (r := r) ⟨hlt, hx, hb, hml, hown, hts, hN, hA, hK⟩ (fun pc v τ H locs ls d z er hP hD hS => by subst er; exact W.zret (v := v) hx hb hr z (fun t ht hW => ⟨⟨v, (), rfl, rfl, by rw [ht]; exact hP, va_K.moved hW.alike hK, hD⟩, hS.F ht⟩) hS.2.2 d) v0 v1 s0 _ _ _ h hP hD va_S.rf (lv_sub hl [0, 1, 2] rfl)
def ow_dm_X1_checked : List Cond := Cond.code yX1_checked cX1_checked 3 (some .int) :: ([Cond.methodLink RX1 257 yX7_fits, Cond.static yX7_fits, Cond.initialized RX7, Cond.methodLink RX1 261 yX7_placed, Cond.static yX7_placed, Cond.methodLink RX1 77 yX1_blame, Cond.instanceMethod yX1_blame, Cond.selects RX1 yX1_blame yX1_blame, Cond.initialized RX1] ++ (ow_dm_X7_fits ++ (ow_dm_X7_placed ++ (ow_dm_X1_blame ++ []))))
theorem gd_dm_X1_checked : ∀ w ∈ ow_dm_X1_checked, (w.onTables && w.keeps) = true ∨ ∃ ty, w = Cond.arrayClass ty := List.forall_mem_cons.mpr ⟨good_of_word rfl, List.forall_mem_append.mpr ⟨fun w h => good_of_word (List.all_eq_true.mp (by decide +kernel) w h), List.forall_mem_append.mpr ⟨gd_dm_X7_fits, List.forall_mem_append.mpr ⟨gd_dm_X7_placed, List.forall_mem_append.mpr ⟨gd_dm_X1_blame, fun _ h => nomatch h⟩⟩⟩⟩⟩
theorem gi_dm_X1_checked_0 : GoodIn ow_dm_X1_checked (va_wsS RX1 257 yX7_fits ow_dm_X7_fits) := goodIn_app (goodIn_of _ (by decide +kernel)) (fun w h => ⟨List.mem_cons_of_mem _ (List.mem_append_right _ (List.mem_append_left _ h)), gd_dm_X7_fits w h⟩)
theorem gi_dm_X1_checked_1 : GoodIn ow_dm_X1_checked (va_wsS RX1 261 yX7_placed ow_dm_X7_placed) := goodIn_app (goodIn_of _ (by decide +kernel)) (fun w h => ⟨List.mem_cons_of_mem _ (List.mem_append_right _ (List.mem_append_right _ (List.mem_append_left _ h))), gd_dm_X7_placed w h⟩)
theorem gi_dm_X1_checked_2 : GoodIn ow_dm_X1_checked (wsV RX1 77 RX1 yX1_blame ow_dm_X1_blame) := goodIn_app (goodIn_of _ (by decide +kernel)) (fun w h => ⟨List.mem_cons_of_mem _ (List.mem_append_right _ (List.mem_append_right _ (List.mem_append_right _ (List.mem_append_left _ h)))), gd_dm_X1_blame w h⟩)
def dj_X1_checked_14 (p : Program) (l : Launch) (e : Env) (s : State) (m : MethodId) (args : Array Value) (below : List Frame) (meth : Method) (c : Code) (Q : State → Prop) (A : Nat → Prop) (dC : Nat → ClassId) (dI : Nat → Nat → Nat) (a : Nat → Nat) (ac : Nat → ClassId) (g : Int32 → Int32 → (St × (St)) → Option (Int32 × (St × (St)))) (r : Int32 × (St × (St))) : Prop := ∀ (x1 : Int32) (x2 : Int32) (s0 : St × (St)) (H : Heap) (locs : List Loc) (ls : Array Slot), g x1 x2 s0 = some r → va_P (dC, dI) vwCl (dw_X1 a ac s0) H → va_D A (dw_X1 a ac s0) → va_S A s.heap H locs → lv_has ls 3 [(1, .int x1), (2, .int x2)] → W p l e (headSpec ow_dm_X1_checked ({ frames := 3, cells := 0, slots := 0, locals := 65 })).room s m args below meth c H locs 0 0 Q (F0 m 14 ls [])
def dj_X1_checked_0 (p : Program) (l : Launch) (e : Env) (s : State) (m : MethodId) (args : Array Value) (below : List Frame) (meth : Method) (c : Code) (Q : State → Prop) (A : Nat → Prop) (dC : Nat → ClassId) (dI : Nat → Nat → Nat) (a : Nat → Nat) (ac : Nat → ClassId) (g : Int32 → Int32 → (St × (St)) → Option (Int32 × (St × (St)))) (r : Int32 × (St × (St))) : Prop := ∀ (v0 : Int32) (v1 : Int32) (s0 : St × (St)) (H : Heap) (locs : List Loc) (ls : Array Slot), g v0 v1 s0 = some r → va_P (dC, dI) vwCl (dw_X1 a ac s0) H → va_D A (dw_X1 a ac s0) → va_S A s.heap H locs → lv_has ls 3 [(0, .ref (a 0)), (1, .int v0), (2, .int v1)] → W p l e (headSpec ow_dm_X1_checked ({ frames := 3, cells := 0, slots := 0, locals := 65 })).room s m args below meth c H locs 0 0 Q (F0 m 0 ls [])
set_option maxHeartbeats 40000000 in
set_option maxRecDepth 100000 in
theorem db_X1_checked_14 {p : Program} {l : Launch} {e : Env} {s : State} {m : MethodId} {args : Array Value} {below : List Frame} {meth : Method} {c : Code} {Q : State → Prop} {A : Nat → Prop} {dC : Nat → ClassId} {dI : Nat → Nat → Nat} {a : Nat → Nat} {ac : Nat → ClassId} {n : Nat} {r : Int32 × (St × (St))} (C : nd_C p l s m args c A (dC, dI) cX1_checked 3 RX1 ow_dm_X1_checked (dk_X1 ac)) (K : nd_Ki p l e (headSpec ow_dm_X1_checked ({ frames := 3, cells := 0, slots := 0, locals := 65 })).room s m args below meth c Q A (dC, dI) cX1_checked .int (St × (St)) (dw_X1 a ac) r) : dj_X1_checked_14 p l e s m args below meth c Q A dC dI a ac (df_X1_checked_14 n) r := by
  obtain ⟨hlt, hx, hb, hml, hown, hts, hN, hA, hK⟩ := id C
  intro x1 x2 s0 H locs ls h hP hD hS hl
  unfold df_X1_checked_14 at h
  refine lv_iload_n hx hb dX1_checked_14 rfl (lv_at hl 0 rfl) ?_
  refine lv_iload_n hx hb dX1_checked_15 rfl (lv_at hl 1 rfl) ?_
  obtain ⟨q5, s6, hq, h⟩ := nd_b2_e h
  have hPc : va_P (dC, dI) vwCl (dw_P a ac ()) H := nd_p0
  have hDc : va_D A (dw_P a ac ()) := nd_d0
  have hKc : va_K (dC, dI) vwCl (dk_P ac) s := nd_y0 hK
  have hFc : ∀ q, va_A (dw_P a ac ()) H.size q → A q := nd_r0 hS hA
  refine nd_cSi (As := [.int x1, .int x2]) (rest := []) (q := q5) (w' := dw_P a ac s6) ⟨hx, hb, hml, hown, hts⟩ (fun sz => dm_X7_placed l hlt dC dI a ac n (x1) (x2) () hq sz) (va_cwS 2 hts gi_dm_X1_checked_1 rfl rfl rfl (by decide +kernel) ⟨Nat.le_of_ble_eq_true rfl, Nat.le_of_ble_eq_true rfl⟩) hPc hDc hKc hS hA hN rfl hl.1 rfl (Nat.le_of_ble_eq_true rfl) dX1_checked_16 (fun H locs hP1 hD1 hk1 hS => ?_)
  have hP := nd_n0 hP hk1
  exact K _ _ _ _ _ _ dX1_checked_19 rfl (Option.some.inj h).symm hP hD hS
set_option maxHeartbeats 40000000 in
set_option maxRecDepth 100000 in
theorem db_X1_checked_0 {p : Program} {l : Launch} {e : Env} {s : State} {m : MethodId} {args : Array Value} {below : List Frame} {meth : Method} {c : Code} {Q : State → Prop} {A : Nat → Prop} {dC : Nat → ClassId} {dI : Nat → Nat → Nat} {a : Nat → Nat} {ac : Nat → ClassId} {n : Nat} {r : Int32 × (St × (St))} (C : nd_C p l s m args c A (dC, dI) cX1_checked 3 RX1 ow_dm_X1_checked (dk_X1 ac)) (K : nd_Ki p l e (headSpec ow_dm_X1_checked ({ frames := 3, cells := 0, slots := 0, locals := 65 })).room s m args below meth c Q A (dC, dI) cX1_checked .int (St × (St)) (dw_X1 a ac) r) : dj_X1_checked_0 p l e s m args below meth c Q A dC dI a ac (df_X1_checked_0 n) r := by
  obtain ⟨hlt, hx, hb, hml, hown, hts, hN, hA, hK⟩ := id C
  intro v0 v1 s0 H locs ls h hP hD hS hl
  unfold df_X1_checked_0 at h
  refine lv_iload_n hx hb dX1_checked_0 rfl (lv_at hl 1 rfl) ?_
  refine lv_iload_n hx hb dX1_checked_1 rfl (lv_at hl 2 rfl) ?_
  obtain ⟨q1, s2, hq, h⟩ := nd_b2_e h
  have hPc : va_P (dC, dI) vwCl (dw_P a ac ()) H := nd_p0
  have hDc : va_D A (dw_P a ac ()) := nd_d0
  have hKc : va_K (dC, dI) vwCl (dk_P ac) s := nd_y0 hK
  have hFc : ∀ q, va_A (dw_P a ac ()) H.size q → A q := nd_r0 hS hA
  refine nd_cSi (As := [.int v0, .int v1]) (rest := []) (q := q1) (w' := dw_P a ac s2) ⟨hx, hb, hml, hown, hts⟩ (fun sz => dm_X7_fits l hlt dC dI a ac n (v0) (v1) () hq sz) (va_cwS 2 hts gi_dm_X1_checked_0 rfl rfl rfl (by decide +kernel) ⟨Nat.le_of_ble_eq_true rfl, Nat.le_of_ble_eq_true rfl⟩) hPc hDc hKc hS hA hN rfl hl.1 rfl (Nat.le_of_ble_eq_true rfl) dX1_checked_2 (fun H locs hP1 hD1 hk1 hS => ?_)
  have hP := nd_n0 hP hk1
  refine lv_if_ne (tgt := 14) hx hb dX1_checked_5 (by decide) (fun c4 => ?_) (fun c4 => ?_)
  · have h := nd_neg h c4
    exact (db_X1_checked_14 C K) (v0) (v1) s0 _ _ _ h hP hD hS (lv_sub hl [1, 2] rfl)
  · have h := nd_pos h c4
    refine lv_aload_n hx hb dX1_checked_8 rfl (lv_at hl 0 rfl) ?_
    refine lv_bipush (v := 10) hx hb dX1_checked_9 (by decide) ?_
    obtain ⟨s9, hq, h⟩ := nd_b1_e h
    have hPc := hP
    have hDc := hD
    have hKc := hK
    have hFc := nd_rs hD hS hA
    refine nd_cVv (As := [.int 10]) (rest := []) (w' := dw_X1 a ac s9) ⟨hx, hb, hml, hown, hts⟩ (fun sz => dm_X1_blame l hlt dC dI a ac n (10) s0 hq sz) (cwV 1 hts gi_dm_X1_checked_2 rfl rfl rfl (by decide +kernel) ⟨Nat.le_of_ble_eq_true rfl, Nat.le_of_ble_eq_true rfl⟩) hPc hDc hKc hS hA hN (va_recv hKc hPc (ci := 2) (q0 := 0) rfl rfl) rfl hl.1 rfl (Nat.le_of_ble_eq_true rfl) dX1_checked_11 (fun H locs hP1 hD1 hk1 hS => ?_)
    have hP := hP1
    have hD := hD1.weaken (fun k q _ h => hFc q.1 h)
    exact (db_X1_checked_14 C K) (v0) (v1) s9 _ _ _ h hP hD hS (lv_sub hl [1, 2] rfl)
set_option maxHeartbeats 40000000 in
set_option maxRecDepth 100000 in
theorem dm_X1_checked (l : Launch) (hlt : l.stackTraces = false) (dC : Nat → ClassId) (dI : Nat → Nat → Nat) (a : Nat → Nat) (ac : Nat → ClassId) (n : Nat) (v0 : Int32) (v1 : Int32) (s0 : St × (St)) {r : Int32 × (St × (St))} (h : df_X1_checked n v0 v1 s0 = some r) (sz : Nat) : Met l yX1_checked ow_dm_X1_checked ({ frames := 3, cells := 0, slots := 0, locals := 65 }) (va_Pc [.ref (a 0), .int v0, .int v1] (fun U => U.heap.size = sz ∧ va_P (dC, dI) vwCl (dw_X1 a ac s0) U.heap ∧ va_K (dC, dI) vwCl (dk_X1 ac) U ∧ va_D (fun _ => True) (dw_X1 a ac s0) ∧ nv_E dI (va_A (dw_X1 a ac s0) sz) U)) (va_Qi (fun x _ => x = r.1) (fun (_ : Unit) t => va_P (dC, dI) vwCl (dw_X1 a ac r.2) t.heap ∧ va_K (dC, dI) vwCl (dk_X1 ac) t ∧ va_D (va_A (dw_X1 a ac s0) sz) (dw_X1 a ac r.2)) (va_A (dw_X1 a ac s0) sz)) 0 0 (va_A (dw_X1 a ac s0) sz) := by
  refine Met.ofW (cc := cX1_checked) (maxL := 3) (ret := (some .int)) (by decide) rfl ?_
  intro p e s m args below meth c s₁ B hml hv
  obtain ⟨rfl, hsz, hP, hK, hD0, hN⟩ := hv
  have hx := B.exec
  have hb := B.bytes
  have hr := B.returns
  have hts := atoms_spec (ws := ow_dm_X1_checked) B.pre
  have hown : s.vm.findClass RX1 = some m.cls := findClass_of_methodNamed B.named
  have hlocks := B.notSynchronized
  subst hsz
  have hD := hD0.self (sz := s.heap.size)
  generalize hAe : va_A (dw_X1 a ac s0) s.heap.size = A at hD hN ⊢
  have hA : ∀ q : Nat, s.heap.size ≤ q → A q := fun q h => by rw [← hAe]; exact Or.inr h
  have hl := lv_entry ([.ref (a 0), .int v0, .int v1]) (n := 3) (Nat.le_of_ble_eq_true rfl)
  rw [lg_entry_eq]
  generalize (lg_sl ([.ref (a 0), .int v0, .int v1]) ++ List.replicate (3 - (lg_sl ([.ref (a 0), .int v0, .int v1])).length) Slot.unset).toArray = ls at hl ⊢
  have hl : lv_has ls 3 [(0, .ref (a 0)), (1, .int v0), (2, .int v1)] := hl
  exact db_X1_checked_0 (dC := dC) (dI := dI) (a := a) (ac := ac) (n := n) (r := r) ⟨hlt, hx, hb, hml, hown, hts, hN, hA, hK⟩ (fun pc v τ H locs ls d z er hP hD hS => by subst er; exact W.zret (v := v) hx hb hr z (fun t ht hW => ⟨⟨v, (), rfl, rfl, by rw [ht]; exact hP, va_K.moved hW.alike hK, hD⟩, hS.F ht⟩) hS.2.2 d) v0 v1 s0 _ _ _ h hP hD va_S.rf (lv_sub hl [0, 1, 2] rfl)
def ow_dm_X1_putPlain : List Cond := Cond.code yX1_putPlain cX1_putPlain 7 none :: ([Cond.fieldLink RX1 19 "TimeMachine$Assembler" "statement" "[I", Cond.methodLink RX1 340 yX1_put, Cond.instanceMethod yX1_put, Cond.selects RX1 yX1_put yX1_put, Cond.initialized RX1, Cond.methodLink RX1 330 yX1_worked, Cond.instanceMethod yX1_worked, Cond.selects RX1 yX1_worked yX1_worked, Cond.methodLink RX1 333 yX7_isTarget, Cond.static yX7_isTarget, Cond.initialized RX7, Cond.methodLink RX1 337 yX1_checked, Cond.instanceMethod yX1_checked, Cond.selects RX1 yX1_checked yX1_checked] ++ (u_ws RX1 TX1 13 ++ (ow_dm_X1_put ++ (ow_dm_X1_worked ++ (ow_dm_X7_isTarget ++ (ow_dm_X1_checked ++ []))))))
theorem gd_dm_X1_putPlain : ∀ w ∈ ow_dm_X1_putPlain, (w.onTables && w.keeps) = true ∨ ∃ ty, w = Cond.arrayClass ty := List.forall_mem_cons.mpr ⟨good_of_word rfl, List.forall_mem_append.mpr ⟨fun w h => good_of_word (List.all_eq_true.mp (by decide +kernel) w h), List.forall_mem_append.mpr ⟨gu_X1, List.forall_mem_append.mpr ⟨gd_dm_X1_put, List.forall_mem_append.mpr ⟨gd_dm_X1_worked, List.forall_mem_append.mpr ⟨gd_dm_X7_isTarget, List.forall_mem_append.mpr ⟨gd_dm_X1_checked, fun _ h => nomatch h⟩⟩⟩⟩⟩⟩⟩
theorem hi_dm_X1_putPlain_X1 : ∀ w ∈ u_ws RX1 TX1 13, w ∈ ow_dm_X1_putPlain := fun w h => List.mem_cons_of_mem _ (List.mem_append_right _ (List.mem_append_left _ h))
theorem gi_dm_X1_putPlain_0 : GoodIn ow_dm_X1_putPlain (wsV RX1 340 RX1 yX1_put ow_dm_X1_put) := goodIn_app (goodIn_of _ (by decide +kernel)) (fun w h => ⟨List.mem_cons_of_mem _ (List.mem_append_right _ (List.mem_append_right _ (List.mem_append_left _ h))), gd_dm_X1_put w h⟩)
theorem gi_dm_X1_putPlain_1 : GoodIn ow_dm_X1_putPlain (wsV RX1 330 RX1 yX1_worked ow_dm_X1_worked) := goodIn_app (goodIn_of _ (by decide +kernel)) (fun w h => ⟨List.mem_cons_of_mem _ (List.mem_append_right _ (List.mem_append_right _ (List.mem_append_right _ (List.mem_append_left _ h)))), gd_dm_X1_worked w h⟩)
theorem gi_dm_X1_putPlain_2 : GoodIn ow_dm_X1_putPlain (va_wsS RX1 333 yX7_isTarget ow_dm_X7_isTarget) := goodIn_app (goodIn_of _ (by decide +kernel)) (fun w h => ⟨List.mem_cons_of_mem _ (List.mem_append_right _ (List.mem_append_right _ (List.mem_append_right _ (List.mem_append_right _ (List.mem_append_left _ h))))), gd_dm_X7_isTarget w h⟩)
theorem gi_dm_X1_putPlain_3 : GoodIn ow_dm_X1_putPlain (wsV RX1 337 RX1 yX1_checked ow_dm_X1_checked) := goodIn_app (goodIn_of _ (by decide +kernel)) (fun w h => ⟨List.mem_cons_of_mem _ (List.mem_append_right _ (List.mem_append_right _ (List.mem_append_right _ (List.mem_append_right _ (List.mem_append_right _ (List.mem_append_left _ h)))))), gd_dm_X1_checked w h⟩)
def dj_X1_putPlain_80 (p : Program) (l : Launch) (e : Env) (s : State) (m : MethodId) (args : Array Value) (below : List Frame) (meth : Method) (c : Code) (Q : State → Prop) (A : Nat → Prop) (dC : Nat → ClassId) (dI : Nat → Nat → Nat) (a : Nat → Nat) (ac : Nat → ClassId) (g : Int32 → Int32 → Int32 → (St × (St × (St)) × (St)) → Option (St × (St × (St)) × (St))) (r : St × (St × (St)) × (St)) : Prop := ∀ (x2 : Int32) (x3 : Int32) (x4 : Int32) (s0 : St × (St × (St)) × (St)) (H : Heap) (locs : List Loc) (ls : Array Slot), g x2 x3 x4 s0 = some r → va_P (dC, dI) vwCl (dw_X1p a ac s0) H → va_D A (dw_X1p a ac s0) → va_S A s.heap H locs → lv_has ls 7 [(0, .ref (a 5)), (1, .ref (a 0)), (2, .int x2), (3, .int x3), (4, .int x4)] → W p l e (headSpec ow_dm_X1_putPlain ({ frames := 4, cells := 0, slots := 0, locals := 87 })).room s m args below meth c H locs 0 0 Q (F0 m 80 ls [])
def dj_X1_putPlain_75 (p : Program) (l : Launch) (e : Env) (s : State) (m : MethodId) (args : Array Value) (below : List Frame) (meth : Method) (c : Code) (Q : State → Prop) (A : Nat → Prop) (dC : Nat → ClassId) (dI : Nat → Nat → Nat) (a : Nat → Nat) (ac : Nat → ClassId) (g : Int32 → Int32 → Int32 → Int32 → Int32 → (St × (St × (St)) × (St)) → Option (St × (St × (St)) × (St))) (r : St × (St × (St)) × (St)) : Prop := ∀ (x2 : Int32) (x4 : Int32) (y0 : Int32) (y2 : Int32) (y3 : Int32) (s0 : St × (St × (St)) × (St)) (H : Heap) (locs : List Loc) (ls : Array Slot), g x2 x4 y0 y2 y3 s0 = some r → va_P (dC, dI) vwCl (dw_X1p a ac s0) H → va_D A (dw_X1p a ac s0) → va_S A s.heap H locs → lv_has ls 7 [(0, .ref (a 5)), (1, .ref (a 0)), (2, .int x2), (4, .int x4)] → W p l e (headSpec ow_dm_X1_putPlain ({ frames := 4, cells := 0, slots := 0, locals := 87 })).room s m args below meth c H locs 0 0 Q (F0 m 75 ls [.int y3, .int y2, .ref (a 5), .int y0])
def dj_X1_putPlain_0 (p : Program) (l : Launch) (e : Env) (s : State) (m : MethodId) (args : Array Value) (below : List Frame) (meth : Method) (c : Code) (Q : State → Prop) (A : Nat → Prop) (dC : Nat → ClassId) (dI : Nat → Nat → Nat) (a : Nat → Nat) (ac : Nat → ClassId) (g : Int32 → (St × (St × (St)) × (St)) → Option (St × (St × (St)) × (St))) (r : St × (St × (St)) × (St)) : Prop := ∀ (v1 : Int32) (s0 : St × (St × (St)) × (St)) (H : Heap) (locs : List Loc) (ls : Array Slot), g v1 s0 = some r → va_P (dC, dI) vwCl (dw_X1p a ac s0) H → va_D A (dw_X1p a ac s0) → va_S A s.heap H locs → lv_has ls 7 [(0, .ref (a 5)), (1, .ref (a 0)), (2, .int v1)] → W p l e (headSpec ow_dm_X1_putPlain ({ frames := 4, cells := 0, slots := 0, locals := 87 })).room s m args below meth c H locs 0 0 Q (F0 m 0 ls [])
set_option maxHeartbeats 40000000 in
set_option maxRecDepth 100000 in
theorem db_X1_putPlain_80 {p : Program} {l : Launch} {e : Env} {s : State} {m : MethodId} {args : Array Value} {below : List Frame} {meth : Method} {c : Code} {Q : State → Prop} {A : Nat → Prop} {dC : Nat → ClassId} {dI : Nat → Nat → Nat} {a : Nat → Nat} {ac : Nat → ClassId} {n : Nat} {r : St × (St × (St)) × (St)} (C : nd_C p l s m args c A (dC, dI) cX1_putPlain 7 RX1 ow_dm_X1_putPlain (dk_X1p ac)) (K : nd_Kv p l e (headSpec ow_dm_X1_putPlain ({ frames := 4, cells := 0, slots := 0, locals := 87 })).room s m args below meth c Q A (dC, dI) cX1_putPlain (St × (St × (St)) × (St)) (dw_X1p a ac) r) : dj_X1_putPlain_80 p l e s m args below meth c Q A dC dI a ac (df_X1_putPlain_80 n) r := by
  obtain ⟨hlt, hx, hb, hml, hown, hts, hN, hA, hK⟩ := id C
  intro x2 x3 x4 s0 H locs ls h hP hD hS hl
  unfold df_X1_putPlain_80 at h
  refine lv_aload_n hx hb dX1_putPlain_80 rfl (lv_at hl 0 rfl) ?_
  refine lv_aload_n hx hb dX1_putPlain_81 rfl (lv_at hl 1 rfl) ?_
  refine lv_iload hx hb dX1_putPlain_82 (lv_at hl 4 rfl) ?_
  refine lv_aload_n hx hb dX1_putPlain_84 rfl (lv_at hl 0 rfl) ?_
  refine va_get (D := (dC, dI)) (ci := 2) (v := .ref (a 6)) (C := RX1) (T := TX1) (N := 13) hx hb hts hi_dm_X1_putPlain_X1 hown hK hP 0 rfl rfl 1 (by decide) (hts (.fieldLink RX1 19 "TimeMachine$Assembler" "statement" "[I") (List.mem_of_getElem? (i := 1) rfl)) (fun _ h9 => h9) rfl dX1_putPlain_85 ?_
  refine lv_iload_n hx hb dX1_putPlain_88 rfl (lv_at hl 2 rfl) ?_
  refine lv_iconst (v := 3) hx hb dX1_putPlain_89 (by decide) ?_
  refine lv_iadd hx hb dX1_putPlain_90 ?_
  obtain ⟨i8, h⟩ := nd_ck_e h
  refine va_iald (i := (x2 + 3)) hx hb hK hP 1 0 rfl rfl i8 dX1_putPlain_91 ?_
  refine lv_iload_n hx hb dX1_putPlain_92 rfl (lv_at hl 3 rfl) ?_
  obtain ⟨s10, hq, h⟩ := nd_b1_e h
  have hPc := hP
  have hDc := hD
  have hKc := hK
  have hFc := nd_rs hD hS hA
  refine nd_cVv (As := [.ref (a 0), .int x4, .int (sR s0.2.1.1 0 (Int32.toNatClampNeg (x2 + 3))), .int x3]) (rest := []) (w' := dw_X1p a ac s10) ⟨hx, hb, hml, hown, hts⟩ (fun sz => dm_X1_put l hlt dC dI a ac n (x4) ((sR s0.2.1.1 0 (Int32.toNatClampNeg (x2 + 3)))) (x3) s0 hq sz) (cwV 4 hts gi_dm_X1_putPlain_0 rfl rfl rfl (by decide +kernel) ⟨Nat.le_of_ble_eq_true rfl, Nat.le_of_ble_eq_true rfl⟩) hPc hDc hKc hS hA hN (va_recv hKc hPc (ci := 2) (q0 := 0) rfl rfl) rfl hl.1 rfl (Nat.le_of_ble_eq_true rfl) dX1_putPlain_93 (fun H locs hP1 hD1 hk1 hS => ?_)
  have hP := hP1
  have hD := hD1.weaken (fun k q _ h => hFc q.1 h)
  exact K _ _ _ _ _ dX1_putPlain_96 (Option.some.inj h).symm hP hD hS
set_option maxHeartbeats 40000000 in
set_option maxRecDepth 100000 in
theorem db_X1_putPlain_75 {p : Program} {l : Launch} {e : Env} {s : State} {m : MethodId} {args : Array Value} {below : List Frame} {meth : Method} {c : Code} {Q : State → Prop} {A : Nat → Prop} {dC : Nat → ClassId} {dI : Nat → Nat → Nat} {a : Nat → Nat} {ac : Nat → ClassId} {n : Nat} {r : St × (St × (St)) × (St)} (C : nd_C p l s m args c A (dC, dI) cX1_putPlain 7 RX1 ow_dm_X1_putPlain (dk_X1p ac)) (K : nd_Kv p l e (headSpec ow_dm_X1_putPlain ({ frames := 4, cells := 0, slots := 0, locals := 87 })).room s m args below meth c Q A (dC, dI) cX1_putPlain (St × (St × (St)) × (St)) (dw_X1p a ac) r) : dj_X1_putPlain_75 p l e s m args below meth c Q A dC dI a ac (df_X1_putPlain_75 n) r := by
  obtain ⟨hlt, hx, hb, hml, hown, hts, hN, hA, hK⟩ := id C
  intro x2 x4 y0 y2 y3 s0 H locs ls h hP hD hS hl
  unfold df_X1_putPlain_75 at h
  obtain ⟨q21, s22, hq, h⟩ := nd_b2_e h
  have hPc := dp_X1p_5 hP
  have hDc := dd_X1p_5 hD
  have hKc := dy_X1p_5 hK
  have hFc := nd_rs hDc hS hA
  have hzA : ∀ q : Nat, H.size ≤ q → A q := fun q h => hA q (Nat.le_trans hS.1 h)
  refine nd_cVi (As := [.int y2, .int y3]) (rest := [.int y0]) (q := q21) (w' := dw_X1 (fun k => a (k + 5)) (fun k => ac (k + 5)) s22) ⟨hx, hb, hml, hown, hts⟩ (fun sz => dm_X1_checked l hlt dC dI (fun k => a (k + 5)) (fun k => ac (k + 5)) n (y2) (y3) s0.2.1 hq sz) (cwV 2 hts gi_dm_X1_putPlain_3 rfl rfl rfl (by decide +kernel) ⟨Nat.le_of_ble_eq_true rfl, Nat.le_of_ble_eq_true rfl⟩) hPc hDc hKc hS hA hN (va_recv hKc hPc (ci := 2) (q0 := 0) rfl rfl) rfl hl.1 rfl (Nat.le_of_ble_eq_true rfl) dX1_putPlain_75 (fun H locs hP1 hD1 hk1 hS => ?_)
  obtain ⟨hP, hD⟩ := dn_X1p_5 hP hD hzA hk1 hP1 hD1
  obtain ⟨s24, es24, h⟩ := nd_let_e h
  have hP : va_P (dC, dI) vwCl (dw_X1p a ac s24) H := by rw [es24]; exact hP
  have hD : va_D A (dw_X1p a ac s24) := by rw [es24]; exact hD
  refine lv_ior hx hb dX1_putPlain_78 ?_
  refine lv_topi (fun z25 ez25 => ?_)
  have h := nd_at h ez25
  refine lv_istore_n (lv' := [(3, .int z25), (0, .ref (a 5)), (1, .ref (a 0)), (2, .int x2), (4, .int x4)]) hx hb dX1_putPlain_79 rfl hl (by decide) rfl (fun ls hl => ?_)
  exact (db_X1_putPlain_80 C K) (x2) (z25) (x4) s24 _ _ _ h hP hD hS (lv_sub hl [1, 2, 3, 0, 4] rfl)
set_option maxHeartbeats 40000000 in
set_option maxRecDepth 100000 in
theorem db_X1_putPlain_0 {p : Program} {l : Launch} {e : Env} {s : State} {m : MethodId} {args : Array Value} {below : List Frame} {meth : Method} {c : Code} {Q : State → Prop} {A : Nat → Prop} {dC : Nat → ClassId} {dI : Nat → Nat → Nat} {a : Nat → Nat} {ac : Nat → ClassId} {n : Nat} {r : St × (St × (St)) × (St)} (C : nd_C p l s m args c A (dC, dI) cX1_putPlain 7 RX1 ow_dm_X1_putPlain (dk_X1p ac)) (K : nd_Kv p l e (headSpec ow_dm_X1_putPlain ({ frames := 4, cells := 0, slots := 0, locals := 87 })).room s m args below meth c Q A (dC, dI) cX1_putPlain (St × (St × (St)) × (St)) (dw_X1p a ac) r) : dj_X1_putPlain_0 p l e s m args below meth c Q A dC dI a ac (df_X1_putPlain_0 n) r := by
  obtain ⟨hlt, hx, hb, hml, hown, hts, hN, hA, hK⟩ := id C
  intro v1 s0 H locs ls h hP hD hS hl
  unfold df_X1_putPlain_0 at h
  refine lv_aload_n hx hb dX1_putPlain_0 rfl (lv_at hl 0 rfl) ?_
  refine va_get (D := (dC, dI)) (ci := 2) (v := .ref (a 6)) (C := RX1) (T := TX1) (N := 13) hx hb hts hi_dm_X1_putPlain_X1 hown hK hP 0 rfl rfl 1 (by decide) (hts (.fieldLink RX1 19 "TimeMachine$Assembler" "statement" "[I") (List.mem_of_getElem? (i := 1) rfl)) (fun _ h9 => h9) rfl dX1_putPlain_1 ?_
  refine lv_iload_n hx hb dX1_putPlain_4 rfl (lv_at hl 2 rfl) ?_
  refine lv_iconst (v := 5) hx hb dX1_putPlain_5 (by decide) ?_
  refine lv_iadd hx hb dX1_putPlain_6 ?_
  obtain ⟨i1, h⟩ := nd_ck_e h
  refine va_iald (i := (v1 + 5)) hx hb hK hP 1 0 rfl rfl i1 dX1_putPlain_7 ?_
  refine lv_topi (fun z2 ez2 => ?_)
  have h := nd_at h ez2
  refine lv_istore_n (lv' := [(3, .int z2), (0, .ref (a 5)), (1, .ref (a 0)), (2, .int v1)]) hx hb dX1_putPlain_8 rfl hl (by decide) rfl (fun ls hl => ?_)
  refine lv_aload_n hx hb dX1_putPlain_9 rfl (lv_at hl 1 rfl) ?_
  refine va_get (D := (dC, dI)) (ci := 2) (v := .ref (a 6)) (C := RX1) (T := TX1) (N := 13) hx hb hts hi_dm_X1_putPlain_X1 hown hK hP 0 rfl rfl 1 (by decide) (hts (.fieldLink RX1 19 "TimeMachine$Assembler" "statement" "[I") (List.mem_of_getElem? (i := 1) rfl)) (fun _ h9 => h9) rfl dX1_putPlain_10 ?_
  refine lv_iload_n hx hb dX1_putPlain_13 rfl (lv_at hl 3 rfl) ?_
  refine lv_iconst (v := 2) hx hb dX1_putPlain_14 (by decide) ?_
  refine lv_iadd hx hb dX1_putPlain_15 ?_
  obtain ⟨i3, h⟩ := nd_ck_e h
  refine va_iald (i := (v1 + 2)) hx hb hK hP 1 0 rfl rfl i3 dX1_putPlain_16 ?_
  refine lv_topi (fun z4 ez4 => ?_)
  have h := nd_at h ez4
  refine lv_istore (lv' := [(4, .int z4), (3, .int z2), (0, .ref (a 5)), (1, .ref (a 0)), (2, .int v1)]) hx hb dX1_putPlain_17 hl (by decide) rfl (fun ls hl => ?_)
  refine lv_aload_n hx hb dX1_putPlain_19 rfl (lv_at hl 2 rfl) ?_
  refine va_get (D := (dC, dI)) (ci := 2) (v := .ref (a 6)) (C := RX1) (T := TX1) (N := 13) hx hb hts hi_dm_X1_putPlain_X1 hown hK hP 0 rfl rfl 1 (by decide) (hts (.fieldLink RX1 19 "TimeMachine$Assembler" "statement" "[I") (List.mem_of_getElem? (i := 1) rfl)) (fun _ h9 => h9) rfl dX1_putPlain_20 ?_
  refine lv_iload_n hx hb dX1_putPlain_23 rfl (lv_at hl 4 rfl) ?_
  refine lv_bipush (v := 7) hx hb dX1_putPlain_24 (by decide) ?_
  refine lv_iadd hx hb dX1_putPlain_26 ?_
  obtain ⟨i5, h⟩ := nd_ck_e h
  refine va_iald (i := (v1 + 7)) hx hb hK hP 1 0 rfl rfl i5 dX1_putPlain_27 ?_
  refine lv_i2c hx hb dX1_putPlain_28 rfl ?_
  refine lv_topi (fun z6 ez6 => ?_)
  have h := nd_at h ez6
  refine lv_istore (lv' := [(5, .int z6), (4, .int z4), (3, .int z2), (0, .ref (a 5)), (1, .ref (a 0)), (2, .int v1)]) hx hb dX1_putPlain_29 hl (by decide) rfl (fun ls hl => ?_)
  refine lv_iload hx hb dX1_putPlain_31 (lv_at hl 0 rfl) ?_
  refine lv_if_eq (tgt := 80) hx hb dX1_putPlain_33 (by decide) (fun c7 => ?_) (fun c7 => ?_)
  · have h := nd_pos h c7
    exact (db_X1_putPlain_80 C K) (v1) (z2) (z4) s0 _ _ _ h hP hD hS (lv_sub hl [3, 4, 5, 2, 1] rfl)
  · have h := nd_neg h c7
    refine lv_aload_n hx hb dX1_putPlain_36 rfl (lv_at hl 3 rfl) ?_
    refine lv_aload_n hx hb dX1_putPlain_37 rfl (lv_at hl 3 rfl) ?_
    refine va_get (D := (dC, dI)) (ci := 2) (v := .ref (a 6)) (C := RX1) (T := TX1) (N := 13) hx hb hts hi_dm_X1_putPlain_X1 hown hK hP 0 rfl rfl 1 (by decide) (hts (.fieldLink RX1 19 "TimeMachine$Assembler" "statement" "[I") (List.mem_of_getElem? (i := 1) rfl)) (fun _ h9 => h9) rfl dX1_putPlain_38 ?_
    refine lv_iload_n hx hb dX1_putPlain_41 rfl (lv_at hl 5 rfl) ?_
    refine lv_bipush (v := 6) hx hb dX1_putPlain_42 (by decide) ?_
    refine lv_iadd hx hb dX1_putPlain_44 ?_
    obtain ⟨i12, h⟩ := nd_ck_e h
    refine va_iald (i := (v1 + 6)) hx hb hK hP 1 0 rfl rfl i12 dX1_putPlain_45 ?_
    refine lv_iload hx hb dX1_putPlain_46 (lv_at hl 1 rfl) ?_
    obtain ⟨q13, s14, hq, h⟩ := nd_b2_e h
    have hPc := dp_X1p_5 hP
    have hDc := dd_X1p_5 hD
    have hKc := dy_X1p_5 hK
    have hFc := nd_rs hDc hS hA
    have hzA : ∀ q : Nat, H.size ≤ q → A q := fun q h => hA q (Nat.le_trans hS.1 h)
    refine nd_cVi (As := [.int (sR s0.2.1.1 0 (Int32.toNatClampNeg (v1 + 6))), .int z4]) (rest := []) (q := q13) (w' := dw_X1 (fun k => a (k + 5)) (fun k => ac (k + 5)) s14) ⟨hx, hb, hml, hown, hts⟩ (fun sz => dm_X1_worked l hlt dC dI (fun k => a (k + 5)) (fun k => ac (k + 5)) n ((sR s0.2.1.1 0 (Int32.toNatClampNeg (v1 + 6)))) (z4) s0.2.1 hq sz) (cwV 2 hts gi_dm_X1_putPlain_1 rfl rfl rfl (by decide +kernel) ⟨Nat.le_of_ble_eq_true rfl, Nat.le_of_ble_eq_true rfl⟩) hPc hDc hKc hS hA hN (va_recv hKc hPc (ci := 2) (q0 := 0) rfl rfl) rfl hl.1 rfl (Nat.le_of_ble_eq_true rfl) dX1_putPlain_48 (fun H locs hP1 hD1 hk1 hS => ?_)
    obtain ⟨hP, hD⟩ := dn_X1p_5 hP hD hzA hk1 hP1 hD1
    obtain ⟨s16, es16, h⟩ := nd_let_e h
    have hP : va_P (dC, dI) vwCl (dw_X1p a ac s16) H := by rw [es16]; exact hP
    have hD : va_D A (dw_X1p a ac s16) := by rw [es16]; exact hD
    refine lv_istore (lv' := [(6, .int q13), (5, .int z6), (4, .int z4), (3, .int z2), (0, .ref (a 5)), (1, .ref (a 0)), (2, .int v1)]) hx hb dX1_putPlain_51 hl (by decide) rfl (fun ls hl => ?_)
    refine lv_iload_n hx hb dX1_putPlain_53 rfl (lv_at hl 3 rfl) ?_
    refine lv_aload_n hx hb dX1_putPlain_54 rfl (lv_at hl 4 rfl) ?_
    refine lv_iload hx hb dX1_putPlain_55 (lv_at hl 1 rfl) ?_
    refine lv_iload hx hb dX1_putPlain_57 (lv_at hl 1 rfl) ?_
    obtain ⟨q17, s18, hq, h⟩ := nd_b2_e h
    have hPc : va_P (dC, dI) vwCl (dw_P a ac ()) H := nd_p0
    have hDc : va_D A (dw_P a ac ()) := nd_d0
    have hKc : va_K (dC, dI) vwCl (dk_P ac) s := nd_y0 hK
    have hFc : ∀ q, va_A (dw_P a ac ()) H.size q → A q := nd_r0 hS hA
    refine nd_cSi (As := [.int z6]) (rest := [.int z6, .ref (a 5), .int z2]) (q := q17) (w' := dw_P a ac s18) ⟨hx, hb, hml, hown, hts⟩ (fun sz => dm_X7_isTarget l hlt dC dI a ac n (z6) () hq sz) (va_cwS 1 hts gi_dm_X1_putPlain_2 rfl rfl rfl (by decide +kernel) ⟨Nat.le_of_ble_eq_true rfl, Nat.le_of_ble_eq_true rfl⟩) hPc hDc hKc hS hA hN rfl hl.1 rfl (Nat.le_of_ble_eq_true rfl) dX1_putPlain_59 (fun H locs hP1 hD1 hk1 hS => ?_)
    have hP := nd_n0 hP hk1
    refine lv_if_eq (tgt := 73) hx hb dX1_putPlain_62 (by decide) (fun c20 => ?_) (fun c20 => ?_)
    · have h := nd_pos h c20
      refine lv_iload hx hb dX1_putPlain_73 (lv_at hl 0 rfl) ?_
      exact (db_X1_putPlain_75 C K) (v1) (z4) (z2) (z6) (q13) s16 _ _ _ h hP hD hS (lv_sub hl [4, 5, 6, 2] rfl)
    · have h := nd_neg h c20
      refine lv_iload hx hb dX1_putPlain_65 (lv_at hl 0 rfl) ?_
      refine lv_iload hx hb dX1_putPlain_67 (lv_at hl 2 rfl) ?_
      refine lv_isub hx hb dX1_putPlain_69 ?_
      refine lv_goto (tgt := 75) hx hb dX1_putPlain_70 (by decide) ?_
      exact (db_X1_putPlain_75 C K) (v1) (z4) (z2) (z6) ((q13 - z4)) s16 _ _ _ h hP hD hS (lv_sub hl [4, 5, 6, 2] rfl)
set_option maxHeartbeats 40000000 in
set_option maxRecDepth 100000 in
theorem dm_X1_putPlain (l : Launch) (hlt : l.stackTraces = false) (dC : Nat → ClassId) (dI : Nat → Nat → Nat) (a : Nat → Nat) (ac : Nat → ClassId) (n : Nat) (v1 : Int32) (s0 : St × (St × (St)) × (St)) {r : St × (St × (St)) × (St)} (h : df_X1_putPlain n v1 s0 = some r) (sz : Nat) : Met l yX1_putPlain ow_dm_X1_putPlain ({ frames := 4, cells := 0, slots := 0, locals := 87 }) (va_Pc [.ref (a 5), .ref (a 0), .int v1] (fun U => U.heap.size = sz ∧ va_P (dC, dI) vwCl (dw_X1p a ac s0) U.heap ∧ va_K (dC, dI) vwCl (dk_X1p ac) U ∧ va_D (fun _ => True) (dw_X1p a ac s0) ∧ nv_E dI (va_A (dw_X1p a ac s0) sz) U)) (va_Qv (fun _ => True) (fun (_ : Unit) t => va_P (dC, dI) vwCl (dw_X1p a ac r) t.heap ∧ va_K (dC, dI) vwCl (dk_X1p ac) t ∧ va_D (va_A (dw_X1p a ac s0) sz) (dw_X1p a ac r)) (va_A (dw_X1p a ac s0) sz)) 0 0 (va_A (dw_X1p a ac s0) sz) := by
  refine Met.ofW (cc := cX1_putPlain) (maxL := 7) (ret := none) (by decide) rfl ?_
  intro p e s m args below meth c s₁ B hml hv
  obtain ⟨rfl, hsz, hP, hK, hD0, hN⟩ := hv
  have hx := B.exec
  have hb := B.bytes
  have hr := B.returns
  have hts := atoms_spec (ws := ow_dm_X1_putPlain) B.pre
  have hown : s.vm.findClass RX1 = some m.cls := findClass_of_methodNamed B.named
  have hlocks := B.notSynchronized
  subst hsz
  have hD := hD0.self (sz := s.heap.size)
  generalize hAe : va_A (dw_X1p a ac s0) s.heap.size = A at hD hN ⊢
  have hA : ∀ q : Nat, s.heap.size ≤ q → A q := fun q h => by rw [← hAe]; exact Or.inr h
  have hl := lv_entry ([.ref (a 5), .ref (a 0), .int v1]) (n := 7) (Nat.le_of_ble_eq_true rfl)
  rw [lg_entry_eq]
  generalize (lg_sl ([.ref (a 5), .ref (a 0), .int v1]) ++ List.replicate (7 - (lg_sl ([.ref (a 5), .ref (a 0), .int v1])).length) Slot.unset).toArray = ls at hl ⊢
  have hl : lv_has ls 7 [(0, .ref (a 5)), (1, .ref (a 0)), (2, .int v1)] := hl
  exact db_X1_putPlain_0 (dC := dC) (dI := dI) (a := a) (ac := ac) (n := n) (r := r) ⟨hlt, hx, hb, hml, hown, hts, hN, hA, hK⟩ (fun pc τ H locs ls d er hP hD hS => by subst er; exact W.vret hx hb hr (fun t ht hW => ⟨⟨(), rfl, trivial, by rw [ht]; exact hP, va_K.moved hW.alike hK, hD⟩, hS.F ht⟩) hS.2.2 d) v1 s0 _ _ _ h hP hD va_S.rf (lv_sub hl [0, 1, 2] rfl)
def ow_dm_X1_putGrown : List Cond := Cond.code yX1_putGrown cX1_putGrown 8 none :: ([Cond.fieldLink RX1 19 "TimeMachine$Assembler" "statement" "[I", Cond.methodLink RX1 330 yX1_worked, Cond.instanceMethod yX1_worked, Cond.selects RX1 yX1_worked yX1_worked, Cond.initialized RX1, Cond.methodLink RX1 296 yX1_growingLetter, Cond.static yX1_growingLetter, Cond.methodLink RX1 337 yX1_checked, Cond.instanceMethod yX1_checked, Cond.selects RX1 yX1_checked yX1_checked, Cond.methodLink RX1 340 yX1_put, Cond.instanceMethod yX1_put, Cond.selects RX1 yX1_put yX1_put, Cond.constant RX1 345 (49153), Cond.methodLink RX1 261 yX7_placed, Cond.static yX7_placed, Cond.initialized RX7, Cond.constant RX1 344 (40961)] ++ (u_ws RX1 TX1 13 ++ (ow_dm_X1_worked ++ (ow_dm_X1_growingLetter ++ (ow_dm_X1_checked ++ (ow_dm_X1_put ++ (ow_dm_X7_placed ++ [])))))))
theorem gd_dm_X1_putGrown : ∀ w ∈ ow_dm_X1_putGrown, (w.onTables && w.keeps) = true ∨ ∃ ty, w = Cond.arrayClass ty := List.forall_mem_cons.mpr ⟨good_of_word rfl, List.forall_mem_append.mpr ⟨fun w h => good_of_word (List.all_eq_true.mp (by decide +kernel) w h), List.forall_mem_append.mpr ⟨gu_X1, List.forall_mem_append.mpr ⟨gd_dm_X1_worked, List.forall_mem_append.mpr ⟨gd_dm_X1_growingLetter, List.forall_mem_append.mpr ⟨gd_dm_X1_checked, List.forall_mem_append.mpr ⟨gd_dm_X1_put, List.forall_mem_append.mpr ⟨gd_dm_X7_placed, fun _ h => nomatch h⟩⟩⟩⟩⟩⟩⟩⟩
theorem hi_dm_X1_putGrown_X1 : ∀ w ∈ u_ws RX1 TX1 13, w ∈ ow_dm_X1_putGrown := fun w h => List.mem_cons_of_mem _ (List.mem_append_right _ (List.mem_append_left _ h))
theorem gi_dm_X1_putGrown_0 : GoodIn ow_dm_X1_putGrown (wsV RX1 330 RX1 yX1_worked ow_dm_X1_worked) := goodIn_app (goodIn_of _ (by decide +kernel)) (fun w h => ⟨List.mem_cons_of_mem _ (List.mem_append_right _ (List.mem_append_right _ (List.mem_append_left _ h))), gd_dm_X1_worked w h⟩)
theorem gi_dm_X1_putGrown_1 : GoodIn ow_dm_X1_putGrown (wsS RX1 296 yX1_growingLetter ow_dm_X1_growingLetter) := goodIn_app (goodIn_of _ (by decide +kernel)) (fun w h => ⟨List.mem_cons_of_mem _ (List.mem_append_right _ (List.mem_append_right _ (List.mem_append_right _ (List.mem_append_left _ h)))), gd_dm_X1_growingLetter w h⟩)
theorem gi_dm_X1_putGrown_2 : GoodIn ow_dm_X1_putGrown (wsV RX1 337 RX1 yX1_checked ow_dm_X1_checked) := goodIn_app (goodIn_of _ (by decide +kernel)) (fun w h => ⟨List.mem_cons_of_mem _ (List.mem_append_right _ (List.mem_append_right _ (List.mem_append_right _ (List.mem_append_right _ (List.mem_append_left _ h))))), gd_dm_X1_checked w h⟩)
theorem gi_dm_X1_putGrown_3 : GoodIn ow_dm_X1_putGrown (wsV RX1 340 RX1 yX1_put ow_dm_X1_put) := goodIn_app (goodIn_of _ (by decide +kernel)) (fun w h => ⟨List.mem_cons_of_mem _ (List.mem_append_right _ (List.mem_append_right _ (List.mem_append_right _ (List.mem_append_right _ (List.mem_append_right _ (List.mem_append_left _ h)))))), gd_dm_X1_put w h⟩)
theorem gi_dm_X1_putGrown_4 : GoodIn ow_dm_X1_putGrown (va_wsS RX1 261 yX7_placed ow_dm_X7_placed) := goodIn_app (goodIn_of _ (by decide +kernel)) (fun w h => ⟨List.mem_cons_of_mem _ (List.mem_append_right _ (List.mem_append_right _ (List.mem_append_right _ (List.mem_append_right _ (List.mem_append_right _ (List.mem_append_right _ (List.mem_append_left _ h))))))), gd_dm_X7_placed w h⟩)
def dj_X1_putGrown_171 (p : Program) (l : Launch) (e : Env) (s : State) (m : MethodId) (args : Array Value) (below : List Frame) (meth : Method) (c : Code) (Q : State → Prop) (A : Nat → Prop) (dC : Nat → ClassId) (dI : Nat → Nat → Nat) (a : Nat → Nat) (ac : Nat → ClassId) (g : Int32 → Int32 → Int32 → Int32 → Int32 → (St × (St × (St)) × (St)) → Option (St × (St × (St)) × (St))) (r : St × (St × (St)) × (St)) : Prop := ∀ (x3 : Int32) (x4 : Int32) (x5 : Int32) (x6 : Int32) (x7 : Int32) (s0 : St × (St × (St)) × (St)) (H : Heap) (locs : List Loc) (ls : Array Slot), g x3 x4 x5 x6 x7 s0 = some r → va_P (dC, dI) vwCl (dw_X1p a ac s0) H → va_D A (dw_X1p a ac s0) → va_S A s.heap H locs → lv_has ls 8 [(0, .ref (a 5)), (1, .ref (a 0)), (3, .int x3), (4, .int x4), (5, .int x5), (6, .int x6), (7, .int x7)] → W p l e (headSpec ow_dm_X1_putGrown ({ frames := 4, cells := 0, slots := 0, locals := 87 })).room s m args below meth c H locs 0 0 Q (F0 m 171 ls [])
def dj_X1_putGrown_142 (p : Program) (l : Launch) (e : Env) (s : State) (m : MethodId) (args : Array Value) (below : List Frame) (meth : Method) (c : Code) (Q : State → Prop) (A : Nat → Prop) (dC : Nat → ClassId) (dI : Nat → Nat → Nat) (a : Nat → Nat) (ac : Nat → ClassId) (g : Int32 → Int32 → Int32 → Int32 → Int32 → (St × (St × (St)) × (St)) → Option (St × (St × (St)) × (St))) (r : St × (St × (St)) × (St)) : Prop := ∀ (x4 : Int32) (x5 : Int32) (x6 : Int32) (x7 : Int32) (y0 : Int32) (s0 : St × (St × (St)) × (St)) (H : Heap) (locs : List Loc) (ls : Array Slot), g x4 x5 x6 x7 y0 s0 = some r → va_P (dC, dI) vwCl (dw_X1p a ac s0) H → va_D A (dw_X1p a ac s0) → va_S A s.heap H locs → lv_has ls 8 [(0, .ref (a 5)), (1, .ref (a 0)), (4, .int x4), (5, .int x5), (6, .int x6), (7, .int x7)] → W p l e (headSpec ow_dm_X1_putGrown ({ frames := 4, cells := 0, slots := 0, locals := 87 })).room s m args below meth c H locs 0 0 Q (F0 m 142 ls [.int y0])
def dj_X1_putGrown_0 (p : Program) (l : Launch) (e : Env) (s : State) (m : MethodId) (args : Array Value) (below : List Frame) (meth : Method) (c : Code) (Q : State → Prop) (A : Nat → Prop) (dC : Nat → ClassId) (dI : Nat → Nat → Nat) (a : Nat → Nat) (ac : Nat → ClassId) (g : Int32 → (St × (St × (St)) × (St)) → Option (St × (St × (St)) × (St))) (r : St × (St × (St)) × (St)) : Prop := ∀ (v1 : Int32) (s0 : St × (St × (St)) × (St)) (H : Heap) (locs : List Loc) (ls : Array Slot), g v1 s0 = some r → va_P (dC, dI) vwCl (dw_X1p a ac s0) H → va_D A (dw_X1p a ac s0) → va_S A s.heap H locs → lv_has ls 8 [(0, .ref (a 5)), (1, .ref (a 0)), (2, .int v1)] → W p l e (headSpec ow_dm_X1_putGrown ({ frames := 4, cells := 0, slots := 0, locals := 87 })).room s m args below meth c H locs 0 0 Q (F0 m 0 ls [])
set_option maxHeartbeats 40000000 in
set_option maxRecDepth 100000 in
theorem db_X1_putGrown_171 {p : Program} {l : Launch} {e : Env} {s : State} {m : MethodId} {args : Array Value} {below : List Frame} {meth : Method} {c : Code} {Q : State → Prop} {A : Nat → Prop} {dC : Nat → ClassId} {dI : Nat → Nat → Nat} {a : Nat → Nat} {ac : Nat → ClassId} {n : Nat} {r : St × (St × (St)) × (St)} (C : nd_C p l s m args c A (dC, dI) cX1_putGrown 8 RX1 ow_dm_X1_putGrown (dk_X1p ac)) (K : nd_Kv p l e (headSpec ow_dm_X1_putGrown ({ frames := 4, cells := 0, slots := 0, locals := 87 })).room s m args below meth c Q A (dC, dI) cX1_putGrown (St × (St × (St)) × (St)) (dw_X1p a ac) r) : dj_X1_putGrown_171 p l e s m args below meth c Q A dC dI a ac (df_X1_putGrown_171 n) r := by
  obtain ⟨hlt, hx, hb, hml, hown, hts, hN, hA, hK⟩ := id C
  intro x3 x4 x5 x6 x7 s0 H locs ls h hP hD hS hl
  unfold df_X1_putGrown_171 at h
  refine lv_aload_n hx hb dX1_putGrown_171 rfl (lv_at hl 0 rfl) ?_
  refine lv_aload_n hx hb dX1_putGrown_172 rfl (lv_at hl 1 rfl) ?_
  refine lv_iload hx hb dX1_putGrown_173 (lv_at hl 3 rfl) ?_
  refine lv_iload hx hb dX1_putGrown_175 (lv_at hl 4 rfl) ?_
  refine lv_iload_n hx hb dX1_putGrown_177 rfl (lv_at hl 2 rfl) ?_
  refine lv_aload_n hx hb dX1_putGrown_178 rfl (lv_at hl 0 rfl) ?_
  refine lv_iload hx hb dX1_putGrown_179 (lv_at hl 5 rfl) ?_
  refine lv_iload hx hb dX1_putGrown_181 (lv_at hl 4 rfl) ?_
  obtain ⟨q17, s18, hq, h⟩ := nd_b2_e h
  have hPc : va_P (dC, dI) vwCl (dw_P a ac ()) H := nd_p0
  have hDc : va_D A (dw_P a ac ()) := nd_d0
  have hKc : va_K (dC, dI) vwCl (dk_P ac) s := nd_y0 hK
  have hFc : ∀ q, va_A (dw_P a ac ()) H.size q → A q := nd_r0 hS hA
  refine nd_cSi (As := [.int x6, .int x5]) (rest := [.ref (a 5), .int x3, .int x5, .int x4, .ref (a 0), .ref (a 5)]) (q := q17) (w' := dw_P a ac s18) ⟨hx, hb, hml, hown, hts⟩ (fun sz => dm_X1_growingLetter l hlt dC dI a ac n (x6) (x5) () hq sz) (cwS 2 hts gi_dm_X1_putGrown_1 rfl rfl rfl (by decide +kernel) ⟨Nat.le_of_ble_eq_true rfl, Nat.le_of_ble_eq_true rfl⟩) hPc hDc hKc hS hA hN rfl hl.1 rfl (Nat.le_of_ble_eq_true rfl) dX1_putGrown_183 (fun H locs hP1 hD1 hk1 hS => ?_)
  have hP := nd_n0 hP hk1
  refine lv_iload hx hb dX1_putGrown_186 (lv_at hl 6 rfl) ?_
  obtain ⟨q20, s21, hq, h⟩ := nd_b2_e h
  have hPc := dp_X1p_5 hP
  have hDc := dd_X1p_5 hD
  have hKc := dy_X1p_5 hK
  have hFc := nd_rs hDc hS hA
  have hzA : ∀ q : Nat, H.size ≤ q → A q := fun q h => hA q (Nat.le_trans hS.1 h)
  refine nd_cVi (As := [.int q17, .int x7]) (rest := [.int x3, .int x5, .int x4, .ref (a 0), .ref (a 5)]) (q := q20) (w' := dw_X1 (fun k => a (k + 5)) (fun k => ac (k + 5)) s21) ⟨hx, hb, hml, hown, hts⟩ (fun sz => dm_X1_checked l hlt dC dI (fun k => a (k + 5)) (fun k => ac (k + 5)) n (q17) (x7) s0.2.1 hq sz) (cwV 2 hts gi_dm_X1_putGrown_2 rfl rfl rfl (by decide +kernel) ⟨Nat.le_of_ble_eq_true rfl, Nat.le_of_ble_eq_true rfl⟩) hPc hDc hKc hS hA hN (va_recv hKc hPc (ci := 2) (q0 := 0) rfl rfl) rfl hl.1 rfl (Nat.le_of_ble_eq_true rfl) dX1_putGrown_188 (fun H locs hP1 hD1 hk1 hS => ?_)
  obtain ⟨hP, hD⟩ := dn_X1p_5 hP hD hzA hk1 hP1 hD1
  obtain ⟨s23, es23, h⟩ := nd_let_e h
  have hP : va_P (dC, dI) vwCl (dw_X1p a ac s23) H := by rw [es23]; exact hP
  have hD : va_D A (dw_X1p a ac s23) := by rw [es23]; exact hD
  refine lv_ior hx hb dX1_putGrown_191 ?_
  obtain ⟨s25, hq, h⟩ := nd_b1_e h
  have hPc := hP
  have hDc := hD
  have hKc := hK
  have hFc := nd_rs hD hS hA
  refine nd_cVv (As := [.ref (a 0), .int x4, .int x5, .int (x3 ||| q20)]) (rest := []) (w' := dw_X1p a ac s25) ⟨hx, hb, hml, hown, hts⟩ (fun sz => dm_X1_put l hlt dC dI a ac n (x4) (x5) ((x3 ||| q20)) s23 hq sz) (cwV 4 hts gi_dm_X1_putGrown_3 rfl rfl rfl (by decide +kernel) ⟨Nat.le_of_ble_eq_true rfl, Nat.le_of_ble_eq_true rfl⟩) hPc hDc hKc hS hA hN (va_recv hKc hPc (ci := 2) (q0 := 0) rfl rfl) rfl hl.1 rfl (Nat.le_of_ble_eq_true rfl) dX1_putGrown_192 (fun H locs hP1 hD1 hk1 hS => ?_)
  have hP := hP1
  have hD := hD1.weaken (fun k q _ h => hFc q.1 h)
  exact K _ _ _ _ _ dX1_putGrown_195 (Option.some.inj h).symm hP hD hS
set_option maxHeartbeats 40000000 in
set_option maxRecDepth 100000 in
theorem db_X1_putGrown_142 {p : Program} {l : Launch} {e : Env} {s : State} {m : MethodId} {args : Array Value} {below : List Frame} {meth : Method} {c : Code} {Q : State → Prop} {A : Nat → Prop} {dC : Nat → ClassId} {dI : Nat → Nat → Nat} {a : Nat → Nat} {ac : Nat → ClassId} {n : Nat} {r : St × (St × (St)) × (St)} (C : nd_C p l s m args c A (dC, dI) cX1_putGrown 8 RX1 ow_dm_X1_putGrown (dk_X1p ac)) (K : nd_Kv p l e (headSpec ow_dm_X1_putGrown ({ frames := 4, cells := 0, slots := 0, locals := 87 })).room s m args below meth c Q A (dC, dI) cX1_putGrown (St × (St × (St)) × (St)) (dw_X1p a ac) r) : dj_X1_putGrown_142 p l e s m args below meth c Q A dC dI a ac (df_X1_putGrown_142 n) r := by
  obtain ⟨hlt, hx, hb, hml, hown, hts, hN, hA, hK⟩ := id C
  intro x4 x5 x6 x7 y0 s0 H locs ls h hP hD hS hl
  unfold df_X1_putGrown_142 at h
  refine lv_istore_n (lv' := [(3, .int y0), (0, .ref (a 5)), (1, .ref (a 0)), (4, .int x4), (5, .int x5), (6, .int x6), (7, .int x7)]) hx hb dX1_putGrown_142 rfl hl (by decide) rfl (fun ls hl => ?_)
  refine lv_goto (tgt := 171) hx hb dX1_putGrown_143 (by decide) ?_
  exact (db_X1_putGrown_171 C K) (y0) (x4) (x5) (x6) (x7) s0 _ _ _ h hP hD hS (lv_sub hl [1, 2, 0, 3, 4, 5, 6] rfl)
set_option maxHeartbeats 40000000 in
set_option maxRecDepth 100000 in
theorem db_X1_putGrown_0 {p : Program} {l : Launch} {e : Env} {s : State} {m : MethodId} {args : Array Value} {below : List Frame} {meth : Method} {c : Code} {Q : State → Prop} {A : Nat → Prop} {dC : Nat → ClassId} {dI : Nat → Nat → Nat} {a : Nat → Nat} {ac : Nat → ClassId} {n : Nat} {r : St × (St × (St)) × (St)} (C : nd_C p l s m args c A (dC, dI) cX1_putGrown 8 RX1 ow_dm_X1_putGrown (dk_X1p ac)) (K : nd_Kv p l e (headSpec ow_dm_X1_putGrown ({ frames := 4, cells := 0, slots := 0, locals := 87 })).room s m args below meth c Q A (dC, dI) cX1_putGrown (St × (St × (St)) × (St)) (dw_X1p a ac) r) : dj_X1_putGrown_0 p l e s m args below meth c Q A dC dI a ac (df_X1_putGrown_0 n) r := by
  obtain ⟨hlt, hx, hb, hml, hown, hts, hN, hA, hK⟩ := id C
  intro v1 s0 H locs ls h hP hD hS hl
  unfold df_X1_putGrown_0 at h
  refine lv_aload_n hx hb dX1_putGrown_0 rfl (lv_at hl 0 rfl) ?_
  refine va_get (D := (dC, dI)) (ci := 2) (v := .ref (a 6)) (C := RX1) (T := TX1) (N := 13) hx hb hts hi_dm_X1_putGrown_X1 hown hK hP 0 rfl rfl 1 (by decide) (hts (.fieldLink RX1 19 "TimeMachine$Assembler" "statement" "[I") (List.mem_of_getElem? (i := 1) rfl)) (fun _ h9 => h9) rfl dX1_putGrown_1 ?_
  refine lv_iload_n hx hb dX1_putGrown_4 rfl (lv_at hl 2 rfl) ?_
  refine lv_iconst (v := 5) hx hb dX1_putGrown_5 (by decide) ?_
  refine lv_iadd hx hb dX1_putGrown_6 ?_
  obtain ⟨i1, h⟩ := nd_ck_e h
  refine va_iald (i := (v1 + 5)) hx hb hK hP 1 0 rfl rfl i1 dX1_putGrown_7 ?_
  refine lv_topi (fun z2 ez2 => ?_)
  have h := nd_at h ez2
  refine lv_istore_n (lv' := [(3, .int z2), (0, .ref (a 5)), (1, .ref (a 0)), (2, .int v1)]) hx hb dX1_putGrown_8 rfl hl (by decide) rfl (fun ls hl => ?_)
  refine lv_aload_n hx hb dX1_putGrown_9 rfl (lv_at hl 1 rfl) ?_
  refine va_get (D := (dC, dI)) (ci := 2) (v := .ref (a 6)) (C := RX1) (T := TX1) (N := 13) hx hb hts hi_dm_X1_putGrown_X1 hown hK hP 0 rfl rfl 1 (by decide) (hts (.fieldLink RX1 19 "TimeMachine$Assembler" "statement" "[I") (List.mem_of_getElem? (i := 1) rfl)) (fun _ h9 => h9) rfl dX1_putGrown_10 ?_
  refine lv_iload_n hx hb dX1_putGrown_13 rfl (lv_at hl 3 rfl) ?_
  refine lv_iconst (v := 2) hx hb dX1_putGrown_14 (by decide) ?_
  refine lv_iadd hx hb dX1_putGrown_15 ?_
  obtain ⟨i3, h⟩ := nd_ck_e h
  refine va_iald (i := (v1 + 2)) hx hb hK hP 1 0 rfl rfl i3 dX1_putGrown_16 ?_
  refine lv_topi (fun z4 ez4 => ?_)
  have h := nd_at h ez4
  refine lv_istore (lv' := [(4, .int z4), (3, .int z2), (0, .ref (a 5)), (1, .ref (a 0)), (2, .int v1)]) hx hb dX1_putGrown_17 hl (by decide) rfl (fun ls hl => ?_)
  refine lv_aload_n hx hb dX1_putGrown_19 rfl (lv_at hl 2 rfl) ?_
  refine va_get (D := (dC, dI)) (ci := 2) (v := .ref (a 6)) (C := RX1) (T := TX1) (N := 13) hx hb hts hi_dm_X1_putGrown_X1 hown hK hP 0 rfl rfl 1 (by decide) (hts (.fieldLink RX1 19 "TimeMachine$Assembler" "statement" "[I") (List.mem_of_getElem? (i := 1) rfl)) (fun _ h9 => h9) rfl dX1_putGrown_20 ?_
  refine lv_iload_n hx hb dX1_putGrown_23 rfl (lv_at hl 4 rfl) ?_
  refine lv_iconst (v := 3) hx hb dX1_putGrown_24 (by decide) ?_
  refine lv_iadd hx hb dX1_putGrown_25 ?_
  obtain ⟨i5, h⟩ := nd_ck_e h
  refine va_iald (i := (v1 + 3)) hx hb hK hP 1 0 rfl rfl i5 dX1_putGrown_26 ?_
  refine lv_topi (fun z6 ez6 => ?_)
  have h := nd_at h ez6
  refine lv_istore (lv' := [(5, .int z6), (4, .int z4), (3, .int z2), (0, .ref (a 5)), (1, .ref (a 0)), (2, .int v1)]) hx hb dX1_putGrown_27 hl (by decide) rfl (fun ls hl => ?_)
  refine lv_aload_n hx hb dX1_putGrown_29 rfl (lv_at hl 3 rfl) ?_
  refine va_get (D := (dC, dI)) (ci := 2) (v := .ref (a 6)) (C := RX1) (T := TX1) (N := 13) hx hb hts hi_dm_X1_putGrown_X1 hown hK hP 0 rfl rfl 1 (by decide) (hts (.fieldLink RX1 19 "TimeMachine$Assembler" "statement" "[I") (List.mem_of_getElem? (i := 1) rfl)) (fun _ h9 => h9) rfl dX1_putGrown_30 ?_
  refine lv_iload_n hx hb dX1_putGrown_33 rfl (lv_at hl 5 rfl) ?_
  refine lv_iconst (v := 4) hx hb dX1_putGrown_34 (by decide) ?_
  refine lv_iadd hx hb dX1_putGrown_35 ?_
  obtain ⟨i7, h⟩ := nd_ck_e h
  refine va_iald (i := (v1 + 4)) hx hb hK hP 1 0 rfl rfl i7 dX1_putGrown_36 ?_
  refine lv_topi (fun z8 ez8 => ?_)
  have h := nd_at h ez8
  refine lv_istore (lv' := [(6, .int z8), (5, .int z6), (4, .int z4), (3, .int z2), (0, .ref (a 5)), (1, .ref (a 0)), (2, .int v1)]) hx hb dX1_putGrown_37 hl (by decide) rfl (fun ls hl => ?_)
  refine lv_aload_n hx hb dX1_putGrown_39 rfl (lv_at hl 4 rfl) ?_
  refine lv_aload_n hx hb dX1_putGrown_40 rfl (lv_at hl 4 rfl) ?_
  refine va_get (D := (dC, dI)) (ci := 2) (v := .ref (a 6)) (C := RX1) (T := TX1) (N := 13) hx hb hts hi_dm_X1_putGrown_X1 hown hK hP 0 rfl rfl 1 (by decide) (hts (.fieldLink RX1 19 "TimeMachine$Assembler" "statement" "[I") (List.mem_of_getElem? (i := 1) rfl)) (fun _ h9 => h9) rfl dX1_putGrown_41 ?_
  refine lv_iload_n hx hb dX1_putGrown_44 rfl (lv_at hl 6 rfl) ?_
  refine lv_bipush (v := 6) hx hb dX1_putGrown_45 (by decide) ?_
  refine lv_iadd hx hb dX1_putGrown_47 ?_
  obtain ⟨i9, h⟩ := nd_ck_e h
  refine va_iald (i := (v1 + 6)) hx hb hK hP 1 0 rfl rfl i9 dX1_putGrown_48 ?_
  refine lv_iload hx hb dX1_putGrown_49 (lv_at hl 2 rfl) ?_
  obtain ⟨q10, s11, hq, h⟩ := nd_b2_e h
  have hPc := dp_X1p_5 hP
  have hDc := dd_X1p_5 hD
  have hKc := dy_X1p_5 hK
  have hFc := nd_rs hDc hS hA
  have hzA : ∀ q : Nat, H.size ≤ q → A q := fun q h => hA q (Nat.le_trans hS.1 h)
  refine nd_cVi (As := [.int (sR s0.2.1.1 0 (Int32.toNatClampNeg (v1 + 6))), .int z4]) (rest := []) (q := q10) (w' := dw_X1 (fun k => a (k + 5)) (fun k => ac (k + 5)) s11) ⟨hx, hb, hml, hown, hts⟩ (fun sz => dm_X1_worked l hlt dC dI (fun k => a (k + 5)) (fun k => ac (k + 5)) n ((sR s0.2.1.1 0 (Int32.toNatClampNeg (v1 + 6)))) (z4) s0.2.1 hq sz) (cwV 2 hts gi_dm_X1_putGrown_0 rfl rfl rfl (by decide +kernel) ⟨Nat.le_of_ble_eq_true rfl, Nat.le_of_ble_eq_true rfl⟩) hPc hDc hKc hS hA hN (va_recv hKc hPc (ci := 2) (q0 := 0) rfl rfl) rfl hl.1 rfl (Nat.le_of_ble_eq_true rfl) dX1_putGrown_51 (fun H locs hP1 hD1 hk1 hS => ?_)
  obtain ⟨hP, hD⟩ := dn_X1p_5 hP hD hzA hk1 hP1 hD1
  obtain ⟨s13, es13, h⟩ := nd_let_e h
  have hP : va_P (dC, dI) vwCl (dw_X1p a ac s13) H := by rw [es13]; exact hP
  have hD : va_D A (dw_X1p a ac s13) := by rw [es13]; exact hD
  refine lv_iload hx hb dX1_putGrown_54 (lv_at hl 2 rfl) ?_
  refine lv_isub hx hb dX1_putGrown_56 ?_
  refine lv_topi (fun z14 ez14 => ?_)
  have h := nd_at h ez14
  refine lv_istore (lv' := [(7, .int z14), (6, .int z8), (5, .int z6), (4, .int z4), (3, .int z2), (0, .ref (a 5)), (1, .ref (a 0)), (2, .int v1)]) hx hb dX1_putGrown_57 hl (by decide) rfl (fun ls hl => ?_)
  refine lv_iload hx hb dX1_putGrown_59 (lv_at hl 2 rfl) ?_
  refine lv_bipush (v := 8) hx hb dX1_putGrown_61 (by decide) ?_
  refine lv_icmp_ne (tgt := 111) hx hb dX1_putGrown_63 (by decide) (fun c15 => ?_) (fun c15 => ?_)
  · have h := nd_neg h c15
    refine lv_iload hx hb dX1_putGrown_111 (lv_at hl 2 rfl) ?_
    refine lv_iconst (v := 2) hx hb dX1_putGrown_113 (by decide) ?_
    refine lv_icmp_ne (tgt := 171) hx hb dX1_putGrown_114 (by decide) (fun c16 => ?_) (fun c16 => ?_)
    · have h := nd_neg h c16
      exact (db_X1_putGrown_171 C K) (z2) (z4) (z6) (z8) (z14) s13 _ _ _ h hP hD hS (lv_sub hl [5, 6, 4, 3, 2, 1, 0] rfl)
    · have h := nd_pos h c16
      refine lv_iload hx hb dX1_putGrown_117 (lv_at hl 1 rfl) ?_
      refine lv_iconst (v := 1) hx hb dX1_putGrown_119 (by decide) ?_
      refine lv_icmp_ne (tgt := 146) hx hb dX1_putGrown_120 (by decide) (fun c27 => ?_) (fun c27 => ?_)
      · have h := nd_neg h c27
        refine lv_ldcw hx hb hown (hts (.constant RX1 345 (49153)) (List.mem_of_getElem? (i := 14) rfl)) dX1_putGrown_146 ?_
        refine lv_iload_n hx hb dX1_putGrown_149 rfl (lv_at hl 4 rfl) ?_
        refine lv_sipush (v := 4096) hx hb dX1_putGrown_150 (by decide) ?_
        refine lv_iand hx hb dX1_putGrown_153 ?_
        refine lv_iconst (v := 1) hx hb dX1_putGrown_154 (by decide) ?_
        refine lv_ishl hx hb dX1_putGrown_155 ?_
        refine lv_ior hx hb dX1_putGrown_156 ?_
        refine lv_bipush (v := 113) hx hb dX1_putGrown_157 (by decide) ?_
        refine lv_iload_n hx hb dX1_putGrown_159 rfl (lv_at hl 4 rfl) ?_
        refine lv_bipush (v := 15) hx hb dX1_putGrown_160 (by decide) ?_
        refine lv_ishr hx hb dX1_putGrown_162 ?_
        refine lv_bipush (v := 31) hx hb dX1_putGrown_163 (by decide) ?_
        refine lv_iand hx hb dX1_putGrown_165 ?_
        obtain ⟨q28, s29, hq, h⟩ := nd_b2_e h
        have hPc : va_P (dC, dI) vwCl (dw_P a ac ()) H := nd_p0
        have hDc : va_D A (dw_P a ac ()) := nd_d0
        have hKc : va_K (dC, dI) vwCl (dk_P ac) s := nd_y0 hK
        have hFc : ∀ q, va_A (dw_P a ac ()) H.size q → A q := nd_r0 hS hA
        refine nd_cSi (As := [.int 113, .int (((z2 : Int32) >>> ((15 : Int32) &&& 31)) &&& 31)]) (rest := [.int (49153 ||| (((z2 &&& 4096) : Int32) <<< ((1 : Int32) &&& 31)))]) (q := q28) (w' := dw_P a ac s29) ⟨hx, hb, hml, hown, hts⟩ (fun sz => dm_X7_placed l hlt dC dI a ac n (113) ((((z2 : Int32) >>> ((15 : Int32) &&& 31)) &&& 31)) () hq sz) (va_cwS 2 hts gi_dm_X1_putGrown_4 rfl rfl rfl (by decide +kernel) ⟨Nat.le_of_ble_eq_true rfl, Nat.le_of_ble_eq_true rfl⟩) hPc hDc hKc hS hA hN rfl hl.1 rfl (Nat.le_of_ble_eq_true rfl) dX1_putGrown_166 (fun H locs hP1 hD1 hk1 hS => ?_)
        have hP := nd_n0 hP hk1
        refine lv_ior hx hb dX1_putGrown_169 ?_
        refine lv_topi (fun z31 ez31 => ?_)
        have h := nd_at h ez31
        refine lv_istore_n (lv' := [(3, .int z31), (7, .int z14), (6, .int z8), (5, .int z6), (4, .int z4), (0, .ref (a 5)), (1, .ref (a 0)), (2, .int v1)]) hx hb dX1_putGrown_170 rfl hl (by decide) rfl (fun ls hl => ?_)
        exact (db_X1_putGrown_171 C K) (z31) (z4) (z6) (z8) (z14) s13 _ _ _ h hP hD hS (lv_sub hl [5, 6, 0, 4, 3, 2, 1] rfl)
      · have h := nd_pos h c27
        refine lv_iload_n hx hb dX1_putGrown_123 rfl (lv_at hl 4 rfl) ?_
        refine lv_bipush (v := 7) hx hb dX1_putGrown_124 (by decide) ?_
        refine lv_ishr hx hb dX1_putGrown_126 ?_
        refine lv_bipush (v := 31) hx hb dX1_putGrown_127 (by decide) ?_
        refine lv_iand hx hb dX1_putGrown_129 ?_
        refine lv_if_ne (tgt := 139) hx hb dX1_putGrown_130 (by decide) (fun c32 => ?_) (fun c32 => ?_)
        · have h := nd_neg h c32
          refine lv_sipush (v := 8193) hx hb dX1_putGrown_139 (by decide) ?_
          exact (db_X1_putGrown_142 C K) (z4) (z6) (z8) (z14) (8193) s13 _ _ _ h hP hD hS (lv_sub hl [5, 6, 3, 2, 1, 0] rfl)
        · have h := nd_pos h c32
          refine lv_ldcw hx hb hown (hts (.constant RX1 344 (40961)) (List.mem_of_getElem? (i := 18) rfl)) dX1_putGrown_133 ?_
          refine lv_goto (tgt := 142) hx hb dX1_putGrown_136 (by decide) ?_
          exact (db_X1_putGrown_142 C K) (z4) (z6) (z8) (z14) (40961) s13 _ _ _ h hP hD hS (lv_sub hl [5, 6, 3, 2, 1, 0] rfl)
  · have h := nd_pos h c15
    refine lv_aload_n hx hb dX1_putGrown_66 rfl (lv_at hl 5 rfl) ?_
    refine lv_aload_n hx hb dX1_putGrown_67 rfl (lv_at hl 6 rfl) ?_
    refine lv_iload hx hb dX1_putGrown_68 (lv_at hl 3 rfl) ?_
    refine lv_iconst (v := 4) hx hb dX1_putGrown_70 (by decide) ?_
    refine lv_iload_n hx hb dX1_putGrown_71 rfl (lv_at hl 4 rfl) ?_
    refine lv_sipush (v := 4096) hx hb dX1_putGrown_72 (by decide) ?_
    refine lv_ixor hx hb dX1_putGrown_75 ?_
    refine lv_bipush (v := 84) hx hb dX1_putGrown_76 (by decide) ?_
    refine lv_bipush (v := 8) hx hb dX1_putGrown_78 (by decide) ?_
    obtain ⟨q33, s34, hq, h⟩ := nd_b2_e h
    have hPc : va_P (dC, dI) vwCl (dw_P a ac ()) H := nd_p0
    have hDc : va_D A (dw_P a ac ()) := nd_d0
    have hKc : va_K (dC, dI) vwCl (dk_P ac) s := nd_y0 hK
    have hFc : ∀ q, va_A (dw_P a ac ()) H.size q → A q := nd_r0 hS hA
    refine nd_cSi (As := [.int 84, .int 8]) (rest := [.int (z2 ^^^ 4096), .int 4, .int z4, .ref (a 0), .ref (a 5)]) (q := q33) (w' := dw_P a ac s34) ⟨hx, hb, hml, hown, hts⟩ (fun sz => dm_X7_placed l hlt dC dI a ac n (84) (8) () hq sz) (va_cwS 2 hts gi_dm_X1_putGrown_4 rfl rfl rfl (by decide +kernel) ⟨Nat.le_of_ble_eq_true rfl, Nat.le_of_ble_eq_true rfl⟩) hPc hDc hKc hS hA hN rfl hl.1 rfl (Nat.le_of_ble_eq_true rfl) dX1_putGrown_80 (fun H locs hP1 hD1 hk1 hS => ?_)
    have hP := nd_n0 hP hk1
    refine lv_ior hx hb dX1_putGrown_83 ?_
    obtain ⟨s37, hq, h⟩ := nd_b1_e h
    have hPc := hP
    have hDc := hD
    have hKc := hK
    have hFc := nd_rs hD hS hA
    refine nd_cVv (As := [.ref (a 0), .int z4, .int 4, .int ((z2 ^^^ 4096) ||| q33)]) (rest := []) (w' := dw_X1p a ac s37) ⟨hx, hb, hml, hown, hts⟩ (fun sz => dm_X1_put l hlt dC dI a ac n (z4) (4) (((z2 ^^^ 4096) ||| q33)) s13 hq sz) (cwV 4 hts gi_dm_X1_putGrown_3 rfl rfl rfl (by decide +kernel) ⟨Nat.le_of_ble_eq_true rfl, Nat.le_of_ble_eq_true rfl⟩) hPc hDc hKc hS hA hN (va_recv hKc hPc (ci := 2) (q0 := 0) rfl rfl) rfl hl.1 rfl (Nat.le_of_ble_eq_true rfl) dX1_putGrown_84 (fun H locs hP1 hD1 hk1 hS => ?_)
    have hP := hP1
    have hD := hD1.weaken (fun k q _ h => hFc q.1 h)
    refine lv_aload_n hx hb dX1_putGrown_87 rfl (lv_at hl 5 rfl) ?_
    refine lv_aload_n hx hb dX1_putGrown_88 rfl (lv_at hl 6 rfl) ?_
    refine lv_iload hx hb dX1_putGrown_89 (lv_at hl 3 rfl) ?_
    refine lv_iconst (v := 4) hx hb dX1_putGrown_91 (by decide) ?_
    refine lv_iadd hx hb dX1_putGrown_92 ?_
    refine lv_iconst (v := 4) hx hb dX1_putGrown_93 (by decide) ?_
    refine lv_bipush (v := 111) hx hb dX1_putGrown_94 (by decide) ?_
    refine lv_aload_n hx hb dX1_putGrown_96 rfl (lv_at hl 5 rfl) ?_
    refine lv_bipush (v := 74) hx hb dX1_putGrown_97 (by decide) ?_
    refine lv_iload hx hb dX1_putGrown_99 (lv_at hl 0 rfl) ?_
    refine lv_iconst (v := 4) hx hb dX1_putGrown_101 (by decide) ?_
    refine lv_isub hx hb dX1_putGrown_102 ?_
    obtain ⟨q39, s40, hq, h⟩ := nd_b2_e h
    have hPc := dp_X1p_5 hP
    have hDc := dd_X1p_5 hD
    have hKc := dy_X1p_5 hK
    have hFc := nd_rs hDc hS hA
    have hzA : ∀ q : Nat, H.size ≤ q → A q := fun q h => hA q (Nat.le_trans hS.1 h)
    refine nd_cVi (As := [.int 74, .int (z14 - 4)]) (rest := [.int 111, .int 4, .int (z4 + 4), .ref (a 0), .ref (a 5)]) (q := q39) (w' := dw_X1 (fun k => a (k + 5)) (fun k => ac (k + 5)) s40) ⟨hx, hb, hml, hown, hts⟩ (fun sz => dm_X1_checked l hlt dC dI (fun k => a (k + 5)) (fun k => ac (k + 5)) n (74) ((z14 - 4)) s37.2.1 hq sz) (cwV 2 hts gi_dm_X1_putGrown_2 rfl rfl rfl (by decide +kernel) ⟨Nat.le_of_ble_eq_true rfl, Nat.le_of_ble_eq_true rfl⟩) hPc hDc hKc hS hA hN (va_recv hKc hPc (ci := 2) (q0 := 0) rfl rfl) rfl hl.1 rfl (Nat.le_of_ble_eq_true rfl) dX1_putGrown_103 (fun H locs hP1 hD1 hk1 hS => ?_)
    obtain ⟨hP, hD⟩ := dn_X1p_5 hP hD hzA hk1 hP1 hD1
    obtain ⟨s42, es42, h⟩ := nd_let_e h
    have hP : va_P (dC, dI) vwCl (dw_X1p a ac s42) H := by rw [es42]; exact hP
    have hD : va_D A (dw_X1p a ac s42) := by rw [es42]; exact hD
    refine lv_ior hx hb dX1_putGrown_106 ?_
    obtain ⟨s44, hq, h⟩ := nd_b1_e h
    have hPc := hP
    have hDc := hD
    have hKc := hK
    have hFc := nd_rs hD hS hA
    refine nd_cVv (As := [.ref (a 0), .int (z4 + 4), .int 4, .int (111 ||| q39)]) (rest := []) (w' := dw_X1p a ac s44) ⟨hx, hb, hml, hown, hts⟩ (fun sz => dm_X1_put l hlt dC dI a ac n ((z4 + 4)) (4) ((111 ||| q39)) s42 hq sz) (cwV 4 hts gi_dm_X1_putGrown_3 rfl rfl rfl (by decide +kernel) ⟨Nat.le_of_ble_eq_true rfl, Nat.le_of_ble_eq_true rfl⟩) hPc hDc hKc hS hA hN (va_recv hKc hPc (ci := 2) (q0 := 0) rfl rfl) rfl hl.1 rfl (Nat.le_of_ble_eq_true rfl) dX1_putGrown_107 (fun H locs hP1 hD1 hk1 hS => ?_)
    have hP := hP1
    have hD := hD1.weaken (fun k q _ h => hFc q.1 h)
    exact K _ _ _ _ _ dX1_putGrown_110 (Option.some.inj h).symm hP hD hS
set_option maxHeartbeats 40000000 in
set_option maxRecDepth 100000 in
theorem dm_X1_putGrown (l : Launch) (hlt : l.stackTraces = false) (dC : Nat → ClassId) (dI : Nat → Nat → Nat) (a : Nat → Nat) (ac : Nat → ClassId) (n : Nat) (v1 : Int32) (s0 : St × (St × (St)) × (St)) {r : St × (St × (St)) × (St)} (h : df_X1_putGrown n v1 s0 = some r) (sz : Nat) : Met l yX1_putGrown ow_dm_X1_putGrown ({ frames := 4, cells := 0, slots := 0, locals := 87 }) (va_Pc [.ref (a 5), .ref (a 0), .int v1] (fun U => U.heap.size = sz ∧ va_P (dC, dI) vwCl (dw_X1p a ac s0) U.heap ∧ va_K (dC, dI) vwCl (dk_X1p ac) U ∧ va_D (fun _ => True) (dw_X1p a ac s0) ∧ nv_E dI (va_A (dw_X1p a ac s0) sz) U)) (va_Qv (fun _ => True) (fun (_ : Unit) t => va_P (dC, dI) vwCl (dw_X1p a ac r) t.heap ∧ va_K (dC, dI) vwCl (dk_X1p ac) t ∧ va_D (va_A (dw_X1p a ac s0) sz) (dw_X1p a ac r)) (va_A (dw_X1p a ac s0) sz)) 0 0 (va_A (dw_X1p a ac s0) sz) := by
  refine Met.ofW (cc := cX1_putGrown) (maxL := 8) (ret := none) (by decide) rfl ?_
  intro p e s m args below meth c s₁ B hml hv
  obtain ⟨rfl, hsz, hP, hK, hD0, hN⟩ := hv
  have hx := B.exec
  have hb := B.bytes
  have hr := B.returns
  have hts := atoms_spec (ws := ow_dm_X1_putGrown) B.pre
  have hown : s.vm.findClass RX1 = some m.cls := findClass_of_methodNamed B.named
  have hlocks := B.notSynchronized
  subst hsz
  have hD := hD0.self (sz := s.heap.size)
  generalize hAe : va_A (dw_X1p a ac s0) s.heap.size = A at hD hN ⊢
  have hA : ∀ q : Nat, s.heap.size ≤ q → A q := fun q h => by rw [← hAe]; exact Or.inr h
  have hl := lv_entry ([.ref (a 5), .ref (a 0), .int v1]) (n := 8) (Nat.le_of_ble_eq_true rfl)
  rw [lg_entry_eq]
  generalize (lg_sl ([.ref (a 5), .ref (a 0), .int v1]) ++ List.replicate (8 - (lg_sl ([.ref (a 5), .ref (a 0), .int v1])).length) Slot.unset).toArray = ls at hl ⊢
  have hl : lv_has ls 8 [(0, .ref (a 5)), (1, .ref (a 0)), (2, .int v1)] := hl
  exact db_X1_putGrown_0 (dC := dC) (dI := dI) (a := a) (ac := ac) (n := n) (r := r) ⟨hlt, hx, hb, hml, hown, hts, hN, hA, hK⟩ (fun pc τ H locs ls d er hP hD hS => by subst er; exact W.vret hx hb hr (fun t ht hW => ⟨⟨(), rfl, trivial, by rw [ht]; exact hP, va_K.moved hW.alike hK, hD⟩, hS.F ht⟩) hS.2.2 d) v1 s0 _ _ _ h hP hD va_S.rf (lv_sub hl [0, 1, 2] rfl)
def ow_dm_X1_putAddress : List Cond := Cond.code yX1_putAddress cX1_putAddress 6 none :: ([Cond.fieldLink RX1 19 "TimeMachine$Assembler" "statement" "[I", Cond.methodLink RX1 330 yX1_worked, Cond.instanceMethod yX1_worked, Cond.selects RX1 yX1_worked yX1_worked, Cond.initialized RX1, Cond.methodLink RX1 346 yX9_high, Cond.static yX9_high, Cond.initialized RX9, Cond.methodLink RX1 261 yX7_placed, Cond.static yX7_placed, Cond.initialized RX7, Cond.methodLink RX1 340 yX1_put, Cond.instanceMethod yX1_put, Cond.selects RX1 yX1_put yX1_put, Cond.methodLink RX1 265 yX9_low, Cond.static yX9_low] ++ (u_ws RX1 TX1 13 ++ (ow_dm_X1_worked ++ (ow_dm_X9_high ++ (ow_dm_X7_placed ++ (ow_dm_X1_put ++ (ow_dm_X9_low ++ [])))))))
theorem gd_dm_X1_putAddress : ∀ w ∈ ow_dm_X1_putAddress, (w.onTables && w.keeps) = true ∨ ∃ ty, w = Cond.arrayClass ty := List.forall_mem_cons.mpr ⟨good_of_word rfl, List.forall_mem_append.mpr ⟨fun w h => good_of_word (List.all_eq_true.mp (by decide +kernel) w h), List.forall_mem_append.mpr ⟨gu_X1, List.forall_mem_append.mpr ⟨gd_dm_X1_worked, List.forall_mem_append.mpr ⟨gd_dm_X9_high, List.forall_mem_append.mpr ⟨gd_dm_X7_placed, List.forall_mem_append.mpr ⟨gd_dm_X1_put, List.forall_mem_append.mpr ⟨gd_dm_X9_low, fun _ h => nomatch h⟩⟩⟩⟩⟩⟩⟩⟩
theorem hi_dm_X1_putAddress_X1 : ∀ w ∈ u_ws RX1 TX1 13, w ∈ ow_dm_X1_putAddress := fun w h => List.mem_cons_of_mem _ (List.mem_append_right _ (List.mem_append_left _ h))
theorem gi_dm_X1_putAddress_0 : GoodIn ow_dm_X1_putAddress (wsV RX1 330 RX1 yX1_worked ow_dm_X1_worked) := goodIn_app (goodIn_of _ (by decide +kernel)) (fun w h => ⟨List.mem_cons_of_mem _ (List.mem_append_right _ (List.mem_append_right _ (List.mem_append_left _ h))), gd_dm_X1_worked w h⟩)
theorem gi_dm_X1_putAddress_1 : GoodIn ow_dm_X1_putAddress (va_wsS RX1 346 yX9_high ow_dm_X9_high) := goodIn_app (goodIn_of _ (by decide +kernel)) (fun w h => ⟨List.mem_cons_of_mem _ (List.mem_append_right _ (List.mem_append_right _ (List.mem_append_right _ (List.mem_append_left _ h)))), gd_dm_X9_high w h⟩)
theorem gi_dm_X1_putAddress_2 : GoodIn ow_dm_X1_putAddress (va_wsS RX1 261 yX7_placed ow_dm_X7_placed) := goodIn_app (goodIn_of _ (by decide +kernel)) (fun w h => ⟨List.mem_cons_of_mem _ (List.mem_append_right _ (List.mem_append_right _ (List.mem_append_right _ (List.mem_append_right _ (List.mem_append_left _ h))))), gd_dm_X7_placed w h⟩)
theorem gi_dm_X1_putAddress_3 : GoodIn ow_dm_X1_putAddress (wsV RX1 340 RX1 yX1_put ow_dm_X1_put) := goodIn_app (goodIn_of _ (by decide +kernel)) (fun w h => ⟨List.mem_cons_of_mem _ (List.mem_append_right _ (List.mem_append_right _ (List.mem_append_right _ (List.mem_append_right _ (List.mem_append_right _ (List.mem_append_left _ h)))))), gd_dm_X1_put w h⟩)
theorem gi_dm_X1_putAddress_4 : GoodIn ow_dm_X1_putAddress (va_wsS RX1 265 yX9_low ow_dm_X9_low) := goodIn_app (goodIn_of _ (by decide +kernel)) (fun w h => ⟨List.mem_cons_of_mem _ (List.mem_append_right _ (List.mem_append_right _ (List.mem_append_right _ (List.mem_append_right _ (List.mem_append_right _ (List.mem_append_right _ (List.mem_append_left _ h))))))), gd_dm_X9_low w h⟩)
def dj_X1_putAddress_0 (p : Program) (l : Launch) (e : Env) (s : State) (m : MethodId) (args : Array Value) (below : List Frame) (meth : Method) (c : Code) (Q : State → Prop) (A : Nat → Prop) (dC : Nat → ClassId) (dI : Nat → Nat → Nat) (a : Nat → Nat) (ac : Nat → ClassId) (g : Int32 → (St × (St × (St)) × (St)) → Option (St × (St × (St)) × (St))) (r : St × (St × (St)) × (St)) : Prop := ∀ (v1 : Int32) (s0 : St × (St × (St)) × (St)) (H : Heap) (locs : List Loc) (ls : Array Slot), g v1 s0 = some r → va_P (dC, dI) vwCl (dw_X1p a ac s0) H → va_D A (dw_X1p a ac s0) → va_S A s.heap H locs → lv_has ls 6 [(0, .ref (a 5)), (1, .ref (a 0)), (2, .int v1)] → W p l e (headSpec ow_dm_X1_putAddress ({ frames := 4, cells := 0, slots := 0, locals := 87 })).room s m args below meth c H locs 0 0 Q (F0 m 0 ls [])

