def ow_dm_X9_open : List Cond := .code yX9_open cX9_open 2 none :: ([.fieldLink RX9 9 "TimeMachine$Reader" "source" "[B", .fieldLink RX9 39 "TimeMachine$Reader" "codes" "I", .fieldLink RX9 43 "TimeMachine$Reader" "names" "I", .fieldLink RX9 46 "TimeMachine$Reader" "labels" "I", .fieldLink RX9 30 "TimeMachine$Reader" "bucket" "[I", .methodLink RX9 49 yJ7_fill_53178, .static yJ7_fill_53178, .initialized RJ7, .fieldLink RX9 33 "TimeMachine$Reader" "near" "[I"] ++ (u_ws RX9 TX9 20 ++ (ow_dm_J7_fill_53178 ++ [])))
theorem gd_dm_X9_open : ∀ w ∈ ow_dm_X9_open, (w.onTables && w.keeps) = true ∨ ∃ ty, w = Cond.arrayClass ty := List.forall_mem_cons.mpr ⟨good_of_word rfl, List.forall_mem_append.mpr ⟨fun w h => good_of_word (List.all_eq_true.mp (by decide +kernel) w h), List.forall_mem_append.mpr ⟨gu_X9, List.forall_mem_append.mpr ⟨gd_dm_J7_fill_53178, fun _ h => nomatch h⟩⟩⟩⟩
theorem hi_dm_X9_open_X9 : ∀ w ∈ u_ws RX9 TX9 20, w ∈ ow_dm_X9_open := fun w h => List.mem_cons_of_mem _ (List.mem_append_right _ (List.mem_append_left _ h))
theorem gi_dm_X9_open_0 : GoodIn ow_dm_X9_open (va_wsS RX9 49 yJ7_fill_53178 ow_dm_J7_fill_53178) := goodIn_app (goodIn_of _ (by decide +kernel)) (fun w h => ⟨List.mem_cons_of_mem _ (List.mem_append_right _ (List.mem_append_right _ (List.mem_append_left _ h))), gd_dm_J7_fill_53178 w h⟩)
def dj_X9_open_0 (p : Program) (l : Launch) (e : Env) (s : State) (m : MethodId) (args : Array Value) (below : List Frame) (meth : Method) (c : Code) (Q : State → Prop) (A : Nat → Prop) (dC : Nat → ClassId) (dI : Nat → Nat → Nat) (a : Nat → Nat) (ac : Nat → ClassId) (g : (St) → Option (St)) (r : St) : Prop := ∀ (s0 : St) (H : Heap) (locs : List Loc) (ls : Array Slot), g s0 = some r → va_P (dC, dI) vwCl (dw_X9 a ac s0) H → va_D A (dw_X9 a ac s0) → va_S A s.heap H locs → lv_has ls 2 [(0, .ref (a 0)), (1, .ref (a 8))] → W p l e (headSpec ow_dm_X9_open ({ frames := 1, cells := 0, slots := 0, locals := 23 })).room s m args below meth c H locs 0 0 Q (F0 m 0 ls [])
set_option maxHeartbeats 40000000 in
set_option maxRecDepth 100000 in
theorem db_X9_open_0 {p : Program} {l : Launch} {e : Env} {s : State} {m : MethodId} {args : Array Value} {below : List Frame} {meth : Method} {c : Code} {Q : State → Prop} {A : Nat → Prop} {dC : Nat → ClassId} {dI : Nat → Nat → Nat} {a : Nat → Nat} {ac : Nat → ClassId} {n : Nat} {r : St} (C : nd_C p l s m args c A (dC, dI) cX9_open 2 RX9 ow_dm_X9_open (dk_X9 ac)) (K : nd_Kv p l e (headSpec ow_dm_X9_open ({ frames := 1, cells := 0, slots := 0, locals := 23 })).room s m args below meth c Q A (dC, dI) cX9_open (St) (dw_X9 a ac) r) : dj_X9_open_0 p l e s m args below meth c Q A dC dI a ac (df_X9_open_0 n) r := by
  obtain ⟨hlt, hx, hb, hml, hown, hts, hN, hA, hK⟩ := id C
  intro s0 H locs ls h hP hD hS hl
  unfold df_X9_open_0 at h
  refine lv_aload_n hx hb dX9_open_0 rfl (lv_at hl 0 rfl) ?_
  refine lv_aload_n hx hb dX9_open_1 rfl (lv_at hl 1 rfl) ?_
  refine va_put (D := (dC, dI)) (ci := 10) (v := .ref (a 8)) (ty := .array .byte) (C := RX9) (T := TX9) (N := 20) hx hb hts hi_dm_X9_open_X9 tyX9 tyX9_ok nmX9 hown hK hP hD hS 0 rfl rfl 0 (by decide) (hts (.fieldLink RX9 9 "TimeMachine$Reader" "source" "[B") (List.mem_of_getElem? (i := 1) rfl)) (fun _ h9 => h9) rfl (by decide +kernel) rfl rfl (Nat.le_of_ble_eq_true rfl) dX9_open_2 (fun H locs hP hD hS => ?_)
  obtain ⟨s1, es1, h⟩ := nd_let_e h
  have hP : va_P (dC, dI) vwCl (dw_X9 a ac s1) H := by rw [es1]; exact hP
  have hD : va_D A (dw_X9 a ac s1) := by rw [es1]; exact hD
  refine lv_aload_n hx hb dX9_open_5 rfl (lv_at hl 0 rfl) ?_
  refine lv_iconst (v := 0) hx hb dX9_open_6 (by decide) ?_
  refine va_put (D := (dC, dI)) (ci := 10) (v := .int 0) (ty := .int) (C := RX9) (T := TX9) (N := 20) hx hb hts hi_dm_X9_open_X9 tyX9 tyX9_ok nmX9 hown hK hP hD hS 0 rfl rfl 8 (by decide) (hts (.fieldLink RX9 39 "TimeMachine$Reader" "codes" "I") (List.mem_of_getElem? (i := 2) rfl)) (fun _ h9 => h9) rfl (by decide +kernel) rfl rfl (Nat.le_of_ble_eq_true rfl) dX9_open_7 (fun H locs hP hD hS => ?_)
  obtain ⟨s2, es2, h⟩ := nd_let_e h
  have hP : va_P (dC, dI) vwCl (dw_X9 a ac s2) H := by rw [es2]; exact hP
  have hD : va_D A (dw_X9 a ac s2) := by rw [es2]; exact hD
  refine lv_aload_n hx hb dX9_open_10 rfl (lv_at hl 0 rfl) ?_
  refine lv_iconst (v := 0) hx hb dX9_open_11 (by decide) ?_
  refine va_put (D := (dC, dI)) (ci := 10) (v := .int 0) (ty := .int) (C := RX9) (T := TX9) (N := 20) hx hb hts hi_dm_X9_open_X9 tyX9 tyX9_ok nmX9 hown hK hP hD hS 0 rfl rfl 13 (by decide) (hts (.fieldLink RX9 43 "TimeMachine$Reader" "names" "I") (List.mem_of_getElem? (i := 3) rfl)) (fun _ h9 => h9) rfl (by decide +kernel) rfl rfl (Nat.le_of_ble_eq_true rfl) dX9_open_12 (fun H locs hP hD hS => ?_)
  obtain ⟨s3, es3, h⟩ := nd_let_e h
  have hP : va_P (dC, dI) vwCl (dw_X9 a ac s3) H := by rw [es3]; exact hP
  have hD : va_D A (dw_X9 a ac s3) := by rw [es3]; exact hD
  refine lv_aload_n hx hb dX9_open_15 rfl (lv_at hl 0 rfl) ?_
  refine lv_iconst (v := 0) hx hb dX9_open_16 (by decide) ?_
  refine va_put (D := (dC, dI)) (ci := 10) (v := .int 0) (ty := .int) (C := RX9) (T := TX9) (N := 20) hx hb hts hi_dm_X9_open_X9 tyX9 tyX9_ok nmX9 hown hK hP hD hS 0 rfl rfl 17 (by decide) (hts (.fieldLink RX9 46 "TimeMachine$Reader" "labels" "I") (List.mem_of_getElem? (i := 4) rfl)) (fun _ h9 => h9) rfl (by decide +kernel) rfl rfl (Nat.le_of_ble_eq_true rfl) dX9_open_17 (fun H locs hP hD hS => ?_)
  obtain ⟨s4, es4, h⟩ := nd_let_e h
  have hP : va_P (dC, dI) vwCl (dw_X9 a ac s4) H := by rw [es4]; exact hP
  have hD : va_D A (dw_X9 a ac s4) := by rw [es4]; exact hD
  refine lv_aload_n hx hb dX9_open_20 rfl (lv_at hl 0 rfl) ?_
  refine va_get (D := (dC, dI)) (ci := 10) (v := .ref (a 5)) (C := RX9) (T := TX9) (N := 20) hx hb hts hi_dm_X9_open_X9 hown hK hP 0 rfl rfl 14 (by decide) (hts (.fieldLink RX9 30 "TimeMachine$Reader" "bucket" "[I") (List.mem_of_getElem? (i := 5) rfl)) (fun _ h9 => h9) rfl dX9_open_21 ?_
  refine lv_iconst (v := 0) hx hb dX9_open_24 (by decide) ?_
  have hcl : (dw_X9 a ac s4)[5]? = some ((a 5), .inl (ac 5, 256, .inl (sR s4 4))) := rfl
  have hPc := nd_c1 hP hcl
  have hDc := nd_cd hD hcl
  have hKc : va_K (dC, dI) vwCl [(ac 5, .int)] s := hK.sub [4] rfl
  have hFc := nd_rs hDc hS hA
  refine va_callv (va_runS (As := [.ref (a 5), .int 0]) (rest := []) ⟨hx, hb, hml, hown, hts⟩ (dm_J7_fill_53178 l hlt dC dI (a 5) (ac 5) 256 (by decide) (sR s4 4) 0 _) (va_cwS 2 hts gi_dm_X9_open_0 rfl rfl rfl (by decide +kernel) ⟨Nat.le_of_ble_eq_true rfl, Nat.le_of_ble_eq_true rfl⟩) ⟨fun a U g mk q => by obtain ⟨q0, q1, qP, qK, qD, qN⟩ := q; exact ⟨q0, q1, qP, va_K.moved (u := U) (U := U.calling g mk a) (Vm.Alike.refl U.vm) qK, qD, nv_same rfl rfl qN⟩, fun U hU hW => ⟨rfl, by rw [hU], by rw [hU]; exact hPc, va_K.moved hW.alike hKc, hDc.weaken (fun _ _ _ _ => trivial), nv_call hS hFc hU hW hN⟩⟩ rfl rfl hl.1 rfl (lv_room (Nat.le_of_ble_eq_true rfl)) dX9_open_25 ⟨by decide +kernel, by decide +kernel⟩) hS (fun q _ h => hFc q h) hFc (fun u t H locs ht hvm hw hB hz1 hk1 hS => ?_)
  obtain ⟨hP1, -, hD1⟩ := hB
  rw [ht] at hP1
  have hP := nd_cs hP hD hcl hk1 hP1
  have hD := hD.set (e := .inl (ac 5, 256, .inl (nd_fl 256 0 (sR s4 4)))) hcl
  refine W.widen (k := 0) (n := 0) (Nat.le_refl _) (Nat.le_refl _) ?_
  obtain ⟨s5, es5, h⟩ := nd_let_e h
  have hP : va_P (dC, dI) vwCl (dw_X9 a ac s5) H := by rw [es5]; exact hP
  have hD : va_D A (dw_X9 a ac s5) := by rw [es5]; exact hD
  refine lv_aload_n hx hb dX9_open_28 rfl (lv_at hl 0 rfl) ?_
  refine va_get (D := (dC, dI)) (ci := 10) (v := .ref (a 6)) (C := RX9) (T := TX9) (N := 20) hx hb hts hi_dm_X9_open_X9 hown hK hP 0 rfl rfl 15 (by decide) (hts (.fieldLink RX9 33 "TimeMachine$Reader" "near" "[I") (List.mem_of_getElem? (i := 9) rfl)) (fun _ h9 => h9) rfl dX9_open_29 ?_
  refine lv_iconst (v := 0) hx hb dX9_open_32 (by decide) ?_
  have hcl : (dw_X9 a ac s5)[6]? = some ((a 6), .inl (ac 6, 20, .inl (sR s5 5))) := rfl
  have hPc := nd_c1 hP hcl
  have hDc := nd_cd hD hcl
  have hKc : va_K (dC, dI) vwCl [(ac 6, .int)] s := hK.sub [5] rfl
  have hFc := nd_rs hDc hS hA
  refine va_callv (va_runS (As := [.ref (a 6), .int 0]) (rest := []) ⟨hx, hb, hml, hown, hts⟩ (dm_J7_fill_53178 l hlt dC dI (a 6) (ac 6) 20 (by decide) (sR s5 5) 0 _) (va_cwS 2 hts gi_dm_X9_open_0 rfl rfl rfl (by decide +kernel) ⟨Nat.le_of_ble_eq_true rfl, Nat.le_of_ble_eq_true rfl⟩) ⟨fun a U g mk q => by obtain ⟨q0, q1, qP, qK, qD, qN⟩ := q; exact ⟨q0, q1, qP, va_K.moved (u := U) (U := U.calling g mk a) (Vm.Alike.refl U.vm) qK, qD, nv_same rfl rfl qN⟩, fun U hU hW => ⟨rfl, by rw [hU], by rw [hU]; exact hPc, va_K.moved hW.alike hKc, hDc.weaken (fun _ _ _ _ => trivial), nv_call hS hFc hU hW hN⟩⟩ rfl rfl hl.1 rfl (lv_room (Nat.le_of_ble_eq_true rfl)) dX9_open_33 ⟨by decide +kernel, by decide +kernel⟩) hS (fun q _ h => hFc q h) hFc (fun u t H locs ht hvm hw hB hz1 hk1 hS => ?_)
  obtain ⟨hP1, -, hD1⟩ := hB
  rw [ht] at hP1
  have hP := nd_cs hP hD hcl hk1 hP1
  have hD := hD.set (e := .inl (ac 6, 20, .inl (nd_fl 20 0 (sR s5 5)))) hcl
  refine W.widen (k := 0) (n := 0) (Nat.le_refl _) (Nat.le_refl _) ?_
  obtain ⟨s6, es6, h⟩ := nd_let_e h
  have hP : va_P (dC, dI) vwCl (dw_X9 a ac s6) H := by rw [es6]; exact hP
  have hD : va_D A (dw_X9 a ac s6) := by rw [es6]; exact hD
  exact K _ _ _ _ _ dX9_open_36 (Option.some.inj h).symm hP hD hS
set_option maxHeartbeats 40000000 in
set_option maxRecDepth 100000 in
theorem dm_X9_open (l : Launch) (hlt : l.stackTraces = false) (dC : Nat → ClassId) (dI : Nat → Nat → Nat) (a : Nat → Nat) (ac : Nat → ClassId) (n : Nat) (s0 : St) {r : St} (h : df_X9_open n s0 = some r) (sz : Nat) : Met l yX9_open ow_dm_X9_open ({ frames := 1, cells := 0, slots := 0, locals := 23 }) (va_Pc [.ref (a 0), .ref (a 8)] (fun U => U.heap.size = sz ∧ va_P (dC, dI) vwCl (dw_X9 a ac s0) U.heap ∧ va_K (dC, dI) vwCl (dk_X9 ac) U ∧ va_D (fun _ => True) (dw_X9 a ac s0) ∧ nv_E (va_A (dw_X9 a ac s0) sz) U)) (va_Qv (fun _ => True) (fun (_ : Unit) t => va_P (dC, dI) vwCl (dw_X9 a ac r) t.heap ∧ va_K (dC, dI) vwCl (dk_X9 ac) t ∧ va_D (va_A (dw_X9 a ac s0) sz) (dw_X9 a ac r)) (va_A (dw_X9 a ac s0) sz)) 0 0 (va_A (dw_X9 a ac s0) sz) := by
  refine Met.ofW (cc := cX9_open) (maxL := 2) (ret := none) (by decide) rfl ?_
  intro p e s m args below meth c s₁ B hml hv
  obtain ⟨rfl, hsz, hP, hK, hD0, hN⟩ := hv
  have hx := B.exec
  have hb := B.bytes
  have hr := B.returns
  have hts := atoms_spec (ws := ow_dm_X9_open) B.pre
  have hown : s.vm.findClass RX9 = some m.cls := findClass_of_methodNamed B.named
  have hlocks := B.notSynchronized
  subst hsz
  have hD := hD0.self (sz := s.heap.size)
  generalize hAe : va_A (dw_X9 a ac s0) s.heap.size = A at hD hN ⊢
  have hA : ∀ q : Nat, s.heap.size ≤ q → A q := fun q h => by rw [← hAe]; exact Or.inr h
  have hl := lv_entry ([.ref (a 0), .ref (a 8)]) (n := 2) (Nat.le_of_ble_eq_true rfl)
  rw [lg_entry_eq]
  generalize (lg_sl ([.ref (a 0), .ref (a 8)]) ++ List.replicate (2 - (lg_sl ([.ref (a 0), .ref (a 8)])).length) Slot.unset).toArray = ls at hl ⊢
  have hl : lv_has ls 2 [(0, .ref (a 0)), (1, .ref (a 8))] := hl
  exact db_X9_open_0 (dC := dC) (dI := dI) (a := a) (ac := ac) (n := n) (r := r) ⟨hlt, hx, hb, hml, hown, hts, hN, hA, hK⟩ (fun pc τ H locs ls d er hP hD hS => by subst er; exact W.vret hx hb hr (fun t ht hW => ⟨⟨(), rfl, trivial, by rw [ht]; exact hP, va_K.moved hW.alike hK, hD⟩, hS.F ht⟩) hS.2.2 d) s0 _ _ _ h hP hD va_S.rf (lv_sub hl [0, 1] rfl)
def ow_dm_X1_blame : List Cond := .code yX1_blame cX1_blame 2 none :: ([.fieldLink RX1 32 "TimeMachine$Assembler" "fault" "I"] ++ (u_ws RX1 TX1 13 ++ []))
theorem gd_dm_X1_blame : ∀ w ∈ ow_dm_X1_blame, (w.onTables && w.keeps) = true ∨ ∃ ty, w = Cond.arrayClass ty := List.forall_mem_cons.mpr ⟨good_of_word rfl, List.forall_mem_append.mpr ⟨fun w h => good_of_word (List.all_eq_true.mp (by decide +kernel) w h), List.forall_mem_append.mpr ⟨gu_X1, fun _ h => nomatch h⟩⟩⟩
theorem hi_dm_X1_blame_X1 : ∀ w ∈ u_ws RX1 TX1 13, w ∈ ow_dm_X1_blame := fun w h => List.mem_cons_of_mem _ (List.mem_append_right _ (List.mem_append_left _ h))
def dj_X1_blame_12 (p : Program) (l : Launch) (e : Env) (s : State) (m : MethodId) (args : Array Value) (below : List Frame) (meth : Method) (c : Code) (Q : State → Prop) (A : Nat → Prop) (dC : Nat → ClassId) (dI : Nat → Nat → Nat) (a : Nat → Nat) (ac : Nat → ClassId) (g : (St × (St)) → Option (St × (St))) (r : St × (St)) : Prop := ∀ (s0 : St × (St)) (H : Heap) (locs : List Loc) (ls : Array Slot), g s0 = some r → va_P (dC, dI) vwCl (dw_X1 a ac s0) H → va_D A (dw_X1 a ac s0) → va_S A s.heap H locs → lv_has ls 2 [] → W p l e (headSpec ow_dm_X1_blame ({ frames := 0, cells := 0, slots := 0, locals := 0 })).room s m args below meth c H locs 0 0 Q (F0 m 12 ls [])
def dj_X1_blame_0 (p : Program) (l : Launch) (e : Env) (s : State) (m : MethodId) (args : Array Value) (below : List Frame) (meth : Method) (c : Code) (Q : State → Prop) (A : Nat → Prop) (dC : Nat → ClassId) (dI : Nat → Nat → Nat) (a : Nat → Nat) (ac : Nat → ClassId) (g : Int32 → (St × (St)) → Option (St × (St))) (r : St × (St)) : Prop := ∀ (v0 : Int32) (s0 : St × (St)) (H : Heap) (locs : List Loc) (ls : Array Slot), g v0 s0 = some r → va_P (dC, dI) vwCl (dw_X1 a ac s0) H → va_D A (dw_X1 a ac s0) → va_S A s.heap H locs → lv_has ls 2 [(0, .ref (a 0)), (1, .int v0)] → W p l e (headSpec ow_dm_X1_blame ({ frames := 0, cells := 0, slots := 0, locals := 0 })).room s m args below meth c H locs 0 0 Q (F0 m 0 ls [])
set_option maxHeartbeats 40000000 in
set_option maxRecDepth 100000 in
theorem db_X1_blame_12 {p : Program} {l : Launch} {e : Env} {s : State} {m : MethodId} {args : Array Value} {below : List Frame} {meth : Method} {c : Code} {Q : State → Prop} {A : Nat → Prop} {dC : Nat → ClassId} {dI : Nat → Nat → Nat} {a : Nat → Nat} {ac : Nat → ClassId} {n : Nat} {r : St × (St)} (C : nd_C p l s m args c A (dC, dI) cX1_blame 2 RX1 ow_dm_X1_blame (dk_X1 ac)) (K : nd_Kv p l e (headSpec ow_dm_X1_blame ({ frames := 0, cells := 0, slots := 0, locals := 0 })).room s m args below meth c Q A (dC, dI) cX1_blame (St × (St)) (dw_X1 a ac) r) : dj_X1_blame_12 p l e s m args below meth c Q A dC dI a ac (df_X1_blame_12 n) r := by
  obtain ⟨hlt, hx, hb, hml, hown, hts, hN, hA, hK⟩ := id C
  intro s0 H locs ls h hP hD hS hl
  unfold df_X1_blame_12 at h
  exact K _ _ _ _ _ dX1_blame_12 (Option.some.inj h).symm hP hD hS
set_option maxHeartbeats 40000000 in
set_option maxRecDepth 100000 in
theorem db_X1_blame_0 {p : Program} {l : Launch} {e : Env} {s : State} {m : MethodId} {args : Array Value} {below : List Frame} {meth : Method} {c : Code} {Q : State → Prop} {A : Nat → Prop} {dC : Nat → ClassId} {dI : Nat → Nat → Nat} {a : Nat → Nat} {ac : Nat → ClassId} {n : Nat} {r : St × (St)} (C : nd_C p l s m args c A (dC, dI) cX1_blame 2 RX1 ow_dm_X1_blame (dk_X1 ac)) (K : nd_Kv p l e (headSpec ow_dm_X1_blame ({ frames := 0, cells := 0, slots := 0, locals := 0 })).room s m args below meth c Q A (dC, dI) cX1_blame (St × (St)) (dw_X1 a ac) r) : dj_X1_blame_0 p l e s m args below meth c Q A dC dI a ac (df_X1_blame_0 n) r := by
  obtain ⟨hlt, hx, hb, hml, hown, hts, hN, hA, hK⟩ := id C
  intro v0 s0 H locs ls h hP hD hS hl
  unfold df_X1_blame_0 at h
  refine lv_aload_n hx hb dX1_blame_0 rfl (lv_at hl 0 rfl) ?_
  refine va_get (D := (dC, dI)) (ci := 2) (v := .int (sI s0.1 2)) (C := RX1) (T := TX1) (N := 13) hx hb hts hi_dm_X1_blame_X1 hown hK hP 0 rfl rfl 5 (by decide) (hts (.fieldLink RX1 32 "TimeMachine$Assembler" "fault" "I") (List.mem_of_getElem? (i := 1) rfl)) (fun _ h9 => h9) rfl dX1_blame_1 ?_
  refine lv_if_ne (tgt := 12) hx hb dX1_blame_4 (by decide) (fun c1 => ?_) (fun c1 => ?_)
  · have h := nd_neg h c1
    exact (db_X1_blame_12 C K)  s0 _ _ _ h hP hD hS (lv_sub hl [] rfl)
  · have h := nd_pos h c1
    refine lv_aload_n hx hb dX1_blame_7 rfl (lv_at hl 0 rfl) ?_
    refine lv_iload_n hx hb dX1_blame_8 rfl (lv_at hl 1 rfl) ?_
    refine va_put (D := (dC, dI)) (ci := 2) (v := .int v0) (ty := .int) (C := RX1) (T := TX1) (N := 13) hx hb hts hi_dm_X1_blame_X1 tyX1 tyX1_ok nmX1 hown hK hP hD hS 0 rfl rfl 5 (by decide) (hts (.fieldLink RX1 32 "TimeMachine$Assembler" "fault" "I") (List.mem_of_getElem? (i := 1) rfl)) (fun _ h9 => h9) rfl (by decide +kernel) rfl rfl (Nat.le_of_ble_eq_true rfl) dX1_blame_9 (fun H locs hP hD hS => ?_)
    obtain ⟨s2, es2, h⟩ := nd_let_e h
    have hP : va_P (dC, dI) vwCl (dw_X1 a ac s2) H := by rw [es2]; exact hP
    have hD : va_D A (dw_X1 a ac s2) := by rw [es2]; exact hD
    exact (db_X1_blame_12 C K)  s2 _ _ _ h hP hD hS (lv_sub hl [] rfl)
set_option maxHeartbeats 40000000 in
set_option maxRecDepth 100000 in
theorem dm_X1_blame (l : Launch) (hlt : l.stackTraces = false) (dC : Nat → ClassId) (dI : Nat → Nat → Nat) (a : Nat → Nat) (ac : Nat → ClassId) (n : Nat) (v0 : Int32) (s0 : St × (St)) {r : St × (St)} (h : df_X1_blame n v0 s0 = some r) (sz : Nat) : Met l yX1_blame ow_dm_X1_blame ({ frames := 0, cells := 0, slots := 0, locals := 0 }) (va_Pc [.ref (a 0), .int v0] (fun U => U.heap.size = sz ∧ va_P (dC, dI) vwCl (dw_X1 a ac s0) U.heap ∧ va_K (dC, dI) vwCl (dk_X1 ac) U ∧ va_D (fun _ => True) (dw_X1 a ac s0) ∧ nv_E (va_A (dw_X1 a ac s0) sz) U)) (va_Qv (fun _ => True) (fun (_ : Unit) t => va_P (dC, dI) vwCl (dw_X1 a ac r) t.heap ∧ va_K (dC, dI) vwCl (dk_X1 ac) t ∧ va_D (va_A (dw_X1 a ac s0) sz) (dw_X1 a ac r)) (va_A (dw_X1 a ac s0) sz)) 0 0 (va_A (dw_X1 a ac s0) sz) := by
  refine Met.ofW (cc := cX1_blame) (maxL := 2) (ret := none) (by decide) rfl ?_
  intro p e s m args below meth c s₁ B hml hv
  obtain ⟨rfl, hsz, hP, hK, hD0, hN⟩ := hv
  have hx := B.exec
  have hb := B.bytes
  have hr := B.returns
  have hts := atoms_spec (ws := ow_dm_X1_blame) B.pre
  have hown : s.vm.findClass RX1 = some m.cls := findClass_of_methodNamed B.named
  have hlocks := B.notSynchronized
  subst hsz
  have hD := hD0.self (sz := s.heap.size)
  generalize hAe : va_A (dw_X1 a ac s0) s.heap.size = A at hD hN ⊢
  have hA : ∀ q : Nat, s.heap.size ≤ q → A q := fun q h => by rw [← hAe]; exact Or.inr h
  have hl := lv_entry ([.ref (a 0), .int v0]) (n := 2) (Nat.le_of_ble_eq_true rfl)
  rw [lg_entry_eq]
  generalize (lg_sl ([.ref (a 0), .int v0]) ++ List.replicate (2 - (lg_sl ([.ref (a 0), .int v0])).length) Slot.unset).toArray = ls at hl ⊢
  have hl : lv_has ls 2 [(0, .ref (a 0)), (1, .int v0)] := hl
  exact db_X1_blame_0 (dC := dC) (dI := dI) (a := a) (ac := ac) (n := n) (r := r) ⟨hlt, hx, hb, hml, hown, hts, hN, hA, hK⟩ (fun pc τ H locs ls d er hP hD hS => by subst er; exact W.vret hx hb hr (fun t ht hW => ⟨⟨(), rfl, trivial, by rw [ht]; exact hP, va_K.moved hW.alike hK, hD⟩, hS.F ht⟩) hS.2.2 d) v0 s0 _ _ _ h hP hD va_S.rf (lv_sub hl [0, 1] rfl)
def ow_dm_X1_start : List Cond := .code yX1_start cX1_start 6 none :: ([.fieldLink RX1 12 "TimeMachine$Assembler" "reader" "LTimeMachine$Reader;", .methodLink RX1 61 yX9_open, .instanceMethod yX9_open, .selects RX9 yX9_open yX9_open, .initialized RX9, .fieldLink RX1 65 "TimeMachine$Assembler" "statements" "I", .fieldLink RX1 68 "TimeMachine$Assembler" "lettersUsed" "I", .fieldLink RX1 32 "TimeMachine$Assembler" "fault" "I", .fieldLink RX1 36 "TimeMachine$Assembler" "line" "I", .fieldLink RX1 71 "TimeMachine$Assembler" "section" "I", .fieldLink RX1 74 "TimeMachine$Assembler" "constants" "I", .methodLink RX1 77 yX1_blame, .instanceMethod yX1_blame, .selects RX1 yX1_blame yX1_blame, .initialized RX1] ++ (u_ws RX1 TX1 13 ++ (ow_dm_X9_open ++ (ow_dm_X1_blame ++ []))))
theorem gd_dm_X1_start : ∀ w ∈ ow_dm_X1_start, (w.onTables && w.keeps) = true ∨ ∃ ty, w = Cond.arrayClass ty := List.forall_mem_cons.mpr ⟨good_of_word rfl, List.forall_mem_append.mpr ⟨fun w h => good_of_word (List.all_eq_true.mp (by decide +kernel) w h), List.forall_mem_append.mpr ⟨gu_X1, List.forall_mem_append.mpr ⟨gd_dm_X9_open, List.forall_mem_append.mpr ⟨gd_dm_X1_blame, fun _ h => nomatch h⟩⟩⟩⟩⟩
theorem hi_dm_X1_start_X1 : ∀ w ∈ u_ws RX1 TX1 13, w ∈ ow_dm_X1_start := fun w h => List.mem_cons_of_mem _ (List.mem_append_right _ (List.mem_append_left _ h))
theorem gi_dm_X1_start_0 : GoodIn ow_dm_X1_start (wsV RX1 61 RX9 yX9_open ow_dm_X9_open) := goodIn_app (goodIn_of _ (by decide +kernel)) (fun w h => ⟨List.mem_cons_of_mem _ (List.mem_append_right _ (List.mem_append_right _ (List.mem_append_left _ h))), gd_dm_X9_open w h⟩)
theorem gi_dm_X1_start_1 : GoodIn ow_dm_X1_start (wsV RX1 77 RX1 yX1_blame ow_dm_X1_blame) := goodIn_app (goodIn_of _ (by decide +kernel)) (fun w h => ⟨List.mem_cons_of_mem _ (List.mem_append_right _ (List.mem_append_right _ (List.mem_append_right _ (List.mem_append_left _ h)))), gd_dm_X1_blame w h⟩)
def dj_X1_start_112 (p : Program) (l : Launch) (e : Env) (s : State) (m : MethodId) (args : Array Value) (below : List Frame) (meth : Method) (c : Code) (Q : State → Prop) (A : Nat → Prop) (dC : Nat → ClassId) (dI : Nat → Nat → Nat) (a : Nat → Nat) (ac : Nat → ClassId) (g : (St × (St)) → Option (St × (St))) (r : St × (St)) : Prop := ∀ (s0 : St × (St)) (H : Heap) (locs : List Loc) (ls : Array Slot), g s0 = some r → va_P (dC, dI) vwCl (dw_X1 a ac s0) H → va_D A (dw_X1 a ac s0) → va_S A s.heap H locs → lv_has ls 6 [] → W p l e (headSpec ow_dm_X1_start ({ frames := 2, cells := 0, slots := 0, locals := 44 })).room s m args below meth c H locs 0 0 Q (F0 m 112 ls [])
def dj_X1_start_106 (p : Program) (l : Launch) (e : Env) (s : State) (m : MethodId) (args : Array Value) (below : List Frame) (meth : Method) (c : Code) (Q : State → Prop) (A : Nat → Prop) (dC : Nat → ClassId) (dI : Nat → Nat → Nat) (a : Nat → Nat) (ac : Nat → ClassId) (g : Int32 → Int32 → Int32 → (St × (St)) → Option (St × (St))) (r : St × (St)) : Prop := ∀ (x2 : Int32) (x3 : Int32) (x4 : Int32) (s0 : St × (St)) (H : Heap) (locs : List Loc) (ls : Array Slot), g x2 x3 x4 s0 = some r → va_P (dC, dI) vwCl (dw_X1 a ac s0) H → va_D A (dw_X1 a ac s0) → va_S A s.heap H locs → lv_has ls 6 [(0, .ref (a 0)), (1, .ref (a 11)), (2, .int x2), (3, .int x3), (4, .int x4)] → W p l e (headSpec ow_dm_X1_start ({ frames := 2, cells := 0, slots := 0, locals := 44 })).room s m args below meth c H locs 0 0 Q (F0 m 106 ls [])
def dj_X1_start_96 (p : Program) (l : Launch) (e : Env) (s : State) (m : MethodId) (args : Array Value) (below : List Frame) (meth : Method) (c : Code) (Q : State → Prop) (A : Nat → Prop) (dC : Nat → ClassId) (dI : Nat → Nat → Nat) (a : Nat → Nat) (ac : Nat → ClassId) (g : Int32 → Int32 → Int32 → (St × (St)) → Option (St × (St))) (r : St × (St)) : Prop := ∀ (x2 : Int32) (x3 : Int32) (x4 : Int32) (s0 : St × (St)) (H : Heap) (locs : List Loc) (ls : Array Slot), g x2 x3 x4 s0 = some r → va_P (dC, dI) vwCl (dw_X1 a ac s0) H → va_D A (dw_X1 a ac s0) → va_S A s.heap H locs → lv_has ls 6 [(0, .ref (a 0)), (1, .ref (a 11)), (2, .int x2), (3, .int x3), (4, .int x4)] → W p l e (headSpec ow_dm_X1_start ({ frames := 2, cells := 0, slots := 0, locals := 44 })).room s m args below meth c H locs 0 0 Q (F0 m 96 ls [])
def dj_X1_start_43 (p : Program) (l : Launch) (e : Env) (s : State) (m : MethodId) (args : Array Value) (below : List Frame) (meth : Method) (c : Code) (Q : State → Prop) (A : Nat → Prop) (dC : Nat → ClassId) (dI : Nat → Nat → Nat) (a : Nat → Nat) (ac : Nat → ClassId) (g : Int32 → Int32 → Int32 → (St × (St)) → Option (St × (St))) (r : St × (St)) : Prop := ∀ (x2 : Int32) (x3 : Int32) (x4 : Int32) (s0 : St × (St)) (H : Heap) (locs : List Loc) (ls : Array Slot), g x2 x3 x4 s0 = some r → va_P (dC, dI) vwCl (dw_X1 a ac s0) H → va_D A (dw_X1 a ac s0) → va_S A s.heap H locs → lv_has ls 6 [(0, .ref (a 0)), (1, .ref (a 11)), (2, .int x2), (3, .int x3), (4, .int x4)] → W p l e (headSpec ow_dm_X1_start ({ frames := 2, cells := 0, slots := 0, locals := 44 })).room s m args below meth c H locs 0 0 Q (F0 m 43 ls [])
def dj_X1_start_0 (p : Program) (l : Launch) (e : Env) (s : State) (m : MethodId) (args : Array Value) (below : List Frame) (meth : Method) (c : Code) (Q : State → Prop) (A : Nat → Prop) (dC : Nat → ClassId) (dI : Nat → Nat → Nat) (a : Nat → Nat) (ac : Nat → ClassId) (g : Int32 → (St × (St)) → Option (St × (St))) (r : St × (St)) : Prop := ∀ (v1 : Int32) (s0 : St × (St)) (H : Heap) (locs : List Loc) (ls : Array Slot), g v1 s0 = some r → va_P (dC, dI) vwCl (dw_X1 a ac s0) H → va_D A (dw_X1 a ac s0) → va_S A s.heap H locs → lv_has ls 6 [(0, .ref (a 0)), (1, .ref (a 11)), (2, .int v1)] → W p l e (headSpec ow_dm_X1_start ({ frames := 2, cells := 0, slots := 0, locals := 44 })).room s m args below meth c H locs 0 0 Q (F0 m 0 ls [])
set_option maxHeartbeats 40000000 in
set_option maxRecDepth 100000 in
theorem db_X1_start_112 {p : Program} {l : Launch} {e : Env} {s : State} {m : MethodId} {args : Array Value} {below : List Frame} {meth : Method} {c : Code} {Q : State → Prop} {A : Nat → Prop} {dC : Nat → ClassId} {dI : Nat → Nat → Nat} {a : Nat → Nat} {ac : Nat → ClassId} {n : Nat} {r : St × (St)} (C : nd_C p l s m args c A (dC, dI) cX1_start 6 RX1 ow_dm_X1_start (dk_X1 ac)) (K : nd_Kv p l e (headSpec ow_dm_X1_start ({ frames := 2, cells := 0, slots := 0, locals := 44 })).room s m args below meth c Q A (dC, dI) cX1_start (St × (St)) (dw_X1 a ac) r) : dj_X1_start_112 p l e s m args below meth c Q A dC dI a ac (df_X1_start_112 n) r := by
  obtain ⟨hlt, hx, hb, hml, hown, hts, hN, hA, hK⟩ := id C
  intro s0 H locs ls h hP hD hS hl
  unfold df_X1_start_112 at h
  exact K _ _ _ _ _ dX1_start_112 (Option.some.inj h).symm hP hD hS
set_option maxHeartbeats 40000000 in
set_option maxRecDepth 100000 in
theorem db_X1_start_106 {p : Program} {l : Launch} {e : Env} {s : State} {m : MethodId} {args : Array Value} {below : List Frame} {meth : Method} {c : Code} {Q : State → Prop} {A : Nat → Prop} {dC : Nat → ClassId} {dI : Nat → Nat → Nat} {a : Nat → Nat} {ac : Nat → ClassId} {n : Nat} {r : St × (St)} (C : nd_C p l s m args c A (dC, dI) cX1_start 6 RX1 ow_dm_X1_start (dk_X1 ac)) (K : nd_Kv p l e (headSpec ow_dm_X1_start ({ frames := 2, cells := 0, slots := 0, locals := 44 })).room s m args below meth c Q A (dC, dI) cX1_start (St × (St)) (dw_X1 a ac) r) {g43 : Int32 → Int32 → Int32 → (St × (St)) → Option (St × (St))} (J43 : dj_X1_start_43 p l e s m args below meth c Q A dC dI a ac g43 r) : dj_X1_start_106 p l e s m args below meth c Q A dC dI a ac (df_X1_start_106 n g43) r := by
  obtain ⟨hlt, hx, hb, hml, hown, hts, hN, hA, hK⟩ := id C
  intro x2 x3 x4 s0 H locs ls h hP hD hS hl
  unfold df_X1_start_106 at h
  obtain ⟨z17, ez17, h⟩ := nd_let_e h
  refine lv_iinc (v := z17) (lv' := [(4, .int z17), (0, .ref (a 0)), (1, .ref (a 11)), (2, .int x2), (3, .int x3)]) hx hb dX1_start_106 hl (k := 4) rfl (by rw [ez17]) (by decide) rfl (fun ls hl => ?_)
  refine lv_goto (tgt := 43) hx hb dX1_start_109 (by decide) ?_
  exact (J43) (x2) (x3) (z17) s0 _ _ _ h hP hD hS (lv_sub hl [1, 2, 3, 4, 0] rfl)
set_option maxHeartbeats 40000000 in
set_option maxRecDepth 100000 in
theorem db_X1_start_96 {p : Program} {l : Launch} {e : Env} {s : State} {m : MethodId} {args : Array Value} {below : List Frame} {meth : Method} {c : Code} {Q : State → Prop} {A : Nat → Prop} {dC : Nat → ClassId} {dI : Nat → Nat → Nat} {a : Nat → Nat} {ac : Nat → ClassId} {n : Nat} {r : St × (St)} (C : nd_C p l s m args c A (dC, dI) cX1_start 6 RX1 ow_dm_X1_start (dk_X1 ac)) (K : nd_Kv p l e (headSpec ow_dm_X1_start ({ frames := 2, cells := 0, slots := 0, locals := 44 })).room s m args below meth c Q A (dC, dI) cX1_start (St × (St)) (dw_X1 a ac) r) {g43 : Int32 → Int32 → Int32 → (St × (St)) → Option (St × (St))} (J43 : dj_X1_start_43 p l e s m args below meth c Q A dC dI a ac g43 r) : dj_X1_start_96 p l e s m args below meth c Q A dC dI a ac (df_X1_start_96 n g43) r := by
  obtain ⟨hlt, hx, hb, hml, hown, hts, hN, hA, hK⟩ := id C
  intro x2 x3 x4 s0 H locs ls h hP hD hS hl
  unfold df_X1_start_96 at h
  refine lv_aload_n hx hb dX1_start_96 rfl (lv_at hl 0 rfl) ?_
  refine lv_iconst (v := 1) hx hb dX1_start_97 (by decide) ?_
  obtain ⟨s20, hq, h⟩ := nd_b1_e h
  have hPc := hP
  have hDc := hD
  have hKc := hK
  have hFc := nd_rs hD hS hA
  refine nd_cVv (As := [.int 1]) (rest := []) (w' := dw_X1 a ac s20) ⟨hx, hb, hml, hown, hts⟩ (fun sz => dm_X1_blame l hlt dC dI a ac n (1) s0 hq sz) (cwV 1 hts gi_dm_X1_start_1 rfl rfl rfl (by decide +kernel) ⟨Nat.le_of_ble_eq_true rfl, Nat.le_of_ble_eq_true rfl⟩) hPc hDc hKc hS hA hN (va_recv hKc hPc (ci := 2) (q0 := 0) rfl rfl) rfl hl.1 rfl (Nat.le_of_ble_eq_true rfl) dX1_start_98 (fun H locs hP1 hD1 hk1 hS => ?_)
  have hP := hP1
  have hD := hD1.weaken (fun k q _ h => hFc q.1 h)
  refine lv_aload_n hx hb dX1_start_101 rfl (lv_at hl 0 rfl) ?_
  refine lv_iload_n hx hb dX1_start_102 rfl (lv_at hl 3 rfl) ?_
  refine va_put (D := (dC, dI)) (ci := 2) (v := .int x3) (ty := .int) (C := RX1) (T := TX1) (N := 13) hx hb hts hi_dm_X1_start_X1 tyX1 tyX1_ok nmX1 hown hK hP hD hS 0 rfl rfl 6 (by decide) (hts (.fieldLink RX1 36 "TimeMachine$Assembler" "line" "I") (List.mem_of_getElem? (i := 9) rfl)) (fun _ h9 => h9) rfl (by decide +kernel) rfl rfl (Nat.le_of_ble_eq_true rfl) dX1_start_103 (fun H locs hP hD hS => ?_)
  obtain ⟨s22, es22, h⟩ := nd_let_e h
  have hP : va_P (dC, dI) vwCl (dw_X1 a ac s22) H := by rw [es22]; exact hP
  have hD : va_D A (dw_X1 a ac s22) := by rw [es22]; exact hD
  exact (db_X1_start_106 C K J43) (x2) (x3) (x4) s22 _ _ _ h hP hD hS (lv_sub hl [0, 1, 2, 3, 4] rfl)
set_option maxHeartbeats 40000000 in
set_option maxRecDepth 100000 in
theorem dB_X1_start_43 {p : Program} {l : Launch} {e : Env} {s : State} {m : MethodId} {args : Array Value} {below : List Frame} {meth : Method} {c : Code} {Q : State → Prop} {A : Nat → Prop} {dC : Nat → ClassId} {dI : Nat → Nat → Nat} {a : Nat → Nat} {ac : Nat → ClassId} {n : Nat} {r : St × (St)} (C : nd_C p l s m args c A (dC, dI) cX1_start 6 RX1 ow_dm_X1_start (dk_X1 ac)) (K : nd_Kv p l e (headSpec ow_dm_X1_start ({ frames := 2, cells := 0, slots := 0, locals := 44 })).room s m args below meth c Q A (dC, dI) cX1_start (St × (St)) (dw_X1 a ac) r) {g43 : Int32 → Int32 → Int32 → (St × (St)) → Option (St × (St))} (J43 : dj_X1_start_43 p l e s m args below meth c Q A dC dI a ac g43 r) : dj_X1_start_43 p l e s m args below meth c Q A dC dI a ac (dF_X1_start_43 n g43) r := by
  obtain ⟨hlt, hx, hb, hml, hown, hts, hN, hA, hK⟩ := id C
  intro x2 x3 x4 s0 H locs ls h hP hD hS hl
  unfold dF_X1_start_43 at h
  refine lv_iload hx hb dX1_start_43 (lv_at hl 4 rfl) ?_
  refine lv_iload_n hx hb dX1_start_45 rfl (lv_at hl 2 rfl) ?_
  refine lv_icmp_ge (tgt := 112) hx hb dX1_start_46 (by decide) (fun c11 => ?_) (fun c11 => ?_)
  · have h := nd_pos h c11
    exact (db_X1_start_112 C K)  s0 _ _ _ h hP hD hS (lv_sub hl [] rfl)
  · have h := nd_neg h c11
    refine lv_aload_n hx hb dX1_start_49 rfl (lv_at hl 0 rfl) ?_
    refine va_get (D := (dC, dI)) (ci := 2) (v := .int (sI s0.1 2)) (C := RX1) (T := TX1) (N := 13) hx hb hts hi_dm_X1_start_X1 hown hK hP 0 rfl rfl 5 (by decide) (hts (.fieldLink RX1 32 "TimeMachine$Assembler" "fault" "I") (List.mem_of_getElem? (i := 8) rfl)) (fun _ h9 => h9) rfl dX1_start_50 ?_
    refine lv_if_ne (tgt := 112) hx hb dX1_start_53 (by decide) (fun c12 => ?_) (fun c12 => ?_)
    · have h := nd_neg h c12
      exact (db_X1_start_112 C K)  s0 _ _ _ h hP hD hS (lv_sub hl [] rfl)
    · have h := nd_pos h c12
      refine lv_aload_n hx hb dX1_start_56 rfl (lv_at hl 1 rfl) ?_
      refine lv_iload hx hb dX1_start_57 (lv_at hl 4 rfl) ?_
      obtain ⟨i13, h⟩ := nd_ck_e h
      refine va_bald (i := x4) hx hb hK hP 11 9 rfl rfl i13 dX1_start_59 ?_
      refine lv_topi (fun z14 ez14 => ?_)
      have h := nd_at h ez14
      refine lv_istore (lv' := [(5, .int z14), (0, .ref (a 0)), (1, .ref (a 11)), (2, .int x2), (3, .int x3), (4, .int x4)]) hx hb dX1_start_60 hl (by decide) rfl (fun ls hl => ?_)
      refine lv_iload hx hb dX1_start_62 (lv_at hl 0 rfl) ?_
      refine lv_bipush (v := 10) hx hb dX1_start_64 (by decide) ?_
      refine lv_icmp_ne (tgt := 75) hx hb dX1_start_66 (by decide) (fun c15 => ?_) (fun c15 => ?_)
      · have h := nd_neg h c15
        refine lv_iload hx hb dX1_start_75 (lv_at hl 0 rfl) ?_
        refine lv_bipush (v := 9) hx hb dX1_start_77 (by decide) ?_
        refine lv_icmp_eq (tgt := 106) hx hb dX1_start_79 (by decide) (fun c16 => ?_) (fun c16 => ?_)
        · have h := nd_pos h c16
          exact (db_X1_start_106 C K J43) (x2) (x3) (x4) s0 _ _ _ h hP hD hS (lv_sub hl [1, 2, 3, 4, 5] rfl)
        · have h := nd_neg h c16
          refine lv_iload hx hb dX1_start_82 (lv_at hl 0 rfl) ?_
          refine lv_bipush (v := 32) hx hb dX1_start_84 (by decide) ?_
          refine lv_icmp_lt (tgt := 96) hx hb dX1_start_86 (by decide) (fun c18 => ?_) (fun c18 => ?_)
          · have h := nd_pos h c18
            exact (db_X1_start_96 C K J43) (x2) (x3) (x4) s0 _ _ _ h hP hD hS (lv_sub hl [1, 2, 3, 4, 5] rfl)
          · have h := nd_neg h c18
            refine lv_iload hx hb dX1_start_89 (lv_at hl 0 rfl) ?_
            refine lv_bipush (v := 126) hx hb dX1_start_91 (by decide) ?_
            refine lv_icmp_le (tgt := 106) hx hb dX1_start_93 (by decide) (fun c23 => ?_) (fun c23 => ?_)
            · have h := nd_pos h c23
              exact (db_X1_start_106 C K J43) (x2) (x3) (x4) s0 _ _ _ h hP hD hS (lv_sub hl [1, 2, 3, 4, 5] rfl)
            · have h := nd_neg h c23
              exact (db_X1_start_96 C K J43) (x2) (x3) (x4) s0 _ _ _ h hP hD hS (lv_sub hl [1, 2, 3, 4, 5] rfl)
      · have h := nd_pos h c15
        obtain ⟨z24, ez24, h⟩ := nd_let_e h
        refine lv_iinc (v := z24) (lv' := [(3, .int z24), (5, .int z14), (0, .ref (a 0)), (1, .ref (a 11)), (2, .int x2), (4, .int x4)]) hx hb dX1_start_69 hl (k := 4) rfl (by rw [ez24]) (by decide) rfl (fun ls hl => ?_)
        refine lv_goto (tgt := 106) hx hb dX1_start_72 (by decide) ?_
        exact (db_X1_start_106 C K J43) (x2) (z24) (x4) s0 _ _ _ h hP hD hS (lv_sub hl [2, 3, 4, 0, 5] rfl)
set_option maxHeartbeats 40000000 in
set_option maxRecDepth 100000 in
theorem db_X1_start_43 {p : Program} {l : Launch} {e : Env} {s : State} {m : MethodId} {args : Array Value} {below : List Frame} {meth : Method} {c : Code} {Q : State → Prop} {A : Nat → Prop} {dC : Nat → ClassId} {dI : Nat → Nat → Nat} {a : Nat → Nat} {ac : Nat → ClassId} {n : Nat} {r : St × (St)} (C : nd_C p l s m args c A (dC, dI) cX1_start 6 RX1 ow_dm_X1_start (dk_X1 ac)) (K : nd_Kv p l e (headSpec ow_dm_X1_start ({ frames := 2, cells := 0, slots := 0, locals := 44 })).room s m args below meth c Q A (dC, dI) cX1_start (St × (St)) (dw_X1 a ac) r) (k : Nat) : dj_X1_start_43 p l e s m args below meth c Q A dC dI a ac (df_X1_start_43 n k) r := by
  induction k with
  | zero => intro x2 x3 x4 s0 H locs ls h; exact nomatch (show (none : Option (St × (St))) = some r from h)
  | succ k ih => exact dB_X1_start_43 C K ih
set_option maxHeartbeats 40000000 in
set_option maxRecDepth 100000 in
theorem db_X1_start_0 {p : Program} {l : Launch} {e : Env} {s : State} {m : MethodId} {args : Array Value} {below : List Frame} {meth : Method} {c : Code} {Q : State → Prop} {A : Nat → Prop} {dC : Nat → ClassId} {dI : Nat → Nat → Nat} {a : Nat → Nat} {ac : Nat → ClassId} {n : Nat} {r : St × (St)} (C : nd_C p l s m args c A (dC, dI) cX1_start 6 RX1 ow_dm_X1_start (dk_X1 ac)) (K : nd_Kv p l e (headSpec ow_dm_X1_start ({ frames := 2, cells := 0, slots := 0, locals := 44 })).room s m args below meth c Q A (dC, dI) cX1_start (St × (St)) (dw_X1 a ac) r) : dj_X1_start_0 p l e s m args below meth c Q A dC dI a ac (df_X1_start_0 n) r := by
  obtain ⟨hlt, hx, hb, hml, hown, hts, hN, hA, hK⟩ := id C
  intro v1 s0 H locs ls h hP hD hS hl
  unfold df_X1_start_0 at h
  refine lv_aload_n hx hb dX1_start_0 rfl (lv_at hl 0 rfl) ?_
  refine va_get (D := (dC, dI)) (ci := 2) (v := .ref (a 3)) (C := RX1) (T := TX1) (N := 13) hx hb hts hi_dm_X1_start_X1 hown hK hP 0 rfl rfl 0 (by decide) (hts (.fieldLink RX1 12 "TimeMachine$Assembler" "reader" "LTimeMachine$Reader;") (List.mem_of_getElem? (i := 1) rfl)) (fun _ h9 => h9) rfl dX1_start_1 ?_
  refine lv_aload_n hx hb dX1_start_4 rfl (lv_at hl 1 rfl) ?_
  obtain ⟨s2, hq, h⟩ := nd_b1_e h
  have hPc := dp_X1_3 hP
  have hDc := dd_X1_3 hD
  have hKc := dy_X1_3 hK
  have hFc := nd_rs hDc hS hA
  have hzA : ∀ q : Nat, H.size ≤ q → A q := fun q h => hA q (Nat.le_trans hS.1 h)
  refine nd_cVv (As := [.ref (a 11)]) (rest := []) (w' := dw_X9 (fun k => a (k + 3)) (fun k => ac (k + 3)) s2) ⟨hx, hb, hml, hown, hts⟩ (fun sz => dm_X9_open l hlt dC dI (fun k => a (k + 3)) (fun k => ac (k + 3)) n  s0.2 hq sz) (cwV 1 hts gi_dm_X1_start_0 rfl rfl rfl (by decide +kernel) ⟨Nat.le_of_ble_eq_true rfl, Nat.le_of_ble_eq_true rfl⟩) hPc hDc hKc hS hA hN (va_recv hKc hPc (ci := 10) (q0 := 0) rfl rfl) rfl hl.1 rfl (Nat.le_of_ble_eq_true rfl) dX1_start_5 (fun H locs hP1 hD1 hk1 hS => ?_)
  obtain ⟨hP, hD⟩ := dn_X1_3 hP hD hzA hk1 hP1 hD1
  obtain ⟨s4, es4, h⟩ := nd_let_e h
  have hP : va_P (dC, dI) vwCl (dw_X1 a ac s4) H := by rw [es4]; exact hP
  have hD : va_D A (dw_X1 a ac s4) := by rw [es4]; exact hD
  refine lv_aload_n hx hb dX1_start_8 rfl (lv_at hl 0 rfl) ?_
  refine lv_iconst (v := 0) hx hb dX1_start_9 (by decide) ?_
  refine va_put (D := (dC, dI)) (ci := 2) (v := .int 0) (ty := .int) (C := RX1) (T := TX1) (N := 13) hx hb hts hi_dm_X1_start_X1 tyX1 tyX1_ok nmX1 hown hK hP hD hS 0 rfl rfl 2 (by decide) (hts (.fieldLink RX1 65 "TimeMachine$Assembler" "statements" "I") (List.mem_of_getElem? (i := 6) rfl)) (fun _ h9 => h9) rfl (by decide +kernel) rfl rfl (Nat.le_of_ble_eq_true rfl) dX1_start_10 (fun H locs hP hD hS => ?_)
  obtain ⟨s5, es5, h⟩ := nd_let_e h
  have hP : va_P (dC, dI) vwCl (dw_X1 a ac s5) H := by rw [es5]; exact hP
  have hD : va_D A (dw_X1 a ac s5) := by rw [es5]; exact hD
  refine lv_aload_n hx hb dX1_start_13 rfl (lv_at hl 0 rfl) ?_
  refine lv_iconst (v := 0) hx hb dX1_start_14 (by decide) ?_
  refine va_put (D := (dC, dI)) (ci := 2) (v := .int 0) (ty := .int) (C := RX1) (T := TX1) (N := 13) hx hb hts hi_dm_X1_start_X1 tyX1 tyX1_ok nmX1 hown hK hP hD hS 0 rfl rfl 4 (by decide) (hts (.fieldLink RX1 68 "TimeMachine$Assembler" "lettersUsed" "I") (List.mem_of_getElem? (i := 7) rfl)) (fun _ h9 => h9) rfl (by decide +kernel) rfl rfl (Nat.le_of_ble_eq_true rfl) dX1_start_15 (fun H locs hP hD hS => ?_)
  obtain ⟨s6, es6, h⟩ := nd_let_e h
  have hP : va_P (dC, dI) vwCl (dw_X1 a ac s6) H := by rw [es6]; exact hP
  have hD : va_D A (dw_X1 a ac s6) := by rw [es6]; exact hD
  refine lv_aload_n hx hb dX1_start_18 rfl (lv_at hl 0 rfl) ?_
  refine lv_iconst (v := 0) hx hb dX1_start_19 (by decide) ?_
  refine va_put (D := (dC, dI)) (ci := 2) (v := .int 0) (ty := .int) (C := RX1) (T := TX1) (N := 13) hx hb hts hi_dm_X1_start_X1 tyX1 tyX1_ok nmX1 hown hK hP hD hS 0 rfl rfl 5 (by decide) (hts (.fieldLink RX1 32 "TimeMachine$Assembler" "fault" "I") (List.mem_of_getElem? (i := 8) rfl)) (fun _ h9 => h9) rfl (by decide +kernel) rfl rfl (Nat.le_of_ble_eq_true rfl) dX1_start_20 (fun H locs hP hD hS => ?_)
  obtain ⟨s7, es7, h⟩ := nd_let_e h
  have hP : va_P (dC, dI) vwCl (dw_X1 a ac s7) H := by rw [es7]; exact hP
  have hD : va_D A (dw_X1 a ac s7) := by rw [es7]; exact hD
  refine lv_aload_n hx hb dX1_start_23 rfl (lv_at hl 0 rfl) ?_
  refine lv_iconst (v := 0) hx hb dX1_start_24 (by decide) ?_
  refine va_put (D := (dC, dI)) (ci := 2) (v := .int 0) (ty := .int) (C := RX1) (T := TX1) (N := 13) hx hb hts hi_dm_X1_start_X1 tyX1 tyX1_ok nmX1 hown hK hP hD hS 0 rfl rfl 6 (by decide) (hts (.fieldLink RX1 36 "TimeMachine$Assembler" "line" "I") (List.mem_of_getElem? (i := 9) rfl)) (fun _ h9 => h9) rfl (by decide +kernel) rfl rfl (Nat.le_of_ble_eq_true rfl) dX1_start_25 (fun H locs hP hD hS => ?_)
  obtain ⟨s8, es8, h⟩ := nd_let_e h
  have hP : va_P (dC, dI) vwCl (dw_X1 a ac s8) H := by rw [es8]; exact hP
  have hD : va_D A (dw_X1 a ac s8) := by rw [es8]; exact hD
  refine lv_aload_n hx hb dX1_start_28 rfl (lv_at hl 0 rfl) ?_
  refine lv_iconst (v := 0) hx hb dX1_start_29 (by decide) ?_
  refine va_put (D := (dC, dI)) (ci := 2) (v := .int 0) (ty := .int) (C := RX1) (T := TX1) (N := 13) hx hb hts hi_dm_X1_start_X1 tyX1 tyX1_ok nmX1 hown hK hP hD hS 0 rfl rfl 7 (by decide) (hts (.fieldLink RX1 71 "TimeMachine$Assembler" "section" "I") (List.mem_of_getElem? (i := 10) rfl)) (fun _ h9 => h9) rfl (by decide +kernel) rfl rfl (Nat.le_of_ble_eq_true rfl) dX1_start_30 (fun H locs hP hD hS => ?_)
  obtain ⟨s9, es9, h⟩ := nd_let_e h
  have hP : va_P (dC, dI) vwCl (dw_X1 a ac s9) H := by rw [es9]; exact hP
  have hD : va_D A (dw_X1 a ac s9) := by rw [es9]; exact hD
  refine lv_aload_n hx hb dX1_start_33 rfl (lv_at hl 0 rfl) ?_
  refine lv_iconst (v := 0) hx hb dX1_start_34 (by decide) ?_
  refine va_put (D := (dC, dI)) (ci := 2) (v := .int 0) (ty := .int) (C := RX1) (T := TX1) (N := 13) hx hb hts hi_dm_X1_start_X1 tyX1 tyX1_ok nmX1 hown hK hP hD hS 0 rfl rfl 9 (by decide) (hts (.fieldLink RX1 74 "TimeMachine$Assembler" "constants" "I") (List.mem_of_getElem? (i := 11) rfl)) (fun _ h9 => h9) rfl (by decide +kernel) rfl rfl (Nat.le_of_ble_eq_true rfl) dX1_start_35 (fun H locs hP hD hS => ?_)
  obtain ⟨s10, es10, h⟩ := nd_let_e h
  have hP : va_P (dC, dI) vwCl (dw_X1 a ac s10) H := by rw [es10]; exact hP
  have hD : va_D A (dw_X1 a ac s10) := by rw [es10]; exact hD
  refine lv_iconst (v := 1) hx hb dX1_start_38 (by decide) ?_
  refine lv_istore_n (lv' := [(3, .int 1), (0, .ref (a 0)), (1, .ref (a 11)), (2, .int v1)]) hx hb dX1_start_39 rfl hl (by decide) rfl (fun ls hl => ?_)
  refine lv_iconst (v := 0) hx hb dX1_start_40 (by decide) ?_
  refine lv_istore (lv' := [(4, .int 0), (3, .int 1), (0, .ref (a 0)), (1, .ref (a 11)), (2, .int v1)]) hx hb dX1_start_41 hl (by decide) rfl (fun ls hl => ?_)
  exact (db_X1_start_43 C K n) (v1) (1) (0) s10 _ _ _ h hP hD hS (lv_sub hl [2, 3, 4, 1, 0] rfl)
set_option maxHeartbeats 40000000 in
set_option maxRecDepth 100000 in
theorem dm_X1_start (l : Launch) (hlt : l.stackTraces = false) (dC : Nat → ClassId) (dI : Nat → Nat → Nat) (a : Nat → Nat) (ac : Nat → ClassId) (n : Nat) (v1 : Int32) (s0 : St × (St)) {r : St × (St)} (h : df_X1_start n v1 s0 = some r) (sz : Nat) : Met l yX1_start ow_dm_X1_start ({ frames := 2, cells := 0, slots := 0, locals := 44 }) (va_Pc [.ref (a 0), .ref (a 11), .int v1] (fun U => U.heap.size = sz ∧ va_P (dC, dI) vwCl (dw_X1 a ac s0) U.heap ∧ va_K (dC, dI) vwCl (dk_X1 ac) U ∧ va_D (fun _ => True) (dw_X1 a ac s0) ∧ nv_E (va_A (dw_X1 a ac s0) sz) U)) (va_Qv (fun _ => True) (fun (_ : Unit) t => va_P (dC, dI) vwCl (dw_X1 a ac r) t.heap ∧ va_K (dC, dI) vwCl (dk_X1 ac) t ∧ va_D (va_A (dw_X1 a ac s0) sz) (dw_X1 a ac r)) (va_A (dw_X1 a ac s0) sz)) 0 0 (va_A (dw_X1 a ac s0) sz) := by
  refine Met.ofW (cc := cX1_start) (maxL := 6) (ret := none) (by decide) rfl ?_
  intro p e s m args below meth c s₁ B hml hv
  obtain ⟨rfl, hsz, hP, hK, hD0, hN⟩ := hv
  have hx := B.exec
  have hb := B.bytes
  have hr := B.returns
  have hts := atoms_spec (ws := ow_dm_X1_start) B.pre
  have hown : s.vm.findClass RX1 = some m.cls := findClass_of_methodNamed B.named
  have hlocks := B.notSynchronized
  subst hsz
  have hD := hD0.self (sz := s.heap.size)
  generalize hAe : va_A (dw_X1 a ac s0) s.heap.size = A at hD hN ⊢
  have hA : ∀ q : Nat, s.heap.size ≤ q → A q := fun q h => by rw [← hAe]; exact Or.inr h
  have hl := lv_entry ([.ref (a 0), .ref (a 11), .int v1]) (n := 6) (Nat.le_of_ble_eq_true rfl)
  rw [lg_entry_eq]
  generalize (lg_sl ([.ref (a 0), .ref (a 11), .int v1]) ++ List.replicate (6 - (lg_sl ([.ref (a 0), .ref (a 11), .int v1])).length) Slot.unset).toArray = ls at hl ⊢
  have hl : lv_has ls 6 [(0, .ref (a 0)), (1, .ref (a 11)), (2, .int v1)] := hl
  exact db_X1_start_0 (dC := dC) (dI := dI) (a := a) (ac := ac) (n := n) (r := r) ⟨hlt, hx, hb, hml, hown, hts, hN, hA, hK⟩ (fun pc τ H locs ls d er hP hD hS => by subst er; exact W.vret hx hb hr (fun t ht hW => ⟨⟨(), rfl, trivial, by rw [ht]; exact hP, va_K.moved hW.alike hK, hD⟩, hS.F ht⟩) hS.2.2 d) v1 s0 _ _ _ h hP hD va_S.rf (lv_sub hl [0, 1, 2] rfl)
def ow_dm_X1_describe : List Cond := .code yX1_describe cX1_describe 3 none :: ([.fieldLink RX1 284 "TimeMachine$Assembler" "textSize" "I", .fieldLink RX1 287 "TimeMachine$Assembler" "dataStart" "I", .fieldLink RX1 50 "TimeMachine$Assembler" "size" "I", .methodLink RX1 357 yX8_startDescription, .instanceMethod yX8_startDescription, .selects RX8 yX8_startDescription yX8_startDescription, .initialized RX8, .fieldLink RX1 74 "TimeMachine$Assembler" "constants" "I", .fieldLink RX1 360 "TimeMachine$Program" "constants" "I", .fieldLink RX1 65 "TimeMachine$Assembler" "statements" "I", .fieldLink RX1 12 "TimeMachine$Assembler" "reader" "LTimeMachine$Reader;", .fieldLink RX1 274 "TimeMachine$Reader" "labels" "I", .fieldLink RX1 293 "TimeMachine$Reader" "label" "[I", .methodLink RX1 364 yX8_addLabel, .instanceMethod yX8_addLabel, .selects RX8 yX8_addLabel yX8_addLabel, .fieldLink RX1 19 "TimeMachine$Assembler" "statement" "[I", .methodLink RX1 361 yX8_addStatement, .instanceMethod yX8_addStatement, .selects RX8 yX8_addStatement yX8_addStatement] ++ (u_ws RX1 TX1 13 ++ (u_ws RX8 TX8 10 ++ (u_ws RX9 TX9 20 ++ (ow_dm_X8_startDescription ++ (ow_dm_X8_addLabel ++ (ow_dm_X8_addStatement ++ [])))))))
theorem gd_dm_X1_describe : ∀ w ∈ ow_dm_X1_describe, (w.onTables && w.keeps) = true ∨ ∃ ty, w = Cond.arrayClass ty := List.forall_mem_cons.mpr ⟨good_of_word rfl, List.forall_mem_append.mpr ⟨fun w h => good_of_word (List.all_eq_true.mp (by decide +kernel) w h), List.forall_mem_append.mpr ⟨gu_X1, List.forall_mem_append.mpr ⟨gu_X8, List.forall_mem_append.mpr ⟨gu_X9, List.forall_mem_append.mpr ⟨gd_dm_X8_startDescription, List.forall_mem_append.mpr ⟨gd_dm_X8_addLabel, List.forall_mem_append.mpr ⟨gd_dm_X8_addStatement, fun _ h => nomatch h⟩⟩⟩⟩⟩⟩⟩⟩
theorem hi_dm_X1_describe_X1 : ∀ w ∈ u_ws RX1 TX1 13, w ∈ ow_dm_X1_describe := fun w h => List.mem_cons_of_mem _ (List.mem_append_right _ (List.mem_append_left _ h))
theorem hi_dm_X1_describe_X8 : ∀ w ∈ u_ws RX8 TX8 10, w ∈ ow_dm_X1_describe := fun w h => List.mem_cons_of_mem _ (List.mem_append_right _ (List.mem_append_right _ (List.mem_append_left _ h)))
theorem hi_dm_X1_describe_X9 : ∀ w ∈ u_ws RX9 TX9 20, w ∈ ow_dm_X1_describe := fun w h => List.mem_cons_of_mem _ (List.mem_append_right _ (List.mem_append_right _ (List.mem_append_right _ (List.mem_append_left _ h))))
theorem gi_dm_X1_describe_0 : GoodIn ow_dm_X1_describe (wsV RX1 357 RX8 yX8_startDescription ow_dm_X8_startDescription) := goodIn_app (goodIn_of _ (by decide +kernel)) (fun w h => ⟨List.mem_cons_of_mem _ (List.mem_append_right _ (List.mem_append_right _ (List.mem_append_right _ (List.mem_append_right _ (List.mem_append_left _ h))))), gd_dm_X8_startDescription w h⟩)
theorem gi_dm_X1_describe_1 : GoodIn ow_dm_X1_describe (wsV RX1 364 RX8 yX8_addLabel ow_dm_X8_addLabel) := goodIn_app (goodIn_of _ (by decide +kernel)) (fun w h => ⟨List.mem_cons_of_mem _ (List.mem_append_right _ (List.mem_append_right _ (List.mem_append_right _ (List.mem_append_right _ (List.mem_append_right _ (List.mem_append_left _ h)))))), gd_dm_X8_addLabel w h⟩)
theorem gi_dm_X1_describe_2 : GoodIn ow_dm_X1_describe (wsV RX1 361 RX8 yX8_addStatement ow_dm_X8_addStatement) := goodIn_app (goodIn_of _ (by decide +kernel)) (fun w h => ⟨List.mem_cons_of_mem _ (List.mem_append_right _ (List.mem_append_right _ (List.mem_append_right _ (List.mem_append_right _ (List.mem_append_right _ (List.mem_append_right _ (List.mem_append_left _ h))))))), gd_dm_X8_addStatement w h⟩)
def dj_X1_describe_119 (p : Program) (l : Launch) (e : Env) (s : State) (m : MethodId) (args : Array Value) (below : List Frame) (meth : Method) (c : Code) (Q : State → Prop) (A : Nat → Prop) (dC : Nat → ClassId) (dI : Nat → Nat → Nat) (a : Nat → Nat) (ac : Nat → ClassId) (g : Int32 → (St × (St × (St)) × (St)) → Option (St × (St × (St)) × (St))) (r : St × (St × (St)) × (St)) : Prop := ∀ (x2 : Int32) (s0 : St × (St × (St)) × (St)) (H : Heap) (locs : List Loc) (ls : Array Slot), g x2 s0 = some r → va_P (dC, dI) vwCl (dw_X1p a ac s0) H → va_D A (dw_X1p a ac s0) → va_S A s.heap H locs → lv_has ls 3 [(0, .ref (a 0)), (1, .ref (a 12)), (2, .int x2)] → W p l e (headSpec ow_dm_X1_describe ({ frames := 1, cells := 0, slots := 0, locals := 23 })).room s m args below meth c H locs 0 0 Q (F0 m 119 ls [])
def dj_X1_describe_76 (p : Program) (l : Launch) (e : Env) (s : State) (m : MethodId) (args : Array Value) (below : List Frame) (meth : Method) (c : Code) (Q : State → Prop) (A : Nat → Prop) (dC : Nat → ClassId) (dI : Nat → Nat → Nat) (a : Nat → Nat) (ac : Nat → ClassId) (g : Int32 → (St × (St × (St)) × (St)) → Option (St × (St × (St)) × (St))) (r : St × (St × (St)) × (St)) : Prop := ∀ (x2 : Int32) (s0 : St × (St × (St)) × (St)) (H : Heap) (locs : List Loc) (ls : Array Slot), g x2 s0 = some r → va_P (dC, dI) vwCl (dw_X1p a ac s0) H → va_D A (dw_X1p a ac s0) → va_S A s.heap H locs → lv_has ls 3 [(0, .ref (a 0)), (1, .ref (a 12)), (2, .int x2)] → W p l e (headSpec ow_dm_X1_describe ({ frames := 1, cells := 0, slots := 0, locals := 23 })).room s m args below meth c H locs 0 0 Q (F0 m 76 ls [])
def dj_X1_describe_68 (p : Program) (l : Launch) (e : Env) (s : State) (m : MethodId) (args : Array Value) (below : List Frame) (meth : Method) (c : Code) (Q : State → Prop) (A : Nat → Prop) (dC : Nat → ClassId) (dI : Nat → Nat → Nat) (a : Nat → Nat) (ac : Nat → ClassId) (g : Int32 → (St × (St × (St)) × (St)) → Option (St × (St × (St)) × (St))) (r : St × (St × (St)) × (St)) : Prop := ∀ (x2 : Int32) (s0 : St × (St × (St)) × (St)) (H : Heap) (locs : List Loc) (ls : Array Slot), g x2 s0 = some r → va_P (dC, dI) vwCl (dw_X1p a ac s0) H → va_D A (dw_X1p a ac s0) → va_S A s.heap H locs → lv_has ls 3 [(0, .ref (a 0)), (1, .ref (a 12)), (2, .int x2)] → W p l e (headSpec ow_dm_X1_describe ({ frames := 1, cells := 0, slots := 0, locals := 23 })).room s m args below meth c H locs 0 0 Q (F0 m 68 ls [])
def dj_X1_describe_26 (p : Program) (l : Launch) (e : Env) (s : State) (m : MethodId) (args : Array Value) (below : List Frame) (meth : Method) (c : Code) (Q : State → Prop) (A : Nat → Prop) (dC : Nat → ClassId) (dI : Nat → Nat → Nat) (a : Nat → Nat) (ac : Nat → ClassId) (g : Int32 → (St × (St × (St)) × (St)) → Option (St × (St × (St)) × (St))) (r : St × (St × (St)) × (St)) : Prop := ∀ (x2 : Int32) (s0 : St × (St × (St)) × (St)) (H : Heap) (locs : List Loc) (ls : Array Slot), g x2 s0 = some r → va_P (dC, dI) vwCl (dw_X1p a ac s0) H → va_D A (dw_X1p a ac s0) → va_S A s.heap H locs → lv_has ls 3 [(0, .ref (a 0)), (1, .ref (a 12)), (2, .int x2)] → W p l e (headSpec ow_dm_X1_describe ({ frames := 1, cells := 0, slots := 0, locals := 23 })).room s m args below meth c H locs 0 0 Q (F0 m 26 ls [])
def dj_X1_describe_0 (p : Program) (l : Launch) (e : Env) (s : State) (m : MethodId) (args : Array Value) (below : List Frame) (meth : Method) (c : Code) (Q : State → Prop) (A : Nat → Prop) (dC : Nat → ClassId) (dI : Nat → Nat → Nat) (a : Nat → Nat) (ac : Nat → ClassId) (g : (St × (St × (St)) × (St)) → Option (St × (St × (St)) × (St))) (r : St × (St × (St)) × (St)) : Prop := ∀ (s0 : St × (St × (St)) × (St)) (H : Heap) (locs : List Loc) (ls : Array Slot), g s0 = some r → va_P (dC, dI) vwCl (dw_X1p a ac s0) H → va_D A (dw_X1p a ac s0) → va_S A s.heap H locs → lv_has ls 3 [(0, .ref (a 0)), (1, .ref (a 12))] → W p l e (headSpec ow_dm_X1_describe ({ frames := 1, cells := 0, slots := 0, locals := 23 })).room s m args below meth c H locs 0 0 Q (F0 m 0 ls [])
set_option maxHeartbeats 40000000 in
set_option maxRecDepth 100000 in
theorem db_X1_describe_119 {p : Program} {l : Launch} {e : Env} {s : State} {m : MethodId} {args : Array Value} {below : List Frame} {meth : Method} {c : Code} {Q : State → Prop} {A : Nat → Prop} {dC : Nat → ClassId} {dI : Nat → Nat → Nat} {a : Nat → Nat} {ac : Nat → ClassId} {n : Nat} {r : St × (St × (St)) × (St)} (C : nd_C p l s m args c A (dC, dI) cX1_describe 3 RX1 ow_dm_X1_describe (dk_X1p ac)) (K : nd_Kv p l e (headSpec ow_dm_X1_describe ({ frames := 1, cells := 0, slots := 0, locals := 23 })).room s m args below meth c Q A (dC, dI) cX1_describe (St × (St × (St)) × (St)) (dw_X1p a ac) r) {g76 : Int32 → (St × (St × (St)) × (St)) → Option (St × (St × (St)) × (St))} (J76 : dj_X1_describe_76 p l e s m args below meth c Q A dC dI a ac g76 r) : dj_X1_describe_119 p l e s m args below meth c Q A dC dI a ac (df_X1_describe_119 n g76) r := by
  obtain ⟨hlt, hx, hb, hml, hown, hts, hN, hA, hK⟩ := id C
  intro x2 s0 H locs ls h hP hD hS hl
  unfold df_X1_describe_119 at h
  obtain ⟨z10, ez10, h⟩ := nd_let_e h
  refine lv_iinc (v := z10) (lv' := [(2, .int z10), (0, .ref (a 0)), (1, .ref (a 12))]) hx hb dX1_describe_119 hl (k := 2) rfl (by rw [ez10]) (by decide) rfl (fun ls hl => ?_)
  refine lv_goto (tgt := 76) hx hb dX1_describe_122 (by decide) ?_
  exact (J76) (z10) s0 _ _ _ h hP hD hS (lv_sub hl [1, 2, 0] rfl)
set_option maxHeartbeats 40000000 in
set_option maxRecDepth 100000 in
theorem dB_X1_describe_76 {p : Program} {l : Launch} {e : Env} {s : State} {m : MethodId} {args : Array Value} {below : List Frame} {meth : Method} {c : Code} {Q : State → Prop} {A : Nat → Prop} {dC : Nat → ClassId} {dI : Nat → Nat → Nat} {a : Nat → Nat} {ac : Nat → ClassId} {n : Nat} {r : St × (St × (St)) × (St)} (C : nd_C p l s m args c A (dC, dI) cX1_describe 3 RX1 ow_dm_X1_describe (dk_X1p ac)) (K : nd_Kv p l e (headSpec ow_dm_X1_describe ({ frames := 1, cells := 0, slots := 0, locals := 23 })).room s m args below meth c Q A (dC, dI) cX1_describe (St × (St × (St)) × (St)) (dw_X1p a ac) r) {g76 : Int32 → (St × (St × (St)) × (St)) → Option (St × (St × (St)) × (St))} (J76 : dj_X1_describe_76 p l e s m args below meth c Q A dC dI a ac g76 r) : dj_X1_describe_76 p l e s m args below meth c Q A dC dI a ac (dF_X1_describe_76 n g76) r := by
  obtain ⟨hlt, hx, hb, hml, hown, hts, hN, hA, hK⟩ := id C
  intro x2 s0 H locs ls h hP hD hS hl
  unfold dF_X1_describe_76 at h
  refine lv_iload_n hx hb dX1_describe_76 rfl (lv_at hl 2 rfl) ?_
  refine lv_aload_n hx hb dX1_describe_77 rfl (lv_at hl 0 rfl) ?_
  refine va_get (D := (dC, dI)) (ci := 2) (v := .ref (a 3)) (C := RX1) (T := TX1) (N := 13) hx hb hts hi_dm_X1_describe_X1 hown hK hP 0 rfl rfl 0 (by decide) (hts (.fieldLink RX1 12 "TimeMachine$Assembler" "reader" "LTimeMachine$Reader;") (List.mem_of_getElem? (i := 11) rfl)) (fun _ h9 => h9) rfl dX1_describe_78 ?_
  refine va_get (D := (dC, dI)) (ci := 10) (v := .int (sI s0.2.1.2 9)) (C := RX9) (T := TX9) (N := 20) hx hb hts hi_dm_X1_describe_X9 hown hK hP 3 rfl rfl 17 (by decide) (hts (.fieldLink RX1 274 "TimeMachine$Reader" "labels" "I") (List.mem_of_getElem? (i := 12) rfl)) (fun _ h9 => h9) rfl dX1_describe_81 ?_
  refine lv_iconst (v := 5) hx hb dX1_describe_84 (by decide) ?_
  refine lv_imul hx hb dX1_describe_85 ?_
  refine lv_icmp_ge (tgt := 125) hx hb dX1_describe_86 (by decide) (fun c7 => ?_) (fun c7 => ?_)
  · have h := nd_pos h c7
    exact K _ _ _ _ _ dX1_describe_125 (Option.some.inj h).symm hP hD hS
  · have h := nd_neg h c7
    refine lv_aload_n hx hb dX1_describe_89 rfl (lv_at hl 0 rfl) ?_
    refine va_get (D := (dC, dI)) (ci := 2) (v := .ref (a 3)) (C := RX1) (T := TX1) (N := 13) hx hb hts hi_dm_X1_describe_X1 hown hK hP 0 rfl rfl 0 (by decide) (hts (.fieldLink RX1 12 "TimeMachine$Assembler" "reader" "LTimeMachine$Reader;") (List.mem_of_getElem? (i := 11) rfl)) (fun _ h9 => h9) rfl dX1_describe_90 ?_
    refine va_get (D := (dC, dI)) (ci := 10) (v := .ref (a 10)) (C := RX9) (T := TX9) (N := 20) hx hb hts hi_dm_X1_describe_X9 hown hK hP 3 rfl rfl 16 (by decide) (hts (.fieldLink RX1 293 "TimeMachine$Reader" "label" "[I") (List.mem_of_getElem? (i := 13) rfl)) (fun _ h9 => h9) rfl dX1_describe_93 ?_
    refine lv_iload_n hx hb dX1_describe_96 rfl (lv_at hl 2 rfl) ?_
    refine lv_iconst (v := 4) hx hb dX1_describe_97 (by decide) ?_
    refine lv_iadd hx hb dX1_describe_98 ?_
    obtain ⟨i8, h⟩ := nd_ck_e h
    refine va_iald (i := (x2 + 4)) hx hb hK hP 10 8 rfl rfl i8 dX1_describe_99 ?_
    refine lv_iconst (v := 1) hx hb dX1_describe_100 (by decide) ?_
    refine lv_icmp_ne (tgt := 119) hx hb dX1_describe_101 (by decide) (fun c9 => ?_) (fun c9 => ?_)
    · have h := nd_neg h c9
      exact (db_X1_describe_119 C K J76) (x2) s0 _ _ _ h hP hD hS (lv_sub hl [0, 1, 2] rfl)
    · have h := nd_pos h c9
      refine lv_aload_n hx hb dX1_describe_104 rfl (lv_at hl 1 rfl) ?_
      refine lv_aload_n hx hb dX1_describe_105 rfl (lv_at hl 0 rfl) ?_
      refine va_get (D := (dC, dI)) (ci := 2) (v := .ref (a 3)) (C := RX1) (T := TX1) (N := 13) hx hb hts hi_dm_X1_describe_X1 hown hK hP 0 rfl rfl 0 (by decide) (hts (.fieldLink RX1 12 "TimeMachine$Assembler" "reader" "LTimeMachine$Reader;") (List.mem_of_getElem? (i := 11) rfl)) (fun _ h9 => h9) rfl dX1_describe_106 ?_
      refine va_get (D := (dC, dI)) (ci := 10) (v := .ref (a 10)) (C := RX9) (T := TX9) (N := 20) hx hb hts hi_dm_X1_describe_X9 hown hK hP 3 rfl rfl 16 (by decide) (hts (.fieldLink RX1 293 "TimeMachine$Reader" "label" "[I") (List.mem_of_getElem? (i := 13) rfl)) (fun _ h9 => h9) rfl dX1_describe_109 ?_
      refine lv_iload_n hx hb dX1_describe_112 rfl (lv_at hl 2 rfl) ?_
      refine lv_iconst (v := 2) hx hb dX1_describe_113 (by decide) ?_
      refine lv_iadd hx hb dX1_describe_114 ?_
      obtain ⟨i11, h⟩ := nd_ck_e h
      refine va_iald (i := (x2 + 2)) hx hb hK hP 10 8 rfl rfl i11 dX1_describe_115 ?_
      obtain ⟨s13, hq, h⟩ := nd_b1_e h
      have hPc := dp_X1p_12 hP
      have hDc := dd_X1p_12 hD
      have hKc := dy_X1p_12 hK
      have hFc := nd_rs hDc hS hA
      have hzA : ∀ q : Nat, H.size ≤ q → A q := fun q h => hA q (Nat.le_trans hS.1 h)
      refine nd_cVv (As := [.int (sR s0.2.1.2 6 (Int32.toNatClampNeg (x2 + 2)))]) (rest := []) (w' := dw_X8 (fun k => a (k + 12)) (fun k => ac (k + 12)) s13) ⟨hx, hb, hml, hown, hts⟩ (fun sz => dm_X8_addLabel l hlt dC dI (fun k => a (k + 12)) (fun k => ac (k + 12)) n ((sR s0.2.1.2 6 (Int32.toNatClampNeg (x2 + 2)))) s0.2.2 hq sz) (cwV 1 hts gi_dm_X1_describe_1 rfl rfl rfl (by decide +kernel) ⟨Nat.le_of_ble_eq_true rfl, Nat.le_of_ble_eq_true rfl⟩) hPc hDc hKc hS hA hN (va_recv hKc hPc (ci := 9) (q0 := 0) rfl rfl) rfl hl.1 rfl (Nat.le_of_ble_eq_true rfl) dX1_describe_116 (fun H locs hP1 hD1 hk1 hS => ?_)
      obtain ⟨hP, hD⟩ := dn_X1p_12 hP hD hzA hk1 hP1 hD1
      obtain ⟨s15, es15, h⟩ := nd_let_e h
      have hP : va_P (dC, dI) vwCl (dw_X1p a ac s15) H := by rw [es15]; exact hP
      have hD : va_D A (dw_X1p a ac s15) := by rw [es15]; exact hD
      exact (db_X1_describe_119 C K J76) (x2) s15 _ _ _ h hP hD hS (lv_sub hl [0, 1, 2] rfl)
set_option maxHeartbeats 40000000 in
set_option maxRecDepth 100000 in
theorem db_X1_describe_76 {p : Program} {l : Launch} {e : Env} {s : State} {m : MethodId} {args : Array Value} {below : List Frame} {meth : Method} {c : Code} {Q : State → Prop} {A : Nat → Prop} {dC : Nat → ClassId} {dI : Nat → Nat → Nat} {a : Nat → Nat} {ac : Nat → ClassId} {n : Nat} {r : St × (St × (St)) × (St)} (C : nd_C p l s m args c A (dC, dI) cX1_describe 3 RX1 ow_dm_X1_describe (dk_X1p ac)) (K : nd_Kv p l e (headSpec ow_dm_X1_describe ({ frames := 1, cells := 0, slots := 0, locals := 23 })).room s m args below meth c Q A (dC, dI) cX1_describe (St × (St × (St)) × (St)) (dw_X1p a ac) r) (k : Nat) : dj_X1_describe_76 p l e s m args below meth c Q A dC dI a ac (df_X1_describe_76 n k) r := by
  induction k with
  | zero => intro x2 s0 H locs ls h; exact nomatch (show (none : Option (St × (St × (St)) × (St))) = some r from h)
  | succ k ih => exact dB_X1_describe_76 C K ih
set_option maxHeartbeats 40000000 in
set_option maxRecDepth 100000 in
theorem db_X1_describe_68 {p : Program} {l : Launch} {e : Env} {s : State} {m : MethodId} {args : Array Value} {below : List Frame} {meth : Method} {c : Code} {Q : State → Prop} {A : Nat → Prop} {dC : Nat → ClassId} {dI : Nat → Nat → Nat} {a : Nat → Nat} {ac : Nat → ClassId} {n : Nat} {r : St × (St × (St)) × (St)} (C : nd_C p l s m args c A (dC, dI) cX1_describe 3 RX1 ow_dm_X1_describe (dk_X1p ac)) (K : nd_Kv p l e (headSpec ow_dm_X1_describe ({ frames := 1, cells := 0, slots := 0, locals := 23 })).room s m args below meth c Q A (dC, dI) cX1_describe (St × (St × (St)) × (St)) (dw_X1p a ac) r) {g26 : Int32 → (St × (St × (St)) × (St)) → Option (St × (St × (St)) × (St))} (J26 : dj_X1_describe_26 p l e s m args below meth c Q A dC dI a ac g26 r) : dj_X1_describe_68 p l e s m args below meth c Q A dC dI a ac (df_X1_describe_68 n g26) r := by
  obtain ⟨hlt, hx, hb, hml, hown, hts, hN, hA, hK⟩ := id C
  intro x2 s0 H locs ls h hP hD hS hl
  unfold df_X1_describe_68 at h
  obtain ⟨z18, ez18, h⟩ := nd_let_e h
  refine lv_iinc (v := z18) (lv' := [(2, .int z18), (0, .ref (a 0)), (1, .ref (a 12))]) hx hb dX1_describe_68 hl (k := 2) rfl (by rw [ez18]) (by decide) rfl (fun ls hl => ?_)
  refine lv_goto (tgt := 26) hx hb dX1_describe_71 (by decide) ?_
  exact (J26) (z18) s0 _ _ _ h hP hD hS (lv_sub hl [1, 2, 0] rfl)
set_option maxHeartbeats 40000000 in
set_option maxRecDepth 100000 in
theorem dB_X1_describe_26 {p : Program} {l : Launch} {e : Env} {s : State} {m : MethodId} {args : Array Value} {below : List Frame} {meth : Method} {c : Code} {Q : State → Prop} {A : Nat → Prop} {dC : Nat → ClassId} {dI : Nat → Nat → Nat} {a : Nat → Nat} {ac : Nat → ClassId} {n : Nat} {r : St × (St × (St)) × (St)} (C : nd_C p l s m args c A (dC, dI) cX1_describe 3 RX1 ow_dm_X1_describe (dk_X1p ac)) (K : nd_Kv p l e (headSpec ow_dm_X1_describe ({ frames := 1, cells := 0, slots := 0, locals := 23 })).room s m args below meth c Q A (dC, dI) cX1_describe (St × (St × (St)) × (St)) (dw_X1p a ac) r) {g26 : Int32 → (St × (St × (St)) × (St)) → Option (St × (St × (St)) × (St))} (J26 : dj_X1_describe_26 p l e s m args below meth c Q A dC dI a ac g26 r) : dj_X1_describe_26 p l e s m args below meth c Q A dC dI a ac (dF_X1_describe_26 n g26) r := by
  obtain ⟨hlt, hx, hb, hml, hown, hts, hN, hA, hK⟩ := id C
  intro x2 s0 H locs ls h hP hD hS hl
  unfold dF_X1_describe_26 at h
  refine lv_iload_n hx hb dX1_describe_26 rfl (lv_at hl 2 rfl) ?_
  refine lv_aload_n hx hb dX1_describe_27 rfl (lv_at hl 0 rfl) ?_
  refine va_get (D := (dC, dI)) (ci := 2) (v := .int (sI s0.2.1.1 0)) (C := RX1) (T := TX1) (N := 13) hx hb hts hi_dm_X1_describe_X1 hown hK hP 0 rfl rfl 2 (by decide) (hts (.fieldLink RX1 65 "TimeMachine$Assembler" "statements" "I") (List.mem_of_getElem? (i := 10) rfl)) (fun _ h9 => h9) rfl dX1_describe_28 ?_
  refine lv_bipush (v := 8) hx hb dX1_describe_31 (by decide) ?_
  refine lv_imul hx hb dX1_describe_33 ?_
  refine lv_icmp_ge (tgt := 74) hx hb dX1_describe_34 (by decide) (fun c6 => ?_) (fun c6 => ?_)
  · have h := nd_pos h c6
    refine lv_iconst (v := 0) hx hb dX1_describe_74 (by decide) ?_
    refine lv_istore_n (lv' := [(2, .int 0), (0, .ref (a 0)), (1, .ref (a 12))]) hx hb dX1_describe_75 rfl hl (by decide) rfl (fun ls hl => ?_)
    exact (db_X1_describe_76 C K n) (0) s0 _ _ _ h hP hD hS (lv_sub hl [1, 2, 0] rfl)
  · have h := nd_neg h c6
    refine lv_aload_n hx hb dX1_describe_37 rfl (lv_at hl 0 rfl) ?_
    refine va_get (D := (dC, dI)) (ci := 2) (v := .ref (a 1)) (C := RX1) (T := TX1) (N := 13) hx hb hts hi_dm_X1_describe_X1 hown hK hP 0 rfl rfl 1 (by decide) (hts (.fieldLink RX1 19 "TimeMachine$Assembler" "statement" "[I") (List.mem_of_getElem? (i := 17) rfl)) (fun _ h9 => h9) rfl dX1_describe_38 ?_
    refine lv_iload_n hx hb dX1_describe_41 rfl (lv_at hl 2 rfl) ?_
    refine lv_iconst (v := 3) hx hb dX1_describe_42 (by decide) ?_
    refine lv_iadd hx hb dX1_describe_43 ?_
    obtain ⟨i16, h⟩ := nd_ck_e h
    refine va_iald (i := (x2 + 3)) hx hb hK hP 1 0 rfl rfl i16 dX1_describe_44 ?_
    refine lv_if_le (tgt := 68) hx hb dX1_describe_45 (by decide) (fun c17 => ?_) (fun c17 => ?_)
    · have h := nd_pos h c17
      exact (db_X1_describe_68 C K J26) (x2) s0 _ _ _ h hP hD hS (lv_sub hl [0, 1, 2] rfl)
    · have h := nd_neg h c17
      refine lv_aload_n hx hb dX1_describe_48 rfl (lv_at hl 1 rfl) ?_
      refine lv_aload_n hx hb dX1_describe_49 rfl (lv_at hl 0 rfl) ?_
      refine va_get (D := (dC, dI)) (ci := 2) (v := .ref (a 1)) (C := RX1) (T := TX1) (N := 13) hx hb hts hi_dm_X1_describe_X1 hown hK hP 0 rfl rfl 1 (by decide) (hts (.fieldLink RX1 19 "TimeMachine$Assembler" "statement" "[I") (List.mem_of_getElem? (i := 17) rfl)) (fun _ h9 => h9) rfl dX1_describe_50 ?_
      refine lv_iload_n hx hb dX1_describe_53 rfl (lv_at hl 2 rfl) ?_
      refine lv_iconst (v := 2) hx hb dX1_describe_54 (by decide) ?_
      refine lv_iadd hx hb dX1_describe_55 ?_
      obtain ⟨i19, h⟩ := nd_ck_e h
      refine va_iald (i := (x2 + 2)) hx hb hK hP 1 0 rfl rfl i19 dX1_describe_56 ?_
      refine lv_aload_n hx hb dX1_describe_57 rfl (lv_at hl 0 rfl) ?_
      refine va_get (D := (dC, dI)) (ci := 2) (v := .ref (a 1)) (C := RX1) (T := TX1) (N := 13) hx hb hts hi_dm_X1_describe_X1 hown hK hP 0 rfl rfl 1 (by decide) (hts (.fieldLink RX1 19 "TimeMachine$Assembler" "statement" "[I") (List.mem_of_getElem? (i := 17) rfl)) (fun _ h9 => h9) rfl dX1_describe_58 ?_
      refine lv_iload_n hx hb dX1_describe_61 rfl (lv_at hl 2 rfl) ?_
      refine lv_iconst (v := 0) hx hb dX1_describe_62 (by decide) ?_
      refine lv_iadd hx hb dX1_describe_63 ?_
      obtain ⟨i20, h⟩ := nd_ck_e h
      refine va_iald (i := (x2 + 0)) hx hb hK hP 1 0 rfl rfl i20 dX1_describe_64 ?_
      obtain ⟨s22, hq, h⟩ := nd_b1_e h
      have hPc := dp_X1p_12 hP
      have hDc := dd_X1p_12 hD
      have hKc := dy_X1p_12 hK
      have hFc := nd_rs hDc hS hA
      have hzA : ∀ q : Nat, H.size ≤ q → A q := fun q h => hA q (Nat.le_trans hS.1 h)
      refine nd_cVv (As := [.int (sR s0.2.1.1 0 (Int32.toNatClampNeg (x2 + 2))), .int (sR s0.2.1.1 0 (Int32.toNatClampNeg (x2 + 0)))]) (rest := []) (w' := dw_X8 (fun k => a (k + 12)) (fun k => ac (k + 12)) s22) ⟨hx, hb, hml, hown, hts⟩ (fun sz => dm_X8_addStatement l hlt dC dI (fun k => a (k + 12)) (fun k => ac (k + 12)) n ((sR s0.2.1.1 0 (Int32.toNatClampNeg (x2 + 2)))) ((sR s0.2.1.1 0 (Int32.toNatClampNeg (x2 + 0)))) s0.2.2 hq sz) (cwV 2 hts gi_dm_X1_describe_2 rfl rfl rfl (by decide +kernel) ⟨Nat.le_of_ble_eq_true rfl, Nat.le_of_ble_eq_true rfl⟩) hPc hDc hKc hS hA hN (va_recv hKc hPc (ci := 9) (q0 := 0) rfl rfl) rfl hl.1 rfl (Nat.le_of_ble_eq_true rfl) dX1_describe_65 (fun H locs hP1 hD1 hk1 hS => ?_)
      obtain ⟨hP, hD⟩ := dn_X1p_12 hP hD hzA hk1 hP1 hD1
      obtain ⟨s24, es24, h⟩ := nd_let_e h
      have hP : va_P (dC, dI) vwCl (dw_X1p a ac s24) H := by rw [es24]; exact hP
      have hD : va_D A (dw_X1p a ac s24) := by rw [es24]; exact hD
      exact (db_X1_describe_68 C K J26) (x2) s24 _ _ _ h hP hD hS (lv_sub hl [0, 1, 2] rfl)
set_option maxHeartbeats 40000000 in
set_option maxRecDepth 100000 in
theorem db_X1_describe_26 {p : Program} {l : Launch} {e : Env} {s : State} {m : MethodId} {args : Array Value} {below : List Frame} {meth : Method} {c : Code} {Q : State → Prop} {A : Nat → Prop} {dC : Nat → ClassId} {dI : Nat → Nat → Nat} {a : Nat → Nat} {ac : Nat → ClassId} {n : Nat} {r : St × (St × (St)) × (St)} (C : nd_C p l s m args c A (dC, dI) cX1_describe 3 RX1 ow_dm_X1_describe (dk_X1p ac)) (K : nd_Kv p l e (headSpec ow_dm_X1_describe ({ frames := 1, cells := 0, slots := 0, locals := 23 })).room s m args below meth c Q A (dC, dI) cX1_describe (St × (St × (St)) × (St)) (dw_X1p a ac) r) (k : Nat) : dj_X1_describe_26 p l e s m args below meth c Q A dC dI a ac (df_X1_describe_26 n k) r := by
  induction k with
  | zero => intro x2 s0 H locs ls h; exact nomatch (show (none : Option (St × (St × (St)) × (St))) = some r from h)
  | succ k ih => exact dB_X1_describe_26 C K ih
set_option maxHeartbeats 40000000 in
set_option maxRecDepth 100000 in
theorem db_X1_describe_0 {p : Program} {l : Launch} {e : Env} {s : State} {m : MethodId} {args : Array Value} {below : List Frame} {meth : Method} {c : Code} {Q : State → Prop} {A : Nat → Prop} {dC : Nat → ClassId} {dI : Nat → Nat → Nat} {a : Nat → Nat} {ac : Nat → ClassId} {n : Nat} {r : St × (St × (St)) × (St)} (C : nd_C p l s m args c A (dC, dI) cX1_describe 3 RX1 ow_dm_X1_describe (dk_X1p ac)) (K : nd_Kv p l e (headSpec ow_dm_X1_describe ({ frames := 1, cells := 0, slots := 0, locals := 23 })).room s m args below meth c Q A (dC, dI) cX1_describe (St × (St × (St)) × (St)) (dw_X1p a ac) r) : dj_X1_describe_0 p l e s m args below meth c Q A dC dI a ac (df_X1_describe_0 n) r := by
  obtain ⟨hlt, hx, hb, hml, hown, hts, hN, hA, hK⟩ := id C
  intro s0 H locs ls h hP hD hS hl
  unfold df_X1_describe_0 at h
  refine lv_aload_n hx hb dX1_describe_0 rfl (lv_at hl 1 rfl) ?_
  refine lv_aload_n hx hb dX1_describe_1 rfl (lv_at hl 0 rfl) ?_
  refine va_get (D := (dC, dI)) (ci := 2) (v := .int (sI s0.2.1.1 7)) (C := RX1) (T := TX1) (N := 13) hx hb hts hi_dm_X1_describe_X1 hown hK hP 0 rfl rfl 10 (by decide) (hts (.fieldLink RX1 284 "TimeMachine$Assembler" "textSize" "I") (List.mem_of_getElem? (i := 1) rfl)) (fun _ h9 => h9) rfl dX1_describe_2 ?_
  refine lv_aload_n hx hb dX1_describe_5 rfl (lv_at hl 0 rfl) ?_
  refine va_get (D := (dC, dI)) (ci := 2) (v := .int (sI s0.2.1.1 8)) (C := RX1) (T := TX1) (N := 13) hx hb hts hi_dm_X1_describe_X1 hown hK hP 0 rfl rfl 11 (by decide) (hts (.fieldLink RX1 287 "TimeMachine$Assembler" "dataStart" "I") (List.mem_of_getElem? (i := 2) rfl)) (fun _ h9 => h9) rfl dX1_describe_6 ?_
  refine lv_aload_n hx hb dX1_describe_9 rfl (lv_at hl 0 rfl) ?_
  refine va_get (D := (dC, dI)) (ci := 2) (v := .int (sI s0.2.1.1 9)) (C := RX1) (T := TX1) (N := 13) hx hb hts hi_dm_X1_describe_X1 hown hK hP 0 rfl rfl 12 (by decide) (hts (.fieldLink RX1 50 "TimeMachine$Assembler" "size" "I") (List.mem_of_getElem? (i := 3) rfl)) (fun _ h9 => h9) rfl dX1_describe_10 ?_
  obtain ⟨s2, hq, h⟩ := nd_b1_e h
  have hPc := dp_X1p_12 hP
  have hDc := dd_X1p_12 hD
  have hKc := dy_X1p_12 hK
  have hFc := nd_rs hDc hS hA
  have hzA : ∀ q : Nat, H.size ≤ q → A q := fun q h => hA q (Nat.le_trans hS.1 h)
  refine nd_cVv (As := [.int (sI s0.2.1.1 7), .int (sI s0.2.1.1 8), .int (sI s0.2.1.1 9)]) (rest := []) (w' := dw_X8 (fun k => a (k + 12)) (fun k => ac (k + 12)) s2) ⟨hx, hb, hml, hown, hts⟩ (fun sz => dm_X8_startDescription l hlt dC dI (fun k => a (k + 12)) (fun k => ac (k + 12)) n ((sI s0.2.1.1 7)) ((sI s0.2.1.1 8)) ((sI s0.2.1.1 9)) s0.2.2 hq sz) (cwV 3 hts gi_dm_X1_describe_0 rfl rfl rfl (by decide +kernel) ⟨Nat.le_of_ble_eq_true rfl, Nat.le_of_ble_eq_true rfl⟩) hPc hDc hKc hS hA hN (va_recv hKc hPc (ci := 9) (q0 := 0) rfl rfl) rfl hl.1 rfl (Nat.le_of_ble_eq_true rfl) dX1_describe_13 (fun H locs hP1 hD1 hk1 hS => ?_)
  obtain ⟨hP, hD⟩ := dn_X1p_12 hP hD hzA hk1 hP1 hD1
  obtain ⟨s4, es4, h⟩ := nd_let_e h
  have hP : va_P (dC, dI) vwCl (dw_X1p a ac s4) H := by rw [es4]; exact hP
  have hD : va_D A (dw_X1p a ac s4) := by rw [es4]; exact hD
  refine lv_aload_n hx hb dX1_describe_16 rfl (lv_at hl 1 rfl) ?_
  refine lv_aload_n hx hb dX1_describe_17 rfl (lv_at hl 0 rfl) ?_
  refine va_get (D := (dC, dI)) (ci := 2) (v := .int (sI s4.2.1.1 6)) (C := RX1) (T := TX1) (N := 13) hx hb hts hi_dm_X1_describe_X1 hown hK hP 0 rfl rfl 9 (by decide) (hts (.fieldLink RX1 74 "TimeMachine$Assembler" "constants" "I") (List.mem_of_getElem? (i := 8) rfl)) (fun _ h9 => h9) rfl dX1_describe_18 ?_
  refine va_put (D := (dC, dI)) (ci := 9) (v := .int (sI s4.2.1.1 6)) (ty := .int) (C := RX8) (T := TX8) (N := 10) hx hb hts hi_dm_X1_describe_X8 tyX8 tyX8_ok nmX8 hown hK hP hD hS 12 rfl rfl 4 (by decide) (hts (.fieldLink RX1 360 "TimeMachine$Program" "constants" "I") (List.mem_of_getElem? (i := 9) rfl)) (fun _ h9 => h9) rfl (by decide +kernel) rfl rfl (Nat.le_of_ble_eq_true rfl) dX1_describe_21 (fun H locs hP hD hS => ?_)
  obtain ⟨s5, es5, h⟩ := nd_let_e h
  have hP : va_P (dC, dI) vwCl (dw_X1p a ac s5) H := by rw [es5]; exact hP
  have hD : va_D A (dw_X1p a ac s5) := by rw [es5]; exact hD
  refine lv_iconst (v := 0) hx hb dX1_describe_24 (by decide) ?_
  refine lv_istore_n (lv' := [(2, .int 0), (0, .ref (a 0)), (1, .ref (a 12))]) hx hb dX1_describe_25 rfl hl (by decide) rfl (fun ls hl => ?_)
  exact (db_X1_describe_26 C K n) (0) s5 _ _ _ h hP hD hS (lv_sub hl [1, 2, 0] rfl)
set_option maxHeartbeats 40000000 in
set_option maxRecDepth 100000 in
theorem dm_X1_describe (l : Launch) (hlt : l.stackTraces = false) (dC : Nat → ClassId) (dI : Nat → Nat → Nat) (a : Nat → Nat) (ac : Nat → ClassId) (n : Nat) (s0 : St × (St × (St)) × (St)) {r : St × (St × (St)) × (St)} (h : df_X1_describe n s0 = some r) (sz : Nat) : Met l yX1_describe ow_dm_X1_describe ({ frames := 1, cells := 0, slots := 0, locals := 23 }) (va_Pc [.ref (a 0), .ref (a 12)] (fun U => U.heap.size = sz ∧ va_P (dC, dI) vwCl (dw_X1p a ac s0) U.heap ∧ va_K (dC, dI) vwCl (dk_X1p ac) U ∧ va_D (fun _ => True) (dw_X1p a ac s0) ∧ nv_E (va_A (dw_X1p a ac s0) sz) U)) (va_Qv (fun _ => True) (fun (_ : Unit) t => va_P (dC, dI) vwCl (dw_X1p a ac r) t.heap ∧ va_K (dC, dI) vwCl (dk_X1p ac) t ∧ va_D (va_A (dw_X1p a ac s0) sz) (dw_X1p a ac r)) (va_A (dw_X1p a ac s0) sz)) 0 0 (va_A (dw_X1p a ac s0) sz) := by
  refine Met.ofW (cc := cX1_describe) (maxL := 3) (ret := none) (by decide) rfl ?_
  intro p e s m args below meth c s₁ B hml hv
  obtain ⟨rfl, hsz, hP, hK, hD0, hN⟩ := hv
  have hx := B.exec
  have hb := B.bytes
  have hr := B.returns
  have hts := atoms_spec (ws := ow_dm_X1_describe) B.pre
  have hown : s.vm.findClass RX1 = some m.cls := findClass_of_methodNamed B.named
  have hlocks := B.notSynchronized
  subst hsz
  have hD := hD0.self (sz := s.heap.size)
  generalize hAe : va_A (dw_X1p a ac s0) s.heap.size = A at hD hN ⊢
  have hA : ∀ q : Nat, s.heap.size ≤ q → A q := fun q h => by rw [← hAe]; exact Or.inr h
  have hl := lv_entry ([.ref (a 0), .ref (a 12)]) (n := 3) (Nat.le_of_ble_eq_true rfl)
  rw [lg_entry_eq]
  generalize (lg_sl ([.ref (a 0), .ref (a 12)]) ++ List.replicate (3 - (lg_sl ([.ref (a 0), .ref (a 12)])).length) Slot.unset).toArray = ls at hl ⊢
  have hl : lv_has ls 3 [(0, .ref (a 0)), (1, .ref (a 12))] := hl
  exact db_X1_describe_0 (dC := dC) (dI := dI) (a := a) (ac := ac) (n := n) (r := r) ⟨hlt, hx, hb, hml, hown, hts, hN, hA, hK⟩ (fun pc τ H locs ls d er hP hD hS => by subst er; exact W.vret hx hb hr (fun t ht hW => ⟨⟨(), rfl, trivial, by rw [ht]; exact hP, va_K.moved hW.alike hK, hD⟩, hS.F ht⟩) hS.2.2 d) s0 _ _ _ h hP hD va_S.rf (lv_sub hl [0, 1] rfl)
def ow_dm_X1_moveData : List Cond := .code yX1_moveData cX1_moveData 2 none :: ([.fieldLink RX1 65 "TimeMachine$Assembler" "statements" "I", .fieldLink RX1 12 "TimeMachine$Assembler" "reader" "LTimeMachine$Reader;", .fieldLink RX1 274 "TimeMachine$Reader" "labels" "I", .fieldLink RX1 293 "TimeMachine$Reader" "label" "[I", .fieldLink RX1 287 "TimeMachine$Assembler" "dataStart" "I", .fieldLink RX1 19 "TimeMachine$Assembler" "statement" "[I"] ++ (u_ws RX1 TX1 13 ++ (u_ws RX9 TX9 20 ++ [])))
theorem gd_dm_X1_moveData : ∀ w ∈ ow_dm_X1_moveData, (w.onTables && w.keeps) = true ∨ ∃ ty, w = Cond.arrayClass ty := List.forall_mem_cons.mpr ⟨good_of_word rfl, List.forall_mem_append.mpr ⟨fun w h => good_of_word (List.all_eq_true.mp (by decide +kernel) w h), List.forall_mem_append.mpr ⟨gu_X1, List.forall_mem_append.mpr ⟨gu_X9, fun _ h => nomatch h⟩⟩⟩⟩
theorem hi_dm_X1_moveData_X1 : ∀ w ∈ u_ws RX1 TX1 13, w ∈ ow_dm_X1_moveData := fun w h => List.mem_cons_of_mem _ (List.mem_append_right _ (List.mem_append_left _ h))
theorem hi_dm_X1_moveData_X9 : ∀ w ∈ u_ws RX9 TX9 20, w ∈ ow_dm_X1_moveData := fun w h => List.mem_cons_of_mem _ (List.mem_append_right _ (List.mem_append_right _ (List.mem_append_left _ h)))
def dj_X1_moveData_99 (p : Program) (l : Launch) (e : Env) (s : State) (m : MethodId) (args : Array Value) (below : List Frame) (meth : Method) (c : Code) (Q : State → Prop) (A : Nat → Prop) (dC : Nat → ClassId) (dI : Nat → Nat → Nat) (a : Nat → Nat) (ac : Nat → ClassId) (g : Int32 → (St × (St)) → Option (St × (St))) (r : St × (St)) : Prop := ∀ (x1 : Int32) (s0 : St × (St)) (H : Heap) (locs : List Loc) (ls : Array Slot), g x1 s0 = some r → va_P (dC, dI) vwCl (dw_X1 a ac s0) H → va_D A (dw_X1 a ac s0) → va_S A s.heap H locs → lv_has ls 2 [(0, .ref (a 0)), (1, .int x1)] → W p l e (headSpec ow_dm_X1_moveData ({ frames := 0, cells := 0, slots := 0, locals := 0 })).room s m args below meth c H locs 0 0 Q (F0 m 99 ls [])
def dj_X1_moveData_51 (p : Program) (l : Launch) (e : Env) (s : State) (m : MethodId) (args : Array Value) (below : List Frame) (meth : Method) (c : Code) (Q : State → Prop) (A : Nat → Prop) (dC : Nat → ClassId) (dI : Nat → Nat → Nat) (a : Nat → Nat) (ac : Nat → ClassId) (g : Int32 → (St × (St)) → Option (St × (St))) (r : St × (St)) : Prop := ∀ (x1 : Int32) (s0 : St × (St)) (H : Heap) (locs : List Loc) (ls : Array Slot), g x1 s0 = some r → va_P (dC, dI) vwCl (dw_X1 a ac s0) H → va_D A (dw_X1 a ac s0) → va_S A s.heap H locs → lv_has ls 2 [(0, .ref (a 0)), (1, .int x1)] → W p l e (headSpec ow_dm_X1_moveData ({ frames := 0, cells := 0, slots := 0, locals := 0 })).room s m args below meth c H locs 0 0 Q (F0 m 51 ls [])
def dj_X1_moveData_43 (p : Program) (l : Launch) (e : Env) (s : State) (m : MethodId) (args : Array Value) (below : List Frame) (meth : Method) (c : Code) (Q : State → Prop) (A : Nat → Prop) (dC : Nat → ClassId) (dI : Nat → Nat → Nat) (a : Nat → Nat) (ac : Nat → ClassId) (g : Int32 → (St × (St)) → Option (St × (St))) (r : St × (St)) : Prop := ∀ (x1 : Int32) (s0 : St × (St)) (H : Heap) (locs : List Loc) (ls : Array Slot), g x1 s0 = some r → va_P (dC, dI) vwCl (dw_X1 a ac s0) H → va_D A (dw_X1 a ac s0) → va_S A s.heap H locs → lv_has ls 2 [(0, .ref (a 0)), (1, .int x1)] → W p l e (headSpec ow_dm_X1_moveData ({ frames := 0, cells := 0, slots := 0, locals := 0 })).room s m args below meth c H locs 0 0 Q (F0 m 43 ls [])
def dj_X1_moveData_2 (p : Program) (l : Launch) (e : Env) (s : State) (m : MethodId) (args : Array Value) (below : List Frame) (meth : Method) (c : Code) (Q : State → Prop) (A : Nat → Prop) (dC : Nat → ClassId) (dI : Nat → Nat → Nat) (a : Nat → Nat) (ac : Nat → ClassId) (g : Int32 → (St × (St)) → Option (St × (St))) (r : St × (St)) : Prop := ∀ (x1 : Int32) (s0 : St × (St)) (H : Heap) (locs : List Loc) (ls : Array Slot), g x1 s0 = some r → va_P (dC, dI) vwCl (dw_X1 a ac s0) H → va_D A (dw_X1 a ac s0) → va_S A s.heap H locs → lv_has ls 2 [(0, .ref (a 0)), (1, .int x1)] → W p l e (headSpec ow_dm_X1_moveData ({ frames := 0, cells := 0, slots := 0, locals := 0 })).room s m args below meth c H locs 0 0 Q (F0 m 2 ls [])
def dj_X1_moveData_0 (p : Program) (l : Launch) (e : Env) (s : State) (m : MethodId) (args : Array Value) (below : List Frame) (meth : Method) (c : Code) (Q : State → Prop) (A : Nat → Prop) (dC : Nat → ClassId) (dI : Nat → Nat → Nat) (a : Nat → Nat) (ac : Nat → ClassId) (g : (St × (St)) → Option (St × (St))) (r : St × (St)) : Prop := ∀ (s0 : St × (St)) (H : Heap) (locs : List Loc) (ls : Array Slot), g s0 = some r → va_P (dC, dI) vwCl (dw_X1 a ac s0) H → va_D A (dw_X1 a ac s0) → va_S A s.heap H locs → lv_has ls 2 [(0, .ref (a 0))] → W p l e (headSpec ow_dm_X1_moveData ({ frames := 0, cells := 0, slots := 0, locals := 0 })).room s m args below meth c H locs 0 0 Q (F0 m 0 ls [])
set_option maxHeartbeats 40000000 in
set_option maxRecDepth 100000 in
theorem db_X1_moveData_99 {p : Program} {l : Launch} {e : Env} {s : State} {m : MethodId} {args : Array Value} {below : List Frame} {meth : Method} {c : Code} {Q : State → Prop} {A : Nat → Prop} {dC : Nat → ClassId} {dI : Nat → Nat → Nat} {a : Nat → Nat} {ac : Nat → ClassId} {n : Nat} {r : St × (St)} (C : nd_C p l s m args c A (dC, dI) cX1_moveData 2 RX1 ow_dm_X1_moveData (dk_X1 ac)) (K : nd_Kv p l e (headSpec ow_dm_X1_moveData ({ frames := 0, cells := 0, slots := 0, locals := 0 })).room s m args below meth c Q A (dC, dI) cX1_moveData (St × (St)) (dw_X1 a ac) r) {g51 : Int32 → (St × (St)) → Option (St × (St))} (J51 : dj_X1_moveData_51 p l e s m args below meth c Q A dC dI a ac g51 r) : dj_X1_moveData_99 p l e s m args below meth c Q A dC dI a ac (df_X1_moveData_99 n g51) r := by
  obtain ⟨hlt, hx, hb, hml, hown, hts, hN, hA, hK⟩ := id C
  intro x1 s0 H locs ls h hP hD hS hl
  unfold df_X1_moveData_99 at h
  obtain ⟨z5, ez5, h⟩ := nd_let_e h
  refine lv_iinc (v := z5) (lv' := [(1, .int z5), (0, .ref (a 0))]) hx hb dX1_moveData_99 hl (k := 1) rfl (by rw [ez5]) (by decide) rfl (fun ls hl => ?_)
  refine lv_goto (tgt := 51) hx hb dX1_moveData_102 (by decide) ?_
  exact (J51) (z5) s0 _ _ _ h hP hD hS (lv_sub hl [1, 0] rfl)
set_option maxHeartbeats 40000000 in
set_option maxRecDepth 100000 in
theorem dB_X1_moveData_51 {p : Program} {l : Launch} {e : Env} {s : State} {m : MethodId} {args : Array Value} {below : List Frame} {meth : Method} {c : Code} {Q : State → Prop} {A : Nat → Prop} {dC : Nat → ClassId} {dI : Nat → Nat → Nat} {a : Nat → Nat} {ac : Nat → ClassId} {n : Nat} {r : St × (St)} (C : nd_C p l s m args c A (dC, dI) cX1_moveData 2 RX1 ow_dm_X1_moveData (dk_X1 ac)) (K : nd_Kv p l e (headSpec ow_dm_X1_moveData ({ frames := 0, cells := 0, slots := 0, locals := 0 })).room s m args below meth c Q A (dC, dI) cX1_moveData (St × (St)) (dw_X1 a ac) r) {g51 : Int32 → (St × (St)) → Option (St × (St))} (J51 : dj_X1_moveData_51 p l e s m args below meth c Q A dC dI a ac g51 r) : dj_X1_moveData_51 p l e s m args below meth c Q A dC dI a ac (dF_X1_moveData_51 n g51) r := by
  obtain ⟨hlt, hx, hb, hml, hown, hts, hN, hA, hK⟩ := id C
  intro x1 s0 H locs ls h hP hD hS hl
  unfold dF_X1_moveData_51 at h
  refine lv_iload_n hx hb dX1_moveData_51 rfl (lv_at hl 1 rfl) ?_
  refine lv_aload_n hx hb dX1_moveData_52 rfl (lv_at hl 0 rfl) ?_
  refine va_get (D := (dC, dI)) (ci := 2) (v := .ref (a 3)) (C := RX1) (T := TX1) (N := 13) hx hb hts hi_dm_X1_moveData_X1 hown hK hP 0 rfl rfl 0 (by decide) (hts (.fieldLink RX1 12 "TimeMachine$Assembler" "reader" "LTimeMachine$Reader;") (List.mem_of_getElem? (i := 2) rfl)) (fun _ h9 => h9) rfl dX1_moveData_53 ?_
  refine va_get (D := (dC, dI)) (ci := 10) (v := .int (sI s0.2 9)) (C := RX9) (T := TX9) (N := 20) hx hb hts hi_dm_X1_moveData_X9 hown hK hP 3 rfl rfl 17 (by decide) (hts (.fieldLink RX1 274 "TimeMachine$Reader" "labels" "I") (List.mem_of_getElem? (i := 3) rfl)) (fun _ h9 => h9) rfl dX1_moveData_56 ?_
  refine lv_icmp_ge (tgt := 105) hx hb dX1_moveData_59 (by decide) (fun c2 => ?_) (fun c2 => ?_)
  · have h := nd_pos h c2
    exact K _ _ _ _ _ dX1_moveData_105 (Option.some.inj h).symm hP hD hS
  · have h := nd_neg h c2
    refine lv_aload_n hx hb dX1_moveData_62 rfl (lv_at hl 0 rfl) ?_
    refine va_get (D := (dC, dI)) (ci := 2) (v := .ref (a 3)) (C := RX1) (T := TX1) (N := 13) hx hb hts hi_dm_X1_moveData_X1 hown hK hP 0 rfl rfl 0 (by decide) (hts (.fieldLink RX1 12 "TimeMachine$Assembler" "reader" "LTimeMachine$Reader;") (List.mem_of_getElem? (i := 2) rfl)) (fun _ h9 => h9) rfl dX1_moveData_63 ?_
    refine va_get (D := (dC, dI)) (ci := 10) (v := .ref (a 10)) (C := RX9) (T := TX9) (N := 20) hx hb hts hi_dm_X1_moveData_X9 hown hK hP 3 rfl rfl 16 (by decide) (hts (.fieldLink RX1 293 "TimeMachine$Reader" "label" "[I") (List.mem_of_getElem? (i := 4) rfl)) (fun _ h9 => h9) rfl dX1_moveData_66 ?_
    refine lv_iload_n hx hb dX1_moveData_69 rfl (lv_at hl 1 rfl) ?_
    refine lv_iconst (v := 5) hx hb dX1_moveData_70 (by decide) ?_
    refine lv_imul hx hb dX1_moveData_71 ?_
    refine lv_iconst (v := 1) hx hb dX1_moveData_72 (by decide) ?_
    refine lv_iadd hx hb dX1_moveData_73 ?_
    obtain ⟨i3, h⟩ := nd_ck_e h
    refine va_iald (i := ((x1 * 5) + 1)) hx hb hK hP 10 8 rfl rfl i3 dX1_moveData_74 ?_
    refine lv_iconst (v := 1) hx hb dX1_moveData_75 (by decide) ?_
    refine lv_icmp_ne (tgt := 99) hx hb dX1_moveData_76 (by decide) (fun c4 => ?_) (fun c4 => ?_)
    · have h := nd_neg h c4
      exact (db_X1_moveData_99 C K J51) (x1) s0 _ _ _ h hP hD hS (lv_sub hl [0, 1] rfl)
    · have h := nd_pos h c4
      refine lv_aload_n hx hb dX1_moveData_79 rfl (lv_at hl 0 rfl) ?_
      refine va_get (D := (dC, dI)) (ci := 2) (v := .ref (a 3)) (C := RX1) (T := TX1) (N := 13) hx hb hts hi_dm_X1_moveData_X1 hown hK hP 0 rfl rfl 0 (by decide) (hts (.fieldLink RX1 12 "TimeMachine$Assembler" "reader" "LTimeMachine$Reader;") (List.mem_of_getElem? (i := 2) rfl)) (fun _ h9 => h9) rfl dX1_moveData_80 ?_
      refine va_get (D := (dC, dI)) (ci := 10) (v := .ref (a 10)) (C := RX9) (T := TX9) (N := 20) hx hb hts hi_dm_X1_moveData_X9 hown hK hP 3 rfl rfl 16 (by decide) (hts (.fieldLink RX1 293 "TimeMachine$Reader" "label" "[I") (List.mem_of_getElem? (i := 4) rfl)) (fun _ h9 => h9) rfl dX1_moveData_83 ?_
      refine lv_iload_n hx hb dX1_moveData_86 rfl (lv_at hl 1 rfl) ?_
      refine lv_iconst (v := 5) hx hb dX1_moveData_87 (by decide) ?_
      refine lv_imul hx hb dX1_moveData_88 ?_
      refine lv_iconst (v := 2) hx hb dX1_moveData_89 (by decide) ?_
      refine lv_iadd hx hb dX1_moveData_90 ?_
      refine lv_dup2_11 hx hb dX1_moveData_91 rfl rfl ?_
      obtain ⟨i6, h⟩ := nd_ck_e h
      refine va_iald (i := ((x1 * 5) + 2)) hx hb hK hP 10 8 rfl rfl i6 dX1_moveData_92 ?_
      refine lv_aload_n hx hb dX1_moveData_93 rfl (lv_at hl 0 rfl) ?_
      refine va_get (D := (dC, dI)) (ci := 2) (v := .int (sI s0.1 8)) (C := RX1) (T := TX1) (N := 13) hx hb hts hi_dm_X1_moveData_X1 hown hK hP 0 rfl rfl 11 (by decide) (hts (.fieldLink RX1 287 "TimeMachine$Assembler" "dataStart" "I") (List.mem_of_getElem? (i := 5) rfl)) (fun _ h9 => h9) rfl dX1_moveData_94 ?_
      refine lv_iadd hx hb dX1_moveData_97 ?_
      obtain ⟨i7, h⟩ := nd_ck_e h
      refine va_iast (i := ((x1 * 5) + 2)) (x := ((sR s0.2 6 (Int32.toNatClampNeg ((x1 * 5) + 2))) + (sI s0.1 8))) hx hb hK hP hD hS 10 8 rfl rfl i7 dX1_moveData_98 (fun H locs hP hD hS => ?_)
      obtain ⟨s8, es8, h⟩ := nd_let_e h
      have hP : va_P (dC, dI) vwCl (dw_X1 a ac s8) H := by rw [es8]; exact hP
      have hD : va_D A (dw_X1 a ac s8) := by rw [es8]; exact hD
      exact (db_X1_moveData_99 C K J51) (x1) s8 _ _ _ h hP hD hS (lv_sub hl [0, 1] rfl)
set_option maxHeartbeats 40000000 in
set_option maxRecDepth 100000 in
theorem db_X1_moveData_51 {p : Program} {l : Launch} {e : Env} {s : State} {m : MethodId} {args : Array Value} {below : List Frame} {meth : Method} {c : Code} {Q : State → Prop} {A : Nat → Prop} {dC : Nat → ClassId} {dI : Nat → Nat → Nat} {a : Nat → Nat} {ac : Nat → ClassId} {n : Nat} {r : St × (St)} (C : nd_C p l s m args c A (dC, dI) cX1_moveData 2 RX1 ow_dm_X1_moveData (dk_X1 ac)) (K : nd_Kv p l e (headSpec ow_dm_X1_moveData ({ frames := 0, cells := 0, slots := 0, locals := 0 })).room s m args below meth c Q A (dC, dI) cX1_moveData (St × (St)) (dw_X1 a ac) r) (k : Nat) : dj_X1_moveData_51 p l e s m args below meth c Q A dC dI a ac (df_X1_moveData_51 n k) r := by
  induction k with
  | zero => intro x1 s0 H locs ls h; exact nomatch (show (none : Option (St × (St))) = some r from h)
  | succ k ih => exact dB_X1_moveData_51 C K ih
set_option maxHeartbeats 40000000 in
set_option maxRecDepth 100000 in
theorem db_X1_moveData_43 {p : Program} {l : Launch} {e : Env} {s : State} {m : MethodId} {args : Array Value} {below : List Frame} {meth : Method} {c : Code} {Q : State → Prop} {A : Nat → Prop} {dC : Nat → ClassId} {dI : Nat → Nat → Nat} {a : Nat → Nat} {ac : Nat → ClassId} {n : Nat} {r : St × (St)} (C : nd_C p l s m args c A (dC, dI) cX1_moveData 2 RX1 ow_dm_X1_moveData (dk_X1 ac)) (K : nd_Kv p l e (headSpec ow_dm_X1_moveData ({ frames := 0, cells := 0, slots := 0, locals := 0 })).room s m args below meth c Q A (dC, dI) cX1_moveData (St × (St)) (dw_X1 a ac) r) {g2 : Int32 → (St × (St)) → Option (St × (St))} (J2 : dj_X1_moveData_2 p l e s m args below meth c Q A dC dI a ac g2 r) : dj_X1_moveData_43 p l e s m args below meth c Q A dC dI a ac (df_X1_moveData_43 n g2) r := by
  obtain ⟨hlt, hx, hb, hml, hown, hts, hN, hA, hK⟩ := id C
  intro x1 s0 H locs ls h hP hD hS hl
  unfold df_X1_moveData_43 at h
  obtain ⟨z11, ez11, h⟩ := nd_let_e h
  refine lv_iinc (v := z11) (lv' := [(1, .int z11), (0, .ref (a 0))]) hx hb dX1_moveData_43 hl (k := 1) rfl (by rw [ez11]) (by decide) rfl (fun ls hl => ?_)
  refine lv_goto (tgt := 2) hx hb dX1_moveData_46 (by decide) ?_
  exact (J2) (z11) s0 _ _ _ h hP hD hS (lv_sub hl [1, 0] rfl)
set_option maxHeartbeats 40000000 in
set_option maxRecDepth 100000 in
theorem dB_X1_moveData_2 {p : Program} {l : Launch} {e : Env} {s : State} {m : MethodId} {args : Array Value} {below : List Frame} {meth : Method} {c : Code} {Q : State → Prop} {A : Nat → Prop} {dC : Nat → ClassId} {dI : Nat → Nat → Nat} {a : Nat → Nat} {ac : Nat → ClassId} {n : Nat} {r : St × (St)} (C : nd_C p l s m args c A (dC, dI) cX1_moveData 2 RX1 ow_dm_X1_moveData (dk_X1 ac)) (K : nd_Kv p l e (headSpec ow_dm_X1_moveData ({ frames := 0, cells := 0, slots := 0, locals := 0 })).room s m args below meth c Q A (dC, dI) cX1_moveData (St × (St)) (dw_X1 a ac) r) {g2 : Int32 → (St × (St)) → Option (St × (St))} (J2 : dj_X1_moveData_2 p l e s m args below meth c Q A dC dI a ac g2 r) : dj_X1_moveData_2 p l e s m args below meth c Q A dC dI a ac (dF_X1_moveData_2 n g2) r := by
  obtain ⟨hlt, hx, hb, hml, hown, hts, hN, hA, hK⟩ := id C
  intro x1 s0 H locs ls h hP hD hS hl
  unfold dF_X1_moveData_2 at h
  refine lv_iload_n hx hb dX1_moveData_2 rfl (lv_at hl 1 rfl) ?_
  refine lv_aload_n hx hb dX1_moveData_3 rfl (lv_at hl 0 rfl) ?_
  refine va_get (D := (dC, dI)) (ci := 2) (v := .int (sI s0.1 0)) (C := RX1) (T := TX1) (N := 13) hx hb hts hi_dm_X1_moveData_X1 hown hK hP 0 rfl rfl 2 (by decide) (hts (.fieldLink RX1 65 "TimeMachine$Assembler" "statements" "I") (List.mem_of_getElem? (i := 1) rfl)) (fun _ h9 => h9) rfl dX1_moveData_4 ?_
  refine lv_icmp_ge (tgt := 49) hx hb dX1_moveData_7 (by decide) (fun c1 => ?_) (fun c1 => ?_)
  · have h := nd_pos h c1
    refine lv_iconst (v := 0) hx hb dX1_moveData_49 (by decide) ?_
    refine lv_istore_n (lv' := [(1, .int 0), (0, .ref (a 0))]) hx hb dX1_moveData_50 rfl hl (by decide) rfl (fun ls hl => ?_)
    exact (db_X1_moveData_51 C K n) (0) s0 _ _ _ h hP hD hS (lv_sub hl [1, 0] rfl)
  · have h := nd_neg h c1
    refine lv_aload_n hx hb dX1_moveData_10 rfl (lv_at hl 0 rfl) ?_
    refine va_get (D := (dC, dI)) (ci := 2) (v := .ref (a 1)) (C := RX1) (T := TX1) (N := 13) hx hb hts hi_dm_X1_moveData_X1 hown hK hP 0 rfl rfl 1 (by decide) (hts (.fieldLink RX1 19 "TimeMachine$Assembler" "statement" "[I") (List.mem_of_getElem? (i := 6) rfl)) (fun _ h9 => h9) rfl dX1_moveData_11 ?_
    refine lv_iload_n hx hb dX1_moveData_14 rfl (lv_at hl 1 rfl) ?_
    refine lv_bipush (v := 8) hx hb dX1_moveData_15 (by decide) ?_
    refine lv_imul hx hb dX1_moveData_17 ?_
    refine lv_iconst (v := 1) hx hb dX1_moveData_18 (by decide) ?_
    refine lv_iadd hx hb dX1_moveData_19 ?_
    obtain ⟨i9, h⟩ := nd_ck_e h
    refine va_iald (i := ((x1 * 8) + 1)) hx hb hK hP 1 0 rfl rfl i9 dX1_moveData_20 ?_
    refine lv_iconst (v := 1) hx hb dX1_moveData_21 (by decide) ?_
    refine lv_icmp_ne (tgt := 43) hx hb dX1_moveData_22 (by decide) (fun c10 => ?_) (fun c10 => ?_)
    · have h := nd_neg h c10
      exact (db_X1_moveData_43 C K J2) (x1) s0 _ _ _ h hP hD hS (lv_sub hl [0, 1] rfl)
    · have h := nd_pos h c10
      refine lv_aload_n hx hb dX1_moveData_25 rfl (lv_at hl 0 rfl) ?_
      refine va_get (D := (dC, dI)) (ci := 2) (v := .ref (a 1)) (C := RX1) (T := TX1) (N := 13) hx hb hts hi_dm_X1_moveData_X1 hown hK hP 0 rfl rfl 1 (by decide) (hts (.fieldLink RX1 19 "TimeMachine$Assembler" "statement" "[I") (List.mem_of_getElem? (i := 6) rfl)) (fun _ h9 => h9) rfl dX1_moveData_26 ?_
      refine lv_iload_n hx hb dX1_moveData_29 rfl (lv_at hl 1 rfl) ?_
      refine lv_bipush (v := 8) hx hb dX1_moveData_30 (by decide) ?_
      refine lv_imul hx hb dX1_moveData_32 ?_
      refine lv_iconst (v := 2) hx hb dX1_moveData_33 (by decide) ?_
      refine lv_iadd hx hb dX1_moveData_34 ?_
      refine lv_dup2_11 hx hb dX1_moveData_35 rfl rfl ?_
      obtain ⟨i12, h⟩ := nd_ck_e h
      refine va_iald (i := ((x1 * 8) + 2)) hx hb hK hP 1 0 rfl rfl i12 dX1_moveData_36 ?_
      refine lv_aload_n hx hb dX1_moveData_37 rfl (lv_at hl 0 rfl) ?_
      refine va_get (D := (dC, dI)) (ci := 2) (v := .int (sI s0.1 8)) (C := RX1) (T := TX1) (N := 13) hx hb hts hi_dm_X1_moveData_X1 hown hK hP 0 rfl rfl 11 (by decide) (hts (.fieldLink RX1 287 "TimeMachine$Assembler" "dataStart" "I") (List.mem_of_getElem? (i := 5) rfl)) (fun _ h9 => h9) rfl dX1_moveData_38 ?_
      refine lv_iadd hx hb dX1_moveData_41 ?_
      obtain ⟨i13, h⟩ := nd_ck_e h
      refine va_iast (i := ((x1 * 8) + 2)) (x := ((sR s0.1 0 (Int32.toNatClampNeg ((x1 * 8) + 2))) + (sI s0.1 8))) hx hb hK hP hD hS 1 0 rfl rfl i13 dX1_moveData_42 (fun H locs hP hD hS => ?_)
      obtain ⟨s14, es14, h⟩ := nd_let_e h
      have hP : va_P (dC, dI) vwCl (dw_X1 a ac s14) H := by rw [es14]; exact hP
      have hD : va_D A (dw_X1 a ac s14) := by rw [es14]; exact hD
      exact (db_X1_moveData_43 C K J2) (x1) s14 _ _ _ h hP hD hS (lv_sub hl [0, 1] rfl)
set_option maxHeartbeats 40000000 in
set_option maxRecDepth 100000 in
theorem db_X1_moveData_2 {p : Program} {l : Launch} {e : Env} {s : State} {m : MethodId} {args : Array Value} {below : List Frame} {meth : Method} {c : Code} {Q : State → Prop} {A : Nat → Prop} {dC : Nat → ClassId} {dI : Nat → Nat → Nat} {a : Nat → Nat} {ac : Nat → ClassId} {n : Nat} {r : St × (St)} (C : nd_C p l s m args c A (dC, dI) cX1_moveData 2 RX1 ow_dm_X1_moveData (dk_X1 ac)) (K : nd_Kv p l e (headSpec ow_dm_X1_moveData ({ frames := 0, cells := 0, slots := 0, locals := 0 })).room s m args below meth c Q A (dC, dI) cX1_moveData (St × (St)) (dw_X1 a ac) r) (k : Nat) : dj_X1_moveData_2 p l e s m args below meth c Q A dC dI a ac (df_X1_moveData_2 n k) r := by
  induction k with
  | zero => intro x1 s0 H locs ls h; exact nomatch (show (none : Option (St × (St))) = some r from h)
  | succ k ih => exact dB_X1_moveData_2 C K ih
set_option maxHeartbeats 40000000 in
set_option maxRecDepth 100000 in
theorem db_X1_moveData_0 {p : Program} {l : Launch} {e : Env} {s : State} {m : MethodId} {args : Array Value} {below : List Frame} {meth : Method} {c : Code} {Q : State → Prop} {A : Nat → Prop} {dC : Nat → ClassId} {dI : Nat → Nat → Nat} {a : Nat → Nat} {ac : Nat → ClassId} {n : Nat} {r : St × (St)} (C : nd_C p l s m args c A (dC, dI) cX1_moveData 2 RX1 ow_dm_X1_moveData (dk_X1 ac)) (K : nd_Kv p l e (headSpec ow_dm_X1_moveData ({ frames := 0, cells := 0, slots := 0, locals := 0 })).room s m args below meth c Q A (dC, dI) cX1_moveData (St × (St)) (dw_X1 a ac) r) : dj_X1_moveData_0 p l e s m args below meth c Q A dC dI a ac (df_X1_moveData_0 n) r := by
  obtain ⟨hlt, hx, hb, hml, hown, hts, hN, hA, hK⟩ := id C
  intro s0 H locs ls h hP hD hS hl
  unfold df_X1_moveData_0 at h
  refine lv_iconst (v := 0) hx hb dX1_moveData_0 (by decide) ?_
  refine lv_istore_n (lv' := [(1, .int 0), (0, .ref (a 0))]) hx hb dX1_moveData_1 rfl hl (by decide) rfl (fun ls hl => ?_)
  exact (db_X1_moveData_2 C K n) (0) s0 _ _ _ h hP hD hS (lv_sub hl [1, 0] rfl)
set_option maxHeartbeats 40000000 in
set_option maxRecDepth 100000 in
theorem dm_X1_moveData (l : Launch) (hlt : l.stackTraces = false) (dC : Nat → ClassId) (dI : Nat → Nat → Nat) (a : Nat → Nat) (ac : Nat → ClassId) (n : Nat) (s0 : St × (St)) {r : St × (St)} (h : df_X1_moveData n s0 = some r) (sz : Nat) : Met l yX1_moveData ow_dm_X1_moveData ({ frames := 0, cells := 0, slots := 0, locals := 0 }) (va_Pc [.ref (a 0)] (fun U => U.heap.size = sz ∧ va_P (dC, dI) vwCl (dw_X1 a ac s0) U.heap ∧ va_K (dC, dI) vwCl (dk_X1 ac) U ∧ va_D (fun _ => True) (dw_X1 a ac s0) ∧ nv_E (va_A (dw_X1 a ac s0) sz) U)) (va_Qv (fun _ => True) (fun (_ : Unit) t => va_P (dC, dI) vwCl (dw_X1 a ac r) t.heap ∧ va_K (dC, dI) vwCl (dk_X1 ac) t ∧ va_D (va_A (dw_X1 a ac s0) sz) (dw_X1 a ac r)) (va_A (dw_X1 a ac s0) sz)) 0 0 (va_A (dw_X1 a ac s0) sz) := by
  refine Met.ofW (cc := cX1_moveData) (maxL := 2) (ret := none) (by decide) rfl ?_
  intro p e s m args below meth c s₁ B hml hv
  obtain ⟨rfl, hsz, hP, hK, hD0, hN⟩ := hv
  have hx := B.exec
  have hb := B.bytes
  have hr := B.returns
  have hts := atoms_spec (ws := ow_dm_X1_moveData) B.pre
  have hown : s.vm.findClass RX1 = some m.cls := findClass_of_methodNamed B.named
  have hlocks := B.notSynchronized
  subst hsz
  have hD := hD0.self (sz := s.heap.size)
  generalize hAe : va_A (dw_X1 a ac s0) s.heap.size = A at hD hN ⊢
  have hA : ∀ q : Nat, s.heap.size ≤ q → A q := fun q h => by rw [← hAe]; exact Or.inr h
  have hl := lv_entry ([.ref (a 0)]) (n := 2) (Nat.le_of_ble_eq_true rfl)
  rw [lg_entry_eq]
  generalize (lg_sl ([.ref (a 0)]) ++ List.replicate (2 - (lg_sl ([.ref (a 0)])).length) Slot.unset).toArray = ls at hl ⊢
  have hl : lv_has ls 2 [(0, .ref (a 0))] := hl
  exact db_X1_moveData_0 (dC := dC) (dI := dI) (a := a) (ac := ac) (n := n) (r := r) ⟨hlt, hx, hb, hml, hown, hts, hN, hA, hK⟩ (fun pc τ H locs ls d er hP hD hS => by subst er; exact W.vret hx hb hr (fun t ht hW => ⟨⟨(), rfl, trivial, by rw [ht]; exact hP, va_K.moved hW.alike hK, hD⟩, hS.F ht⟩) hS.2.2 d) s0 _ _ _ h hP hD va_S.rf (lv_sub hl [0] rfl)
def ow_dm_X9_standsBefore : List Cond := .code yX9_standsBefore cX9_standsBefore 3 (some .boolean) :: ([.fieldLink RX9 36 "TimeMachine$Reader" "label" "[I"] ++ (u_ws RX9 TX9 20 ++ []))
theorem gd_dm_X9_standsBefore : ∀ w ∈ ow_dm_X9_standsBefore, (w.onTables && w.keeps) = true ∨ ∃ ty, w = Cond.arrayClass ty := List.forall_mem_cons.mpr ⟨good_of_word rfl, List.forall_mem_append.mpr ⟨fun w h => good_of_word (List.all_eq_true.mp (by decide +kernel) w h), List.forall_mem_append.mpr ⟨gu_X9, fun _ h => nomatch h⟩⟩⟩
theorem hi_dm_X9_standsBefore_X9 : ∀ w ∈ u_ws RX9 TX9 20, w ∈ ow_dm_X9_standsBefore := fun w h => List.mem_cons_of_mem _ (List.mem_append_right _ (List.mem_append_left _ h))
def dj_X9_standsBefore_19 (p : Program) (l : Launch) (e : Env) (s : State) (m : MethodId) (args : Array Value) (below : List Frame) (meth : Method) (c : Code) (Q : State → Prop) (A : Nat → Prop) (dC : Nat → ClassId) (dI : Nat → Nat → Nat) (a : Nat → Nat) (ac : Nat → ClassId) (g : Int32 → (St) → Option (Int32 × (St))) (r : Int32 × (St)) : Prop := ∀ (y0 : Int32) (s0 : St) (H : Heap) (locs : List Loc) (ls : Array Slot), g y0 s0 = some r → va_P (dC, dI) vwCl (dw_X9 a ac s0) H → va_D A (dw_X9 a ac s0) → va_S A s.heap H locs → lv_has ls 3 [] → W p l e (headSpec ow_dm_X9_standsBefore ({ frames := 0, cells := 0, slots := 0, locals := 0 })).room s m args below meth c H locs 0 0 Q (F0 m 19 ls [.int y0])
def dj_X9_standsBefore_0 (p : Program) (l : Launch) (e : Env) (s : State) (m : MethodId) (args : Array Value) (below : List Frame) (meth : Method) (c : Code) (Q : State → Prop) (A : Nat → Prop) (dC : Nat → ClassId) (dI : Nat → Nat → Nat) (a : Nat → Nat) (ac : Nat → ClassId) (g : Int32 → Int32 → (St) → Option (Int32 × (St))) (r : Int32 × (St)) : Prop := ∀ (v0 : Int32) (v1 : Int32) (s0 : St) (H : Heap) (locs : List Loc) (ls : Array Slot), g v0 v1 s0 = some r → va_P (dC, dI) vwCl (dw_X9 a ac s0) H → va_D A (dw_X9 a ac s0) → va_S A s.heap H locs → lv_has ls 3 [(0, .ref (a 0)), (1, .int v0), (2, .int v1)] → W p l e (headSpec ow_dm_X9_standsBefore ({ frames := 0, cells := 0, slots := 0, locals := 0 })).room s m args below meth c H locs 0 0 Q (F0 m 0 ls [])
set_option maxHeartbeats 40000000 in
set_option maxRecDepth 100000 in
theorem db_X9_standsBefore_19 {p : Program} {l : Launch} {e : Env} {s : State} {m : MethodId} {args : Array Value} {below : List Frame} {meth : Method} {c : Code} {Q : State → Prop} {A : Nat → Prop} {dC : Nat → ClassId} {dI : Nat → Nat → Nat} {a : Nat → Nat} {ac : Nat → ClassId} {n : Nat} {r : Int32 × (St)} (C : nd_C p l s m args c A (dC, dI) cX9_standsBefore 3 RX9 ow_dm_X9_standsBefore (dk_X9 ac)) (K : nd_Ki p l e (headSpec ow_dm_X9_standsBefore ({ frames := 0, cells := 0, slots := 0, locals := 0 })).room s m args below meth c Q A (dC, dI) cX9_standsBefore .boolean (St) (dw_X9 a ac) r) : dj_X9_standsBefore_19 p l e s m args below meth c Q A dC dI a ac (df_X9_standsBefore_19 n) r := by
  obtain ⟨hlt, hx, hb, hml, hown, hts, hN, hA, hK⟩ := id C
  intro y0 s0 H locs ls h hP hD hS hl
  unfold df_X9_standsBefore_19 at h
  obtain ⟨n3, h⟩ := nd_z_e ⟨_, rfl⟩ h
  exact K _ _ _ _ _ _ dX9_standsBefore_19 n3 (Option.some.inj h).symm hP hD hS
set_option maxHeartbeats 40000000 in
set_option maxRecDepth 100000 in
theorem db_X9_standsBefore_0 {p : Program} {l : Launch} {e : Env} {s : State} {m : MethodId} {args : Array Value} {below : List Frame} {meth : Method} {c : Code} {Q : State → Prop} {A : Nat → Prop} {dC : Nat → ClassId} {dI : Nat → Nat → Nat} {a : Nat → Nat} {ac : Nat → ClassId} {n : Nat} {r : Int32 × (St)} (C : nd_C p l s m args c A (dC, dI) cX9_standsBefore 3 RX9 ow_dm_X9_standsBefore (dk_X9 ac)) (K : nd_Ki p l e (headSpec ow_dm_X9_standsBefore ({ frames := 0, cells := 0, slots := 0, locals := 0 })).room s m args below meth c Q A (dC, dI) cX9_standsBefore .boolean (St) (dw_X9 a ac) r) : dj_X9_standsBefore_0 p l e s m args below meth c Q A dC dI a ac (df_X9_standsBefore_0 n) r := by
  obtain ⟨hlt, hx, hb, hml, hown, hts, hN, hA, hK⟩ := id C
  intro v0 v1 s0 H locs ls h hP hD hS hl
  unfold df_X9_standsBefore_0 at h
  refine lv_aload_n hx hb dX9_standsBefore_0 rfl (lv_at hl 0 rfl) ?_
  refine va_get (D := (dC, dI)) (ci := 10) (v := .ref (a 7)) (C := RX9) (T := TX9) (N := 20) hx hb hts hi_dm_X9_standsBefore_X9 hown hK hP 0 rfl rfl 16 (by decide) (hts (.fieldLink RX9 36 "TimeMachine$Reader" "label" "[I") (List.mem_of_getElem? (i := 1) rfl)) (fun _ h9 => h9) rfl dX9_standsBefore_1 ?_
  refine lv_iload_n hx hb dX9_standsBefore_4 rfl (lv_at hl 1 rfl) ?_
  refine lv_iconst (v := 5) hx hb dX9_standsBefore_5 (by decide) ?_
  refine lv_imul hx hb dX9_standsBefore_6 ?_
  refine lv_iconst (v := 0) hx hb dX9_standsBefore_7 (by decide) ?_
  refine lv_iadd hx hb dX9_standsBefore_8 ?_
  obtain ⟨i1, h⟩ := nd_ck_e h
  refine va_iald (i := ((v0 * 5) + 0)) hx hb hK hP 7 6 rfl rfl i1 dX9_standsBefore_9 ?_
  refine lv_iload_n hx hb dX9_standsBefore_10 rfl (lv_at hl 2 rfl) ?_
  refine lv_icmp_ne (tgt := 18) hx hb dX9_standsBefore_11 (by decide) (fun c2 => ?_) (fun c2 => ?_)
  · have h := nd_neg h c2
    refine lv_iconst (v := 0) hx hb dX9_standsBefore_18 (by decide) ?_
    exact (db_X9_standsBefore_19 C K) (0) s0 _ _ _ h hP hD hS (lv_sub hl [] rfl)
  · have h := nd_pos h c2
    refine lv_iconst (v := 1) hx hb dX9_standsBefore_14 (by decide) ?_
    refine lv_goto (tgt := 19) hx hb dX9_standsBefore_15 (by decide) ?_
    exact (db_X9_standsBefore_19 C K) (1) s0 _ _ _ h hP hD hS (lv_sub hl [] rfl)
set_option maxHeartbeats 40000000 in
set_option maxRecDepth 100000 in
theorem dm_X9_standsBefore (l : Launch) (hlt : l.stackTraces = false) (dC : Nat → ClassId) (dI : Nat → Nat → Nat) (a : Nat → Nat) (ac : Nat → ClassId) (n : Nat) (v0 : Int32) (v1 : Int32) (s0 : St) {r : Int32 × (St)} (h : df_X9_standsBefore n v0 v1 s0 = some r) (sz : Nat) : Met l yX9_standsBefore ow_dm_X9_standsBefore ({ frames := 0, cells := 0, slots := 0, locals := 0 }) (va_Pc [.ref (a 0), .int v0, .int v1] (fun U => U.heap.size = sz ∧ va_P (dC, dI) vwCl (dw_X9 a ac s0) U.heap ∧ va_K (dC, dI) vwCl (dk_X9 ac) U ∧ va_D (fun _ => True) (dw_X9 a ac s0) ∧ nv_E (va_A (dw_X9 a ac s0) sz) U)) (va_Qi (fun x _ => x = r.1) (fun (_ : Unit) t => va_P (dC, dI) vwCl (dw_X9 a ac r.2) t.heap ∧ va_K (dC, dI) vwCl (dk_X9 ac) t ∧ va_D (va_A (dw_X9 a ac s0) sz) (dw_X9 a ac r.2)) (va_A (dw_X9 a ac s0) sz)) 0 0 (va_A (dw_X9 a ac s0) sz) := by
  refine Met.ofW (cc := cX9_standsBefore) (maxL := 3) (ret := (some .boolean)) (by decide) rfl ?_
  intro p e s m args below meth c s₁ B hml hv
  obtain ⟨rfl, hsz, hP, hK, hD0, hN⟩ := hv
  have hx := B.exec
  have hb := B.bytes
  have hr := B.returns
  have hts := atoms_spec (ws := ow_dm_X9_standsBefore) B.pre
  have hown : s.vm.findClass RX9 = some m.cls := findClass_of_methodNamed B.named
  have hlocks := B.notSynchronized
  subst hsz
  have hD := hD0.self (sz := s.heap.size)
  generalize hAe : va_A (dw_X9 a ac s0) s.heap.size = A at hD hN ⊢
  have hA : ∀ q : Nat, s.heap.size ≤ q → A q := fun q h => by rw [← hAe]; exact Or.inr h
  have hl := lv_entry ([.ref (a 0), .int v0, .int v1]) (n := 3) (Nat.le_of_ble_eq_true rfl)
  rw [lg_entry_eq]
  generalize (lg_sl ([.ref (a 0), .int v0, .int v1]) ++ List.replicate (3 - (lg_sl ([.ref (a 0), .int v0, .int v1])).length) Slot.unset).toArray = ls at hl ⊢
  have hl : lv_has ls 3 [(0, .ref (a 0)), (1, .int v0), (2, .int v1)] := hl
  exact db_X9_standsBefore_0 (dC := dC) (dI := dI) (a := a) (ac := ac) (n := n) (r := r) ⟨hlt, hx, hb, hml, hown, hts, hN, hA, hK⟩ (fun pc v τ H locs ls d z er hP hD hS => by subst er; exact W.zret (v := v) hx hb hr z (fun t ht hW => ⟨⟨v, (), rfl, rfl, by rw [ht]; exact hP, va_K.moved hW.alike hK, hD⟩, hS.F ht⟩) hS.2.2 d) v0 v1 s0 _ _ _ h hP hD va_S.rf (lv_sub hl [0, 1, 2] rfl)
def ow_dm_X9_place : List Cond := .code yX9_place cX9_place 4 none :: ([.fieldLink RX9 36 "TimeMachine$Reader" "label" "[I"] ++ (u_ws RX9 TX9 20 ++ []))
theorem gd_dm_X9_place : ∀ w ∈ ow_dm_X9_place, (w.onTables && w.keeps) = true ∨ ∃ ty, w = Cond.arrayClass ty := List.forall_mem_cons.mpr ⟨good_of_word rfl, List.forall_mem_append.mpr ⟨fun w h => good_of_word (List.all_eq_true.mp (by decide +kernel) w h), List.forall_mem_append.mpr ⟨gu_X9, fun _ h => nomatch h⟩⟩⟩
theorem hi_dm_X9_place_X9 : ∀ w ∈ u_ws RX9 TX9 20, w ∈ ow_dm_X9_place := fun w h => List.mem_cons_of_mem _ (List.mem_append_right _ (List.mem_append_left _ h))
def dj_X9_place_27 (p : Program) (l : Launch) (e : Env) (s : State) (m : MethodId) (args : Array Value) (below : List Frame) (meth : Method) (c : Code) (Q : State → Prop) (A : Nat → Prop) (dC : Nat → ClassId) (dI : Nat → Nat → Nat) (a : Nat → Nat) (ac : Nat → ClassId) (g : Int32 → Int32 → (St) → Option (St)) (r : St) : Prop := ∀ (y1 : Int32) (y2 : Int32) (s0 : St) (H : Heap) (locs : List Loc) (ls : Array Slot), g y1 y2 s0 = some r → va_P (dC, dI) vwCl (dw_X9 a ac s0) H → va_D A (dw_X9 a ac s0) → va_S A s.heap H locs → lv_has ls 4 [] → W p l e (headSpec ow_dm_X9_place ({ frames := 0, cells := 0, slots := 0, locals := 0 })).room s m args below meth c H locs 0 0 Q (F0 m 27 ls [.int y2, .int y1, .ref (a 7)])
def dj_X9_place_0 (p : Program) (l : Launch) (e : Env) (s : State) (m : MethodId) (args : Array Value) (below : List Frame) (meth : Method) (c : Code) (Q : State → Prop) (A : Nat → Prop) (dC : Nat → ClassId) (dI : Nat → Nat → Nat) (a : Nat → Nat) (ac : Nat → ClassId) (g : Int32 → Int32 → Int32 → (St) → Option (St)) (r : St) : Prop := ∀ (v0 : Int32) (v1 : Int32) (v2 : Int32) (s0 : St) (H : Heap) (locs : List Loc) (ls : Array Slot), g v0 v1 v2 s0 = some r → va_P (dC, dI) vwCl (dw_X9 a ac s0) H → va_D A (dw_X9 a ac s0) → va_S A s.heap H locs → lv_has ls 4 [(0, .ref (a 0)), (1, .int v0), (2, .int v1), (3, .int v2)] → W p l e (headSpec ow_dm_X9_place ({ frames := 0, cells := 0, slots := 0, locals := 0 })).room s m args below meth c H locs 0 0 Q (F0 m 0 ls [])
set_option maxHeartbeats 40000000 in
set_option maxRecDepth 100000 in
theorem db_X9_place_27 {p : Program} {l : Launch} {e : Env} {s : State} {m : MethodId} {args : Array Value} {below : List Frame} {meth : Method} {c : Code} {Q : State → Prop} {A : Nat → Prop} {dC : Nat → ClassId} {dI : Nat → Nat → Nat} {a : Nat → Nat} {ac : Nat → ClassId} {n : Nat} {r : St} (C : nd_C p l s m args c A (dC, dI) cX9_place 4 RX9 ow_dm_X9_place (dk_X9 ac)) (K : nd_Kv p l e (headSpec ow_dm_X9_place ({ frames := 0, cells := 0, slots := 0, locals := 0 })).room s m args below meth c Q A (dC, dI) cX9_place (St) (dw_X9 a ac) r) : dj_X9_place_27 p l e s m args below meth c Q A dC dI a ac (df_X9_place_27 n) r := by
  obtain ⟨hlt, hx, hb, hml, hown, hts, hN, hA, hK⟩ := id C
  intro y1 y2 s0 H locs ls h hP hD hS hl
  unfold df_X9_place_27 at h
  obtain ⟨i3, h⟩ := nd_ck_e h
  refine va_iast (i := y1) (x := y2) hx hb hK hP hD hS 7 6 rfl rfl i3 dX9_place_27 (fun H locs hP hD hS => ?_)
  obtain ⟨s4, es4, h⟩ := nd_let_e h
  have hP : va_P (dC, dI) vwCl (dw_X9 a ac s4) H := by rw [es4]; exact hP
  have hD : va_D A (dw_X9 a ac s4) := by rw [es4]; exact hD
  exact K _ _ _ _ _ dX9_place_28 (Option.some.inj h).symm hP hD hS
set_option maxHeartbeats 40000000 in
set_option maxRecDepth 100000 in
theorem db_X9_place_0 {p : Program} {l : Launch} {e : Env} {s : State} {m : MethodId} {args : Array Value} {below : List Frame} {meth : Method} {c : Code} {Q : State → Prop} {A : Nat → Prop} {dC : Nat → ClassId} {dI : Nat → Nat → Nat} {a : Nat → Nat} {ac : Nat → ClassId} {n : Nat} {r : St} (C : nd_C p l s m args c A (dC, dI) cX9_place 4 RX9 ow_dm_X9_place (dk_X9 ac)) (K : nd_Kv p l e (headSpec ow_dm_X9_place ({ frames := 0, cells := 0, slots := 0, locals := 0 })).room s m args below meth c Q A (dC, dI) cX9_place (St) (dw_X9 a ac) r) : dj_X9_place_0 p l e s m args below meth c Q A dC dI a ac (df_X9_place_0 n) r := by
  obtain ⟨hlt, hx, hb, hml, hown, hts, hN, hA, hK⟩ := id C
  intro v0 v1 v2 s0 H locs ls h hP hD hS hl
  unfold df_X9_place_0 at h
  refine lv_aload_n hx hb dX9_place_0 rfl (lv_at hl 0 rfl) ?_
  refine va_get (D := (dC, dI)) (ci := 10) (v := .ref (a 7)) (C := RX9) (T := TX9) (N := 20) hx hb hts hi_dm_X9_place_X9 hown hK hP 0 rfl rfl 16 (by decide) (hts (.fieldLink RX9 36 "TimeMachine$Reader" "label" "[I") (List.mem_of_getElem? (i := 1) rfl)) (fun _ h9 => h9) rfl dX9_place_1 ?_
  refine lv_iload_n hx hb dX9_place_4 rfl (lv_at hl 1 rfl) ?_
  refine lv_iconst (v := 5) hx hb dX9_place_5 (by decide) ?_
  refine lv_imul hx hb dX9_place_6 ?_
  refine lv_iconst (v := 2) hx hb dX9_place_7 (by decide) ?_
  refine lv_iadd hx hb dX9_place_8 ?_
  refine lv_aload_n hx hb dX9_place_9 rfl (lv_at hl 0 rfl) ?_
  refine va_get (D := (dC, dI)) (ci := 10) (v := .ref (a 7)) (C := RX9) (T := TX9) (N := 20) hx hb hts hi_dm_X9_place_X9 hown hK hP 0 rfl rfl 16 (by decide) (hts (.fieldLink RX9 36 "TimeMachine$Reader" "label" "[I") (List.mem_of_getElem? (i := 1) rfl)) (fun _ h9 => h9) rfl dX9_place_10 ?_
  refine lv_iload_n hx hb dX9_place_13 rfl (lv_at hl 1 rfl) ?_
  refine lv_iconst (v := 5) hx hb dX9_place_14 (by decide) ?_
  refine lv_imul hx hb dX9_place_15 ?_
  refine lv_iconst (v := 1) hx hb dX9_place_16 (by decide) ?_
  refine lv_iadd hx hb dX9_place_17 ?_
  obtain ⟨i1, h⟩ := nd_ck_e h
  refine va_iald (i := ((v0 * 5) + 1)) hx hb hK hP 7 6 rfl rfl i1 dX9_place_18 ?_
  refine lv_if_ne (tgt := 26) hx hb dX9_place_19 (by decide) (fun c2 => ?_) (fun c2 => ?_)
  · have h := nd_neg h c2
    refine lv_iload_n hx hb dX9_place_26 rfl (lv_at hl 3 rfl) ?_
    exact (db_X9_place_27 C K) (((v0 * 5) + 2)) (v2) s0 _ _ _ h hP hD hS (lv_sub hl [] rfl)
  · have h := nd_pos h c2
    refine lv_iload_n hx hb dX9_place_22 rfl (lv_at hl 2 rfl) ?_
    refine lv_goto (tgt := 27) hx hb dX9_place_23 (by decide) ?_
    exact (db_X9_place_27 C K) (((v0 * 5) + 2)) (v1) s0 _ _ _ h hP hD hS (lv_sub hl [] rfl)
set_option maxHeartbeats 40000000 in
set_option maxRecDepth 100000 in
theorem dm_X9_place (l : Launch) (hlt : l.stackTraces = false) (dC : Nat → ClassId) (dI : Nat → Nat → Nat) (a : Nat → Nat) (ac : Nat → ClassId) (n : Nat) (v0 : Int32) (v1 : Int32) (v2 : Int32) (s0 : St) {r : St} (h : df_X9_place n v0 v1 v2 s0 = some r) (sz : Nat) : Met l yX9_place ow_dm_X9_place ({ frames := 0, cells := 0, slots := 0, locals := 0 }) (va_Pc [.ref (a 0), .int v0, .int v1, .int v2] (fun U => U.heap.size = sz ∧ va_P (dC, dI) vwCl (dw_X9 a ac s0) U.heap ∧ va_K (dC, dI) vwCl (dk_X9 ac) U ∧ va_D (fun _ => True) (dw_X9 a ac s0) ∧ nv_E (va_A (dw_X9 a ac s0) sz) U)) (va_Qv (fun _ => True) (fun (_ : Unit) t => va_P (dC, dI) vwCl (dw_X9 a ac r) t.heap ∧ va_K (dC, dI) vwCl (dk_X9 ac) t ∧ va_D (va_A (dw_X9 a ac s0) sz) (dw_X9 a ac r)) (va_A (dw_X9 a ac s0) sz)) 0 0 (va_A (dw_X9 a ac s0) sz) := by
  refine Met.ofW (cc := cX9_place) (maxL := 4) (ret := none) (by decide) rfl ?_
  intro p e s m args below meth c s₁ B hml hv
  obtain ⟨rfl, hsz, hP, hK, hD0, hN⟩ := hv
  have hx := B.exec
  have hb := B.bytes
  have hr := B.returns
  have hts := atoms_spec (ws := ow_dm_X9_place) B.pre
  have hown : s.vm.findClass RX9 = some m.cls := findClass_of_methodNamed B.named
  have hlocks := B.notSynchronized
  subst hsz
  have hD := hD0.self (sz := s.heap.size)
  generalize hAe : va_A (dw_X9 a ac s0) s.heap.size = A at hD hN ⊢
  have hA : ∀ q : Nat, s.heap.size ≤ q → A q := fun q h => by rw [← hAe]; exact Or.inr h
  have hl := lv_entry ([.ref (a 0), .int v0, .int v1, .int v2]) (n := 4) (Nat.le_of_ble_eq_true rfl)
  rw [lg_entry_eq]
  generalize (lg_sl ([.ref (a 0), .int v0, .int v1, .int v2]) ++ List.replicate (4 - (lg_sl ([.ref (a 0), .int v0, .int v1, .int v2])).length) Slot.unset).toArray = ls at hl ⊢
  have hl : lv_has ls 4 [(0, .ref (a 0)), (1, .int v0), (2, .int v1), (3, .int v2)] := hl
  exact db_X9_place_0 (dC := dC) (dI := dI) (a := a) (ac := ac) (n := n) (r := r) ⟨hlt, hx, hb, hml, hown, hts, hN, hA, hK⟩ (fun pc τ H locs ls d er hP hD hS => by subst er; exact W.vret hx hb hr (fun t ht hW => ⟨⟨(), rfl, trivial, by rw [ht]; exact hP, va_K.moved hW.alike hK, hD⟩, hS.F ht⟩) hS.2.2 d) v0 v1 v2 s0 _ _ _ h hP hD va_S.rf (lv_sub hl [0, 1, 2, 3] rfl)
def ow_dm_X1_findAddresses : List Cond := .code yX1_findAddresses cX1_findAddresses 7 none :: ([.fieldLink RX1 65 "TimeMachine$Assembler" "statements" "I", .fieldLink RX1 284 "TimeMachine$Assembler" "textSize" "I", .fieldLink RX1 287 "TimeMachine$Assembler" "dataStart" "I", .fieldLink RX1 50 "TimeMachine$Assembler" "size" "I", .methodLink RX1 290 yX1_moveData, .instanceMethod yX1_moveData, .selects RX1 yX1_moveData yX1_moveData, .initialized RX1, .fieldLink RX1 12 "TimeMachine$Assembler" "reader" "LTimeMachine$Reader;", .fieldLink RX1 274 "TimeMachine$Reader" "labels" "I", .fieldLink RX1 19 "TimeMachine$Assembler" "statement" "[I", .methodLink RX1 277 yX9_standsBefore, .instanceMethod yX9_standsBefore, .selects RX9 yX9_standsBefore yX9_standsBefore, .initialized RX9, .methodLink RX1 281 yX9_place, .instanceMethod yX9_place, .selects RX9 yX9_place yX9_place] ++ (u_ws RX1 TX1 13 ++ (u_ws RX9 TX9 20 ++ (ow_dm_X1_moveData ++ (ow_dm_X9_standsBefore ++ (ow_dm_X9_place ++ []))))))
theorem gd_dm_X1_findAddresses : ∀ w ∈ ow_dm_X1_findAddresses, (w.onTables && w.keeps) = true ∨ ∃ ty, w = Cond.arrayClass ty := List.forall_mem_cons.mpr ⟨good_of_word rfl, List.forall_mem_append.mpr ⟨fun w h => good_of_word (List.all_eq_true.mp (by decide +kernel) w h), List.forall_mem_append.mpr ⟨gu_X1, List.forall_mem_append.mpr ⟨gu_X9, List.forall_mem_append.mpr ⟨gd_dm_X1_moveData, List.forall_mem_append.mpr ⟨gd_dm_X9_standsBefore, List.forall_mem_append.mpr ⟨gd_dm_X9_place, fun _ h => nomatch h⟩⟩⟩⟩⟩⟩⟩
theorem hi_dm_X1_findAddresses_X1 : ∀ w ∈ u_ws RX1 TX1 13, w ∈ ow_dm_X1_findAddresses := fun w h => List.mem_cons_of_mem _ (List.mem_append_right _ (List.mem_append_left _ h))
theorem hi_dm_X1_findAddresses_X9 : ∀ w ∈ u_ws RX9 TX9 20, w ∈ ow_dm_X1_findAddresses := fun w h => List.mem_cons_of_mem _ (List.mem_append_right _ (List.mem_append_right _ (List.mem_append_left _ h)))
theorem gi_dm_X1_findAddresses_0 : GoodIn ow_dm_X1_findAddresses (wsV RX1 290 RX1 yX1_moveData ow_dm_X1_moveData) := goodIn_app (goodIn_of _ (by decide +kernel)) (fun w h => ⟨List.mem_cons_of_mem _ (List.mem_append_right _ (List.mem_append_right _ (List.mem_append_right _ (List.mem_append_left _ h)))), gd_dm_X1_moveData w h⟩)
theorem gi_dm_X1_findAddresses_1 : GoodIn ow_dm_X1_findAddresses (wsV RX1 277 RX9 yX9_standsBefore ow_dm_X9_standsBefore) := goodIn_app (goodIn_of _ (by decide +kernel)) (fun w h => ⟨List.mem_cons_of_mem _ (List.mem_append_right _ (List.mem_append_right _ (List.mem_append_right _ (List.mem_append_right _ (List.mem_append_left _ h))))), gd_dm_X9_standsBefore w h⟩)
theorem gi_dm_X1_findAddresses_2 : GoodIn ow_dm_X1_findAddresses (wsV RX1 281 RX9 yX9_place ow_dm_X9_place) := goodIn_app (goodIn_of _ (by decide +kernel)) (fun w h => ⟨List.mem_cons_of_mem _ (List.mem_append_right _ (List.mem_append_right _ (List.mem_append_right _ (List.mem_append_right _ (List.mem_append_right _ (List.mem_append_left _ h)))))), gd_dm_X9_place w h⟩)
def dj_X1_findAddresses_226 (p : Program) (l : Launch) (e : Env) (s : State) (m : MethodId) (args : Array Value) (below : List Frame) (meth : Method) (c : Code) (Q : State → Prop) (A : Nat → Prop) (dC : Nat → ClassId) (dI : Nat → Nat → Nat) (a : Nat → Nat) (ac : Nat → ClassId) (g : Int32 → (St × (St)) → Option (St × (St))) (r : St × (St)) : Prop := ∀ (y1 : Int32) (s0 : St × (St)) (H : Heap) (locs : List Loc) (ls : Array Slot), g y1 s0 = some r → va_P (dC, dI) vwCl (dw_X1 a ac s0) H → va_D A (dw_X1 a ac s0) → va_S A s.heap H locs → lv_has ls 7 [(0, .ref (a 0))] → W p l e (headSpec ow_dm_X1_findAddresses ({ frames := 1, cells := 0, slots := 0, locals := 23 })).room s m args below meth c H locs 0 0 Q (F0 m 226 ls [.int y1, .ref (a 0)])
def dj_X1_findAddresses_181 (p : Program) (l : Launch) (e : Env) (s : State) (m : MethodId) (args : Array Value) (below : List Frame) (meth : Method) (c : Code) (Q : State → Prop) (A : Nat → Prop) (dC : Nat → ClassId) (dI : Nat → Nat → Nat) (a : Nat → Nat) (ac : Nat → ClassId) (g : Int32 → Int32 → Int32 → Int32 → (St × (St)) → Option (St × (St))) (r : St × (St)) : Prop := ∀ (x1 : Int32) (x2 : Int32) (x3 : Int32) (x4 : Int32) (s0 : St × (St)) (H : Heap) (locs : List Loc) (ls : Array Slot), g x1 x2 x3 x4 s0 = some r → va_P (dC, dI) vwCl (dw_X1 a ac s0) H → va_D A (dw_X1 a ac s0) → va_S A s.heap H locs → lv_has ls 7 [(0, .ref (a 0)), (1, .int x1), (2, .int x2), (3, .int x3), (4, .int x4)] → W p l e (headSpec ow_dm_X1_findAddresses ({ frames := 1, cells := 0, slots := 0, locals := 23 })).room s m args below meth c H locs 0 0 Q (F0 m 181 ls [])
def dj_X1_findAddresses_142 (p : Program) (l : Launch) (e : Env) (s : State) (m : MethodId) (args : Array Value) (below : List Frame) (meth : Method) (c : Code) (Q : State → Prop) (A : Nat → Prop) (dC : Nat → ClassId) (dI : Nat → Nat → Nat) (a : Nat → Nat) (ac : Nat → ClassId) (g : Int32 → Int32 → Int32 → Int32 → Int32 → (St × (St)) → Option (St × (St))) (r : St × (St)) : Prop := ∀ (x1 : Int32) (x2 : Int32) (x3 : Int32) (x4 : Int32) (x5 : Int32) (s0 : St × (St)) (H : Heap) (locs : List Loc) (ls : Array Slot), g x1 x2 x3 x4 x5 s0 = some r → va_P (dC, dI) vwCl (dw_X1 a ac s0) H → va_D A (dw_X1 a ac s0) → va_S A s.heap H locs → lv_has ls 7 [(0, .ref (a 0)), (1, .int x1), (2, .int x2), (3, .int x3), (4, .int x4), (5, .int x5)] → W p l e (headSpec ow_dm_X1_findAddresses ({ frames := 1, cells := 0, slots := 0, locals := 23 })).room s m args below meth c H locs 0 0 Q (F0 m 142 ls [])
def dj_X1_findAddresses_91 (p : Program) (l : Launch) (e : Env) (s : State) (m : MethodId) (args : Array Value) (below : List Frame) (meth : Method) (c : Code) (Q : State → Prop) (A : Nat → Prop) (dC : Nat → ClassId) (dI : Nat → Nat → Nat) (a : Nat → Nat) (ac : Nat → ClassId) (g : Int32 → Int32 → Int32 → Int32 → Int32 → Int32 → (St × (St)) → Option (St × (St))) (r : St × (St)) : Prop := ∀ (x1 : Int32) (x2 : Int32) (x3 : Int32) (x4 : Int32) (x5 : Int32) (y0 : Int32) (s0 : St × (St)) (H : Heap) (locs : List Loc) (ls : Array Slot), g x1 x2 x3 x4 x5 y0 s0 = some r → va_P (dC, dI) vwCl (dw_X1 a ac s0) H → va_D A (dw_X1 a ac s0) → va_S A s.heap H locs → lv_has ls 7 [(0, .ref (a 0)), (1, .int x1), (2, .int x2), (3, .int x3), (4, .int x4), (5, .int x5)] → W p l e (headSpec ow_dm_X1_findAddresses ({ frames := 1, cells := 0, slots := 0, locals := 23 })).room s m args below meth c H locs 0 0 Q (F0 m 91 ls [.int y0])
def dj_X1_findAddresses_58 (p : Program) (l : Launch) (e : Env) (s : State) (m : MethodId) (args : Array Value) (below : List Frame) (meth : Method) (c : Code) (Q : State → Prop) (A : Nat → Prop) (dC : Nat → ClassId) (dI : Nat → Nat → Nat) (a : Nat → Nat) (ac : Nat → ClassId) (g : Int32 → Int32 → Int32 → Int32 → (St × (St)) → Option (St × (St))) (r : St × (St)) : Prop := ∀ (x1 : Int32) (x2 : Int32) (x3 : Int32) (x4 : Int32) (s0 : St × (St)) (H : Heap) (locs : List Loc) (ls : Array Slot), g x1 x2 x3 x4 s0 = some r → va_P (dC, dI) vwCl (dw_X1 a ac s0) H → va_D A (dw_X1 a ac s0) → va_S A s.heap H locs → lv_has ls 7 [(0, .ref (a 0)), (1, .int x1), (2, .int x2), (3, .int x3), (4, .int x4)] → W p l e (headSpec ow_dm_X1_findAddresses ({ frames := 1, cells := 0, slots := 0, locals := 23 })).room s m args below meth c H locs 0 0 Q (F0 m 58 ls [])
def dj_X1_findAddresses_18 (p : Program) (l : Launch) (e : Env) (s : State) (m : MethodId) (args : Array Value) (below : List Frame) (meth : Method) (c : Code) (Q : State → Prop) (A : Nat → Prop) (dC : Nat → ClassId) (dI : Nat → Nat → Nat) (a : Nat → Nat) (ac : Nat → ClassId) (g : Int32 → Int32 → Int32 → Int32 → (St × (St)) → Option (St × (St))) (r : St × (St)) : Prop := ∀ (x1 : Int32) (x2 : Int32) (x3 : Int32) (x4 : Int32) (s0 : St × (St)) (H : Heap) (locs : List Loc) (ls : Array Slot), g x1 x2 x3 x4 s0 = some r → va_P (dC, dI) vwCl (dw_X1 a ac s0) H → va_D A (dw_X1 a ac s0) → va_S A s.heap H locs → lv_has ls 7 [(0, .ref (a 0)), (1, .int x1), (2, .int x2), (3, .int x3), (4, .int x4)] → W p l e (headSpec ow_dm_X1_findAddresses ({ frames := 1, cells := 0, slots := 0, locals := 23 })).room s m args below meth c H locs 0 0 Q (F0 m 18 ls [])
def dj_X1_findAddresses_9 (p : Program) (l : Launch) (e : Env) (s : State) (m : MethodId) (args : Array Value) (below : List Frame) (meth : Method) (c : Code) (Q : State → Prop) (A : Nat → Prop) (dC : Nat → ClassId) (dI : Nat → Nat → Nat) (a : Nat → Nat) (ac : Nat → ClassId) (g : Int32 → Int32 → Int32 → Int32 → (St × (St)) → Option (St × (St))) (r : St × (St)) : Prop := ∀ (x1 : Int32) (x2 : Int32) (x3 : Int32) (x4 : Int32) (s0 : St × (St)) (H : Heap) (locs : List Loc) (ls : Array Slot), g x1 x2 x3 x4 s0 = some r → va_P (dC, dI) vwCl (dw_X1 a ac s0) H → va_D A (dw_X1 a ac s0) → va_S A s.heap H locs → lv_has ls 7 [(0, .ref (a 0)), (1, .int x1), (2, .int x2), (3, .int x3), (4, .int x4)] → W p l e (headSpec ow_dm_X1_findAddresses ({ frames := 1, cells := 0, slots := 0, locals := 23 })).room s m args below meth c H locs 0 0 Q (F0 m 9 ls [])
def dj_X1_findAddresses_0 (p : Program) (l : Launch) (e : Env) (s : State) (m : MethodId) (args : Array Value) (below : List Frame) (meth : Method) (c : Code) (Q : State → Prop) (A : Nat → Prop) (dC : Nat → ClassId) (dI : Nat → Nat → Nat) (a : Nat → Nat) (ac : Nat → ClassId) (g : (St × (St)) → Option (St × (St))) (r : St × (St)) : Prop := ∀ (s0 : St × (St)) (H : Heap) (locs : List Loc) (ls : Array Slot), g s0 = some r → va_P (dC, dI) vwCl (dw_X1 a ac s0) H → va_D A (dw_X1 a ac s0) → va_S A s.heap H locs → lv_has ls 7 [(0, .ref (a 0))] → W p l e (headSpec ow_dm_X1_findAddresses ({ frames := 1, cells := 0, slots := 0, locals := 23 })).room s m args below meth c H locs 0 0 Q (F0 m 0 ls [])
set_option maxHeartbeats 40000000 in
set_option maxRecDepth 100000 in
theorem db_X1_findAddresses_226 {p : Program} {l : Launch} {e : Env} {s : State} {m : MethodId} {args : Array Value} {below : List Frame} {meth : Method} {c : Code} {Q : State → Prop} {A : Nat → Prop} {dC : Nat → ClassId} {dI : Nat → Nat → Nat} {a : Nat → Nat} {ac : Nat → ClassId} {n : Nat} {r : St × (St)} (C : nd_C p l s m args c A (dC, dI) cX1_findAddresses 7 RX1 ow_dm_X1_findAddresses (dk_X1 ac)) (K : nd_Kv p l e (headSpec ow_dm_X1_findAddresses ({ frames := 1, cells := 0, slots := 0, locals := 23 })).room s m args below meth c Q A (dC, dI) cX1_findAddresses (St × (St)) (dw_X1 a ac) r) : dj_X1_findAddresses_226 p l e s m args below meth c Q A dC dI a ac (df_X1_findAddresses_226 n) r := by
  obtain ⟨hlt, hx, hb, hml, hown, hts, hN, hA, hK⟩ := id C
  intro y1 s0 H locs ls h hP hD hS hl
  unfold df_X1_findAddresses_226 at h
  refine va_put (D := (dC, dI)) (ci := 2) (v := .int y1) (ty := .int) (C := RX1) (T := TX1) (N := 13) hx hb hts hi_dm_X1_findAddresses_X1 tyX1 tyX1_ok nmX1 hown hK hP hD hS 0 rfl rfl 12 (by decide) (hts (.fieldLink RX1 50 "TimeMachine$Assembler" "size" "I") (List.mem_of_getElem? (i := 4) rfl)) (fun _ h9 => h9) rfl (by decide +kernel) rfl rfl (Nat.le_of_ble_eq_true rfl) dX1_findAddresses_226 (fun H locs hP hD hS => ?_)
  obtain ⟨s5, es5, h⟩ := nd_let_e h
  have hP : va_P (dC, dI) vwCl (dw_X1 a ac s5) H := by rw [es5]; exact hP
  have hD : va_D A (dw_X1 a ac s5) := by rw [es5]; exact hD
  refine lv_aload_n hx hb dX1_findAddresses_229 rfl (lv_at hl 0 rfl) ?_
  obtain ⟨s7, hq, h⟩ := nd_b1_e h
  have hPc := hP
  have hDc := hD
  have hKc := hK
  have hFc := nd_rs hD hS hA
  refine nd_cVv (As := []) (rest := []) (w' := dw_X1 a ac s7) ⟨hx, hb, hml, hown, hts⟩ (fun sz => dm_X1_moveData l hlt dC dI a ac n  s5 hq sz) (cwV 0 hts gi_dm_X1_findAddresses_0 rfl rfl rfl (by decide +kernel) ⟨Nat.le_of_ble_eq_true rfl, Nat.le_of_ble_eq_true rfl⟩) hPc hDc hKc hS hA hN (va_recv hKc hPc (ci := 2) (q0 := 0) rfl rfl) rfl hl.1 rfl (Nat.le_of_ble_eq_true rfl) dX1_findAddresses_230 (fun H locs hP1 hD1 hk1 hS => ?_)
  have hP := hP1
  have hD := hD1.weaken (fun k q _ h => hFc q.1 h)
  exact K _ _ _ _ _ dX1_findAddresses_233 (Option.some.inj h).symm hP hD hS
set_option maxHeartbeats 40000000 in
set_option maxRecDepth 100000 in
theorem db_X1_findAddresses_181 {p : Program} {l : Launch} {e : Env} {s : State} {m : MethodId} {args : Array Value} {below : List Frame} {meth : Method} {c : Code} {Q : State → Prop} {A : Nat → Prop} {dC : Nat → ClassId} {dI : Nat → Nat → Nat} {a : Nat → Nat} {ac : Nat → ClassId} {n : Nat} {r : St × (St)} (C : nd_C p l s m args c A (dC, dI) cX1_findAddresses 7 RX1 ow_dm_X1_findAddresses (dk_X1 ac)) (K : nd_Kv p l e (headSpec ow_dm_X1_findAddresses ({ frames := 1, cells := 0, slots := 0, locals := 23 })).room s m args below meth c Q A (dC, dI) cX1_findAddresses (St × (St)) (dw_X1 a ac) r) {g9 : Int32 → Int32 → Int32 → Int32 → (St × (St)) → Option (St × (St))} (J9 : dj_X1_findAddresses_9 p l e s m args below meth c Q A dC dI a ac g9 r) : dj_X1_findAddresses_181 p l e s m args below meth c Q A dC dI a ac (df_X1_findAddresses_181 n g9) r := by
  obtain ⟨hlt, hx, hb, hml, hown, hts, hN, hA, hK⟩ := id C
  intro x1 x2 x3 x4 s0 H locs ls h hP hD hS hl
  unfold df_X1_findAddresses_181 at h
  obtain ⟨z11, ez11, h⟩ := nd_let_e h
  refine lv_iinc (v := z11) (lv' := [(4, .int z11), (0, .ref (a 0)), (1, .int x1), (2, .int x2), (3, .int x3)]) hx hb dX1_findAddresses_181 hl (k := 4) rfl (by rw [ez11]) (by decide) rfl (fun ls hl => ?_)
  refine lv_goto (tgt := 9) hx hb dX1_findAddresses_184 (by decide) ?_
  exact (J9) (x1) (x2) (x3) (z11) s0 _ _ _ h hP hD hS (lv_sub hl [1, 2, 3, 4, 0] rfl)
set_option maxHeartbeats 40000000 in
set_option maxRecDepth 100000 in
theorem db_X1_findAddresses_142 {p : Program} {l : Launch} {e : Env} {s : State} {m : MethodId} {args : Array Value} {below : List Frame} {meth : Method} {c : Code} {Q : State → Prop} {A : Nat → Prop} {dC : Nat → ClassId} {dI : Nat → Nat → Nat} {a : Nat → Nat} {ac : Nat → ClassId} {n : Nat} {r : St × (St)} (C : nd_C p l s m args c A (dC, dI) cX1_findAddresses 7 RX1 ow_dm_X1_findAddresses (dk_X1 ac)) (K : nd_Kv p l e (headSpec ow_dm_X1_findAddresses ({ frames := 1, cells := 0, slots := 0, locals := 23 })).room s m args below meth c Q A (dC, dI) cX1_findAddresses (St × (St)) (dw_X1 a ac) r) {g9 : Int32 → Int32 → Int32 → Int32 → (St × (St)) → Option (St × (St))} (J9 : dj_X1_findAddresses_9 p l e s m args below meth c Q A dC dI a ac g9 r) : dj_X1_findAddresses_142 p l e s m args below meth c Q A dC dI a ac (df_X1_findAddresses_142 n g9) r := by
  obtain ⟨hlt, hx, hb, hml, hown, hts, hN, hA, hK⟩ := id C
  intro x1 x2 x3 x4 x5 s0 H locs ls h hP hD hS hl
  unfold df_X1_findAddresses_142 at h
  refine lv_aload_n hx hb dX1_findAddresses_142 rfl (lv_at hl 0 rfl) ?_
  refine va_get (D := (dC, dI)) (ci := 2) (v := .ref (a 1)) (C := RX1) (T := TX1) (N := 13) hx hb hts hi_dm_X1_findAddresses_X1 hown hK hP 0 rfl rfl 1 (by decide) (hts (.fieldLink RX1 19 "TimeMachine$Assembler" "statement" "[I") (List.mem_of_getElem? (i := 11) rfl)) (fun _ h9 => h9) rfl dX1_findAddresses_143 ?_
  refine lv_iload hx hb dX1_findAddresses_146 (lv_at hl 5 rfl) ?_
  refine lv_iconst (v := 1) hx hb dX1_findAddresses_148 (by decide) ?_
  refine lv_iadd hx hb dX1_findAddresses_149 ?_
  obtain ⟨i19, h⟩ := nd_ck_e h
  refine va_iald (i := (x5 + 1)) hx hb hK hP 1 0 rfl rfl i19 dX1_findAddresses_150 ?_
  refine lv_if_ne (tgt := 169) hx hb dX1_findAddresses_151 (by decide) (fun c20 => ?_) (fun c20 => ?_)
  · have h := nd_neg h c20
    refine lv_iload_n hx hb dX1_findAddresses_169 rfl (lv_at hl 2 rfl) ?_
    refine lv_aload_n hx hb dX1_findAddresses_170 rfl (lv_at hl 0 rfl) ?_
    refine va_get (D := (dC, dI)) (ci := 2) (v := .ref (a 1)) (C := RX1) (T := TX1) (N := 13) hx hb hts hi_dm_X1_findAddresses_X1 hown hK hP 0 rfl rfl 1 (by decide) (hts (.fieldLink RX1 19 "TimeMachine$Assembler" "statement" "[I") (List.mem_of_getElem? (i := 11) rfl)) (fun _ h9 => h9) rfl dX1_findAddresses_171 ?_
    refine lv_iload hx hb dX1_findAddresses_174 (lv_at hl 5 rfl) ?_
    refine lv_iconst (v := 3) hx hb dX1_findAddresses_176 (by decide) ?_
    refine lv_iadd hx hb dX1_findAddresses_177 ?_
    obtain ⟨i21, h⟩ := nd_ck_e h
    refine va_iald (i := (x5 + 3)) hx hb hK hP 1 0 rfl rfl i21 dX1_findAddresses_178 ?_
    refine lv_iadd hx hb dX1_findAddresses_179 ?_
    refine lv_topi (fun z22 ez22 => ?_)
    have h := nd_at h ez22
    refine lv_istore_n (lv' := [(2, .int z22), (0, .ref (a 0)), (1, .int x1), (3, .int x3), (4, .int x4), (5, .int x5)]) hx hb dX1_findAddresses_180 rfl hl (by decide) rfl (fun ls hl => ?_)
    exact (db_X1_findAddresses_181 C K J9) (x1) (z22) (x3) (x4) s0 _ _ _ h hP hD hS (lv_sub hl [1, 2, 0, 3, 4] rfl)
  · have h := nd_pos h c20
    refine lv_iload_n hx hb dX1_findAddresses_154 rfl (lv_at hl 1 rfl) ?_
    refine lv_aload_n hx hb dX1_findAddresses_155 rfl (lv_at hl 0 rfl) ?_
    refine va_get (D := (dC, dI)) (ci := 2) (v := .ref (a 1)) (C := RX1) (T := TX1) (N := 13) hx hb hts hi_dm_X1_findAddresses_X1 hown hK hP 0 rfl rfl 1 (by decide) (hts (.fieldLink RX1 19 "TimeMachine$Assembler" "statement" "[I") (List.mem_of_getElem? (i := 11) rfl)) (fun _ h9 => h9) rfl dX1_findAddresses_156 ?_
    refine lv_iload hx hb dX1_findAddresses_159 (lv_at hl 5 rfl) ?_
    refine lv_iconst (v := 3) hx hb dX1_findAddresses_161 (by decide) ?_
    refine lv_iadd hx hb dX1_findAddresses_162 ?_
    obtain ⟨i23, h⟩ := nd_ck_e h
    refine va_iald (i := (x5 + 3)) hx hb hK hP 1 0 rfl rfl i23 dX1_findAddresses_163 ?_
    refine lv_iadd hx hb dX1_findAddresses_164 ?_
    refine lv_topi (fun z24 ez24 => ?_)
    have h := nd_at h ez24
    refine lv_istore_n (lv' := [(1, .int z24), (0, .ref (a 0)), (2, .int x2), (3, .int x3), (4, .int x4), (5, .int x5)]) hx hb dX1_findAddresses_165 rfl hl (by decide) rfl (fun ls hl => ?_)
    refine lv_goto (tgt := 181) hx hb dX1_findAddresses_166 (by decide) ?_
    exact (db_X1_findAddresses_181 C K J9) (z24) (x2) (x3) (x4) s0 _ _ _ h hP hD hS (lv_sub hl [1, 0, 2, 3, 4] rfl)
set_option maxHeartbeats 40000000 in
set_option maxRecDepth 100000 in
theorem db_X1_findAddresses_91 {p : Program} {l : Launch} {e : Env} {s : State} {m : MethodId} {args : Array Value} {below : List Frame} {meth : Method} {c : Code} {Q : State → Prop} {A : Nat → Prop} {dC : Nat → ClassId} {dI : Nat → Nat → Nat} {a : Nat → Nat} {ac : Nat → ClassId} {n : Nat} {r : St × (St)} (C : nd_C p l s m args c A (dC, dI) cX1_findAddresses 7 RX1 ow_dm_X1_findAddresses (dk_X1 ac)) (K : nd_Kv p l e (headSpec ow_dm_X1_findAddresses ({ frames := 1, cells := 0, slots := 0, locals := 23 })).room s m args below meth c Q A (dC, dI) cX1_findAddresses (St × (St)) (dw_X1 a ac) r) {g9 : Int32 → Int32 → Int32 → Int32 → (St × (St)) → Option (St × (St))} (J9 : dj_X1_findAddresses_9 p l e s m args below meth c Q A dC dI a ac g9 r) : dj_X1_findAddresses_91 p l e s m args below meth c Q A dC dI a ac (df_X1_findAddresses_91 n g9) r := by
  obtain ⟨hlt, hx, hb, hml, hown, hts, hN, hA, hK⟩ := id C
  intro x1 x2 x3 x4 x5 y0 s0 H locs ls h hP hD hS hl
  unfold df_X1_findAddresses_91 at h
  refine lv_istore (lv' := [(6, .int y0), (0, .ref (a 0)), (1, .int x1), (2, .int x2), (3, .int x3), (4, .int x4), (5, .int x5)]) hx hb dX1_findAddresses_91 hl (by decide) rfl (fun ls hl => ?_)
  refine lv_aload_n hx hb dX1_findAddresses_93 rfl (lv_at hl 1 rfl) ?_
  refine va_get (D := (dC, dI)) (ci := 2) (v := .ref (a 1)) (C := RX1) (T := TX1) (N := 13) hx hb hts hi_dm_X1_findAddresses_X1 hown hK hP 0 rfl rfl 1 (by decide) (hts (.fieldLink RX1 19 "TimeMachine$Assembler" "statement" "[I") (List.mem_of_getElem? (i := 11) rfl)) (fun _ h9 => h9) rfl dX1_findAddresses_94 ?_
  refine lv_iload hx hb dX1_findAddresses_97 (lv_at hl 6 rfl) ?_
  refine lv_iconst (v := 2) hx hb dX1_findAddresses_99 (by decide) ?_
  refine lv_iadd hx hb dX1_findAddresses_100 ?_
  refine lv_iload hx hb dX1_findAddresses_101 (lv_at hl 0 rfl) ?_
  obtain ⟨i15, h⟩ := nd_ck_e h
  refine va_iast (i := (x5 + 2)) (x := y0) hx hb hK hP hD hS 1 0 rfl rfl i15 dX1_findAddresses_103 (fun H locs hP hD hS => ?_)
  obtain ⟨s16, es16, h⟩ := nd_let_e h
  have hP : va_P (dC, dI) vwCl (dw_X1 a ac s16) H := by rw [es16]; exact hP
  have hD : va_D A (dw_X1 a ac s16) := by rw [es16]; exact hD
  refine lv_aload_n hx hb dX1_findAddresses_104 rfl (lv_at hl 1 rfl) ?_
  refine va_get (D := (dC, dI)) (ci := 2) (v := .ref (a 1)) (C := RX1) (T := TX1) (N := 13) hx hb hts hi_dm_X1_findAddresses_X1 hown hK hP 0 rfl rfl 1 (by decide) (hts (.fieldLink RX1 19 "TimeMachine$Assembler" "statement" "[I") (List.mem_of_getElem? (i := 11) rfl)) (fun _ h9 => h9) rfl dX1_findAddresses_105 ?_
  refine lv_iload hx hb dX1_findAddresses_108 (lv_at hl 6 rfl) ?_
  refine lv_iconst (v := 4) hx hb dX1_findAddresses_110 (by decide) ?_
  refine lv_iadd hx hb dX1_findAddresses_111 ?_
  obtain ⟨i17, h⟩ := nd_ck_e h
  refine va_iald (i := (x5 + 4)) hx hb hK hP 1 0 rfl rfl i17 dX1_findAddresses_112 ?_
  refine lv_bipush (v := 8) hx hb dX1_findAddresses_113 (by decide) ?_
  refine lv_icmp_ne (tgt := 142) hx hb dX1_findAddresses_115 (by decide) (fun c18 => ?_) (fun c18 => ?_)
  · have h := nd_neg h c18
    exact (db_X1_findAddresses_142 C K J9) (x1) (x2) (x3) (x4) (x5) s16 _ _ _ h hP hD hS (lv_sub hl [1, 2, 3, 4, 5, 6] rfl)
  · have h := nd_pos h c18
    refine lv_aload_n hx hb dX1_findAddresses_118 rfl (lv_at hl 1 rfl) ?_
    refine va_get (D := (dC, dI)) (ci := 2) (v := .ref (a 1)) (C := RX1) (T := TX1) (N := 13) hx hb hts hi_dm_X1_findAddresses_X1 hown hK hP 0 rfl rfl 1 (by decide) (hts (.fieldLink RX1 19 "TimeMachine$Assembler" "statement" "[I") (List.mem_of_getElem? (i := 11) rfl)) (fun _ h9 => h9) rfl dX1_findAddresses_119 ?_
    refine lv_iload hx hb dX1_findAddresses_122 (lv_at hl 6 rfl) ?_
    refine lv_iconst (v := 3) hx hb dX1_findAddresses_124 (by decide) ?_
    refine lv_iadd hx hb dX1_findAddresses_125 ?_
    refine lv_iload hx hb dX1_findAddresses_126 (lv_at hl 0 rfl) ?_
    refine lv_ineg hx hb dX1_findAddresses_128 ?_
    refine lv_aload_n hx hb dX1_findAddresses_129 rfl (lv_at hl 1 rfl) ?_
    refine va_get (D := (dC, dI)) (ci := 2) (v := .ref (a 1)) (C := RX1) (T := TX1) (N := 13) hx hb hts hi_dm_X1_findAddresses_X1 hown hK hP 0 rfl rfl 1 (by decide) (hts (.fieldLink RX1 19 "TimeMachine$Assembler" "statement" "[I") (List.mem_of_getElem? (i := 11) rfl)) (fun _ h9 => h9) rfl dX1_findAddresses_130 ?_
    refine lv_iload hx hb dX1_findAddresses_133 (lv_at hl 6 rfl) ?_
    refine lv_iconst (v := 5) hx hb dX1_findAddresses_135 (by decide) ?_
    refine lv_iadd hx hb dX1_findAddresses_136 ?_
    obtain ⟨i25, h⟩ := nd_ck_e h
    refine va_iald (i := (x5 + 5)) hx hb hK hP 1 0 rfl rfl i25 dX1_findAddresses_137 ?_
    refine lv_iconst (v := 1) hx hb dX1_findAddresses_138 (by decide) ?_
    refine lv_isub hx hb dX1_findAddresses_139 ?_
    refine lv_iand hx hb dX1_findAddresses_140 ?_
    obtain ⟨i26, h⟩ := nd_ck_e h
    refine va_iast (i := (x5 + 3)) (x := ((-y0) &&& ((sR s16.1 0 (Int32.toNatClampNeg (x5 + 5))) - 1))) hx hb hK hP hD hS 1 0 rfl rfl i26 dX1_findAddresses_141 (fun H locs hP hD hS => ?_)
    obtain ⟨s27, es27, h⟩ := nd_let_e h
    have hP : va_P (dC, dI) vwCl (dw_X1 a ac s27) H := by rw [es27]; exact hP
    have hD : va_D A (dw_X1 a ac s27) := by rw [es27]; exact hD
    exact (db_X1_findAddresses_142 C K J9) (x1) (x2) (x3) (x4) (x5) s27 _ _ _ h hP hD hS (lv_sub hl [1, 2, 3, 4, 5, 6] rfl)
set_option maxHeartbeats 40000000 in
set_option maxRecDepth 100000 in
theorem db_X1_findAddresses_58 {p : Program} {l : Launch} {e : Env} {s : State} {m : MethodId} {args : Array Value} {below : List Frame} {meth : Method} {c : Code} {Q : State → Prop} {A : Nat → Prop} {dC : Nat → ClassId} {dI : Nat → Nat → Nat} {a : Nat → Nat} {ac : Nat → ClassId} {n : Nat} {r : St × (St)} (C : nd_C p l s m args c A (dC, dI) cX1_findAddresses 7 RX1 ow_dm_X1_findAddresses (dk_X1 ac)) (K : nd_Kv p l e (headSpec ow_dm_X1_findAddresses ({ frames := 1, cells := 0, slots := 0, locals := 23 })).room s m args below meth c Q A (dC, dI) cX1_findAddresses (St × (St)) (dw_X1 a ac) r) {g9 : Int32 → Int32 → Int32 → Int32 → (St × (St)) → Option (St × (St))} (J9 : dj_X1_findAddresses_9 p l e s m args below meth c Q A dC dI a ac g9 r) : dj_X1_findAddresses_58 p l e s m args below meth c Q A dC dI a ac (df_X1_findAddresses_58 n g9) r := by
  obtain ⟨hlt, hx, hb, hml, hown, hts, hN, hA, hK⟩ := id C
  intro x1 x2 x3 x4 s0 H locs ls h hP hD hS hl
  unfold df_X1_findAddresses_58 at h
  refine lv_iload hx hb dX1_findAddresses_58 (lv_at hl 4 rfl) ?_
  refine lv_aload_n hx hb dX1_findAddresses_60 rfl (lv_at hl 0 rfl) ?_
  refine va_get (D := (dC, dI)) (ci := 2) (v := .int (sI s0.1 0)) (C := RX1) (T := TX1) (N := 13) hx hb hts hi_dm_X1_findAddresses_X1 hown hK hP 0 rfl rfl 2 (by decide) (hts (.fieldLink RX1 65 "TimeMachine$Assembler" "statements" "I") (List.mem_of_getElem? (i := 1) rfl)) (fun _ h9 => h9) rfl dX1_findAddresses_61 ?_
  refine lv_icmp_ge (tgt := 181) hx hb dX1_findAddresses_64 (by decide) (fun c10 => ?_) (fun c10 => ?_)
  · have h := nd_pos h c10
    exact (db_X1_findAddresses_181 C K J9) (x1) (x2) (x3) (x4) s0 _ _ _ h hP hD hS (lv_sub hl [0, 1, 2, 3, 4] rfl)
  · have h := nd_neg h c10
    refine lv_iload hx hb dX1_findAddresses_67 (lv_at hl 4 rfl) ?_
    refine lv_bipush (v := 8) hx hb dX1_findAddresses_69 (by decide) ?_
    refine lv_imul hx hb dX1_findAddresses_71 ?_
    refine lv_topi (fun z12 ez12 => ?_)
    have h := nd_at h ez12
    refine lv_istore (lv' := [(5, .int z12), (0, .ref (a 0)), (1, .int x1), (2, .int x2), (3, .int x3), (4, .int x4)]) hx hb dX1_findAddresses_72 hl (by decide) rfl (fun ls hl => ?_)
    refine lv_aload_n hx hb dX1_findAddresses_74 rfl (lv_at hl 1 rfl) ?_
    refine va_get (D := (dC, dI)) (ci := 2) (v := .ref (a 1)) (C := RX1) (T := TX1) (N := 13) hx hb hts hi_dm_X1_findAddresses_X1 hown hK hP 0 rfl rfl 1 (by decide) (hts (.fieldLink RX1 19 "TimeMachine$Assembler" "statement" "[I") (List.mem_of_getElem? (i := 11) rfl)) (fun _ h9 => h9) rfl dX1_findAddresses_75 ?_
    refine lv_iload hx hb dX1_findAddresses_78 (lv_at hl 0 rfl) ?_
    refine lv_iconst (v := 1) hx hb dX1_findAddresses_80 (by decide) ?_
    refine lv_iadd hx hb dX1_findAddresses_81 ?_
    obtain ⟨i13, h⟩ := nd_ck_e h
    refine va_iald (i := (z12 + 1)) hx hb hK hP 1 0 rfl rfl i13 dX1_findAddresses_82 ?_
    refine lv_if_ne (tgt := 90) hx hb dX1_findAddresses_83 (by decide) (fun c14 => ?_) (fun c14 => ?_)
    · have h := nd_neg h c14
      refine lv_iload_n hx hb dX1_findAddresses_90 rfl (lv_at hl 3 rfl) ?_
      exact (db_X1_findAddresses_91 C K J9) (x1) (x2) (x3) (x4) (z12) (x2) s0 _ _ _ h hP hD hS (lv_sub hl [1, 2, 3, 4, 5, 0] rfl)
    · have h := nd_pos h c14
      refine lv_iload_n hx hb dX1_findAddresses_86 rfl (lv_at hl 2 rfl) ?_
      refine lv_goto (tgt := 91) hx hb dX1_findAddresses_87 (by decide) ?_
      exact (db_X1_findAddresses_91 C K J9) (x1) (x2) (x3) (x4) (z12) (x1) s0 _ _ _ h hP hD hS (lv_sub hl [1, 2, 3, 4, 5, 0] rfl)
set_option maxHeartbeats 40000000 in
set_option maxRecDepth 100000 in
theorem dB_X1_findAddresses_18 {p : Program} {l : Launch} {e : Env} {s : State} {m : MethodId} {args : Array Value} {below : List Frame} {meth : Method} {c : Code} {Q : State → Prop} {A : Nat → Prop} {dC : Nat → ClassId} {dI : Nat → Nat → Nat} {a : Nat → Nat} {ac : Nat → ClassId} {n : Nat} {r : St × (St)} (C : nd_C p l s m args c A (dC, dI) cX1_findAddresses 7 RX1 ow_dm_X1_findAddresses (dk_X1 ac)) (K : nd_Kv p l e (headSpec ow_dm_X1_findAddresses ({ frames := 1, cells := 0, slots := 0, locals := 23 })).room s m args below meth c Q A (dC, dI) cX1_findAddresses (St × (St)) (dw_X1 a ac) r) {g9 : Int32 → Int32 → Int32 → Int32 → (St × (St)) → Option (St × (St))} (J9 : dj_X1_findAddresses_9 p l e s m args below meth c Q A dC dI a ac g9 r) {g18 : Int32 → Int32 → Int32 → Int32 → (St × (St)) → Option (St × (St))} (J18 : dj_X1_findAddresses_18 p l e s m args below meth c Q A dC dI a ac g18 r) : dj_X1_findAddresses_18 p l e s m args below meth c Q A dC dI a ac (dF_X1_findAddresses_18 n g9 g18) r := by
  obtain ⟨hlt, hx, hb, hml, hown, hts, hN, hA, hK⟩ := id C
  intro x1 x2 x3 x4 s0 H locs ls h hP hD hS hl
  unfold dF_X1_findAddresses_18 at h
  refine lv_iload_n hx hb dX1_findAddresses_18 rfl (lv_at hl 3 rfl) ?_
  refine lv_aload_n hx hb dX1_findAddresses_19 rfl (lv_at hl 0 rfl) ?_
  refine va_get (D := (dC, dI)) (ci := 2) (v := .ref (a 3)) (C := RX1) (T := TX1) (N := 13) hx hb hts hi_dm_X1_findAddresses_X1 hown hK hP 0 rfl rfl 0 (by decide) (hts (.fieldLink RX1 12 "TimeMachine$Assembler" "reader" "LTimeMachine$Reader;") (List.mem_of_getElem? (i := 9) rfl)) (fun _ h9 => h9) rfl dX1_findAddresses_20 ?_
  refine va_get (D := (dC, dI)) (ci := 10) (v := .int (sI s0.2 9)) (C := RX9) (T := TX9) (N := 20) hx hb hts hi_dm_X1_findAddresses_X9 hown hK hP 3 rfl rfl 17 (by decide) (hts (.fieldLink RX1 274 "TimeMachine$Reader" "labels" "I") (List.mem_of_getElem? (i := 10) rfl)) (fun _ h9 => h9) rfl dX1_findAddresses_23 ?_
  refine lv_icmp_ge (tgt := 58) hx hb dX1_findAddresses_26 (by decide) (fun c9 => ?_) (fun c9 => ?_)
  · have h := nd_pos h c9
    exact (db_X1_findAddresses_58 C K J9) (x1) (x2) (x3) (x4) s0 _ _ _ h hP hD hS (lv_sub hl [0, 1, 2, 3, 4] rfl)
  · have h := nd_neg h c9
    refine lv_aload_n hx hb dX1_findAddresses_29 rfl (lv_at hl 0 rfl) ?_
    refine va_get (D := (dC, dI)) (ci := 2) (v := .ref (a 3)) (C := RX1) (T := TX1) (N := 13) hx hb hts hi_dm_X1_findAddresses_X1 hown hK hP 0 rfl rfl 0 (by decide) (hts (.fieldLink RX1 12 "TimeMachine$Assembler" "reader" "LTimeMachine$Reader;") (List.mem_of_getElem? (i := 9) rfl)) (fun _ h9 => h9) rfl dX1_findAddresses_30 ?_
    refine lv_iload_n hx hb dX1_findAddresses_33 rfl (lv_at hl 3 rfl) ?_
    refine lv_iload hx hb dX1_findAddresses_34 (lv_at hl 4 rfl) ?_
    obtain ⟨q28, s29, hq, h⟩ := nd_b2_e h
    have hPc := dp_X1_3 hP
    have hDc := dd_X1_3 hD
    have hKc := dy_X1_3 hK
    have hFc := nd_rs hDc hS hA
    have hzA : ∀ q : Nat, H.size ≤ q → A q := fun q h => hA q (Nat.le_trans hS.1 h)
    refine nd_cVi (As := [.int x3, .int x4]) (rest := []) (q := q28) (w' := dw_X9 (fun k => a (k + 3)) (fun k => ac (k + 3)) s29) ⟨hx, hb, hml, hown, hts⟩ (fun sz => dm_X9_standsBefore l hlt dC dI (fun k => a (k + 3)) (fun k => ac (k + 3)) n (x3) (x4) s0.2 hq sz) (cwV 2 hts gi_dm_X1_findAddresses_1 rfl rfl rfl (by decide +kernel) ⟨Nat.le_of_ble_eq_true rfl, Nat.le_of_ble_eq_true rfl⟩) hPc hDc hKc hS hA hN (va_recv hKc hPc (ci := 10) (q0 := 0) rfl rfl) rfl hl.1 rfl (Nat.le_of_ble_eq_true rfl) dX1_findAddresses_36 (fun H locs hP1 hD1 hk1 hS => ?_)
    obtain ⟨hP, hD⟩ := dn_X1_3 hP hD hzA hk1 hP1 hD1
    obtain ⟨s31, es31, h⟩ := nd_let_e h
    have hP : va_P (dC, dI) vwCl (dw_X1 a ac s31) H := by rw [es31]; exact hP
    have hD : va_D A (dw_X1 a ac s31) := by rw [es31]; exact hD
    refine lv_if_eq (tgt := 58) hx hb dX1_findAddresses_39 (by decide) (fun c32 => ?_) (fun c32 => ?_)
    · have h := nd_pos h c32
      exact (db_X1_findAddresses_58 C K J9) (x1) (x2) (x3) (x4) s31 _ _ _ h hP hD hS (lv_sub hl [0, 1, 2, 3, 4] rfl)
    · have h := nd_neg h c32
      refine lv_aload_n hx hb dX1_findAddresses_42 rfl (lv_at hl 0 rfl) ?_
      refine va_get (D := (dC, dI)) (ci := 2) (v := .ref (a 3)) (C := RX1) (T := TX1) (N := 13) hx hb hts hi_dm_X1_findAddresses_X1 hown hK hP 0 rfl rfl 0 (by decide) (hts (.fieldLink RX1 12 "TimeMachine$Assembler" "reader" "LTimeMachine$Reader;") (List.mem_of_getElem? (i := 9) rfl)) (fun _ h9 => h9) rfl dX1_findAddresses_43 ?_
      refine lv_iload_n hx hb dX1_findAddresses_46 rfl (lv_at hl 3 rfl) ?_
      refine lv_iload_n hx hb dX1_findAddresses_47 rfl (lv_at hl 1 rfl) ?_
      refine lv_iload_n hx hb dX1_findAddresses_48 rfl (lv_at hl 2 rfl) ?_
      obtain ⟨s34, hq, h⟩ := nd_b1_e h
      have hPc := dp_X1_3 hP
      have hDc := dd_X1_3 hD
      have hKc := dy_X1_3 hK
      have hFc := nd_rs hDc hS hA
      have hzA : ∀ q : Nat, H.size ≤ q → A q := fun q h => hA q (Nat.le_trans hS.1 h)
      refine nd_cVv (As := [.int x3, .int x1, .int x2]) (rest := []) (w' := dw_X9 (fun k => a (k + 3)) (fun k => ac (k + 3)) s34) ⟨hx, hb, hml, hown, hts⟩ (fun sz => dm_X9_place l hlt dC dI (fun k => a (k + 3)) (fun k => ac (k + 3)) n (x3) (x1) (x2) s31.2 hq sz) (cwV 3 hts gi_dm_X1_findAddresses_2 rfl rfl rfl (by decide +kernel) ⟨Nat.le_of_ble_eq_true rfl, Nat.le_of_ble_eq_true rfl⟩) hPc hDc hKc hS hA hN (va_recv hKc hPc (ci := 10) (q0 := 0) rfl rfl) rfl hl.1 rfl (Nat.le_of_ble_eq_true rfl) dX1_findAddresses_49 (fun H locs hP1 hD1 hk1 hS => ?_)
      obtain ⟨hP, hD⟩ := dn_X1_3 hP hD hzA hk1 hP1 hD1
      obtain ⟨s36, es36, h⟩ := nd_let_e h
      have hP : va_P (dC, dI) vwCl (dw_X1 a ac s36) H := by rw [es36]; exact hP
      have hD : va_D A (dw_X1 a ac s36) := by rw [es36]; exact hD
      obtain ⟨z37, ez37, h⟩ := nd_let_e h
      refine lv_iinc (v := z37) (lv' := [(3, .int z37), (0, .ref (a 0)), (1, .int x1), (2, .int x2), (4, .int x4)]) hx hb dX1_findAddresses_52 hl (k := 3) rfl (by rw [ez37]) (by decide) rfl (fun ls hl => ?_)
      refine lv_goto (tgt := 18) hx hb dX1_findAddresses_55 (by decide) ?_
      exact (J18) (x1) (x2) (z37) (x4) s36 _ _ _ h hP hD hS (lv_sub hl [1, 2, 3, 0, 4] rfl)
set_option maxHeartbeats 40000000 in
set_option maxRecDepth 100000 in
theorem db_X1_findAddresses_18 {p : Program} {l : Launch} {e : Env} {s : State} {m : MethodId} {args : Array Value} {below : List Frame} {meth : Method} {c : Code} {Q : State → Prop} {A : Nat → Prop} {dC : Nat → ClassId} {dI : Nat → Nat → Nat} {a : Nat → Nat} {ac : Nat → ClassId} {n : Nat} {r : St × (St)} (C : nd_C p l s m args c A (dC, dI) cX1_findAddresses 7 RX1 ow_dm_X1_findAddresses (dk_X1 ac)) (K : nd_Kv p l e (headSpec ow_dm_X1_findAddresses ({ frames := 1, cells := 0, slots := 0, locals := 23 })).room s m args below meth c Q A (dC, dI) cX1_findAddresses (St × (St)) (dw_X1 a ac) r) {g9 : Int32 → Int32 → Int32 → Int32 → (St × (St)) → Option (St × (St))} (J9 : dj_X1_findAddresses_9 p l e s m args below meth c Q A dC dI a ac g9 r) (k : Nat) : dj_X1_findAddresses_18 p l e s m args below meth c Q A dC dI a ac (df_X1_findAddresses_18 n g9 k) r := by
  induction k with
  | zero => intro x1 x2 x3 x4 s0 H locs ls h; exact nomatch (show (none : Option (St × (St))) = some r from h)
  | succ k ih => exact dB_X1_findAddresses_18 C K J9 ih
set_option maxHeartbeats 40000000 in
set_option maxRecDepth 100000 in
theorem dB_X1_findAddresses_9 {p : Program} {l : Launch} {e : Env} {s : State} {m : MethodId} {args : Array Value} {below : List Frame} {meth : Method} {c : Code} {Q : State → Prop} {A : Nat → Prop} {dC : Nat → ClassId} {dI : Nat → Nat → Nat} {a : Nat → Nat} {ac : Nat → ClassId} {n : Nat} {r : St × (St)} (C : nd_C p l s m args c A (dC, dI) cX1_findAddresses 7 RX1 ow_dm_X1_findAddresses (dk_X1 ac)) (K : nd_Kv p l e (headSpec ow_dm_X1_findAddresses ({ frames := 1, cells := 0, slots := 0, locals := 23 })).room s m args below meth c Q A (dC, dI) cX1_findAddresses (St × (St)) (dw_X1 a ac) r) {g9 : Int32 → Int32 → Int32 → Int32 → (St × (St)) → Option (St × (St))} (J9 : dj_X1_findAddresses_9 p l e s m args below meth c Q A dC dI a ac g9 r) : dj_X1_findAddresses_9 p l e s m args below meth c Q A dC dI a ac (dF_X1_findAddresses_9 n g9) r := by
  obtain ⟨hlt, hx, hb, hml, hown, hts, hN, hA, hK⟩ := id C
  intro x1 x2 x3 x4 s0 H locs ls h hP hD hS hl
  unfold dF_X1_findAddresses_9 at h
  refine lv_iload hx hb dX1_findAddresses_9 (lv_at hl 4 rfl) ?_
  refine lv_aload_n hx hb dX1_findAddresses_11 rfl (lv_at hl 0 rfl) ?_
  refine va_get (D := (dC, dI)) (ci := 2) (v := .int (sI s0.1 0)) (C := RX1) (T := TX1) (N := 13) hx hb hts hi_dm_X1_findAddresses_X1 hown hK hP 0 rfl rfl 2 (by decide) (hts (.fieldLink RX1 65 "TimeMachine$Assembler" "statements" "I") (List.mem_of_getElem? (i := 1) rfl)) (fun _ h9 => h9) rfl dX1_findAddresses_12 ?_
  refine lv_icmp_gt (tgt := 187) hx hb dX1_findAddresses_15 (by decide) (fun c1 => ?_) (fun c1 => ?_)
  · have h := nd_pos h c1
    refine lv_aload_n hx hb dX1_findAddresses_187 rfl (lv_at hl 0 rfl) ?_
    refine lv_iload_n hx hb dX1_findAddresses_188 rfl (lv_at hl 1 rfl) ?_
    refine va_put (D := (dC, dI)) (ci := 2) (v := .int x1) (ty := .int) (C := RX1) (T := TX1) (N := 13) hx hb hts hi_dm_X1_findAddresses_X1 tyX1 tyX1_ok nmX1 hown hK hP hD hS 0 rfl rfl 10 (by decide) (hts (.fieldLink RX1 284 "TimeMachine$Assembler" "textSize" "I") (List.mem_of_getElem? (i := 2) rfl)) (fun _ h9 => h9) rfl (by decide +kernel) rfl rfl (Nat.le_of_ble_eq_true rfl) dX1_findAddresses_189 (fun H locs hP hD hS => ?_)
    obtain ⟨s2, es2, h⟩ := nd_let_e h
    have hP : va_P (dC, dI) vwCl (dw_X1 a ac s2) H := by rw [es2]; exact hP
    have hD : va_D A (dw_X1 a ac s2) := by rw [es2]; exact hD
    refine lv_aload_n hx hb dX1_findAddresses_192 rfl (lv_at hl 0 rfl) ?_
    refine lv_iload_n hx hb dX1_findAddresses_193 rfl (lv_at hl 1 rfl) ?_
    refine lv_sipush (v := 1024) hx hb dX1_findAddresses_194 (by decide) ?_
    refine lv_iadd hx hb dX1_findAddresses_197 ?_
    refine lv_iconst (v := 1) hx hb dX1_findAddresses_198 (by decide) ?_
    refine lv_isub hx hb dX1_findAddresses_199 ?_
    refine lv_sipush (v := 1024) hx hb dX1_findAddresses_200 (by decide) ?_
    refine lv_idiv hx hb dX1_findAddresses_203 (by decide) ?_
    refine lv_sipush (v := 1024) hx hb dX1_findAddresses_204 (by decide) ?_
    refine lv_imul hx hb dX1_findAddresses_207 ?_
    refine va_put (D := (dC, dI)) (ci := 2) (v := .int (((((x1 + 1024) - 1) : Int32) / 1024) * 1024)) (ty := .int) (C := RX1) (T := TX1) (N := 13) hx hb hts hi_dm_X1_findAddresses_X1 tyX1 tyX1_ok nmX1 hown hK hP hD hS 0 rfl rfl 11 (by decide) (hts (.fieldLink RX1 287 "TimeMachine$Assembler" "dataStart" "I") (List.mem_of_getElem? (i := 3) rfl)) (fun _ h9 => h9) rfl (by decide +kernel) rfl rfl (Nat.le_of_ble_eq_true rfl) dX1_findAddresses_208 (fun H locs hP hD hS => ?_)
    obtain ⟨s3, es3, h⟩ := nd_let_e h
    have hP : va_P (dC, dI) vwCl (dw_X1 a ac s3) H := by rw [es3]; exact hP
    have hD : va_D A (dw_X1 a ac s3) := by rw [es3]; exact hD
    refine lv_aload_n hx hb dX1_findAddresses_211 rfl (lv_at hl 0 rfl) ?_
    refine lv_iload_n hx hb dX1_findAddresses_212 rfl (lv_at hl 2 rfl) ?_
    refine lv_if_le (tgt := 225) hx hb dX1_findAddresses_213 (by decide) (fun c4 => ?_) (fun c4 => ?_)
    · have h := nd_pos h c4
      refine lv_iload_n hx hb dX1_findAddresses_225 rfl (lv_at hl 1 rfl) ?_
      exact (db_X1_findAddresses_226 C K) (x1) s3 _ _ _ h hP hD hS (lv_sub hl [0] rfl)
    · have h := nd_neg h c4
      refine lv_aload_n hx hb dX1_findAddresses_216 rfl (lv_at hl 0 rfl) ?_
      refine va_get (D := (dC, dI)) (ci := 2) (v := .int (sI s3.1 8)) (C := RX1) (T := TX1) (N := 13) hx hb hts hi_dm_X1_findAddresses_X1 hown hK hP 0 rfl rfl 11 (by decide) (hts (.fieldLink RX1 287 "TimeMachine$Assembler" "dataStart" "I") (List.mem_of_getElem? (i := 3) rfl)) (fun _ h9 => h9) rfl dX1_findAddresses_217 ?_
      refine lv_iload_n hx hb dX1_findAddresses_220 rfl (lv_at hl 2 rfl) ?_
      refine lv_iadd hx hb dX1_findAddresses_221 ?_
      refine lv_goto (tgt := 226) hx hb dX1_findAddresses_222 (by decide) ?_
      exact (db_X1_findAddresses_226 C K) (((sI s3.1 8) + x2)) s3 _ _ _ h hP hD hS (lv_sub hl [0] rfl)
  · have h := nd_neg h c1
    exact (db_X1_findAddresses_18 C K J9 n) (x1) (x2) (x3) (x4) s0 _ _ _ h hP hD hS (lv_sub hl [0, 1, 2, 3, 4] rfl)
set_option maxHeartbeats 40000000 in
set_option maxRecDepth 100000 in
theorem db_X1_findAddresses_9 {p : Program} {l : Launch} {e : Env} {s : State} {m : MethodId} {args : Array Value} {below : List Frame} {meth : Method} {c : Code} {Q : State → Prop} {A : Nat → Prop} {dC : Nat → ClassId} {dI : Nat → Nat → Nat} {a : Nat → Nat} {ac : Nat → ClassId} {n : Nat} {r : St × (St)} (C : nd_C p l s m args c A (dC, dI) cX1_findAddresses 7 RX1 ow_dm_X1_findAddresses (dk_X1 ac)) (K : nd_Kv p l e (headSpec ow_dm_X1_findAddresses ({ frames := 1, cells := 0, slots := 0, locals := 23 })).room s m args below meth c Q A (dC, dI) cX1_findAddresses (St × (St)) (dw_X1 a ac) r) (k : Nat) : dj_X1_findAddresses_9 p l e s m args below meth c Q A dC dI a ac (df_X1_findAddresses_9 n k) r := by
  induction k with
  | zero => intro x1 x2 x3 x4 s0 H locs ls h; exact nomatch (show (none : Option (St × (St))) = some r from h)
  | succ k ih => exact dB_X1_findAddresses_9 C K ih
set_option maxHeartbeats 40000000 in
set_option maxRecDepth 100000 in
theorem db_X1_findAddresses_0 {p : Program} {l : Launch} {e : Env} {s : State} {m : MethodId} {args : Array Value} {below : List Frame} {meth : Method} {c : Code} {Q : State → Prop} {A : Nat → Prop} {dC : Nat → ClassId} {dI : Nat → Nat → Nat} {a : Nat → Nat} {ac : Nat → ClassId} {n : Nat} {r : St × (St)} (C : nd_C p l s m args c A (dC, dI) cX1_findAddresses 7 RX1 ow_dm_X1_findAddresses (dk_X1 ac)) (K : nd_Kv p l e (headSpec ow_dm_X1_findAddresses ({ frames := 1, cells := 0, slots := 0, locals := 23 })).room s m args below meth c Q A (dC, dI) cX1_findAddresses (St × (St)) (dw_X1 a ac) r) : dj_X1_findAddresses_0 p l e s m args below meth c Q A dC dI a ac (df_X1_findAddresses_0 n) r := by
  obtain ⟨hlt, hx, hb, hml, hown, hts, hN, hA, hK⟩ := id C
  intro s0 H locs ls h hP hD hS hl
  unfold df_X1_findAddresses_0 at h
  refine lv_iconst (v := 0) hx hb dX1_findAddresses_0 (by decide) ?_
  refine lv_istore_n (lv' := [(1, .int 0), (0, .ref (a 0))]) hx hb dX1_findAddresses_1 rfl hl (by decide) rfl (fun ls hl => ?_)
  refine lv_iconst (v := 0) hx hb dX1_findAddresses_2 (by decide) ?_
  refine lv_istore_n (lv' := [(2, .int 0), (1, .int 0), (0, .ref (a 0))]) hx hb dX1_findAddresses_3 rfl hl (by decide) rfl (fun ls hl => ?_)
  refine lv_iconst (v := 0) hx hb dX1_findAddresses_4 (by decide) ?_
  refine lv_istore_n (lv' := [(3, .int 0), (2, .int 0), (1, .int 0), (0, .ref (a 0))]) hx hb dX1_findAddresses_5 rfl hl (by decide) rfl (fun ls hl => ?_)
  refine lv_iconst (v := 0) hx hb dX1_findAddresses_6 (by decide) ?_
  refine lv_istore (lv' := [(4, .int 0), (3, .int 0), (2, .int 0), (1, .int 0), (0, .ref (a 0))]) hx hb dX1_findAddresses_7 hl (by decide) rfl (fun ls hl => ?_)
  exact (db_X1_findAddresses_9 C K n) (0) (0) (0) (0) s0 _ _ _ h hP hD hS (lv_sub hl [4, 3, 2, 1, 0] rfl)
set_option maxHeartbeats 40000000 in
set_option maxRecDepth 100000 in
theorem dm_X1_findAddresses (l : Launch) (hlt : l.stackTraces = false) (dC : Nat → ClassId) (dI : Nat → Nat → Nat) (a : Nat → Nat) (ac : Nat → ClassId) (n : Nat) (s0 : St × (St)) {r : St × (St)} (h : df_X1_findAddresses n s0 = some r) (sz : Nat) : Met l yX1_findAddresses ow_dm_X1_findAddresses ({ frames := 1, cells := 0, slots := 0, locals := 23 }) (va_Pc [.ref (a 0)] (fun U => U.heap.size = sz ∧ va_P (dC, dI) vwCl (dw_X1 a ac s0) U.heap ∧ va_K (dC, dI) vwCl (dk_X1 ac) U ∧ va_D (fun _ => True) (dw_X1 a ac s0) ∧ nv_E (va_A (dw_X1 a ac s0) sz) U)) (va_Qv (fun _ => True) (fun (_ : Unit) t => va_P (dC, dI) vwCl (dw_X1 a ac r) t.heap ∧ va_K (dC, dI) vwCl (dk_X1 ac) t ∧ va_D (va_A (dw_X1 a ac s0) sz) (dw_X1 a ac r)) (va_A (dw_X1 a ac s0) sz)) 0 0 (va_A (dw_X1 a ac s0) sz) := by
  refine Met.ofW (cc := cX1_findAddresses) (maxL := 7) (ret := none) (by decide) rfl ?_
  intro p e s m args below meth c s₁ B hml hv
  obtain ⟨rfl, hsz, hP, hK, hD0, hN⟩ := hv
  have hx := B.exec
  have hb := B.bytes
  have hr := B.returns
  have hts := atoms_spec (ws := ow_dm_X1_findAddresses) B.pre
  have hown : s.vm.findClass RX1 = some m.cls := findClass_of_methodNamed B.named
  have hlocks := B.notSynchronized
  subst hsz
  have hD := hD0.self (sz := s.heap.size)
  generalize hAe : va_A (dw_X1 a ac s0) s.heap.size = A at hD hN ⊢
  have hA : ∀ q : Nat, s.heap.size ≤ q → A q := fun q h => by rw [← hAe]; exact Or.inr h
  have hl := lv_entry ([.ref (a 0)]) (n := 7) (Nat.le_of_ble_eq_true rfl)
  rw [lg_entry_eq]
  generalize (lg_sl ([.ref (a 0)]) ++ List.replicate (7 - (lg_sl ([.ref (a 0)])).length) Slot.unset).toArray = ls at hl ⊢
  have hl : lv_has ls 7 [(0, .ref (a 0))] := hl
  exact db_X1_findAddresses_0 (dC := dC) (dI := dI) (a := a) (ac := ac) (n := n) (r := r) ⟨hlt, hx, hb, hml, hown, hts, hN, hA, hK⟩ (fun pc τ H locs ls d er hP hD hS => by subst er; exact W.vret hx hb hr (fun t ht hW => ⟨⟨(), rfl, trivial, by rw [ht]; exact hP, va_K.moved hW.alike hK, hD⟩, hS.F ht⟩) hS.2.2 d) s0 _ _ _ h hP hD va_S.rf (lv_sub hl [0] rfl)
def ow_dm_X9_joined : List Cond := .code yX9_joined cX9_joined 4 (some .int) :: ([.fieldLink RX9 166 "TimeMachine$Reader" "trouble" "I"] ++ (u_ws RX9 TX9 20 ++ []))
theorem gd_dm_X9_joined : ∀ w ∈ ow_dm_X9_joined, (w.onTables && w.keeps) = true ∨ ∃ ty, w = Cond.arrayClass ty := List.forall_mem_cons.mpr ⟨good_of_word rfl, List.forall_mem_append.mpr ⟨fun w h => good_of_word (List.all_eq_true.mp (by decide +kernel) w h), List.forall_mem_append.mpr ⟨gu_X9, fun _ h => nomatch h⟩⟩⟩
theorem hi_dm_X9_joined_X9 : ∀ w ∈ u_ws RX9 TX9 20, w ∈ ow_dm_X9_joined := fun w h => List.mem_cons_of_mem _ (List.mem_append_right _ (List.mem_append_left _ h))
def dj_X9_joined_102 (p : Program) (l : Launch) (e : Env) (s : State) (m : MethodId) (args : Array Value) (below : List Frame) (meth : Method) (c : Code) (Q : State → Prop) (A : Nat → Prop) (dC : Nat → ClassId) (dI : Nat → Nat → Nat) (a : Nat → Nat) (ac : Nat → ClassId) (g : Int32 → (St) → Option (Int32 × (St))) (r : Int32 × (St)) : Prop := ∀ (y0 : Int32) (s0 : St) (H : Heap) (locs : List Loc) (ls : Array Slot), g y0 s0 = some r → va_P (dC, dI) vwCl (dw_X9 a ac s0) H → va_D A (dw_X9 a ac s0) → va_S A s.heap H locs → lv_has ls 4 [] → W p l e (headSpec ow_dm_X9_joined ({ frames := 0, cells := 0, slots := 0, locals := 0 })).room s m args below meth c H locs 0 0 Q (F0 m 102 ls [.int y0])
def dj_X9_joined_80 (p : Program) (l : Launch) (e : Env) (s : State) (m : MethodId) (args : Array Value) (below : List Frame) (meth : Method) (c : Code) (Q : State → Prop) (A : Nat → Prop) (dC : Nat → ClassId) (dI : Nat → Nat → Nat) (a : Nat → Nat) (ac : Nat → ClassId) (g : Int32 → Int32 → Int32 → (St) → Option (Int32 × (St))) (r : Int32 × (St)) : Prop := ∀ (x1 : Int32) (x2 : Int32) (x3 : Int32) (s0 : St) (H : Heap) (locs : List Loc) (ls : Array Slot), g x1 x2 x3 s0 = some r → va_P (dC, dI) vwCl (dw_X9 a ac s0) H → va_D A (dw_X9 a ac s0) → va_S A s.heap H locs → lv_has ls 4 [(1, .int x1), (2, .int x2), (3, .int x3)] → W p l e (headSpec ow_dm_X9_joined ({ frames := 0, cells := 0, slots := 0, locals := 0 })).room s m args below meth c H locs 0 0 Q (F0 m 80 ls [])
def dj_X9_joined_77 (p : Program) (l : Launch) (e : Env) (s : State) (m : MethodId) (args : Array Value) (below : List Frame) (meth : Method) (c : Code) (Q : State → Prop) (A : Nat → Prop) (dC : Nat → ClassId) (dI : Nat → Nat → Nat) (a : Nat → Nat) (ac : Nat → ClassId) (g : Int32 → Int32 → Int32 → Int32 → (St) → Option (Int32 × (St))) (r : Int32 × (St)) : Prop := ∀ (x1 : Int32) (x2 : Int32) (x3 : Int32) (y1 : Int32) (s0 : St) (H : Heap) (locs : List Loc) (ls : Array Slot), g x1 x2 x3 y1 s0 = some r → va_P (dC, dI) vwCl (dw_X9 a ac s0) H → va_D A (dw_X9 a ac s0) → va_S A s.heap H locs → lv_has ls 4 [(1, .int x1), (2, .int x2), (3, .int x3)] → W p l e (headSpec ow_dm_X9_joined ({ frames := 0, cells := 0, slots := 0, locals := 0 })).room s m args below meth c H locs 0 0 Q (F0 m 77 ls [.int y1, .ref (a 0)])
def dj_X9_joined_56 (p : Program) (l : Launch) (e : Env) (s : State) (m : MethodId) (args : Array Value) (below : List Frame) (meth : Method) (c : Code) (Q : State → Prop) (A : Nat → Prop) (dC : Nat → ClassId) (dI : Nat → Nat → Nat) (a : Nat → Nat) (ac : Nat → ClassId) (g : Int32 → Int32 → Int32 → (St) → Option (Int32 × (St))) (r : Int32 × (St)) : Prop := ∀ (x1 : Int32) (x2 : Int32) (x3 : Int32) (s0 : St) (H : Heap) (locs : List Loc) (ls : Array Slot), g x1 x2 x3 s0 = some r → va_P (dC, dI) vwCl (dw_X9 a ac s0) H → va_D A (dw_X9 a ac s0) → va_S A s.heap H locs → lv_has ls 4 [(0, .ref (a 0)), (1, .int x1), (2, .int x2), (3, .int x3)] → W p l e (headSpec ow_dm_X9_joined ({ frames := 0, cells := 0, slots := 0, locals := 0 })).room s m args below meth c H locs 0 0 Q (F0 m 56 ls [])
def dj_X9_joined_0 (p : Program) (l : Launch) (e : Env) (s : State) (m : MethodId) (args : Array Value) (below : List Frame) (meth : Method) (c : Code) (Q : State → Prop) (A : Nat → Prop) (dC : Nat → ClassId) (dI : Nat → Nat → Nat) (a : Nat → Nat) (ac : Nat → ClassId) (g : Int32 → Int32 → Int32 → (St) → Option (Int32 × (St))) (r : Int32 × (St)) : Prop := ∀ (v0 : Int32) (v1 : Int32) (v2 : Int32) (s0 : St) (H : Heap) (locs : List Loc) (ls : Array Slot), g v0 v1 v2 s0 = some r → va_P (dC, dI) vwCl (dw_X9 a ac s0) H → va_D A (dw_X9 a ac s0) → va_S A s.heap H locs → lv_has ls 4 [(0, .ref (a 0)), (1, .int v0), (2, .int v1), (3, .int v2)] → W p l e (headSpec ow_dm_X9_joined ({ frames := 0, cells := 0, slots := 0, locals := 0 })).room s m args below meth c H locs 0 0 Q (F0 m 0 ls [])
set_option maxHeartbeats 40000000 in
set_option maxRecDepth 100000 in
theorem db_X9_joined_102 {p : Program} {l : Launch} {e : Env} {s : State} {m : MethodId} {args : Array Value} {below : List Frame} {meth : Method} {c : Code} {Q : State → Prop} {A : Nat → Prop} {dC : Nat → ClassId} {dI : Nat → Nat → Nat} {a : Nat → Nat} {ac : Nat → ClassId} {n : Nat} {r : Int32 × (St)} (C : nd_C p l s m args c A (dC, dI) cX9_joined 4 RX9 ow_dm_X9_joined (dk_X9 ac)) (K : nd_Ki p l e (headSpec ow_dm_X9_joined ({ frames := 0, cells := 0, slots := 0, locals := 0 })).room s m args below meth c Q A (dC, dI) cX9_joined .int (St) (dw_X9 a ac) r) : dj_X9_joined_102 p l e s m args below meth c Q A dC dI a ac (df_X9_joined_102 n) r := by
  obtain ⟨hlt, hx, hb, hml, hown, hts, hN, hA, hK⟩ := id C
  intro y0 s0 H locs ls h hP hD hS hl
  unfold df_X9_joined_102 at h
  exact K _ _ _ _ _ _ dX9_joined_102 rfl (Option.some.inj h).symm hP hD hS
set_option maxHeartbeats 40000000 in
set_option maxRecDepth 100000 in
theorem db_X9_joined_80 {p : Program} {l : Launch} {e : Env} {s : State} {m : MethodId} {args : Array Value} {below : List Frame} {meth : Method} {c : Code} {Q : State → Prop} {A : Nat → Prop} {dC : Nat → ClassId} {dI : Nat → Nat → Nat} {a : Nat → Nat} {ac : Nat → ClassId} {n : Nat} {r : Int32 × (St)} (C : nd_C p l s m args c A (dC, dI) cX9_joined 4 RX9 ow_dm_X9_joined (dk_X9 ac)) (K : nd_Ki p l e (headSpec ow_dm_X9_joined ({ frames := 0, cells := 0, slots := 0, locals := 0 })).room s m args below meth c Q A (dC, dI) cX9_joined .int (St) (dw_X9 a ac) r) : dj_X9_joined_80 p l e s m args below meth c Q A dC dI a ac (df_X9_joined_80 n) r := by
  obtain ⟨hlt, hx, hb, hml, hown, hts, hN, hA, hK⟩ := id C
  intro x1 x2 x3 s0 H locs ls h hP hD hS hl
  unfold df_X9_joined_80 at h
  refine lv_iload_n hx hb dX9_joined_80 rfl (lv_at hl 2 rfl) ?_
  refine lv_if_ne (tgt := 88) hx hb dX9_joined_81 (by decide) (fun c4 => ?_) (fun c4 => ?_)
  · have h := nd_neg h c4
    refine lv_iload_n hx hb dX9_joined_88 rfl (lv_at hl 0 rfl) ?_
    refine lv_iconst (v := 2) hx hb dX9_joined_89 (by decide) ?_
    refine lv_icmp_ne (tgt := 99) hx hb dX9_joined_90 (by decide) (fun c5 => ?_) (fun c5 => ?_)
    · have h := nd_neg h c5
      refine lv_iload_n hx hb dX9_joined_99 rfl (lv_at hl 1 rfl) ?_
      refine lv_iload_n hx hb dX9_joined_100 rfl (lv_at hl 2 rfl) ?_
      obtain ⟨i6, h⟩ := nd_nz_e h
      refine lv_irem hx hb dX9_joined_101 i6 ?_
      exact (db_X9_joined_102 C K) (((x2 : Int32) - x2 / x3 * x3)) s0 _ _ _ h hP hD hS (lv_sub hl [] rfl)
    · have h := nd_pos h c5
      refine lv_iload_n hx hb dX9_joined_93 rfl (lv_at hl 1 rfl) ?_
      refine lv_iload_n hx hb dX9_joined_94 rfl (lv_at hl 2 rfl) ?_
      obtain ⟨i7, h⟩ := nd_nz_e h
      refine lv_idiv hx hb dX9_joined_95 i7 ?_
      refine lv_goto (tgt := 102) hx hb dX9_joined_96 (by decide) ?_
      exact (db_X9_joined_102 C K) (((x2 : Int32) / x3)) s0 _ _ _ h hP hD hS (lv_sub hl [] rfl)
  · have h := nd_pos h c4
    refine lv_iconst (v := 0) hx hb dX9_joined_84 (by decide) ?_
    refine lv_goto (tgt := 102) hx hb dX9_joined_85 (by decide) ?_
    exact (db_X9_joined_102 C K) (0) s0 _ _ _ h hP hD hS (lv_sub hl [] rfl)
set_option maxHeartbeats 40000000 in
set_option maxRecDepth 100000 in
theorem db_X9_joined_77 {p : Program} {l : Launch} {e : Env} {s : State} {m : MethodId} {args : Array Value} {below : List Frame} {meth : Method} {c : Code} {Q : State → Prop} {A : Nat → Prop} {dC : Nat → ClassId} {dI : Nat → Nat → Nat} {a : Nat → Nat} {ac : Nat → ClassId} {n : Nat} {r : Int32 × (St)} (C : nd_C p l s m args c A (dC, dI) cX9_joined 4 RX9 ow_dm_X9_joined (dk_X9 ac)) (K : nd_Ki p l e (headSpec ow_dm_X9_joined ({ frames := 0, cells := 0, slots := 0, locals := 0 })).room s m args below meth c Q A (dC, dI) cX9_joined .int (St) (dw_X9 a ac) r) : dj_X9_joined_77 p l e s m args below meth c Q A dC dI a ac (df_X9_joined_77 n) r := by
  obtain ⟨hlt, hx, hb, hml, hown, hts, hN, hA, hK⟩ := id C
  intro x1 x2 x3 y1 s0 H locs ls h hP hD hS hl
  unfold df_X9_joined_77 at h
  refine va_put (D := (dC, dI)) (ci := 10) (v := .int y1) (ty := .int) (C := RX9) (T := TX9) (N := 20) hx hb hts hi_dm_X9_joined_X9 tyX9 tyX9_ok nmX9 hown hK hP hD hS 0 rfl rfl 19 (by decide) (hts (.fieldLink RX9 166 "TimeMachine$Reader" "trouble" "I") (List.mem_of_getElem? (i := 1) rfl)) (fun _ h9 => h9) rfl (by decide +kernel) rfl rfl (Nat.le_of_ble_eq_true rfl) dX9_joined_77 (fun H locs hP hD hS => ?_)
  obtain ⟨s9, es9, h⟩ := nd_let_e h
  have hP : va_P (dC, dI) vwCl (dw_X9 a ac s9) H := by rw [es9]; exact hP
  have hD : va_D A (dw_X9 a ac s9) := by rw [es9]; exact hD
  exact (db_X9_joined_80 C K) (x1) (x2) (x3) s9 _ _ _ h hP hD hS (lv_sub hl [0, 1, 2] rfl)
set_option maxHeartbeats 40000000 in
set_option maxRecDepth 100000 in
theorem db_X9_joined_56 {p : Program} {l : Launch} {e : Env} {s : State} {m : MethodId} {args : Array Value} {below : List Frame} {meth : Method} {c : Code} {Q : State → Prop} {A : Nat → Prop} {dC : Nat → ClassId} {dI : Nat → Nat → Nat} {a : Nat → Nat} {ac : Nat → ClassId} {n : Nat} {r : Int32 × (St)} (C : nd_C p l s m args c A (dC, dI) cX9_joined 4 RX9 ow_dm_X9_joined (dk_X9 ac)) (K : nd_Ki p l e (headSpec ow_dm_X9_joined ({ frames := 0, cells := 0, slots := 0, locals := 0 })).room s m args below meth c Q A (dC, dI) cX9_joined .int (St) (dw_X9 a ac) r) : dj_X9_joined_56 p l e s m args below meth c Q A dC dI a ac (df_X9_joined_56 n) r := by
  obtain ⟨hlt, hx, hb, hml, hown, hts, hN, hA, hK⟩ := id C
  intro x1 x2 x3 s0 H locs ls h hP hD hS hl
  unfold df_X9_joined_56 at h
  refine lv_iload_n hx hb dX9_joined_56 rfl (lv_at hl 3 rfl) ?_
  refine lv_if_ne (tgt := 80) hx hb dX9_joined_57 (by decide) (fun c3 => ?_) (fun c3 => ?_)
  · have h := nd_neg h c3
    exact (db_X9_joined_80 C K) (x1) (x2) (x3) s0 _ _ _ h hP hD hS (lv_sub hl [1, 2, 3] rfl)
  · have h := nd_pos h c3
    refine lv_aload_n hx hb dX9_joined_60 rfl (lv_at hl 0 rfl) ?_
    refine lv_aload_n hx hb dX9_joined_61 rfl (lv_at hl 0 rfl) ?_
    refine va_get (D := (dC, dI)) (ci := 10) (v := .int (sI s0 11)) (C := RX9) (T := TX9) (N := 20) hx hb hts hi_dm_X9_joined_X9 hown hK hP 0 rfl rfl 19 (by decide) (hts (.fieldLink RX9 166 "TimeMachine$Reader" "trouble" "I") (List.mem_of_getElem? (i := 1) rfl)) (fun _ h9 => h9) rfl dX9_joined_62 ?_
    refine lv_if_ne (tgt := 73) hx hb dX9_joined_65 (by decide) (fun c8 => ?_) (fun c8 => ?_)
    · have h := nd_neg h c8
      refine lv_aload_n hx hb dX9_joined_73 rfl (lv_at hl 0 rfl) ?_
      refine va_get (D := (dC, dI)) (ci := 10) (v := .int (sI s0 11)) (C := RX9) (T := TX9) (N := 20) hx hb hts hi_dm_X9_joined_X9 hown hK hP 0 rfl rfl 19 (by decide) (hts (.fieldLink RX9 166 "TimeMachine$Reader" "trouble" "I") (List.mem_of_getElem? (i := 1) rfl)) (fun _ h9 => h9) rfl dX9_joined_74 ?_
      exact (db_X9_joined_77 C K) (x1) (x2) (x3) ((sI s0 11)) s0 _ _ _ h hP hD hS (lv_sub hl [1, 2, 3] rfl)
    · have h := nd_pos h c8
      refine lv_bipush (v := 9) hx hb dX9_joined_68 (by decide) ?_
      refine lv_goto (tgt := 77) hx hb dX9_joined_70 (by decide) ?_
      exact (db_X9_joined_77 C K) (x1) (x2) (x3) (9) s0 _ _ _ h hP hD hS (lv_sub hl [1, 2, 3] rfl)
